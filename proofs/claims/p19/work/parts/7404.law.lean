section
def P_L_law_2303 (scL : Nat) (scx : Nat → Int32) (Q : Int32 → HS → Prop) (X23 : Nat → Nat → Nat → Int32 → Nat → Nat → HS → Prop) (v1 : Nat) (v2 : Nat) (v3 : Nat) (v4 : Int32) (kk : Nat) (nn : Nat) (S : HS) : Prop := ∀ x1 : Int32, x1 = v4 + (1 : Int32) → (vp_in x1 scL ∧ ∀ x3 : Int32, x3 = scx x1.toNatClampNeg → (ob S v1 9 ∧ (kk ≤ rm_L_law.cells ∧ nn ≤ rm_L_law.slots ∧ (P_X9_size v1 x3 (fun x6 S4 => Gr S S4 → (∀ x7 : Int32, x7 = v4 + (1 : Int32) → (vp_in x7 scL ∧ ∀ x9 : Int32, x9 = scx x7.toNatClampNeg → (ob S4 v2 11 ∧ (kk ≤ rm_L_law.cells ∧ nn ≤ rm_L_law.slots ∧ (P_X11_size v2 x9 (fun x12 S10 => Gr S4 S10 → (P_L_law_2341 scL scx Q X23 v1 v2 v3 v4 kk nn S10)) S4)))))) S))))
set_option maxRecDepth 20000 in
set_option maxHeartbeats 4000000 in
theorem T_L_law_2303 {X : CX} {Q : Int32 → HS → Prop} {scb scL : Nat} {scx : Nat → Int32} (C : Cx X cL_law RL 7 rm_L_law) (E : LE X scb scL scx Q) (ht : LD X) (hn : True) {X23 : Nat → Nat → Nat → Int32 → Nat → Nat → HS → Prop} (hX23 : ∀ (v1 : Nat) (v2 : Nat) (v3 : Nat) (v4 : Int32) (kk : Nat) (nn : Nat) (S : HS), X23 v1 v2 v3 v4 kk nn S → WS X 7 kk nn 23 [(0, .ref scb), (1, .ref v1), (2, .ref v2), (3, .ref v3), (4, .int v4)] [] S) {v1 : Nat} {v2 : Nat} {v3 : Nat} {v4 : Int32} {kk : Nat} {nn : Nat} {S : HS} (h : P_L_law_2303 scL scx Q X23 v1 v2 v3 v4 kk nn S) : WS X 7 kk nn 2303 [(0, .ref scb), (1, .ref v1), (2, .ref v2), (3, .ref v3), (4, .int v4)] [] S := by
  refine r_aload_n (pc := 2303) C dL_law_2303 1 rfl ?_
  refine r_aload_n (pc := 2304) C dL_law_2304 0 rfl ?_
  refine r_iload (pc := 2305) C dL_law_2305 4 rfl ?_
  refine r_iconst (pc := 2307) C (v := (1 : Int32)) dL_law_2307 (by decide) ?_
  refine r_iadd (pc := 2308) C dL_law_2308 ?_
  refine r_topi (fun x1 ex1 => ?_)
  have h := h x1 ex1
  obtain ⟨i2, h⟩ := h
  refine r_scLd (pc := 2309) C E i2 dL_law_2309 ?_
  refine r_topi (fun x3 ex3 => ?_)
  have h := h x3 ex3
  obtain ⟨o_v1, h⟩ := h
  obtain ⟨hk, hk2, h⟩ := h
  refine r_callVi0 (pc := 2310) C (rest := []) (a := v1) o_v1 [.int x3] yV_X9_size g_1076 (c_X9_size h) dL_law_2310 rfl rfl (Nat.le_of_ble_eq_true rfl) ⟨by decide, by decide⟩ ⟨hk, hk2⟩ ⟨rfl, rfl⟩ (fun x6 S4 h g5 => ?_)
  have h := h g5
  have o_v1 := gr_ob g5 o_v1
  refine r_pop (pc := 2313) C dL_law_2313 rfl ?_
  refine r_aload_n (pc := 2314) C dL_law_2314 2 rfl ?_
  refine r_aload_n (pc := 2315) C dL_law_2315 0 rfl ?_
  refine r_iload (pc := 2316) C dL_law_2316 4 rfl ?_
  refine r_iconst (pc := 2318) C (v := (1 : Int32)) dL_law_2318 (by decide) ?_
  refine r_iadd (pc := 2319) C dL_law_2319 ?_
  refine r_topi (fun x7 ex7 => ?_)
  have h := h x7 ex7
  obtain ⟨i8, h⟩ := h
  refine r_scLd (pc := 2320) C E i8 dL_law_2320 ?_
  refine r_topi (fun x9 ex9 => ?_)
  have h := h x9 ex9
  obtain ⟨o_v2, h⟩ := h
  obtain ⟨hk, hk2, h⟩ := h
  refine r_callVi0 (pc := 2321) C (rest := []) (a := v2) o_v2 [.int x9] yV_X11_size g_1848 (c_X11_size h) dL_law_2321 rfl rfl (Nat.le_of_ble_eq_true rfl) ⟨by decide, by decide⟩ ⟨hk, hk2⟩ ⟨rfl, rfl⟩ (fun x12 S10 h g11 => ?_)
  have h := h g11
  have o_v1 := gr_ob g11 o_v1
  have o_v2 := gr_ob g11 o_v2
  refine r_pop (pc := 2324) C dL_law_2324 rfl ?_
  refine r_goto (pc := 2325) C (tgt := 2341) dL_law_2325 (by decide) ?_
  exact r_sub [0, 1, 2, 3, 4] rfl (T_L_law_2341 C E ht hn hX23 h)
def P_L_law_2328 (scL : Nat) (scx : Nat → Int32) (Q : Int32 → HS → Prop) (X23 : Nat → Nat → Nat → Int32 → Nat → Nat → HS → Prop) (v1 : Nat) (v2 : Nat) (v3 : Nat) (v4 : Int32) (kk : Nat) (nn : Nat) (S : HS) : Prop := ob S v1 9 ∧ (kk ≤ rm_L_law.cells ∧ nn ≤ rm_L_law.slots ∧ (P_X9_trouble v1 (fun x3 S1 => Gr S S1 → (ob S1 v2 11 ∧ (kk ≤ rm_L_law.cells ∧ nn ≤ rm_L_law.slots ∧ (P_X11_trouble v2 (fun x6 S4 => Gr S1 S4 → (P_L_law_2341 scL scx Q X23 v1 v2 v3 v4 kk nn S4)) S1)))) S))
set_option maxRecDepth 20000 in
set_option maxHeartbeats 4000000 in
theorem T_L_law_2328 {X : CX} {Q : Int32 → HS → Prop} {scb scL : Nat} {scx : Nat → Int32} (C : Cx X cL_law RL 7 rm_L_law) (E : LE X scb scL scx Q) (ht : LD X) (hn : True) {X23 : Nat → Nat → Nat → Int32 → Nat → Nat → HS → Prop} (hX23 : ∀ (v1 : Nat) (v2 : Nat) (v3 : Nat) (v4 : Int32) (kk : Nat) (nn : Nat) (S : HS), X23 v1 v2 v3 v4 kk nn S → WS X 7 kk nn 23 [(0, .ref scb), (1, .ref v1), (2, .ref v2), (3, .ref v3), (4, .int v4)] [] S) {v1 : Nat} {v2 : Nat} {v3 : Nat} {v4 : Int32} {kk : Nat} {nn : Nat} {S : HS} (h : P_L_law_2328 scL scx Q X23 v1 v2 v3 v4 kk nn S) : WS X 7 kk nn 2328 [(0, .ref scb), (1, .ref v1), (2, .ref v2), (3, .ref v3), (4, .int v4)] [] S := by
  refine r_aload_n (pc := 2328) C dL_law_2328 1 rfl ?_
  obtain ⟨o_v1, h⟩ := h
  obtain ⟨hk, hk2, h⟩ := h
  refine r_callVi0 (pc := 2329) C (rest := []) (a := v1) o_v1 [] yV_X9_trouble g_1080 (c_X9_trouble h) dL_law_2329 rfl rfl (Nat.le_of_ble_eq_true rfl) ⟨by decide, by decide⟩ ⟨hk, hk2⟩ ⟨rfl, rfl⟩ (fun x3 S1 h g2 => ?_)
  have h := h g2
  have o_v1 := gr_ob g2 o_v1
  refine r_pop (pc := 2332) C dL_law_2332 rfl ?_
  refine r_aload_n (pc := 2333) C dL_law_2333 2 rfl ?_
  obtain ⟨o_v2, h⟩ := h
  obtain ⟨hk, hk2, h⟩ := h
  refine r_callVi0 (pc := 2334) C (rest := []) (a := v2) o_v2 [] yV_X11_trouble g_1852 (c_X11_trouble h) dL_law_2334 rfl rfl (Nat.le_of_ble_eq_true rfl) ⟨by decide, by decide⟩ ⟨hk, hk2⟩ ⟨rfl, rfl⟩ (fun x6 S4 h g5 => ?_)
  have h := h g5
  have o_v1 := gr_ob g5 o_v1
  have o_v2 := gr_ob g5 o_v2
  refine r_pop (pc := 2337) C dL_law_2337 rfl ?_
  refine r_goto (pc := 2338) C (tgt := 2341) dL_law_2338 (by decide) ?_
  exact r_sub [0, 1, 2, 3, 4] rfl (T_L_law_2341 C E ht hn hX23 h)
def B_L_law_23 (scL : Nat) (scx : Nat → Int32) (Q : Int32 → HS → Prop) (X23 : Nat → Nat → Nat → Int32 → Nat → Nat → HS → Prop) (v1 : Nat) (v2 : Nat) (v3 : Nat) (v4 : Int32) (kk : Nat) (nn : Nat) (S : HS) : Prop := ((((nI scL) - (8 : Int32)) < v4) → (kk ≤ rm_L_law.cells ∧ nn ≤ rm_L_law.slots ∧ (1 : Int32) = 1 ∧ Q (1 : Int32) S)) ∧ ((¬ ((nI scL) - (8 : Int32)) < v4) → (vp_in v4 scL ∧ ∀ x3 : Int32, x3 = scx v4.toNatClampNeg → (((x3 &&& (63 : Int32)).toInt < 0 ∨ 39 < (x3 &&& (63 : Int32)).toInt → (P_L_law_2341 scL scx Q X23 v1 v2 v3 v4 kk nn S)) ∧ ((x3 &&& (63 : Int32)).toInt = 0 → (P_L_law_216 scL scx Q X23 v1 v2 v3 v4 kk nn S)) ∧ ((x3 &&& (63 : Int32)).toInt = 1 → (P_L_law_289 scL scx Q X23 v1 v2 v3 v4 kk nn S)) ∧ ((x3 &&& (63 : Int32)).toInt = 2 → (P_L_law_314 scL scx Q X23 v1 v2 v3 v4 kk nn S)) ∧ ((x3 &&& (63 : Int32)).toInt = 3 → (P_L_law_327 scL scx Q X23 v1 v2 v3 v4 kk nn S)) ∧ ((x3 &&& (63 : Int32)).toInt = 4 → (P_L_law_340 scL scx Q X23 v1 v2 v3 v4 kk nn S)) ∧ ((x3 &&& (63 : Int32)).toInt = 5 → (P_L_law_457 scL scx Q X23 v1 v2 v3 v4 kk nn S)) ∧ ((x3 &&& (63 : Int32)).toInt = 6 → (P_L_law_560 scL scx Q X23 v1 v2 v3 v4 kk nn S)) ∧ ((x3 &&& (63 : Int32)).toInt = 7 → (P_L_law_663 scL scx Q X23 v1 v2 v3 v4 kk nn S)) ∧ ((x3 &&& (63 : Int32)).toInt = 8 → (P_L_law_712 scL scx Q X23 v1 v2 v3 v4 kk nn S)) ∧ ((x3 &&& (63 : Int32)).toInt = 9 → (P_L_law_761 scL scx Q X23 v1 v2 v3 v4 kk nn S)) ∧ ((x3 &&& (63 : Int32)).toInt = 10 → (P_L_law_834 scL scx Q X23 v1 v2 v3 v4 kk nn S)) ∧ ((x3 &&& (63 : Int32)).toInt = 11 → (P_L_law_895 scL scx Q X23 v1 v2 v3 v4 kk nn S)) ∧ ((x3 &&& (63 : Int32)).toInt = 12 → (P_L_law_984 scL scx Q X23 v1 v2 v3 v4 kk nn S)) ∧ ((x3 &&& (63 : Int32)).toInt = 13 → (P_L_law_1045 scL scx Q X23 v1 v2 v3 v4 kk nn S)) ∧ ((x3 &&& (63 : Int32)).toInt = 14 → (P_L_law_1106 scL scx Q X23 v1 v2 v3 v4 kk nn S)) ∧ ((x3 &&& (63 : Int32)).toInt = 15 → (P_L_law_1183 scL scx Q X23 v1 v2 v3 v4 kk nn S)) ∧ ((x3 &&& (63 : Int32)).toInt = 16 → (P_L_law_1232 scL scx Q X23 v1 v2 v3 v4 kk nn S)) ∧ ((x3 &&& (63 : Int32)).toInt = 17 → (P_L_law_1349 scL scx Q X23 v1 v2 v3 v4 kk nn S)) ∧ ((x3 &&& (63 : Int32)).toInt = 18 → (P_L_law_1436 scL scx Q X23 v1 v2 v3 v4 kk nn S)) ∧ ((x3 &&& (63 : Int32)).toInt = 19 → (P_L_law_1539 scL scx Q X23 v1 v2 v3 v4 kk nn S)) ∧ ((x3 &&& (63 : Int32)).toInt = 20 → (P_L_law_1612 scL scx Q X23 v1 v2 v3 v4 kk nn S)) ∧ ((x3 &&& (63 : Int32)).toInt = 21 → (P_L_law_1685 scL scx Q X23 v1 v2 v3 v4 kk nn S)) ∧ ((x3 &&& (63 : Int32)).toInt = 22 → (P_L_law_1772 scL scx Q X23 v1 v2 v3 v4 kk nn S)) ∧ ((x3 &&& (63 : Int32)).toInt = 23 → (P_L_law_1833 scL scx Q X23 v1 v2 v3 v4 kk nn S)) ∧ ((x3 &&& (63 : Int32)).toInt = 24 → (P_L_law_1858 scL scx Q X23 v1 v2 v3 v4 kk nn S)) ∧ ((x3 &&& (63 : Int32)).toInt = 25 → (P_L_law_1895 scL scx Q X23 v1 v2 v3 v4 kk nn S)) ∧ ((x3 &&& (63 : Int32)).toInt = 26 → (P_L_law_1908 scL scx Q X23 v1 v2 v3 v4 kk nn S)) ∧ ((x3 &&& (63 : Int32)).toInt = 27 → (P_L_law_1969 scL scx Q X23 v1 v2 v3 v4 kk nn S)) ∧ ((x3 &&& (63 : Int32)).toInt = 28 → (P_L_law_2018 scL scx Q X23 v1 v2 v3 v4 kk nn S)) ∧ ((x3 &&& (63 : Int32)).toInt = 29 → (P_L_law_2043 scL scx Q X23 v1 v2 v3 v4 kk nn S)) ∧ ((x3 &&& (63 : Int32)).toInt = 30 → (P_L_law_2096 scL scx Q X23 v1 v2 v3 v4 kk nn S)) ∧ ((x3 &&& (63 : Int32)).toInt = 31 → (P_L_law_2137 scL scx Q X23 v1 v2 v3 v4 kk nn S)) ∧ ((x3 &&& (63 : Int32)).toInt = 32 → (P_L_law_2150 scL scx Q X23 v1 v2 v3 v4 kk nn S)) ∧ ((x3 &&& (63 : Int32)).toInt = 33 → (P_L_law_2163 scL scx Q X23 v1 v2 v3 v4 kk nn S)) ∧ ((x3 &&& (63 : Int32)).toInt = 34 → (P_L_law_2176 scL scx Q X23 v1 v2 v3 v4 kk nn S)) ∧ ((x3 &&& (63 : Int32)).toInt = 35 → (P_L_law_2201 scL scx Q X23 v1 v2 v3 v4 kk nn S)) ∧ ((x3 &&& (63 : Int32)).toInt = 36 → (P_L_law_2238 scL scx Q X23 v1 v2 v3 v4 kk nn S)) ∧ ((x3 &&& (63 : Int32)).toInt = 37 → (P_L_law_2275 scL scx Q X23 v1 v2 v3 v4 kk nn S)) ∧ ((x3 &&& (63 : Int32)).toInt = 38 → (P_L_law_2303 scL scx Q X23 v1 v2 v3 v4 kk nn S)) ∧ ((x3 &&& (63 : Int32)).toInt = 39 → (P_L_law_2328 scL scx Q X23 v1 v2 v3 v4 kk nn S)))))
def P_L_law_23 (scL : Nat) (scx : Nat → Int32) (Q : Int32 → HS → Prop) (v1 : Nat) (v2 : Nat) (v3 : Nat) (v4 : Int32) (kk : Nat) (nn : Nat) (S : HS) : Prop := ∀ X23 : Nat → Nat → Nat → Int32 → Nat → Nat → HS → Prop, (∀ (v1 : Nat) (v2 : Nat) (v3 : Nat) (v4 : Int32) (kk : Nat) (nn : Nat) (S : HS), B_L_law_23 scL scx Q X23 v1 v2 v3 v4 kk nn S → X23 v1 v2 v3 v4 kk nn S) → X23 v1 v2 v3 v4 kk nn S
set_option maxRecDepth 20000 in
set_option maxHeartbeats 4000000 in
theorem TB_L_law_23 {X : CX} {Q : Int32 → HS → Prop} {scb scL : Nat} {scx : Nat → Int32} (C : Cx X cL_law RL 7 rm_L_law) (E : LE X scb scL scx Q) (ht : LD X) (hn : True) {X23 : Nat → Nat → Nat → Int32 → Nat → Nat → HS → Prop} (hX23 : ∀ (v1 : Nat) (v2 : Nat) (v3 : Nat) (v4 : Int32) (kk : Nat) (nn : Nat) (S : HS), X23 v1 v2 v3 v4 kk nn S → WS X 7 kk nn 23 [(0, .ref scb), (1, .ref v1), (2, .ref v2), (3, .ref v3), (4, .int v4)] [] S) {v1 : Nat} {v2 : Nat} {v3 : Nat} {v4 : Int32} {kk : Nat} {nn : Nat} {S : HS} (h : B_L_law_23 scL scx Q X23 v1 v2 v3 v4 kk nn S) : WS X 7 kk nn 23 [(0, .ref scb), (1, .ref v1), (2, .ref v2), (3, .ref v3), (4, .int v4)] [] S := by
  refine r_iload (pc := 23) C dL_law_23 4 rfl ?_
  refine r_aload_n (pc := 25) C dL_law_25 0 rfl ?_
  refine r_scLen (pc := 26) C E dL_law_26 ?_
  refine r_bipush (pc := 27) C (v := (8 : Int32)) dL_law_27 (by decide) ?_
  refine r_isub (pc := 29) C dL_law_29 ?_
  refine r_icmp_gt (pc := 30) C (tgt := 2347) dL_law_30 (by decide) (fun c1 => ?_) (fun c1 => ?_)
  · have h := h.1 c1
    refine r_iconst (pc := 2347) C (v := (1 : Int32)) dL_law_2347 (by decide) ?_
    obtain ⟨hk, hk2, he, h⟩ := h
    exact r_lawret (pc := 2348) C E dL_law_2348 hk hk2 he
  · have h := h.2 c1
    refine r_aload_n (pc := 33) C dL_law_33 0 rfl ?_
    refine r_iload (pc := 34) C dL_law_34 4 rfl ?_
    obtain ⟨i2, h⟩ := h
    refine r_scLd (pc := 36) C E i2 dL_law_36 ?_
    refine r_topi (fun x3 ex3 => ?_)
    have h := h x3 ex3
    refine r_bipush (pc := 37) C (v := (63 : Int32)) dL_law_37 (by decide) ?_
    refine r_iand (pc := 39) C dL_law_39 ?_
    refine r_table (pc := 40) C (tgt := 2341) dL_law_40 (by decide) (fun c4 => ?_) (fun j hj hx => ?_)
    · have h := h.1 c4
      exact r_sub [0, 1, 2, 3, 4] rfl (T_L_law_2341 C E ht hn hX23 h)
    · match j, hj, hx with
      | 0, _, hx =>
        refine ⟨176, 216, rfl, by decide, ?_⟩
        have h := h.2.1 (by simpa using hx)
        exact r_sub [0, 1, 2, 3, 4] rfl (T_L_law_216 C E ht hn hX23 h)
      | 1, _, hx =>
        refine ⟨249, 289, rfl, by decide, ?_⟩
        have h := h.2.2.1 (by simpa using hx)
        exact r_sub [0, 1, 2, 3, 4] rfl (T_L_law_289 C E ht hn hX23 h)
      | 2, _, hx =>
        refine ⟨274, 314, rfl, by decide, ?_⟩
        have h := h.2.2.2.1 (by simpa using hx)
        exact r_sub [0, 1, 2, 3, 4] rfl (T_L_law_314 C E ht hn hX23 h)
      | 3, _, hx =>
        refine ⟨287, 327, rfl, by decide, ?_⟩
        have h := h.2.2.2.2.1 (by simpa using hx)
        exact r_sub [0, 1, 2, 3, 4] rfl (T_L_law_327 C E ht hn hX23 h)
      | 4, _, hx =>
        refine ⟨300, 340, rfl, by decide, ?_⟩
        have h := h.2.2.2.2.2.1 (by simpa using hx)
        exact r_sub [0, 1, 2, 3, 4] rfl (T_L_law_340 C E ht hn hX23 h)
      | 5, _, hx =>
        refine ⟨417, 457, rfl, by decide, ?_⟩
        have h := h.2.2.2.2.2.2.1 (by simpa using hx)
        exact r_sub [0, 1, 2, 3, 4] rfl (T_L_law_457 C E ht hn hX23 h)
      | 6, _, hx =>
        refine ⟨520, 560, rfl, by decide, ?_⟩
        have h := h.2.2.2.2.2.2.2.1 (by simpa using hx)
        exact r_sub [0, 1, 2, 3, 4] rfl (T_L_law_560 C E ht hn hX23 h)
      | 7, _, hx =>
        refine ⟨623, 663, rfl, by decide, ?_⟩
        have h := h.2.2.2.2.2.2.2.2.1 (by simpa using hx)
        exact r_sub [0, 1, 2, 3, 4] rfl (T_L_law_663 C E ht hn hX23 h)
      | 8, _, hx =>
        refine ⟨672, 712, rfl, by decide, ?_⟩
        have h := h.2.2.2.2.2.2.2.2.2.1 (by simpa using hx)
        exact r_sub [0, 1, 2, 3, 4] rfl (T_L_law_712 C E ht hn hX23 h)
      | 9, _, hx =>
        refine ⟨721, 761, rfl, by decide, ?_⟩
        have h := h.2.2.2.2.2.2.2.2.2.2.1 (by simpa using hx)
        exact r_sub [0, 1, 2, 3, 4] rfl (T_L_law_761 C E ht hn hX23 h)
      | 10, _, hx =>
        refine ⟨794, 834, rfl, by decide, ?_⟩
        have h := h.2.2.2.2.2.2.2.2.2.2.2.1 (by simpa using hx)
        exact r_sub [0, 1, 2, 3, 4] rfl (T_L_law_834 C E ht hn hX23 h)
      | 11, _, hx =>
        refine ⟨855, 895, rfl, by decide, ?_⟩
        have h := h.2.2.2.2.2.2.2.2.2.2.2.2.1 (by simpa using hx)
        exact r_sub [0, 1, 2, 3, 4] rfl (T_L_law_895 C E ht hn hX23 h)
      | 12, _, hx =>
        refine ⟨944, 984, rfl, by decide, ?_⟩
        have h := h.2.2.2.2.2.2.2.2.2.2.2.2.2.1 (by simpa using hx)
        exact r_sub [0, 1, 2, 3, 4] rfl (T_L_law_984 C E ht hn hX23 h)
      | 13, _, hx =>
        refine ⟨1005, 1045, rfl, by decide, ?_⟩
        have h := h.2.2.2.2.2.2.2.2.2.2.2.2.2.2.1 (by simpa using hx)
        exact r_sub [0, 1, 2, 3, 4] rfl (T_L_law_1045 C E ht hn hX23 h)
      | 14, _, hx =>
        refine ⟨1066, 1106, rfl, by decide, ?_⟩
        have h := h.2.2.2.2.2.2.2.2.2.2.2.2.2.2.2.1 (by simpa using hx)
        exact r_sub [0, 1, 2, 3, 4] rfl (T_L_law_1106 C E ht hn hX23 h)
      | 15, _, hx =>
        refine ⟨1143, 1183, rfl, by decide, ?_⟩
        have h := h.2.2.2.2.2.2.2.2.2.2.2.2.2.2.2.2.1 (by simpa using hx)
        exact r_sub [0, 1, 2, 3, 4] rfl (T_L_law_1183 C E ht hn hX23 h)
      | 16, _, hx =>
        refine ⟨1192, 1232, rfl, by decide, ?_⟩
        have h := h.2.2.2.2.2.2.2.2.2.2.2.2.2.2.2.2.2.1 (by simpa using hx)
        exact r_sub [0, 1, 2, 3, 4] rfl (T_L_law_1232 C E ht hn hX23 h)
      | 17, _, hx =>
        refine ⟨1309, 1349, rfl, by decide, ?_⟩
        have h := h.2.2.2.2.2.2.2.2.2.2.2.2.2.2.2.2.2.2.1 (by simpa using hx)
        exact r_sub [0, 1, 2, 3, 4] rfl (T_L_law_1349 C E ht hn hX23 h)
      | 18, _, hx =>
        refine ⟨1396, 1436, rfl, by decide, ?_⟩
        have h := h.2.2.2.2.2.2.2.2.2.2.2.2.2.2.2.2.2.2.2.1 (by simpa using hx)
        exact r_sub [0, 1, 2, 3, 4] rfl (T_L_law_1436 C E ht hn hX23 h)
      | 19, _, hx =>
        refine ⟨1499, 1539, rfl, by decide, ?_⟩
        have h := h.2.2.2.2.2.2.2.2.2.2.2.2.2.2.2.2.2.2.2.2.1 (by simpa using hx)
        exact r_sub [0, 1, 2, 3, 4] rfl (T_L_law_1539 C E ht hn hX23 h)
      | 20, _, hx =>
        refine ⟨1572, 1612, rfl, by decide, ?_⟩
        have h := h.2.2.2.2.2.2.2.2.2.2.2.2.2.2.2.2.2.2.2.2.2.1 (by simpa using hx)
        exact r_sub [0, 1, 2, 3, 4] rfl (T_L_law_1612 C E ht hn hX23 h)
      | 21, _, hx =>
        refine ⟨1645, 1685, rfl, by decide, ?_⟩
        have h := h.2.2.2.2.2.2.2.2.2.2.2.2.2.2.2.2.2.2.2.2.2.2.1 (by simpa using hx)
        exact r_sub [0, 1, 2, 3, 4] rfl (T_L_law_1685 C E ht hn hX23 h)
      | 22, _, hx =>
        refine ⟨1732, 1772, rfl, by decide, ?_⟩
        have h := h.2.2.2.2.2.2.2.2.2.2.2.2.2.2.2.2.2.2.2.2.2.2.2.1 (by simpa using hx)
        exact r_sub [0, 1, 2, 3, 4] rfl (T_L_law_1772 C E ht hn hX23 h)
      | 23, _, hx =>
        refine ⟨1793, 1833, rfl, by decide, ?_⟩
        have h := h.2.2.2.2.2.2.2.2.2.2.2.2.2.2.2.2.2.2.2.2.2.2.2.2.1 (by simpa using hx)
        exact r_sub [0, 1, 2, 3, 4] rfl (T_L_law_1833 C E ht hn hX23 h)
      | 24, _, hx =>
        refine ⟨1818, 1858, rfl, by decide, ?_⟩
        have h := h.2.2.2.2.2.2.2.2.2.2.2.2.2.2.2.2.2.2.2.2.2.2.2.2.2.1 (by simpa using hx)
        exact r_sub [0, 1, 2, 3, 4] rfl (T_L_law_1858 C E ht hn hX23 h)
      | 25, _, hx =>
        refine ⟨1855, 1895, rfl, by decide, ?_⟩
        have h := h.2.2.2.2.2.2.2.2.2.2.2.2.2.2.2.2.2.2.2.2.2.2.2.2.2.2.1 (by simpa using hx)
        exact r_sub [0, 1, 2, 3, 4] rfl (T_L_law_1895 C E ht hn hX23 h)
      | 26, _, hx =>
        refine ⟨1868, 1908, rfl, by decide, ?_⟩
        have h := h.2.2.2.2.2.2.2.2.2.2.2.2.2.2.2.2.2.2.2.2.2.2.2.2.2.2.2.1 (by simpa using hx)
        exact r_sub [0, 1, 2, 3, 4] rfl (T_L_law_1908 C E ht hn hX23 h)
      | 27, _, hx =>
        refine ⟨1929, 1969, rfl, by decide, ?_⟩
        have h := h.2.2.2.2.2.2.2.2.2.2.2.2.2.2.2.2.2.2.2.2.2.2.2.2.2.2.2.2.1 (by simpa using hx)
        exact r_sub [0, 1, 2, 3, 4] rfl (T_L_law_1969 C E ht hn hX23 h)
      | 28, _, hx =>
        refine ⟨1978, 2018, rfl, by decide, ?_⟩
        have h := h.2.2.2.2.2.2.2.2.2.2.2.2.2.2.2.2.2.2.2.2.2.2.2.2.2.2.2.2.2.1 (by simpa using hx)
        exact r_sub [0, 1, 2, 3, 4] rfl (T_L_law_2018 C E ht hn hX23 h)
      | 29, _, hx =>
        refine ⟨2003, 2043, rfl, by decide, ?_⟩
        have h := h.2.2.2.2.2.2.2.2.2.2.2.2.2.2.2.2.2.2.2.2.2.2.2.2.2.2.2.2.2.2.1 (by simpa using hx)
        exact r_sub [0, 1, 2, 3, 4] rfl (T_L_law_2043 C E ht hn hX23 h)
      | 30, _, hx =>
        refine ⟨2056, 2096, rfl, by decide, ?_⟩
        have h := h.2.2.2.2.2.2.2.2.2.2.2.2.2.2.2.2.2.2.2.2.2.2.2.2.2.2.2.2.2.2.2.1 (by simpa using hx)
        exact r_sub [0, 1, 2, 3, 4] rfl (T_L_law_2096 C E ht hn hX23 h)
      | 31, _, hx =>
        refine ⟨2097, 2137, rfl, by decide, ?_⟩
        have h := h.2.2.2.2.2.2.2.2.2.2.2.2.2.2.2.2.2.2.2.2.2.2.2.2.2.2.2.2.2.2.2.2.1 (by simpa using hx)
        exact r_sub [0, 1, 2, 3, 4] rfl (T_L_law_2137 C E ht hn hX23 h)
      | 32, _, hx =>
        refine ⟨2110, 2150, rfl, by decide, ?_⟩
        have h := h.2.2.2.2.2.2.2.2.2.2.2.2.2.2.2.2.2.2.2.2.2.2.2.2.2.2.2.2.2.2.2.2.2.1 (by simpa using hx)
        exact r_sub [0, 1, 2, 3, 4] rfl (T_L_law_2150 C E ht hn hX23 h)
      | 33, _, hx =>
        refine ⟨2123, 2163, rfl, by decide, ?_⟩
        have h := h.2.2.2.2.2.2.2.2.2.2.2.2.2.2.2.2.2.2.2.2.2.2.2.2.2.2.2.2.2.2.2.2.2.2.1 (by simpa using hx)
        exact r_sub [0, 1, 2, 3, 4] rfl (T_L_law_2163 C E ht hn hX23 h)
      | 34, _, hx =>
        refine ⟨2136, 2176, rfl, by decide, ?_⟩
        have h := h.2.2.2.2.2.2.2.2.2.2.2.2.2.2.2.2.2.2.2.2.2.2.2.2.2.2.2.2.2.2.2.2.2.2.2.1 (by simpa using hx)
        exact r_sub [0, 1, 2, 3, 4] rfl (T_L_law_2176 C E ht hn hX23 h)
      | 35, _, hx =>
        refine ⟨2161, 2201, rfl, by decide, ?_⟩
        have h := h.2.2.2.2.2.2.2.2.2.2.2.2.2.2.2.2.2.2.2.2.2.2.2.2.2.2.2.2.2.2.2.2.2.2.2.2.1 (by simpa using hx)
        exact r_sub [0, 1, 2, 3, 4] rfl (T_L_law_2201 C E ht hn hX23 h)
      | 36, _, hx =>
        refine ⟨2198, 2238, rfl, by decide, ?_⟩
        have h := h.2.2.2.2.2.2.2.2.2.2.2.2.2.2.2.2.2.2.2.2.2.2.2.2.2.2.2.2.2.2.2.2.2.2.2.2.2.1 (by simpa using hx)
        exact r_sub [0, 1, 2, 3, 4] rfl (T_L_law_2238 C E ht hn hX23 h)
      | 37, _, hx =>
        refine ⟨2235, 2275, rfl, by decide, ?_⟩
        have h := h.2.2.2.2.2.2.2.2.2.2.2.2.2.2.2.2.2.2.2.2.2.2.2.2.2.2.2.2.2.2.2.2.2.2.2.2.2.2.1 (by simpa using hx)
        exact r_sub [0, 1, 2, 3, 4] rfl (T_L_law_2275 C E ht hn hX23 h)
      | 38, _, hx =>
        refine ⟨2263, 2303, rfl, by decide, ?_⟩
        have h := h.2.2.2.2.2.2.2.2.2.2.2.2.2.2.2.2.2.2.2.2.2.2.2.2.2.2.2.2.2.2.2.2.2.2.2.2.2.2.2.1 (by simpa using hx)
        exact r_sub [0, 1, 2, 3, 4] rfl (T_L_law_2303 C E ht hn hX23 h)
      | 39, _, hx =>
        refine ⟨2288, 2328, rfl, by decide, ?_⟩
        have h := h.2.2.2.2.2.2.2.2.2.2.2.2.2.2.2.2.2.2.2.2.2.2.2.2.2.2.2.2.2.2.2.2.2.2.2.2.2.2.2.2 (by simpa using hx)
        exact r_sub [0, 1, 2, 3, 4] rfl (T_L_law_2328 C E ht hn hX23 h)
      | j + 40, hj, _ => exact absurd hj (by omega)
theorem T_L_law_23 {X : CX} {Q : Int32 → HS → Prop} {scb scL : Nat} {scx : Nat → Int32} (C : Cx X cL_law RL 7 rm_L_law) (E : LE X scb scL scx Q) (ht : LD X) (hn : True) {v1 : Nat} {v2 : Nat} {v3 : Nat} {v4 : Int32} {kk : Nat} {nn : Nat} {S : HS} (h : P_L_law_23 scL scx Q v1 v2 v3 v4 kk nn S) : WS X 7 kk nn 23 [(0, .ref scb), (1, .ref v1), (2, .ref v2), (3, .ref v3), (4, .int v4)] [] S :=
  h (fun v1 v2 v3 v4 kk nn S => WS X 7 kk nn 23 [(0, .ref scb), (1, .ref v1), (2, .ref v2), (3, .ref v3), (4, .int v4)] [] S) (fun v1 v2 v3 v4 kk nn S hh => TB_L_law_23 C E ht hn (fun v1 v2 v3 v4 kk nn S z => z) hh)
def P_L_law_0 (scL : Nat) (scx : Nat → Int32) (Q : Int32 → HS → Prop) (kk : Nat) (nn : Nat) (S : HS) : Prop := kk + 1 ≤ rm_L_law.cells ∧ nn + 10 ≤ rm_L_law.slots ∧ ∀ a1 : Nat, a1 ∉ hL S → ∀ S2 : HS, S2 = nW S a1 9 0 → (kk + 1 + 118 ≤ rm_L_law.cells ∧ nn + 10 + 1517 ≤ rm_L_law.slots ∧ (P_X9_init a1 (fun S3 => Gr S2 S3 → (kk + 1 + 118 + 1 ≤ rm_L_law.cells ∧ nn + 10 + 1517 + 26 ≤ rm_L_law.slots ∧ ∀ a6 : Nat, a6 ∉ hL S3 → ∀ S7 : HS, S7 = nW S3 a6 11 0 → (kk + 1 + 118 + 1 + 7 ≤ rm_L_law.cells ∧ nn + 10 + 1517 + 26 + 10664 ≤ rm_L_law.slots ∧ (P_X11_init a6 (fun S8 => Gr S7 S8 → (kk + 1 + 118 + 1 + 7 + 1 ≤ rm_L_law.cells ∧ nn + 10 + 1517 + 26 + 10664 + 1 ≤ rm_L_law.slots ∧ ∀ a11 : Nat, a11 ∉ hL S8 → ∀ S12 : HS, S12 = nW S8 a11 14 1 → (P_L_law_23 scL scx Q a1 a6 a11 (0 : Int32) (kk + 1 + 118 + 1 + 7 + 1) (nn + 10 + 1517 + 26 + 10664 + 1) S12))) S7)))) S2))
set_option maxRecDepth 20000 in
set_option maxHeartbeats 4000000 in
theorem T_L_law_0 {X : CX} {Q : Int32 → HS → Prop} {scb scL : Nat} {scx : Nat → Int32} (C : Cx X cL_law RL 7 rm_L_law) (E : LE X scb scL scx Q) (ht : LD X) (hn : True) {kk : Nat} {nn : Nat} {S : HS} (h : P_L_law_0 scL scx Q kk nn S) : WS X 7 kk nn 0 [(0, .ref scb)] [] S := by
  obtain ⟨hk, hk2, h⟩ := h
  refine r_new (pc := 0) C nc_L_8 dL_law_0 hk hk2 (fun a1 q17 => ?_)
  refine r_heap (fun S2 eS2 => ?_)
  have h := h a1 q17 S2 eS2
  have g18 := gr_of_new eS2 q17
  have o_a1 := ob_of_new eS2
  refine r_dup (pc := 3) C dL_law_3 rfl ?_
  obtain ⟨hk, hk2, h⟩ := h
  refine r_callIv (pc := 4) C (rest := [.ref a1]) (a := a1) [] yI_X9_init g_24 (c_X9_init h) dL_law_4 rfl rfl (Nat.le_of_ble_eq_true rfl) ⟨by decide, by decide⟩ ⟨hk, hk2⟩ (fun S3 h g4 => ?_)
  have h := h g4
  have o_a1 := gr_ob g4 o_a1
  refine r_astore_n (pc := 7) C dL_law_7 rfl (by decide) (lv' := [(1, .ref a1), (0, .ref scb)]) rfl ?_
  obtain ⟨hk, hk2, h⟩ := h
  refine r_new (pc := 8) C nc_L_16 dL_law_8 hk hk2 (fun a6 q15 => ?_)
  refine r_heap (fun S7 eS7 => ?_)
  have h := h a6 q15 S7 eS7
  have g16 := gr_of_new eS7 q15
  have o_a6 := ob_of_new eS7
  have o_a1 := gr_ob g16 o_a1
  refine r_dup (pc := 11) C dL_law_11 rfl ?_
  obtain ⟨hk, hk2, h⟩ := h
  refine r_callIv (pc := 12) C (rest := [.ref a6]) (a := a6) [] yI_X11_init g_1159 (c_X11_init h) dL_law_12 rfl rfl (Nat.le_of_ble_eq_true rfl) ⟨by decide, by decide⟩ ⟨hk, hk2⟩ (fun S8 h g9 => ?_)
  have h := h g9
  have o_a1 := gr_ob g9 o_a1
  have o_a6 := gr_ob g9 o_a6
  refine r_astore_n (pc := 15) C dL_law_15 rfl (by decide) (lv' := [(2, .ref a6), (1, .ref a1), (0, .ref scb)]) rfl ?_
  refine r_iconst (pc := 16) C (v := (1 : Int32)) dL_law_16 (by decide) ?_
  obtain ⟨hk, hk2, h⟩ := h
  refine r_newa14 (pc := 17) C (N := 1) g_266 dL_law_17 (by decide) (by decide) (by decide) hk hk2 (fun a11 q13 => ?_)
  refine r_heap (fun S12 eS12 => ?_)
  have h := h a11 q13 S12 eS12
  have g14 := gr_of_new eS12 q13
  have o_a11 := ob_of_new eS12
  have o_a1 := gr_ob g14 o_a1
  have o_a6 := gr_ob g14 o_a6
  refine r_astore_n (pc := 19) C dL_law_19 rfl (by decide) (lv' := [(3, .ref a11), (2, .ref a6), (1, .ref a1), (0, .ref scb)]) rfl ?_
  refine r_iconst (pc := 20) C (v := (0 : Int32)) dL_law_20 (by decide) ?_
  refine r_istore (pc := 21) C dL_law_21 (by decide) (lv' := [(4, .int (0 : Int32)), (3, .ref a11), (2, .ref a6), (1, .ref a1), (0, .ref scb)]) rfl ?_
  exact r_sub [4, 3, 2, 1, 0] rfl (T_L_law_23 C E ht hn h)
end
section
theorem sc_nI {v4 x : Int32} {c j : Nat} (hv : v4 = nI (8 * c)) (hx : x = v4 + nI j) : x = nI (8 * c + j) := by rw [hx, hv, nI_add]
theorem sc_in {v4 x k : Int32} {c j L : Nat} (hv : v4 = nI (8 * c)) (hc : 8 * c + 8 ≤ L) (hL : L ≤ 4096) (hx : x = v4 + k) (hj : j < 8) (hk : k = nI j) : vp_in x L := by
  have e : x = nI (8 * c + j) := sc_nI hv (by rw [hx, hk])
  rw [e]
  exact nI_in (by omega) (by omega)
theorem sc_in0 {v4 : Int32} {c L : Nat} (hv : v4 = nI (8 * c)) (hc : 8 * c + 8 ≤ L) (hL : L ≤ 4096) : vp_in v4 L := by
  rw [hv]
  exact nI_in (by omega) (by omega)
/-- what holds at the head of the law's loop, c calls done -/
def LI (v1 v2 v3 : Nat) (v4 : Int32) (kk nn : Nat) (S : HS) (c : Nat) : Prop := IV S ∧ ob S v1 9 ∧ ob S v2 11 ∧ ob S v3 14 ∧ hN S v3 = 1 ∧ TT v1 v2 S ∧ fI S v1 7 = fI S v2 13 ∧ WH v1 v2 S ∧ WRy v1 v2 S ∧ LGx v1 S ∧ v4 = nI (8 * c) ∧ kk ≤ 200 + 35 * c ∧ nn ≤ 13000 + 8200 * c

set_option maxHeartbeats 4000000 in
set_option maxRecDepth 20000 in
theorem a_L_law_216 {scL : Nat} {scx : Nat → Int32} {Q : Int32 → HS → Prop} {X23 : Nat → Nat → Nat → Int32 → Nat → Nat → HS → Prop} {v1 v2 v3 : Nat} {v4 : Int32} {kk nn : Nat} {S : HS} {c : Nat} (hL : scL ≤ 4096) (hc : 8 * c + 8 ≤ scL) (hb : ∀ x : Int32, x = v4 + (8 : Int32) → ∀ (kk nn : Nat) (T : HS), IV T → ob T v1 9 → ob T v2 11 → ob T v3 14 → hN T v3 = 1 → TT v1 v2 T → fI T v1 7 = fI T v2 13 → WH v1 v2 T → WRy v1 v2 T → LGx v1 T → kk ≤ 200 + 35 * (c + 1) → nn ≤ 13000 + 8200 * (c + 1) → X23 v1 v2 v3 x kk nn T) (h : LI v1 v2 v3 v4 kk nn S c) : P_L_law_216 scL scx Q X23 v1 v2 v3 v4 kk nn S := by
  obtain ⟨hI, o1, o2, o3, l3, tp, fa, wh, wr, lgx, hv, hk, hn⟩ := h
  obtain ⟨AA, GG, wr, gb⟩ := wr
  unfold P_L_law_216
  intro x1 ex1
  refine ⟨sc_in (j := 1) hv hc hL ex1 (by omega) (by decide), ?_⟩
  intro x2 ex2
  intro x3 ex3
  refine ⟨sc_in (j := 2) hv hc hL ex3 (by omega) (by decide), ?_⟩
  intro x4 ex4
  intro x5 ex5
  refine ⟨sc_in (j := 3) hv hc hL ex5 (by omega) (by decide), ?_⟩
  intro x6 ex6
  intro x7 ex7
  refine ⟨sc_in (j := 4) hv hc hL ex7 (by omega) (by decide), ?_⟩
  intro x8 ex8
  intro x9 ex9
  refine ⟨sc_in (j := 5) hv hc hL ex9 (by omega) (by decide), ?_⟩
  intro x10 ex10
  refine ⟨o1, ?_⟩
  refine ⟨by show _ ≤ 601024; omega, by show _ ≤ 7293034; omega, ?_⟩
  have tt0 := tp
  have c1 := o1
  have c2 := o2
  obtain ⟨f9, t9, a9, b9, ht9, TPc, TPm, hab9, hB9⟩ := tp
  refine mz_X9_feed hI o1 TPc ht9 (fun x12 S11 hJ g13 fc14 pp wa1 kz => ?_)
  have wr := wr_keep hI o2 wr kz.1 kz.2 fc14 (by decide) (by decide) (by decide)
  have lgx := lg_keep o1 lgx g13 fc14 (by decide) (by decide) (by decide)
  have TPd := tp_ft TPm wa1.1 (Ne.symm hab9) (ob_ne TPm.2.2.2.1 o1 (by decide)) (ob_ne o2 TPc.2.2.2.1 (by decide)) (ob_ne o2 o1 (by decide))
  have fa := fa_fri fa o1 o2 fc14 (by decide) (by decide)
  have wh := wh_fri wh o1 o2 fc14 (by decide) (by decide) (by decide)
  have hI := hJ
  have l3 := (gr_len g13 o3).trans l3
  have o1 := gr_ob g13 o1
  have o2 := gr_ob g13 o2
  have o3 := gr_ob g13 o3
  intro _
  intro x15 ex15
  refine ⟨sc_in (j := 1) hv hc hL ex15 (by omega) (by decide), ?_⟩
  intro x16 ex16
  intro x17 ex17
  refine ⟨sc_in (j := 2) hv hc hL ex17 (by omega) (by decide), ?_⟩
  intro x18 ex18
  intro x19 ex19
  refine ⟨sc_in (j := 3) hv hc hL ex19 (by omega) (by decide), ?_⟩
  intro x20 ex20
  intro x21 ex21
  refine ⟨sc_in (j := 4) hv hc hL ex21 (by omega) (by decide), ?_⟩
  intro x22 ex22
  intro x23 ex23
  refine ⟨sc_in (j := 5) hv hc hL ex23 (by omega) (by decide), ?_⟩
  intro x24 ex24
  refine ⟨o2, ?_⟩
  refine ⟨by show _ ≤ 601024; omega, by show _ ≤ 7293034; omega, ?_⟩
  refine mz_X11_feed hI o2 TPd ht9 (fun x26 S25 hJ g27 fc28 pp wa2 kz => ?_)
  have wr := wr_keep hI o2 wr kz.1 kz.2 fc28 (by decide) (by decide) (by decide)
  have lgx := lg_keep o1 lgx g27 fc28 (by decide) (by decide) (by decide)
  have fe0 := tt_feed c1 c2 ht9 TPc TPm hab9 hB9 wa1.1 wa1.2 wa2.1 (by subst_vars; exact wa2.2)
  have tp := fe0.1
  have fe := fe0.2
  have fa := fa_fri fa o1 o2 fc28 (by decide) (by decide)
  have wh := wh_fri wh o1 o2 fc28 (by decide) (by decide) (by decide)
  have hI := hJ
  have l3 := (gr_len g27 o3).trans l3
  have o1 := gr_ob g27 o1
  have o2 := gr_ob g27 o2
  have o3 := gr_ob g27 o3
  intro _
  unfold P_L_law_2341
  intro x29 ex29
  have back := hb x29 ex29
  exact back _ _ _ hI o1 o2 o3 l3 tp fa wh ⟨AA, GG, wr, gb⟩ lgx (by omega) (by omega)
set_option maxHeartbeats 4000000 in
set_option maxRecDepth 20000 in
theorem a_L_law_289 {scL : Nat} {scx : Nat → Int32} {Q : Int32 → HS → Prop} {X23 : Nat → Nat → Nat → Int32 → Nat → Nat → HS → Prop} {v1 v2 v3 : Nat} {v4 : Int32} {kk nn : Nat} {S : HS} {c : Nat} (hL : scL ≤ 4096) (hc : 8 * c + 8 ≤ scL) (hb : ∀ x : Int32, x = v4 + (8 : Int32) → ∀ (kk nn : Nat) (T : HS), IV T → ob T v1 9 → ob T v2 11 → ob T v3 14 → hN T v3 = 1 → TT v1 v2 T → fI T v1 7 = fI T v2 13 → WH v1 v2 T → WRy v1 v2 T → LGx v1 T → kk ≤ 200 + 35 * (c + 1) → nn ≤ 13000 + 8200 * (c + 1) → X23 v1 v2 v3 x kk nn T) (h : LI v1 v2 v3 v4 kk nn S c) : P_L_law_289 scL scx Q X23 v1 v2 v3 v4 kk nn S := by
  obtain ⟨hI, o1, o2, o3, l3, tp, fa, wh, wr, lgx, hv, hk, hn⟩ := h
  obtain ⟨AA, GG, wr, gb⟩ := wr
  unfold P_L_law_289
  intro x30 ex30
  refine ⟨sc_in (j := 1) hv hc hL ex30 (by omega) (by decide), ?_⟩
  intro x31 ex31
  refine ⟨o1, ?_⟩
  refine ⟨by show _ ≤ 601024; omega, by show _ ≤ 7293034; omega, ?_⟩
  have tt0 := tp
  have c1 := o1
  have c2 := o2
  obtain ⟨f9, t9, a9, b9, ht9, TPc, TPm, hab9, hB9⟩ := tp
  have wr0 := wr
  obtain ⟨r9, w9, u9, J9, h91, h92, h93, h94⟩ := wr0
  have hI0 := hI
  refine my_X9_world hI o1 TPc ht9 J9 (fun x33 S32 hJ g34 fc35 pp Kg34 wa1 wx1 => ?_)
  have lgx := lg_keep o1 lgx g34 fc35 (by decide) (by decide) (by decide)
  have gw := g34
  have TPd := tp_mid TPm o2 Kg34 fc35 (by decide) (by decide)
  have fp1 := pp
  have Kw := Kg34
  have fw := fc35
  have hI := hJ
  have l3 := (gr_len g34 o3).trans l3
  have o1 := gr_ob g34 o1
  have o2 := gr_ob g34 o2
  have o3 := gr_ob g34 o3
  intro _
  intro x36 ex36
  refine ⟨sc_in (j := 1) hv hc hL ex36 (by omega) (by decide), ?_⟩
  intro x37 ex37
  refine ⟨o2, ?_⟩
  refine ⟨by show _ ≤ 601024; omega, by show _ ≤ 7293034; omega, ?_⟩
  refine my_X11_world hI o2 TPd ht9 hB9 (fun x39 S38 hJ g40 fc41 pp Kg40 wa2 wx2 => ?_)
  have lgx := lg_keep o1 lgx g40 fc41 (by decide) (by decide) (by decide)
  have tp := tt_world tt0 c1 c2 Kw Kg40 fw fc41 (by decide) (by decide) (by decide) (by decide) (by decide) (by decide) fp1 (by subst_vars; exact pp)
  have fe := wc_wm ht9 wa1 (by subst_vars; exact wa2)
  have fa := fa_world ht9 wa1 (by subst_vars; exact wa2) fa o1 c2 fw fc41 (by decide) (by decide)
  have wh := wh_world ht9 wa1 (by subst_vars; exact wa2) o1 fc41 (by decide) (by decide)
  have wrx := wr_wy hI0 hI hJ c2 J9 h91 h92 h93 h94 gw wx1.2 fw (by decide) (by decide) (by decide) (by decide) g40 wx1.1 (by subst_vars; exact wx2) gb (fun p hp => rw_gb hp)
  have hI := hJ
  have l3 := (gr_len g40 o3).trans l3
  have o1 := gr_ob g40 o1
  have o2 := gr_ob g40 o2
  have o3 := gr_ob g40 o3
  intro _
  unfold P_L_law_2341
  intro x42 ex42
  have back := hb x42 ex42
  exact back _ _ _ hI o1 o2 o3 l3 tp fa wh wrx lgx (by omega) (by omega)
set_option maxHeartbeats 4000000 in
set_option maxRecDepth 20000 in
theorem a_L_law_314 {scL : Nat} {scx : Nat → Int32} {Q : Int32 → HS → Prop} {X23 : Nat → Nat → Nat → Int32 → Nat → Nat → HS → Prop} {v1 v2 v3 : Nat} {v4 : Int32} {kk nn : Nat} {S : HS} {c : Nat} (hL : scL ≤ 4096) (hc : 8 * c + 8 ≤ scL) (hb : ∀ x : Int32, x = v4 + (8 : Int32) → ∀ (kk nn : Nat) (T : HS), IV T → ob T v1 9 → ob T v2 11 → ob T v3 14 → hN T v3 = 1 → TT v1 v2 T → fI T v1 7 = fI T v2 13 → WH v1 v2 T → WRy v1 v2 T → LGx v1 T → kk ≤ 200 + 35 * (c + 1) → nn ≤ 13000 + 8200 * (c + 1) → X23 v1 v2 v3 x kk nn T) (h : LI v1 v2 v3 v4 kk nn S c) : P_L_law_314 scL scx Q X23 v1 v2 v3 v4 kk nn S := by
  obtain ⟨hI, o1, o2, o3, l3, tp, fa, wh, wr, lgx, hv, hk, hn⟩ := h
  obtain ⟨AA, GG, wr, gb⟩ := wr
  unfold P_L_law_314
  refine ⟨o1, ?_⟩
  refine ⟨by show _ ≤ 601024; omega, by show _ ≤ 7293034; omega, ?_⟩
  refine mv_X9_fault hI o1 (fun x44 S43 hJ g45 pp Kg45 vv1 => ?_)
  subst pp
  intro _
  refine ⟨o2, ?_⟩
  refine ⟨by show _ ≤ 601024; omega, by show _ ≤ 7293034; omega, ?_⟩
  refine mz_X11_fault hI o2 (fun x48 S47 hJ g49 fc50 Kg49 vv2 kz => ?_)
  have wr := wr_keep hI o2 wr kz.1 kz.2 fc50 (by decide) (by decide) (by decide)
  have lgx := lg_keep o1 lgx g49 fc50 (by decide) (by decide) (by decide)
  have fe := vv1.trans (fa.trans vv2.symm)
  have tp := tt_fri tp o1 o2 Kg49 fc50 (by decide) (by decide) (by decide) (by decide)
  have fa := fa_fri fa o1 o2 fc50 (by decide) (by decide)
  have wh := wh_fri wh o1 o2 fc50 (by decide) (by decide) (by decide)
  have hI := hJ
  have l3 := (gr_len g49 o3).trans l3
  have o1 := gr_ob g49 o1
  have o2 := gr_ob g49 o2
  have o3 := gr_ob g49 o3
  intro _
  unfold P_L_law_2341
  intro x51 ex51
  have back := hb x51 ex51
  exact back _ _ _ hI o1 o2 o3 l3 tp fa wh ⟨AA, GG, wr, gb⟩ lgx (by omega) (by omega)
set_option maxHeartbeats 4000000 in
set_option maxRecDepth 20000 in
theorem a_L_law_327 {scL : Nat} {scx : Nat → Int32} {Q : Int32 → HS → Prop} {X23 : Nat → Nat → Nat → Int32 → Nat → Nat → HS → Prop} {v1 v2 v3 : Nat} {v4 : Int32} {kk nn : Nat} {S : HS} {c : Nat} (hL : scL ≤ 4096) (hc : 8 * c + 8 ≤ scL) (hb : ∀ x : Int32, x = v4 + (8 : Int32) → ∀ (kk nn : Nat) (T : HS), IV T → ob T v1 9 → ob T v2 11 → ob T v3 14 → hN T v3 = 1 → TT v1 v2 T → fI T v1 7 = fI T v2 13 → WH v1 v2 T → WRy v1 v2 T → LGx v1 T → kk ≤ 200 + 35 * (c + 1) → nn ≤ 13000 + 8200 * (c + 1) → X23 v1 v2 v3 x kk nn T) (h : LI v1 v2 v3 v4 kk nn S c) : P_L_law_327 scL scx Q X23 v1 v2 v3 v4 kk nn S := by
  obtain ⟨hI, o1, o2, o3, l3, tp, fa, wh, wr, lgx, hv, hk, hn⟩ := h
  obtain ⟨AA, GG, wr, gb⟩ := wr
  unfold P_L_law_327
  refine ⟨o1, ?_⟩
  refine ⟨by show _ ≤ 601024; omega, by show _ ≤ 7293034; omega, ?_⟩
  refine mv_X9_where hI o1 (fun x53 S52 hJ g54 pp Kg54 vv1 => ?_)
  subst pp
  intro _
  refine ⟨o2, ?_⟩
  refine ⟨by show _ ≤ 601024; omega, by show _ ≤ 7293034; omega, ?_⟩
  refine mz_X11_where hI o2 (fun x57 S56 hJ g58 fc59 Kg58 vv2 kz => ?_)
  have wr := wr_keep hI o2 wr kz.1 kz.2 fc59 (by decide) (by decide) (by decide)
  have lgx := lg_keep o1 lgx g58 fc59 (by decide) (by decide) (by decide)
  have fe := wh_eq wh vv1 vv2
  have tp := tt_fri tp o1 o2 Kg58 fc59 (by decide) (by decide) (by decide) (by decide)
  have fa := fa_fri fa o1 o2 fc59 (by decide) (by decide)
  have wh := wh_fri wh o1 o2 fc59 (by decide) (by decide) (by decide)
  have hI := hJ
  have l3 := (gr_len g58 o3).trans l3
  have o1 := gr_ob g58 o1
  have o2 := gr_ob g58 o2
  have o3 := gr_ob g58 o3
  intro _
  unfold P_L_law_2341
  intro x60 ex60
  have back := hb x60 ex60
  exact back _ _ _ hI o1 o2 o3 l3 tp fa wh ⟨AA, GG, wr, gb⟩ lgx (by omega) (by omega)
set_option maxHeartbeats 4000000 in
set_option maxRecDepth 20000 in
theorem a_L_law_340 {scL : Nat} {scx : Nat → Int32} {Q : Int32 → HS → Prop} {X23 : Nat → Nat → Nat → Int32 → Nat → Nat → HS → Prop} {v1 v2 v3 : Nat} {v4 : Int32} {kk nn : Nat} {S : HS} {c : Nat} (hL : scL ≤ 4096) (hc : 8 * c + 8 ≤ scL) (hb : ∀ x : Int32, x = v4 + (8 : Int32) → ∀ (kk nn : Nat) (T : HS), IV T → ob T v1 9 → ob T v2 11 → ob T v3 14 → hN T v3 = 1 → TT v1 v2 T → fI T v1 7 = fI T v2 13 → WH v1 v2 T → WRy v1 v2 T → LGx v1 T → kk ≤ 200 + 35 * (c + 1) → nn ≤ 13000 + 8200 * (c + 1) → X23 v1 v2 v3 x kk nn T) (h : LI v1 v2 v3 v4 kk nn S c) : P_L_law_340 scL scx Q X23 v1 v2 v3 v4 kk nn S := by
  obtain ⟨hI, o1, o2, o3, l3, tp, fa, wh, wr, lgx, hv, hk, hn⟩ := h
  obtain ⟨AA, GG, wr, gb⟩ := wr
  unfold P_L_law_340
  intro x61 ex61
  refine ⟨sc_in (j := 1) hv hc hL ex61 (by omega) (by decide), ?_⟩
  intro x62 ex62
  intro x63 ex63
  refine ⟨sc_in (j := 2) hv hc hL ex63 (by omega) (by decide), ?_⟩
  intro x64 ex64
  intro x65 ex65
  refine ⟨sc_in (j := 3) hv hc hL ex65 (by omega) (by decide), ?_⟩
  intro x66 ex66
  intro x67 ex67
  refine ⟨sc_in (j := 4) hv hc hL ex67 (by omega) (by decide), ?_⟩
  intro x68 ex68
  intro x69 ex69
  refine ⟨sc_in (j := 5) hv hc hL ex69 (by omega) (by decide), ?_⟩
  intro x70 ex70
  intro x71 ex71
  refine ⟨sc_in (j := 6) hv hc hL ex71 (by omega) (by decide), ?_⟩
  intro x72 ex72
  intro x73 ex73
  refine ⟨sc_in (j := 7) hv hc hL ex73 (by omega) (by decide), ?_⟩
  intro x74 ex74
  refine ⟨fun c75 => ?_, fun c75 => ?_⟩
  · unfold P_L_law_393
    refine ⟨o1, ?_⟩
    refine ⟨by show _ ≤ 601024; omega, by show _ ≤ 7293034; omega, ?_⟩
    refine mz_X9_face hI o1 (fun x77 S76 hJ g78 fc79 Kg78 nf1 kz => ?_)
    have wr := wr_keep hI o2 wr kz.1 kz.2 fc79 (by decide) (by decide) (by decide)
    have lgx := lg_keep o1 lgx g78 fc79 (by decide) (by decide) (by decide)
    have tp := tt_fri tp o1 o2 Kg78 fc79 (by decide) (by decide) (by decide) (by decide)
    have fa := fa_fri fa o1 o2 fc79 (by decide) (by decide)
    have hI := hJ
    have l3 := (gr_len g78 o3).trans l3
    have o1 := gr_ob g78 o1
    have o2 := gr_ob g78 o2
    have o3 := gr_ob g78 o3
    intro _
    intro x80 ex80
    refine ⟨sc_in (j := 1) hv hc hL ex80 (by omega) (by decide), ?_⟩
    intro x81 ex81
    intro x82 ex82
    refine ⟨sc_in (j := 2) hv hc hL ex82 (by omega) (by decide), ?_⟩
    intro x83 ex83
    intro x84 ex84
    refine ⟨sc_in (j := 3) hv hc hL ex84 (by omega) (by decide), ?_⟩
    intro x85 ex85
    intro x86 ex86
    refine ⟨sc_in (j := 4) hv hc hL ex86 (by omega) (by decide), ?_⟩
    intro x87 ex87
    intro x88 ex88
    refine ⟨sc_in (j := 5) hv hc hL ex88 (by omega) (by decide), ?_⟩
    intro x89 ex89
    intro x90 ex90
    refine ⟨sc_in (j := 6) hv hc hL ex90 (by omega) (by decide), ?_⟩
    intro x91 ex91
    intro x92 ex92
    refine ⟨sc_in (j := 7) hv hc hL ex92 (by omega) (by decide), ?_⟩
    intro x93 ex93
    have xy95 : x93 = x74 := by rw [ex93, ex92, ex74, ex73]
    refine ⟨fun c94 => ?_, fun c94 => absurd (xy95.trans c75) c94⟩
    unfold P_L_law_450
    refine ⟨o2, ?_⟩
    refine ⟨by show _ ≤ 601024; omega, by show _ ≤ 7293034; omega, ?_⟩
    refine mz_X11_face hI o2 (fun x97 S96 hJ g98 fc99 Kg98 nf2 kz => ?_)
    have wr := wr_keep hI o2 wr kz.1 kz.2 fc99 (by decide) (by decide) (by decide)
    have lgx := lg_keep o1 lgx g98 fc99 (by decide) (by decide) (by decide)
    have tp := tt_fri tp o1 o2 Kg98 fc99 (by decide) (by decide) (by decide) (by decide)
    have fa := fa_fri fa o1 o2 fc99 (by decide) (by decide)
    have wh := wh_set nf1 fc99 (by decide) nf2
    have hI := hJ
    have l3 := (gr_len g98 o3).trans l3
    have o1 := gr_ob g98 o1
    have o2 := gr_ob g98 o2
    have o3 := gr_ob g98 o3
    intro _
    unfold P_L_law_2341
    intro x100 ex100
    have back := hb x100 ex100
    exact back _ _ _ hI o1 o2 o3 l3 tp fa wh ⟨AA, GG, wr, gb⟩ lgx (by omega) (by omega)
  · unfold P_L_law_393
    refine ⟨o1, ?_⟩
    refine ⟨by show _ ≤ 601024; omega, by show _ ≤ 7293034; omega, ?_⟩
    refine mz_X9_face hI o1 (fun x102 S101 hJ g103 fc104 Kg103 nf1 kz => ?_)
    have wr := wr_keep hI o2 wr kz.1 kz.2 fc104 (by decide) (by decide) (by decide)
    have lgx := lg_keep o1 lgx g103 fc104 (by decide) (by decide) (by decide)
    have tp := tt_fri tp o1 o2 Kg103 fc104 (by decide) (by decide) (by decide) (by decide)
    have fa := fa_fri fa o1 o2 fc104 (by decide) (by decide)
    have hI := hJ
    have l3 := (gr_len g103 o3).trans l3
    have o1 := gr_ob g103 o1
    have o2 := gr_ob g103 o2
    have o3 := gr_ob g103 o3
    intro _
    intro x105 ex105
    refine ⟨sc_in (j := 1) hv hc hL ex105 (by omega) (by decide), ?_⟩
    intro x106 ex106
    intro x107 ex107
    refine ⟨sc_in (j := 2) hv hc hL ex107 (by omega) (by decide), ?_⟩
    intro x108 ex108
    intro x109 ex109
    refine ⟨sc_in (j := 3) hv hc hL ex109 (by omega) (by decide), ?_⟩
    intro x110 ex110
    intro x111 ex111
    refine ⟨sc_in (j := 4) hv hc hL ex111 (by omega) (by decide), ?_⟩
    intro x112 ex112
    intro x113 ex113
    refine ⟨sc_in (j := 5) hv hc hL ex113 (by omega) (by decide), ?_⟩
    intro x114 ex114
    intro x115 ex115
    refine ⟨sc_in (j := 6) hv hc hL ex115 (by omega) (by decide), ?_⟩
    intro x116 ex116
    intro x117 ex117
    refine ⟨sc_in (j := 7) hv hc hL ex117 (by omega) (by decide), ?_⟩
    intro x118 ex118
    have xy120 : x118 = x74 := by rw [ex118, ex117, ex74, ex73]
    refine ⟨fun c119 => absurd (xy120.symm.trans c119) c75, fun c119 => ?_⟩
    unfold P_L_law_450
    refine ⟨o2, ?_⟩
    refine ⟨by show _ ≤ 601024; omega, by show _ ≤ 7293034; omega, ?_⟩
    refine mz_X11_face hI o2 (fun x122 S121 hJ g123 fc124 Kg123 nf2 kz => ?_)
    have wr := wr_keep hI o2 wr kz.1 kz.2 fc124 (by decide) (by decide) (by decide)
    have lgx := lg_keep o1 lgx g123 fc124 (by decide) (by decide) (by decide)
    have tp := tt_fri tp o1 o2 Kg123 fc124 (by decide) (by decide) (by decide) (by decide)
    have fa := fa_fri fa o1 o2 fc124 (by decide) (by decide)
    have wh := wh_set nf1 fc124 (by decide) nf2
    have hI := hJ
    have l3 := (gr_len g123 o3).trans l3
    have o1 := gr_ob g123 o1
    have o2 := gr_ob g123 o2
    have o3 := gr_ob g123 o3
    intro _
    unfold P_L_law_2341
    intro x125 ex125
    have back := hb x125 ex125
    exact back _ _ _ hI o1 o2 o3 l3 tp fa wh ⟨AA, GG, wr, gb⟩ lgx (by omega) (by omega)
set_option maxHeartbeats 4000000 in
set_option maxRecDepth 20000 in
theorem a_L_law_457 {scL : Nat} {scx : Nat → Int32} {Q : Int32 → HS → Prop} {X23 : Nat → Nat → Nat → Int32 → Nat → Nat → HS → Prop} {v1 v2 v3 : Nat} {v4 : Int32} {kk nn : Nat} {S : HS} {c : Nat} (hL : scL ≤ 4096) (hc : 8 * c + 8 ≤ scL) (hb : ∀ x : Int32, x = v4 + (8 : Int32) → ∀ (kk nn : Nat) (T : HS), IV T → ob T v1 9 → ob T v2 11 → ob T v3 14 → hN T v3 = 1 → TT v1 v2 T → fI T v1 7 = fI T v2 13 → WH v1 v2 T → WRy v1 v2 T → LGx v1 T → kk ≤ 200 + 35 * (c + 1) → nn ≤ 13000 + 8200 * (c + 1) → X23 v1 v2 v3 x kk nn T) (h : LI v1 v2 v3 v4 kk nn S c) : P_L_law_457 scL scx Q X23 v1 v2 v3 v4 kk nn S := by
  obtain ⟨hI, o1, o2, o3, l3, tp, fa, wh, wr, lgx, hv, hk, hn⟩ := h
  obtain ⟨AA, GG, wr, gb⟩ := wr
  unfold P_L_law_457
  intro x126 ex126
  refine ⟨sc_in (j := 1) hv hc hL ex126 (by omega) (by decide), ?_⟩
  intro x127 ex127
  intro x128 ex128
  refine ⟨sc_in (j := 2) hv hc hL ex128 (by omega) (by decide), ?_⟩
  intro x129 ex129
  intro x130 ex130
  refine ⟨sc_in (j := 3) hv hc hL ex130 (by omega) (by decide), ?_⟩
  intro x131 ex131
  intro x132 ex132
  refine ⟨sc_in (j := 4) hv hc hL ex132 (by omega) (by decide), ?_⟩
  intro x133 ex133
  intro x134 ex134
  refine ⟨sc_in (j := 5) hv hc hL ex134 (by omega) (by decide), ?_⟩
  intro x135 ex135
  intro x136 ex136
  refine ⟨sc_in (j := 6) hv hc hL ex136 (by omega) (by decide), ?_⟩
  intro x137 ex137
  refine ⟨fun c138 => ?_, fun c138 => ?_⟩
  · unfold P_L_law_503
    refine ⟨o1, ?_⟩
    refine ⟨by show _ ≤ 601024; omega, by show _ ≤ 7293034; omega, ?_⟩
    refine mz_X9_wet hI o1 (fun x140 S139 hJ g141 fc142 Kg141 nf1 kz => ?_)
    have wr := wr_keep hI o2 wr kz.1 kz.2 fc142 (by decide) (by decide) (by decide)
    have lgx := lg_keep o1 lgx g141 fc142 (by decide) (by decide) (by decide)
    have tp := tt_fri tp o1 o2 Kg141 fc142 (by decide) (by decide) (by decide) (by decide)
    have fa := fa_fri fa o1 o2 fc142 (by decide) (by decide)
    have hI := hJ
    have l3 := (gr_len g141 o3).trans l3
    have o1 := gr_ob g141 o1
    have o2 := gr_ob g141 o2
    have o3 := gr_ob g141 o3
    intro _
    intro x143 ex143
    refine ⟨sc_in (j := 1) hv hc hL ex143 (by omega) (by decide), ?_⟩
    intro x144 ex144
    intro x145 ex145
    refine ⟨sc_in (j := 2) hv hc hL ex145 (by omega) (by decide), ?_⟩
    intro x146 ex146
    intro x147 ex147
    refine ⟨sc_in (j := 3) hv hc hL ex147 (by omega) (by decide), ?_⟩
    intro x148 ex148
    intro x149 ex149
    refine ⟨sc_in (j := 4) hv hc hL ex149 (by omega) (by decide), ?_⟩
    intro x150 ex150
    intro x151 ex151
    refine ⟨sc_in (j := 5) hv hc hL ex151 (by omega) (by decide), ?_⟩
    intro x152 ex152
    intro x153 ex153
    refine ⟨sc_in (j := 6) hv hc hL ex153 (by omega) (by decide), ?_⟩
    intro x154 ex154
    have xy156 : x154 = x137 := by rw [ex154, ex153, ex137, ex136]
    refine ⟨fun c155 => ?_, fun c155 => absurd (xy156.trans c138) c155⟩
    unfold P_L_law_553
    refine ⟨o2, ?_⟩
    refine ⟨by show _ ≤ 601024; omega, by show _ ≤ 7293034; omega, ?_⟩
    refine mz_X11_wet hI o2 (fun x158 S157 hJ g159 fc160 Kg159 nf2 kz => ?_)
    have wr := wr_keep hI o2 wr kz.1 kz.2 fc160 (by decide) (by decide) (by decide)
    have lgx := lg_keep o1 lgx g159 fc160 (by decide) (by decide) (by decide)
    have tp := tt_fri tp o1 o2 Kg159 fc160 (by decide) (by decide) (by decide) (by decide)
    have fa := fa_fri fa o1 o2 fc160 (by decide) (by decide)
    have wh := wh_set nf1 fc160 (by decide) nf2
    have hI := hJ
    have l3 := (gr_len g159 o3).trans l3
    have o1 := gr_ob g159 o1
    have o2 := gr_ob g159 o2
    have o3 := gr_ob g159 o3
    intro _
    unfold P_L_law_2341
    intro x161 ex161
    have back := hb x161 ex161
    exact back _ _ _ hI o1 o2 o3 l3 tp fa wh ⟨AA, GG, wr, gb⟩ lgx (by omega) (by omega)
  · unfold P_L_law_503
    refine ⟨o1, ?_⟩
    refine ⟨by show _ ≤ 601024; omega, by show _ ≤ 7293034; omega, ?_⟩
    refine mz_X9_wet hI o1 (fun x163 S162 hJ g164 fc165 Kg164 nf1 kz => ?_)
    have wr := wr_keep hI o2 wr kz.1 kz.2 fc165 (by decide) (by decide) (by decide)
    have lgx := lg_keep o1 lgx g164 fc165 (by decide) (by decide) (by decide)
    have tp := tt_fri tp o1 o2 Kg164 fc165 (by decide) (by decide) (by decide) (by decide)
    have fa := fa_fri fa o1 o2 fc165 (by decide) (by decide)
    have hI := hJ
    have l3 := (gr_len g164 o3).trans l3
    have o1 := gr_ob g164 o1
    have o2 := gr_ob g164 o2
    have o3 := gr_ob g164 o3
    intro _
    intro x166 ex166
    refine ⟨sc_in (j := 1) hv hc hL ex166 (by omega) (by decide), ?_⟩
    intro x167 ex167
    intro x168 ex168
    refine ⟨sc_in (j := 2) hv hc hL ex168 (by omega) (by decide), ?_⟩
    intro x169 ex169
    intro x170 ex170
    refine ⟨sc_in (j := 3) hv hc hL ex170 (by omega) (by decide), ?_⟩
    intro x171 ex171
    intro x172 ex172
    refine ⟨sc_in (j := 4) hv hc hL ex172 (by omega) (by decide), ?_⟩
    intro x173 ex173
    intro x174 ex174
    refine ⟨sc_in (j := 5) hv hc hL ex174 (by omega) (by decide), ?_⟩
    intro x175 ex175
    intro x176 ex176
    refine ⟨sc_in (j := 6) hv hc hL ex176 (by omega) (by decide), ?_⟩
    intro x177 ex177
    have xy179 : x177 = x137 := by rw [ex177, ex176, ex137, ex136]
    refine ⟨fun c178 => absurd (xy179.symm.trans c178) c138, fun c178 => ?_⟩
    unfold P_L_law_553
    refine ⟨o2, ?_⟩
    refine ⟨by show _ ≤ 601024; omega, by show _ ≤ 7293034; omega, ?_⟩
    refine mz_X11_wet hI o2 (fun x181 S180 hJ g182 fc183 Kg182 nf2 kz => ?_)
    have wr := wr_keep hI o2 wr kz.1 kz.2 fc183 (by decide) (by decide) (by decide)
    have lgx := lg_keep o1 lgx g182 fc183 (by decide) (by decide) (by decide)
    have tp := tt_fri tp o1 o2 Kg182 fc183 (by decide) (by decide) (by decide) (by decide)
    have fa := fa_fri fa o1 o2 fc183 (by decide) (by decide)
    have wh := wh_set nf1 fc183 (by decide) nf2
    have hI := hJ
    have l3 := (gr_len g182 o3).trans l3
    have o1 := gr_ob g182 o1
    have o2 := gr_ob g182 o2
    have o3 := gr_ob g182 o3
    intro _
    unfold P_L_law_2341
    intro x184 ex184
    have back := hb x184 ex184
    exact back _ _ _ hI o1 o2 o3 l3 tp fa wh ⟨AA, GG, wr, gb⟩ lgx (by omega) (by omega)
set_option maxHeartbeats 4000000 in
set_option maxRecDepth 20000 in
theorem a_L_law_560 {scL : Nat} {scx : Nat → Int32} {Q : Int32 → HS → Prop} {X23 : Nat → Nat → Nat → Int32 → Nat → Nat → HS → Prop} {v1 v2 v3 : Nat} {v4 : Int32} {kk nn : Nat} {S : HS} {c : Nat} (hL : scL ≤ 4096) (hc : 8 * c + 8 ≤ scL) (hb : ∀ x : Int32, x = v4 + (8 : Int32) → ∀ (kk nn : Nat) (T : HS), IV T → ob T v1 9 → ob T v2 11 → ob T v3 14 → hN T v3 = 1 → TT v1 v2 T → fI T v1 7 = fI T v2 13 → WH v1 v2 T → WRy v1 v2 T → LGx v1 T → kk ≤ 200 + 35 * (c + 1) → nn ≤ 13000 + 8200 * (c + 1) → X23 v1 v2 v3 x kk nn T) (h : LI v1 v2 v3 v4 kk nn S c) : P_L_law_560 scL scx Q X23 v1 v2 v3 v4 kk nn S := by
  obtain ⟨hI, o1, o2, o3, l3, tp, fa, wh, wr, lgx, hv, hk, hn⟩ := h
  obtain ⟨AA, GG, wr, gb⟩ := wr
  unfold P_L_law_560
  intro x185 ex185
  refine ⟨sc_in (j := 1) hv hc hL ex185 (by omega) (by decide), ?_⟩
  intro x186 ex186
  intro x187 ex187
  refine ⟨sc_in (j := 2) hv hc hL ex187 (by omega) (by decide), ?_⟩
  intro x188 ex188
  intro x189 ex189
  refine ⟨sc_in (j := 3) hv hc hL ex189 (by omega) (by decide), ?_⟩
  intro x190 ex190
  intro x191 ex191
  refine ⟨sc_in (j := 4) hv hc hL ex191 (by omega) (by decide), ?_⟩
  intro x192 ex192
  intro x193 ex193
  refine ⟨sc_in (j := 5) hv hc hL ex193 (by omega) (by decide), ?_⟩
  intro x194 ex194
  intro x195 ex195
  refine ⟨sc_in (j := 6) hv hc hL ex195 (by omega) (by decide), ?_⟩
  intro x196 ex196
  refine ⟨fun c197 => ?_, fun c197 => ?_⟩
  · unfold P_L_law_606
    refine ⟨o1, ?_⟩
    refine ⟨by show _ ≤ 601024; omega, by show _ ≤ 7293034; omega, ?_⟩
    refine mz_X9_mean hI o1 (fun x199 S198 hJ g200 fc201 Kg200 nf1 kz => ?_)
    have wr := wr_keep hI o2 wr kz.1 kz.2 fc201 (by decide) (by decide) (by decide)
    have lgx := lg_keep o1 lgx g200 fc201 (by decide) (by decide) (by decide)
    have tp := tt_fri tp o1 o2 Kg200 fc201 (by decide) (by decide) (by decide) (by decide)
    have fa := fa_fri fa o1 o2 fc201 (by decide) (by decide)
    have hI := hJ
    have l3 := (gr_len g200 o3).trans l3
    have o1 := gr_ob g200 o1
    have o2 := gr_ob g200 o2
    have o3 := gr_ob g200 o3
    intro _
    intro x202 ex202
    refine ⟨sc_in (j := 1) hv hc hL ex202 (by omega) (by decide), ?_⟩
    intro x203 ex203
    intro x204 ex204
    refine ⟨sc_in (j := 2) hv hc hL ex204 (by omega) (by decide), ?_⟩
    intro x205 ex205
    intro x206 ex206
    refine ⟨sc_in (j := 3) hv hc hL ex206 (by omega) (by decide), ?_⟩
    intro x207 ex207
    intro x208 ex208
    refine ⟨sc_in (j := 4) hv hc hL ex208 (by omega) (by decide), ?_⟩
    intro x209 ex209
    intro x210 ex210
    refine ⟨sc_in (j := 5) hv hc hL ex210 (by omega) (by decide), ?_⟩
    intro x211 ex211
    intro x212 ex212
    refine ⟨sc_in (j := 6) hv hc hL ex212 (by omega) (by decide), ?_⟩
    intro x213 ex213
    have xy215 : x213 = x196 := by rw [ex213, ex212, ex196, ex195]
    refine ⟨fun c214 => ?_, fun c214 => absurd (xy215.trans c197) c214⟩
    unfold P_L_law_656
    refine ⟨o2, ?_⟩
    refine ⟨by show _ ≤ 601024; omega, by show _ ≤ 7293034; omega, ?_⟩
    refine mz_X11_mean hI o2 (fun x217 S216 hJ g218 fc219 Kg218 nf2 kz => ?_)
    have wr := wr_keep hI o2 wr kz.1 kz.2 fc219 (by decide) (by decide) (by decide)
    have lgx := lg_keep o1 lgx g218 fc219 (by decide) (by decide) (by decide)
    have tp := tt_fri tp o1 o2 Kg218 fc219 (by decide) (by decide) (by decide) (by decide)
    have fa := fa_fri fa o1 o2 fc219 (by decide) (by decide)
    have wh := wh_set nf1 fc219 (by decide) nf2
    have hI := hJ
    have l3 := (gr_len g218 o3).trans l3
    have o1 := gr_ob g218 o1
    have o2 := gr_ob g218 o2
    have o3 := gr_ob g218 o3
    intro _
    unfold P_L_law_2341
    intro x220 ex220
    have back := hb x220 ex220
    exact back _ _ _ hI o1 o2 o3 l3 tp fa wh ⟨AA, GG, wr, gb⟩ lgx (by omega) (by omega)
  · unfold P_L_law_606
    refine ⟨o1, ?_⟩
    refine ⟨by show _ ≤ 601024; omega, by show _ ≤ 7293034; omega, ?_⟩
    refine mz_X9_mean hI o1 (fun x222 S221 hJ g223 fc224 Kg223 nf1 kz => ?_)
    have wr := wr_keep hI o2 wr kz.1 kz.2 fc224 (by decide) (by decide) (by decide)
    have lgx := lg_keep o1 lgx g223 fc224 (by decide) (by decide) (by decide)
    have tp := tt_fri tp o1 o2 Kg223 fc224 (by decide) (by decide) (by decide) (by decide)
    have fa := fa_fri fa o1 o2 fc224 (by decide) (by decide)
    have hI := hJ
    have l3 := (gr_len g223 o3).trans l3
    have o1 := gr_ob g223 o1
    have o2 := gr_ob g223 o2
    have o3 := gr_ob g223 o3
    intro _
    intro x225 ex225
    refine ⟨sc_in (j := 1) hv hc hL ex225 (by omega) (by decide), ?_⟩
    intro x226 ex226
    intro x227 ex227
    refine ⟨sc_in (j := 2) hv hc hL ex227 (by omega) (by decide), ?_⟩
    intro x228 ex228
    intro x229 ex229
    refine ⟨sc_in (j := 3) hv hc hL ex229 (by omega) (by decide), ?_⟩
    intro x230 ex230
    intro x231 ex231
    refine ⟨sc_in (j := 4) hv hc hL ex231 (by omega) (by decide), ?_⟩
    intro x232 ex232
    intro x233 ex233
    refine ⟨sc_in (j := 5) hv hc hL ex233 (by omega) (by decide), ?_⟩
    intro x234 ex234
    intro x235 ex235
    refine ⟨sc_in (j := 6) hv hc hL ex235 (by omega) (by decide), ?_⟩
    intro x236 ex236
    have xy238 : x236 = x196 := by rw [ex236, ex235, ex196, ex195]
    refine ⟨fun c237 => absurd (xy238.symm.trans c237) c197, fun c237 => ?_⟩
    unfold P_L_law_656
    refine ⟨o2, ?_⟩
    refine ⟨by show _ ≤ 601024; omega, by show _ ≤ 7293034; omega, ?_⟩
    refine mz_X11_mean hI o2 (fun x240 S239 hJ g241 fc242 Kg241 nf2 kz => ?_)
    have wr := wr_keep hI o2 wr kz.1 kz.2 fc242 (by decide) (by decide) (by decide)
    have lgx := lg_keep o1 lgx g241 fc242 (by decide) (by decide) (by decide)
    have tp := tt_fri tp o1 o2 Kg241 fc242 (by decide) (by decide) (by decide) (by decide)
    have fa := fa_fri fa o1 o2 fc242 (by decide) (by decide)
    have wh := wh_set nf1 fc242 (by decide) nf2
    have hI := hJ
    have l3 := (gr_len g241 o3).trans l3
    have o1 := gr_ob g241 o1
    have o2 := gr_ob g241 o2
    have o3 := gr_ob g241 o3
    intro _
    unfold P_L_law_2341
    intro x243 ex243
    have back := hb x243 ex243
    exact back _ _ _ hI o1 o2 o3 l3 tp fa wh ⟨AA, GG, wr, gb⟩ lgx (by omega) (by omega)
set_option maxHeartbeats 4000000 in
set_option maxRecDepth 20000 in
theorem a_L_law_663 {scL : Nat} {scx : Nat → Int32} {Q : Int32 → HS → Prop} {X23 : Nat → Nat → Nat → Int32 → Nat → Nat → HS → Prop} {v1 v2 v3 : Nat} {v4 : Int32} {kk nn : Nat} {S : HS} {c : Nat} (hL : scL ≤ 4096) (hc : 8 * c + 8 ≤ scL) (hb : ∀ x : Int32, x = v4 + (8 : Int32) → ∀ (kk nn : Nat) (T : HS), IV T → ob T v1 9 → ob T v2 11 → ob T v3 14 → hN T v3 = 1 → TT v1 v2 T → fI T v1 7 = fI T v2 13 → WH v1 v2 T → WRy v1 v2 T → LGx v1 T → kk ≤ 200 + 35 * (c + 1) → nn ≤ 13000 + 8200 * (c + 1) → X23 v1 v2 v3 x kk nn T) (h : LI v1 v2 v3 v4 kk nn S c) : P_L_law_663 scL scx Q X23 v1 v2 v3 v4 kk nn S := by
  obtain ⟨hI, o1, o2, o3, l3, tp, fa, wh, wr, lgx, hv, hk, hn⟩ := h
  obtain ⟨AA, GG, wr, gb⟩ := wr
  unfold P_L_law_663
  intro x244 ex244
  refine ⟨sc_in (j := 1) hv hc hL ex244 (by omega) (by decide), ?_⟩
  intro x245 ex245
  intro x246 ex246
  refine ⟨sc_in (j := 2) hv hc hL ex246 (by omega) (by decide), ?_⟩
  intro x247 ex247
  intro x248 ex248
  refine ⟨sc_in (j := 3) hv hc hL ex248 (by omega) (by decide), ?_⟩
  intro x249 ex249
  refine ⟨o1, ?_⟩
  refine ⟨by show _ ≤ 601024; omega, by show _ ≤ 7293034; omega, ?_⟩
  refine mz_X9_minutes hI o1 (fun x251 S250 hJ g252 fc253 Kg252 nf1 kz => ?_)
  have wr := wr_keep hI o2 wr kz.1 kz.2 fc253 (by decide) (by decide) (by decide)
  have lgx := lg_keep o1 lgx g252 fc253 (by decide) (by decide) (by decide)
  have tp := tt_fri tp o1 o2 Kg252 fc253 (by decide) (by decide) (by decide) (by decide)
  have fa := fa_fri fa o1 o2 fc253 (by decide) (by decide)
  have hI := hJ
  have l3 := (gr_len g252 o3).trans l3
  have o1 := gr_ob g252 o1
  have o2 := gr_ob g252 o2
  have o3 := gr_ob g252 o3
  intro _
  intro x254 ex254
  refine ⟨sc_in (j := 1) hv hc hL ex254 (by omega) (by decide), ?_⟩
  intro x255 ex255
  intro x256 ex256
  refine ⟨sc_in (j := 2) hv hc hL ex256 (by omega) (by decide), ?_⟩
  intro x257 ex257
  intro x258 ex258
  refine ⟨sc_in (j := 3) hv hc hL ex258 (by omega) (by decide), ?_⟩
  intro x259 ex259
  refine ⟨o2, ?_⟩
  refine ⟨by show _ ≤ 601024; omega, by show _ ≤ 7293034; omega, ?_⟩
  refine mz_X11_minutes hI o2 (fun x261 S260 hJ g262 fc263 Kg262 nf2 kz => ?_)
  have wr := wr_keep hI o2 wr kz.1 kz.2 fc263 (by decide) (by decide) (by decide)
  have lgx := lg_keep o1 lgx g262 fc263 (by decide) (by decide) (by decide)
  have tp := tt_fri tp o1 o2 Kg262 fc263 (by decide) (by decide) (by decide) (by decide)
  have fa := fa_fri fa o1 o2 fc263 (by decide) (by decide)
  have wh := wh_set nf1 fc263 (by decide) nf2
  have hI := hJ
  have l3 := (gr_len g262 o3).trans l3
  have o1 := gr_ob g262 o1
  have o2 := gr_ob g262 o2
  have o3 := gr_ob g262 o3
  intro _
  unfold P_L_law_2341
  intro x264 ex264
  have back := hb x264 ex264
  exact back _ _ _ hI o1 o2 o3 l3 tp fa wh ⟨AA, GG, wr, gb⟩ lgx (by omega) (by omega)
set_option maxHeartbeats 4000000 in
set_option maxRecDepth 20000 in
theorem a_L_law_712 {scL : Nat} {scx : Nat → Int32} {Q : Int32 → HS → Prop} {X23 : Nat → Nat → Nat → Int32 → Nat → Nat → HS → Prop} {v1 v2 v3 : Nat} {v4 : Int32} {kk nn : Nat} {S : HS} {c : Nat} (hL : scL ≤ 4096) (hc : 8 * c + 8 ≤ scL) (hb : ∀ x : Int32, x = v4 + (8 : Int32) → ∀ (kk nn : Nat) (T : HS), IV T → ob T v1 9 → ob T v2 11 → ob T v3 14 → hN T v3 = 1 → TT v1 v2 T → fI T v1 7 = fI T v2 13 → WH v1 v2 T → WRy v1 v2 T → LGx v1 T → kk ≤ 200 + 35 * (c + 1) → nn ≤ 13000 + 8200 * (c + 1) → X23 v1 v2 v3 x kk nn T) (h : LI v1 v2 v3 v4 kk nn S c) : P_L_law_712 scL scx Q X23 v1 v2 v3 v4 kk nn S := by
  obtain ⟨hI, o1, o2, o3, l3, tp, fa, wh, wr, lgx, hv, hk, hn⟩ := h
  obtain ⟨AA, GG, wr, gb⟩ := wr
  unfold P_L_law_712
  intro x265 ex265
  refine ⟨sc_in (j := 1) hv hc hL ex265 (by omega) (by decide), ?_⟩
  intro x266 ex266
  intro x267 ex267
  refine ⟨sc_in (j := 2) hv hc hL ex267 (by omega) (by decide), ?_⟩
  intro x268 ex268
  intro x269 ex269
  refine ⟨sc_in (j := 3) hv hc hL ex269 (by omega) (by decide), ?_⟩
  intro x270 ex270
  refine ⟨o1, ?_⟩
  refine ⟨by show _ ≤ 601024; omega, by show _ ≤ 7293034; omega, ?_⟩
  refine mz_X9_air hI o1 (fun x272 S271 hJ g273 fc274 Kg273 nf1 kz => ?_)
  have wr := wr_keep hI o2 wr kz.1 kz.2 fc274 (by decide) (by decide) (by decide)
  have lgx := lg_keep o1 lgx g273 fc274 (by decide) (by decide) (by decide)
  have tp := tt_fri tp o1 o2 Kg273 fc274 (by decide) (by decide) (by decide) (by decide)
  have fa := fa_fri fa o1 o2 fc274 (by decide) (by decide)
  have hI := hJ
  have l3 := (gr_len g273 o3).trans l3
  have o1 := gr_ob g273 o1
  have o2 := gr_ob g273 o2
  have o3 := gr_ob g273 o3
  intro _
  intro x275 ex275
  refine ⟨sc_in (j := 1) hv hc hL ex275 (by omega) (by decide), ?_⟩
  intro x276 ex276
  intro x277 ex277
  refine ⟨sc_in (j := 2) hv hc hL ex277 (by omega) (by decide), ?_⟩
  intro x278 ex278
  intro x279 ex279
  refine ⟨sc_in (j := 3) hv hc hL ex279 (by omega) (by decide), ?_⟩
  intro x280 ex280
  refine ⟨o2, ?_⟩
  refine ⟨by show _ ≤ 601024; omega, by show _ ≤ 7293034; omega, ?_⟩
  refine mz_X11_air hI o2 (fun x282 S281 hJ g283 fc284 Kg283 nf2 kz => ?_)
  have wr := wr_keep hI o2 wr kz.1 kz.2 fc284 (by decide) (by decide) (by decide)
  have lgx := lg_keep o1 lgx g283 fc284 (by decide) (by decide) (by decide)
  have tp := tt_fri tp o1 o2 Kg283 fc284 (by decide) (by decide) (by decide) (by decide)
  have fa := fa_fri fa o1 o2 fc284 (by decide) (by decide)
  have wh := wh_set nf1 fc284 (by decide) nf2
  have hI := hJ
  have l3 := (gr_len g283 o3).trans l3
  have o1 := gr_ob g283 o1
  have o2 := gr_ob g283 o2
  have o3 := gr_ob g283 o3
  intro _
  unfold P_L_law_2341
  intro x285 ex285
  have back := hb x285 ex285
  exact back _ _ _ hI o1 o2 o3 l3 tp fa wh ⟨AA, GG, wr, gb⟩ lgx (by omega) (by omega)
set_option maxHeartbeats 4000000 in
set_option maxRecDepth 20000 in
theorem a_L_law_761 {scL : Nat} {scx : Nat → Int32} {Q : Int32 → HS → Prop} {X23 : Nat → Nat → Nat → Int32 → Nat → Nat → HS → Prop} {v1 v2 v3 : Nat} {v4 : Int32} {kk nn : Nat} {S : HS} {c : Nat} (hL : scL ≤ 4096) (hc : 8 * c + 8 ≤ scL) (hb : ∀ x : Int32, x = v4 + (8 : Int32) → ∀ (kk nn : Nat) (T : HS), IV T → ob T v1 9 → ob T v2 11 → ob T v3 14 → hN T v3 = 1 → TT v1 v2 T → fI T v1 7 = fI T v2 13 → WH v1 v2 T → WRy v1 v2 T → LGx v1 T → kk ≤ 200 + 35 * (c + 1) → nn ≤ 13000 + 8200 * (c + 1) → X23 v1 v2 v3 x kk nn T) (h : LI v1 v2 v3 v4 kk nn S c) : P_L_law_761 scL scx Q X23 v1 v2 v3 v4 kk nn S := by
  obtain ⟨hI, o1, o2, o3, l3, tp, fa, wh, wr, lgx, hv, hk, hn⟩ := h
  obtain ⟨AA, GG, wr, gb⟩ := wr
  unfold P_L_law_761
  intro x286 ex286
  refine ⟨sc_in (j := 1) hv hc hL ex286 (by omega) (by decide), ?_⟩
  intro x287 ex287
  intro x288 ex288
  refine ⟨sc_in (j := 2) hv hc hL ex288 (by omega) (by decide), ?_⟩
  intro x289 ex289
  intro x290 ex290
  refine ⟨sc_in (j := 3) hv hc hL ex290 (by omega) (by decide), ?_⟩
  intro x291 ex291
  intro x292 ex292
  refine ⟨sc_in (j := 4) hv hc hL ex292 (by omega) (by decide), ?_⟩
  intro x293 ex293
  intro x294 ex294
  refine ⟨sc_in (j := 5) hv hc hL ex294 (by omega) (by decide), ?_⟩
  intro x295 ex295
  refine ⟨o1, ?_⟩
  refine ⟨by show _ ≤ 601024; omega, by show _ ≤ 7293034; omega, ?_⟩
  refine mz_X9_held hI o1 (fun x297 S296 hJ g298 fc299 Kg298 nf1 kz => ?_)
  have wr := wr_keep hI o2 wr kz.1 kz.2 fc299 (by decide) (by decide) (by decide)
  have lgx := lg_keep o1 lgx g298 fc299 (by decide) (by decide) (by decide)
  have tp := tt_fri tp o1 o2 Kg298 fc299 (by decide) (by decide) (by decide) (by decide)
  have fa := fa_fri fa o1 o2 fc299 (by decide) (by decide)
  have hI := hJ
  have l3 := (gr_len g298 o3).trans l3
  have o1 := gr_ob g298 o1
  have o2 := gr_ob g298 o2
  have o3 := gr_ob g298 o3
  intro _
  intro x300 ex300
  refine ⟨sc_in (j := 1) hv hc hL ex300 (by omega) (by decide), ?_⟩
  intro x301 ex301
  intro x302 ex302
  refine ⟨sc_in (j := 2) hv hc hL ex302 (by omega) (by decide), ?_⟩
  intro x303 ex303
  intro x304 ex304
  refine ⟨sc_in (j := 3) hv hc hL ex304 (by omega) (by decide), ?_⟩
  intro x305 ex305
  intro x306 ex306
  refine ⟨sc_in (j := 4) hv hc hL ex306 (by omega) (by decide), ?_⟩
  intro x307 ex307
  intro x308 ex308
  refine ⟨sc_in (j := 5) hv hc hL ex308 (by omega) (by decide), ?_⟩
  intro x309 ex309
  refine ⟨o2, ?_⟩
  refine ⟨by show _ ≤ 601024; omega, by show _ ≤ 7293034; omega, ?_⟩
  refine mz_X11_held hI o2 (fun x311 S310 hJ g312 fc313 Kg312 nf2 kz => ?_)
  have wr := wr_keep hI o2 wr kz.1 kz.2 fc313 (by decide) (by decide) (by decide)
  have lgx := lg_keep o1 lgx g312 fc313 (by decide) (by decide) (by decide)
  have tp := tt_fri tp o1 o2 Kg312 fc313 (by decide) (by decide) (by decide) (by decide)
  have fa := fa_fri fa o1 o2 fc313 (by decide) (by decide)
  have wh := wh_set nf1 fc313 (by decide) nf2
  have hI := hJ
  have l3 := (gr_len g312 o3).trans l3
  have o1 := gr_ob g312 o1
  have o2 := gr_ob g312 o2
  have o3 := gr_ob g312 o3
  intro _
  unfold P_L_law_2341
  intro x314 ex314
  have back := hb x314 ex314
  exact back _ _ _ hI o1 o2 o3 l3 tp fa wh ⟨AA, GG, wr, gb⟩ lgx (by omega) (by omega)
set_option maxHeartbeats 4000000 in
set_option maxRecDepth 20000 in
theorem a_L_law_834 {scL : Nat} {scx : Nat → Int32} {Q : Int32 → HS → Prop} {X23 : Nat → Nat → Nat → Int32 → Nat → Nat → HS → Prop} {v1 v2 v3 : Nat} {v4 : Int32} {kk nn : Nat} {S : HS} {c : Nat} (hL : scL ≤ 4096) (hc : 8 * c + 8 ≤ scL) (hb : ∀ x : Int32, x = v4 + (8 : Int32) → ∀ (kk nn : Nat) (T : HS), IV T → ob T v1 9 → ob T v2 11 → ob T v3 14 → hN T v3 = 1 → TT v1 v2 T → fI T v1 7 = fI T v2 13 → WH v1 v2 T → WRy v1 v2 T → LGx v1 T → kk ≤ 200 + 35 * (c + 1) → nn ≤ 13000 + 8200 * (c + 1) → X23 v1 v2 v3 x kk nn T) (h : LI v1 v2 v3 v4 kk nn S c) : P_L_law_834 scL scx Q X23 v1 v2 v3 v4 kk nn S := by
  obtain ⟨hI, o1, o2, o3, l3, tp, fa, wh, wr, lgx, hv, hk, hn⟩ := h
  obtain ⟨AA, GG, wr, gb⟩ := wr
  unfold P_L_law_834
  intro x315 ex315
  refine ⟨sc_in (j := 1) hv hc hL ex315 (by omega) (by decide), ?_⟩
  intro x316 ex316
  intro x317 ex317
  refine ⟨sc_in (j := 2) hv hc hL ex317 (by omega) (by decide), ?_⟩
  intro x318 ex318
  intro x319 ex319
  refine ⟨sc_in (j := 3) hv hc hL ex319 (by omega) (by decide), ?_⟩
  intro x320 ex320
  intro x321 ex321
  refine ⟨sc_in (j := 4) hv hc hL ex321 (by omega) (by decide), ?_⟩
  intro x322 ex322
  refine ⟨o1, ?_⟩
  refine ⟨by show _ ≤ 601024; omega, by show _ ≤ 7293034; omega, ?_⟩
  refine mz_X9_best hI o1 (fun x324 S323 hJ g325 fc326 Kg325 nf1 kz => ?_)
  have wr := wr_keep hI o2 wr kz.1 kz.2 fc326 (by decide) (by decide) (by decide)
  have lgx := lg_keep o1 lgx g325 fc326 (by decide) (by decide) (by decide)
  have tp := tt_fri tp o1 o2 Kg325 fc326 (by decide) (by decide) (by decide) (by decide)
  have fa := fa_fri fa o1 o2 fc326 (by decide) (by decide)
  have hI := hJ
  have l3 := (gr_len g325 o3).trans l3
  have o1 := gr_ob g325 o1
  have o2 := gr_ob g325 o2
  have o3 := gr_ob g325 o3
  intro _
  intro x327 ex327
  refine ⟨sc_in (j := 1) hv hc hL ex327 (by omega) (by decide), ?_⟩
  intro x328 ex328
  intro x329 ex329
  refine ⟨sc_in (j := 2) hv hc hL ex329 (by omega) (by decide), ?_⟩
  intro x330 ex330
  intro x331 ex331
  refine ⟨sc_in (j := 3) hv hc hL ex331 (by omega) (by decide), ?_⟩
  intro x332 ex332
  intro x333 ex333
  refine ⟨sc_in (j := 4) hv hc hL ex333 (by omega) (by decide), ?_⟩
  intro x334 ex334
  refine ⟨o2, ?_⟩
  refine ⟨by show _ ≤ 601024; omega, by show _ ≤ 7293034; omega, ?_⟩
  refine mz_X11_best hI o2 (fun x336 S335 hJ g337 fc338 Kg337 nf2 kz => ?_)
  have wr := wr_keep hI o2 wr kz.1 kz.2 fc338 (by decide) (by decide) (by decide)
  have lgx := lg_keep o1 lgx g337 fc338 (by decide) (by decide) (by decide)
  have tp := tt_fri tp o1 o2 Kg337 fc338 (by decide) (by decide) (by decide) (by decide)
  have fa := fa_fri fa o1 o2 fc338 (by decide) (by decide)
  have wh := wh_set nf1 fc338 (by decide) nf2
  have hI := hJ
  have l3 := (gr_len g337 o3).trans l3
  have o1 := gr_ob g337 o1
  have o2 := gr_ob g337 o2
  have o3 := gr_ob g337 o3
  intro _
  unfold P_L_law_2341
  intro x339 ex339
  have back := hb x339 ex339
  exact back _ _ _ hI o1 o2 o3 l3 tp fa wh ⟨AA, GG, wr, gb⟩ lgx (by omega) (by omega)
set_option maxHeartbeats 4000000 in
set_option maxRecDepth 20000 in
theorem a_L_law_895 {scL : Nat} {scx : Nat → Int32} {Q : Int32 → HS → Prop} {X23 : Nat → Nat → Nat → Int32 → Nat → Nat → HS → Prop} {v1 v2 v3 : Nat} {v4 : Int32} {kk nn : Nat} {S : HS} {c : Nat} (hL : scL ≤ 4096) (hc : 8 * c + 8 ≤ scL) (hb : ∀ x : Int32, x = v4 + (8 : Int32) → ∀ (kk nn : Nat) (T : HS), IV T → ob T v1 9 → ob T v2 11 → ob T v3 14 → hN T v3 = 1 → TT v1 v2 T → fI T v1 7 = fI T v2 13 → WH v1 v2 T → WRy v1 v2 T → LGx v1 T → kk ≤ 200 + 35 * (c + 1) → nn ≤ 13000 + 8200 * (c + 1) → X23 v1 v2 v3 x kk nn T) (h : LI v1 v2 v3 v4 kk nn S c) : P_L_law_895 scL scx Q X23 v1 v2 v3 v4 kk nn S := by
  obtain ⟨hI, o1, o2, o3, l3, tp, fa, wh, wr, lgx, hv, hk, hn⟩ := h
  obtain ⟨AA, GG, wr, gb⟩ := wr
  unfold P_L_law_895
  intro x340 ex340
  refine ⟨sc_in (j := 1) hv hc hL ex340 (by omega) (by decide), ?_⟩
  intro x341 ex341
  intro x342 ex342
  refine ⟨sc_in (j := 2) hv hc hL ex342 (by omega) (by decide), ?_⟩
  intro x343 ex343
  intro x344 ex344
  refine ⟨sc_in (j := 3) hv hc hL ex344 (by omega) (by decide), ?_⟩
  intro x345 ex345
  intro x346 ex346
  refine ⟨sc_in (j := 4) hv hc hL ex346 (by omega) (by decide), ?_⟩
  intro x347 ex347
  intro x348 ex348
  refine ⟨sc_in (j := 5) hv hc hL ex348 (by omega) (by decide), ?_⟩
  intro x349 ex349
  refine ⟨fun c350 => ?_, fun c350 => ?_⟩
  · unfold P_L_law_934
    refine ⟨o1, ?_⟩
    refine ⟨by show _ ≤ 601024; omega, by show _ ≤ 7293034; omega, ?_⟩
    refine mz_X9_saves hI o1 (fun x352 S351 hJ g353 fc354 Kg353 nf1 kz => ?_)
    have wr := wr_keep hI o2 wr kz.1 kz.2 fc354 (by decide) (by decide) (by decide)
    have lgx := lg_keep o1 lgx g353 fc354 (by decide) (by decide) (by decide)
    have tp := tt_fri tp o1 o2 Kg353 fc354 (by decide) (by decide) (by decide) (by decide)
    have fa := fa_fri fa o1 o2 fc354 (by decide) (by decide)
    have hI := hJ
    have l3 := (gr_len g353 o3).trans l3
    have o1 := gr_ob g353 o1
    have o2 := gr_ob g353 o2
    have o3 := gr_ob g353 o3
    intro _
    intro x355 ex355
    refine ⟨sc_in (j := 1) hv hc hL ex355 (by omega) (by decide), ?_⟩
    intro x356 ex356
    intro x357 ex357
    refine ⟨sc_in (j := 2) hv hc hL ex357 (by omega) (by decide), ?_⟩
    intro x358 ex358
    intro x359 ex359
    refine ⟨sc_in (j := 3) hv hc hL ex359 (by omega) (by decide), ?_⟩
    intro x360 ex360
    intro x361 ex361
    refine ⟨sc_in (j := 4) hv hc hL ex361 (by omega) (by decide), ?_⟩
    intro x362 ex362
    intro x363 ex363
    refine ⟨sc_in (j := 5) hv hc hL ex363 (by omega) (by decide), ?_⟩
    intro x364 ex364
    have xy366 : x364 = x349 := by rw [ex364, ex363, ex349, ex348]
    refine ⟨fun c365 => ?_, fun c365 => absurd (xy366.trans c350) c365⟩
    unfold P_L_law_977
    refine ⟨o2, ?_⟩
    refine ⟨by show _ ≤ 601024; omega, by show _ ≤ 7293034; omega, ?_⟩
    refine mz_X11_saves hI o2 (fun x368 S367 hJ g369 fc370 Kg369 nf2 kz => ?_)
    have wr := wr_keep hI o2 wr kz.1 kz.2 fc370 (by decide) (by decide) (by decide)
    have lgx := lg_keep o1 lgx g369 fc370 (by decide) (by decide) (by decide)
    have tp := tt_fri tp o1 o2 Kg369 fc370 (by decide) (by decide) (by decide) (by decide)
    have fa := fa_fri fa o1 o2 fc370 (by decide) (by decide)
    have wh := wh_set nf1 fc370 (by decide) nf2
    have hI := hJ
    have l3 := (gr_len g369 o3).trans l3
    have o1 := gr_ob g369 o1
    have o2 := gr_ob g369 o2
    have o3 := gr_ob g369 o3
    intro _
    unfold P_L_law_2341
    intro x371 ex371
    have back := hb x371 ex371
    exact back _ _ _ hI o1 o2 o3 l3 tp fa wh ⟨AA, GG, wr, gb⟩ lgx (by omega) (by omega)
  · unfold P_L_law_934
    refine ⟨o1, ?_⟩
    refine ⟨by show _ ≤ 601024; omega, by show _ ≤ 7293034; omega, ?_⟩
    refine mz_X9_saves hI o1 (fun x373 S372 hJ g374 fc375 Kg374 nf1 kz => ?_)
    have wr := wr_keep hI o2 wr kz.1 kz.2 fc375 (by decide) (by decide) (by decide)
    have lgx := lg_keep o1 lgx g374 fc375 (by decide) (by decide) (by decide)
    have tp := tt_fri tp o1 o2 Kg374 fc375 (by decide) (by decide) (by decide) (by decide)
    have fa := fa_fri fa o1 o2 fc375 (by decide) (by decide)
    have hI := hJ
    have l3 := (gr_len g374 o3).trans l3
    have o1 := gr_ob g374 o1
    have o2 := gr_ob g374 o2
    have o3 := gr_ob g374 o3
    intro _
    intro x376 ex376
    refine ⟨sc_in (j := 1) hv hc hL ex376 (by omega) (by decide), ?_⟩
    intro x377 ex377
    intro x378 ex378
    refine ⟨sc_in (j := 2) hv hc hL ex378 (by omega) (by decide), ?_⟩
    intro x379 ex379
    intro x380 ex380
    refine ⟨sc_in (j := 3) hv hc hL ex380 (by omega) (by decide), ?_⟩
    intro x381 ex381
    intro x382 ex382
    refine ⟨sc_in (j := 4) hv hc hL ex382 (by omega) (by decide), ?_⟩
    intro x383 ex383
    intro x384 ex384
    refine ⟨sc_in (j := 5) hv hc hL ex384 (by omega) (by decide), ?_⟩
    intro x385 ex385
    have xy387 : x385 = x349 := by rw [ex385, ex384, ex349, ex348]
    refine ⟨fun c386 => absurd (xy387.symm.trans c386) c350, fun c386 => ?_⟩
    unfold P_L_law_977
    refine ⟨o2, ?_⟩
    refine ⟨by show _ ≤ 601024; omega, by show _ ≤ 7293034; omega, ?_⟩
    refine mz_X11_saves hI o2 (fun x389 S388 hJ g390 fc391 Kg390 nf2 kz => ?_)
    have wr := wr_keep hI o2 wr kz.1 kz.2 fc391 (by decide) (by decide) (by decide)
    have lgx := lg_keep o1 lgx g390 fc391 (by decide) (by decide) (by decide)
    have tp := tt_fri tp o1 o2 Kg390 fc391 (by decide) (by decide) (by decide) (by decide)
    have fa := fa_fri fa o1 o2 fc391 (by decide) (by decide)
    have wh := wh_set nf1 fc391 (by decide) nf2
    have hI := hJ
    have l3 := (gr_len g390 o3).trans l3
    have o1 := gr_ob g390 o1
    have o2 := gr_ob g390 o2
    have o3 := gr_ob g390 o3
    intro _
    unfold P_L_law_2341
    intro x392 ex392
    have back := hb x392 ex392
    exact back _ _ _ hI o1 o2 o3 l3 tp fa wh ⟨AA, GG, wr, gb⟩ lgx (by omega) (by omega)
set_option maxHeartbeats 4000000 in
set_option maxRecDepth 20000 in
theorem a_L_law_984 {scL : Nat} {scx : Nat → Int32} {Q : Int32 → HS → Prop} {X23 : Nat → Nat → Nat → Int32 → Nat → Nat → HS → Prop} {v1 v2 v3 : Nat} {v4 : Int32} {kk nn : Nat} {S : HS} {c : Nat} (hL : scL ≤ 4096) (hc : 8 * c + 8 ≤ scL) (hb : ∀ x : Int32, x = v4 + (8 : Int32) → ∀ (kk nn : Nat) (T : HS), IV T → ob T v1 9 → ob T v2 11 → ob T v3 14 → hN T v3 = 1 → TT v1 v2 T → fI T v1 7 = fI T v2 13 → WH v1 v2 T → WRy v1 v2 T → LGx v1 T → kk ≤ 200 + 35 * (c + 1) → nn ≤ 13000 + 8200 * (c + 1) → X23 v1 v2 v3 x kk nn T) (h : LI v1 v2 v3 v4 kk nn S c) : P_L_law_984 scL scx Q X23 v1 v2 v3 v4 kk nn S := by
  obtain ⟨hI, o1, o2, o3, l3, tp, fa, wh, wr, lgx, hv, hk, hn⟩ := h
  obtain ⟨AA, GG, wr, gb⟩ := wr
  unfold P_L_law_984
  intro x393 ex393
  refine ⟨sc_in (j := 1) hv hc hL ex393 (by omega) (by decide), ?_⟩
  intro x394 ex394
  intro x395 ex395
  refine ⟨sc_in (j := 2) hv hc hL ex395 (by omega) (by decide), ?_⟩
  intro x396 ex396
  intro x397 ex397
  refine ⟨sc_in (j := 3) hv hc hL ex397 (by omega) (by decide), ?_⟩
  intro x398 ex398
  intro x399 ex399
  refine ⟨sc_in (j := 4) hv hc hL ex399 (by omega) (by decide), ?_⟩
  intro x400 ex400
  refine ⟨o1, ?_⟩
  refine ⟨by show _ ≤ 601024; omega, by show _ ≤ 7293034; omega, ?_⟩
  refine mz_X9_worst hI o1 (fun x402 S401 hJ g403 fc404 Kg403 nf1 kz => ?_)
  have wr := wr_keep hI o2 wr kz.1 kz.2 fc404 (by decide) (by decide) (by decide)
  have lgx := lg_keep o1 lgx g403 fc404 (by decide) (by decide) (by decide)
  have tp := tt_fri tp o1 o2 Kg403 fc404 (by decide) (by decide) (by decide) (by decide)
  have fa := fa_fri fa o1 o2 fc404 (by decide) (by decide)
  have hI := hJ
  have l3 := (gr_len g403 o3).trans l3
  have o1 := gr_ob g403 o1
  have o2 := gr_ob g403 o2
  have o3 := gr_ob g403 o3
  intro _
  intro x405 ex405
  refine ⟨sc_in (j := 1) hv hc hL ex405 (by omega) (by decide), ?_⟩
  intro x406 ex406
  intro x407 ex407
  refine ⟨sc_in (j := 2) hv hc hL ex407 (by omega) (by decide), ?_⟩
  intro x408 ex408
  intro x409 ex409
  refine ⟨sc_in (j := 3) hv hc hL ex409 (by omega) (by decide), ?_⟩
  intro x410 ex410
  intro x411 ex411
  refine ⟨sc_in (j := 4) hv hc hL ex411 (by omega) (by decide), ?_⟩
  intro x412 ex412
  refine ⟨o2, ?_⟩
  refine ⟨by show _ ≤ 601024; omega, by show _ ≤ 7293034; omega, ?_⟩
  refine mz_X11_worst hI o2 (fun x414 S413 hJ g415 fc416 Kg415 nf2 kz => ?_)
  have wr := wr_keep hI o2 wr kz.1 kz.2 fc416 (by decide) (by decide) (by decide)
  have lgx := lg_keep o1 lgx g415 fc416 (by decide) (by decide) (by decide)
  have tp := tt_fri tp o1 o2 Kg415 fc416 (by decide) (by decide) (by decide) (by decide)
  have fa := fa_fri fa o1 o2 fc416 (by decide) (by decide)
  have wh := wh_set nf1 fc416 (by decide) nf2
  have hI := hJ
  have l3 := (gr_len g415 o3).trans l3
  have o1 := gr_ob g415 o1
  have o2 := gr_ob g415 o2
  have o3 := gr_ob g415 o3
  intro _
  unfold P_L_law_2341
  intro x417 ex417
  have back := hb x417 ex417
  exact back _ _ _ hI o1 o2 o3 l3 tp fa wh ⟨AA, GG, wr, gb⟩ lgx (by omega) (by omega)
set_option maxHeartbeats 4000000 in
set_option maxRecDepth 20000 in
theorem a_L_law_1045 {scL : Nat} {scx : Nat → Int32} {Q : Int32 → HS → Prop} {X23 : Nat → Nat → Nat → Int32 → Nat → Nat → HS → Prop} {v1 v2 v3 : Nat} {v4 : Int32} {kk nn : Nat} {S : HS} {c : Nat} (hL : scL ≤ 4096) (hc : 8 * c + 8 ≤ scL) (hb : ∀ x : Int32, x = v4 + (8 : Int32) → ∀ (kk nn : Nat) (T : HS), IV T → ob T v1 9 → ob T v2 11 → ob T v3 14 → hN T v3 = 1 → TT v1 v2 T → fI T v1 7 = fI T v2 13 → WH v1 v2 T → WRy v1 v2 T → LGx v1 T → kk ≤ 200 + 35 * (c + 1) → nn ≤ 13000 + 8200 * (c + 1) → X23 v1 v2 v3 x kk nn T) (h : LI v1 v2 v3 v4 kk nn S c) : P_L_law_1045 scL scx Q X23 v1 v2 v3 v4 kk nn S := by
  obtain ⟨hI, o1, o2, o3, l3, tp, fa, wh, wr, lgx, hv, hk, hn⟩ := h
  obtain ⟨AA, GG, wr, gb⟩ := wr
  unfold P_L_law_1045
  intro x418 ex418
  refine ⟨sc_in (j := 1) hv hc hL ex418 (by omega) (by decide), ?_⟩
  intro x419 ex419
  intro x420 ex420
  refine ⟨sc_in (j := 2) hv hc hL ex420 (by omega) (by decide), ?_⟩
  intro x421 ex421
  intro x422 ex422
  refine ⟨sc_in (j := 3) hv hc hL ex422 (by omega) (by decide), ?_⟩
  intro x423 ex423
  intro x424 ex424
  refine ⟨sc_in (j := 4) hv hc hL ex424 (by omega) (by decide), ?_⟩
  intro x425 ex425
  refine ⟨o1, ?_⟩
  refine ⟨by show _ ≤ 601024; omega, by show _ ≤ 7293034; omega, ?_⟩
  refine mz_X9_even hI o1 (fun x427 S426 hJ g428 fc429 Kg428 nf1 kz => ?_)
  have wr := wr_keep hI o2 wr kz.1 kz.2 fc429 (by decide) (by decide) (by decide)
  have lgx := lg_keep o1 lgx g428 fc429 (by decide) (by decide) (by decide)
  have tp := tt_fri tp o1 o2 Kg428 fc429 (by decide) (by decide) (by decide) (by decide)
  have fa := fa_fri fa o1 o2 fc429 (by decide) (by decide)
  have hI := hJ
  have l3 := (gr_len g428 o3).trans l3
  have o1 := gr_ob g428 o1
  have o2 := gr_ob g428 o2
  have o3 := gr_ob g428 o3
  intro _
  intro x430 ex430
  refine ⟨sc_in (j := 1) hv hc hL ex430 (by omega) (by decide), ?_⟩
  intro x431 ex431
  intro x432 ex432
  refine ⟨sc_in (j := 2) hv hc hL ex432 (by omega) (by decide), ?_⟩
  intro x433 ex433
  intro x434 ex434
  refine ⟨sc_in (j := 3) hv hc hL ex434 (by omega) (by decide), ?_⟩
  intro x435 ex435
  intro x436 ex436
  refine ⟨sc_in (j := 4) hv hc hL ex436 (by omega) (by decide), ?_⟩
  intro x437 ex437
  refine ⟨o2, ?_⟩
  refine ⟨by show _ ≤ 601024; omega, by show _ ≤ 7293034; omega, ?_⟩
  refine mz_X11_even hI o2 (fun x439 S438 hJ g440 fc441 Kg440 nf2 kz => ?_)
  have wr := wr_keep hI o2 wr kz.1 kz.2 fc441 (by decide) (by decide) (by decide)
  have lgx := lg_keep o1 lgx g440 fc441 (by decide) (by decide) (by decide)
  have tp := tt_fri tp o1 o2 Kg440 fc441 (by decide) (by decide) (by decide) (by decide)
  have fa := fa_fri fa o1 o2 fc441 (by decide) (by decide)
  have wh := wh_set nf1 fc441 (by decide) nf2
  have hI := hJ
  have l3 := (gr_len g440 o3).trans l3
  have o1 := gr_ob g440 o1
  have o2 := gr_ob g440 o2
  have o3 := gr_ob g440 o3
  intro _
  unfold P_L_law_2341
  intro x442 ex442
  have back := hb x442 ex442
  exact back _ _ _ hI o1 o2 o3 l3 tp fa wh ⟨AA, GG, wr, gb⟩ lgx (by omega) (by omega)
set_option maxHeartbeats 4000000 in
set_option maxRecDepth 20000 in
theorem a_L_law_1106 {scL : Nat} {scx : Nat → Int32} {Q : Int32 → HS → Prop} {X23 : Nat → Nat → Nat → Int32 → Nat → Nat → HS → Prop} {v1 v2 v3 : Nat} {v4 : Int32} {kk nn : Nat} {S : HS} {c : Nat} (hL : scL ≤ 4096) (hc : 8 * c + 8 ≤ scL) (hb : ∀ x : Int32, x = v4 + (8 : Int32) → ∀ (kk nn : Nat) (T : HS), IV T → ob T v1 9 → ob T v2 11 → ob T v3 14 → hN T v3 = 1 → TT v1 v2 T → fI T v1 7 = fI T v2 13 → WH v1 v2 T → WRy v1 v2 T → LGx v1 T → kk ≤ 200 + 35 * (c + 1) → nn ≤ 13000 + 8200 * (c + 1) → X23 v1 v2 v3 x kk nn T) (h : LI v1 v2 v3 v4 kk nn S c) : P_L_law_1106 scL scx Q X23 v1 v2 v3 v4 kk nn S := by
  obtain ⟨hI, o1, o2, o3, l3, tp, fa, wh, wr, lgx, hv, hk, hn⟩ := h
  obtain ⟨AA, GG, wr, gb⟩ := wr
  unfold P_L_law_1106
  intro x443 ex443
  refine ⟨sc_in (j := 1) hv hc hL ex443 (by omega) (by decide), ?_⟩
  intro x444 ex444
  intro x445 ex445
  refine ⟨sc_in (j := 2) hv hc hL ex445 (by omega) (by decide), ?_⟩
  intro x446 ex446
  intro x447 ex447
  refine ⟨sc_in (j := 3) hv hc hL ex447 (by omega) (by decide), ?_⟩
  intro x448 ex448
  intro x449 ex449
  refine ⟨sc_in (j := 4) hv hc hL ex449 (by omega) (by decide), ?_⟩
  intro x450 ex450
  refine ⟨fun c451 => ?_, fun c451 => ?_⟩
  · unfold P_L_law_1139
    refine ⟨o1, ?_⟩
    refine ⟨by show _ ≤ 601024; omega, by show _ ≤ 7293034; omega, ?_⟩
    refine mz_X9_round hI o1 (fun x453 S452 hJ g454 fc455 Kg454 nf1 kz => ?_)
    have wr := wr_keep hI o2 wr kz.1 kz.2 fc455 (by decide) (by decide) (by decide)
    have lgx := lg_keep o1 lgx g454 fc455 (by decide) (by decide) (by decide)
    have tp := tt_fri tp o1 o2 Kg454 fc455 (by decide) (by decide) (by decide) (by decide)
    have fa := fa_fri fa o1 o2 fc455 (by decide) (by decide)
    have hI := hJ
    have l3 := (gr_len g454 o3).trans l3
    have o1 := gr_ob g454 o1
    have o2 := gr_ob g454 o2
    have o3 := gr_ob g454 o3
    intro _
    intro x456 ex456
    refine ⟨sc_in (j := 1) hv hc hL ex456 (by omega) (by decide), ?_⟩
    intro x457 ex457
    intro x458 ex458
    refine ⟨sc_in (j := 2) hv hc hL ex458 (by omega) (by decide), ?_⟩
    intro x459 ex459
    intro x460 ex460
    refine ⟨sc_in (j := 3) hv hc hL ex460 (by omega) (by decide), ?_⟩
    intro x461 ex461
    intro x462 ex462
    refine ⟨sc_in (j := 4) hv hc hL ex462 (by omega) (by decide), ?_⟩
    intro x463 ex463
    have xy465 : x463 = x450 := by rw [ex463, ex462, ex450, ex449]
    refine ⟨fun c464 => ?_, fun c464 => absurd (xy465.trans c451) c464⟩
    unfold P_L_law_1176
    refine ⟨o2, ?_⟩
    refine ⟨by show _ ≤ 601024; omega, by show _ ≤ 7293034; omega, ?_⟩
    refine mz_X11_round hI o2 (fun x467 S466 hJ g468 fc469 Kg468 nf2 kz => ?_)
    have wr := wr_keep hI o2 wr kz.1 kz.2 fc469 (by decide) (by decide) (by decide)
    have lgx := lg_keep o1 lgx g468 fc469 (by decide) (by decide) (by decide)
    have tp := tt_fri tp o1 o2 Kg468 fc469 (by decide) (by decide) (by decide) (by decide)
    have fa := fa_fri fa o1 o2 fc469 (by decide) (by decide)
    have wh := wh_set nf1 fc469 (by decide) nf2
    have hI := hJ
    have l3 := (gr_len g468 o3).trans l3
    have o1 := gr_ob g468 o1
    have o2 := gr_ob g468 o2
    have o3 := gr_ob g468 o3
    intro _
    unfold P_L_law_2341
    intro x470 ex470
    have back := hb x470 ex470
    exact back _ _ _ hI o1 o2 o3 l3 tp fa wh ⟨AA, GG, wr, gb⟩ lgx (by omega) (by omega)
  · unfold P_L_law_1139
    refine ⟨o1, ?_⟩
    refine ⟨by show _ ≤ 601024; omega, by show _ ≤ 7293034; omega, ?_⟩
    refine mz_X9_round hI o1 (fun x472 S471 hJ g473 fc474 Kg473 nf1 kz => ?_)
    have wr := wr_keep hI o2 wr kz.1 kz.2 fc474 (by decide) (by decide) (by decide)
    have lgx := lg_keep o1 lgx g473 fc474 (by decide) (by decide) (by decide)
    have tp := tt_fri tp o1 o2 Kg473 fc474 (by decide) (by decide) (by decide) (by decide)
    have fa := fa_fri fa o1 o2 fc474 (by decide) (by decide)
    have hI := hJ
    have l3 := (gr_len g473 o3).trans l3
    have o1 := gr_ob g473 o1
    have o2 := gr_ob g473 o2
    have o3 := gr_ob g473 o3
    intro _
    intro x475 ex475
    refine ⟨sc_in (j := 1) hv hc hL ex475 (by omega) (by decide), ?_⟩
    intro x476 ex476
    intro x477 ex477
    refine ⟨sc_in (j := 2) hv hc hL ex477 (by omega) (by decide), ?_⟩
    intro x478 ex478
    intro x479 ex479
    refine ⟨sc_in (j := 3) hv hc hL ex479 (by omega) (by decide), ?_⟩
    intro x480 ex480
    intro x481 ex481
    refine ⟨sc_in (j := 4) hv hc hL ex481 (by omega) (by decide), ?_⟩
    intro x482 ex482
    have xy484 : x482 = x450 := by rw [ex482, ex481, ex450, ex449]
    refine ⟨fun c483 => absurd (xy484.symm.trans c483) c451, fun c483 => ?_⟩
    unfold P_L_law_1176
    refine ⟨o2, ?_⟩
    refine ⟨by show _ ≤ 601024; omega, by show _ ≤ 7293034; omega, ?_⟩
    refine mz_X11_round hI o2 (fun x486 S485 hJ g487 fc488 Kg487 nf2 kz => ?_)
    have wr := wr_keep hI o2 wr kz.1 kz.2 fc488 (by decide) (by decide) (by decide)
    have lgx := lg_keep o1 lgx g487 fc488 (by decide) (by decide) (by decide)
    have tp := tt_fri tp o1 o2 Kg487 fc488 (by decide) (by decide) (by decide) (by decide)
    have fa := fa_fri fa o1 o2 fc488 (by decide) (by decide)
    have wh := wh_set nf1 fc488 (by decide) nf2
    have hI := hJ
    have l3 := (gr_len g487 o3).trans l3
    have o1 := gr_ob g487 o1
    have o2 := gr_ob g487 o2
    have o3 := gr_ob g487 o3
    intro _
    unfold P_L_law_2341
    intro x489 ex489
    have back := hb x489 ex489
    exact back _ _ _ hI o1 o2 o3 l3 tp fa wh ⟨AA, GG, wr, gb⟩ lgx (by omega) (by omega)
set_option maxHeartbeats 4000000 in
set_option maxRecDepth 20000 in
theorem a_L_law_1183 {scL : Nat} {scx : Nat → Int32} {Q : Int32 → HS → Prop} {X23 : Nat → Nat → Nat → Int32 → Nat → Nat → HS → Prop} {v1 v2 v3 : Nat} {v4 : Int32} {kk nn : Nat} {S : HS} {c : Nat} (hL : scL ≤ 4096) (hc : 8 * c + 8 ≤ scL) (hb : ∀ x : Int32, x = v4 + (8 : Int32) → ∀ (kk nn : Nat) (T : HS), IV T → ob T v1 9 → ob T v2 11 → ob T v3 14 → hN T v3 = 1 → TT v1 v2 T → fI T v1 7 = fI T v2 13 → WH v1 v2 T → WRy v1 v2 T → LGx v1 T → kk ≤ 200 + 35 * (c + 1) → nn ≤ 13000 + 8200 * (c + 1) → X23 v1 v2 v3 x kk nn T) (h : LI v1 v2 v3 v4 kk nn S c) : P_L_law_1183 scL scx Q X23 v1 v2 v3 v4 kk nn S := by
  obtain ⟨hI, o1, o2, o3, l3, tp, fa, wh, wr, lgx, hv, hk, hn⟩ := h
  obtain ⟨AA, GG, wr, gb⟩ := wr
  unfold P_L_law_1183
  intro x490 ex490
  refine ⟨sc_in (j := 1) hv hc hL ex490 (by omega) (by decide), ?_⟩
  intro x491 ex491
  intro x492 ex492
  refine ⟨sc_in (j := 2) hv hc hL ex492 (by omega) (by decide), ?_⟩
  intro x493 ex493
  intro x494 ex494
  refine ⟨sc_in (j := 3) hv hc hL ex494 (by omega) (by decide), ?_⟩
  intro x495 ex495
  refine ⟨o1, ?_⟩
  refine ⟨by show _ ≤ 601024; omega, by show _ ≤ 7293034; omega, ?_⟩
  refine mz_X9_driest hI o1 (fun x497 S496 hJ g498 fc499 Kg498 nf1 kz => ?_)
  have wr := wr_keep hI o2 wr kz.1 kz.2 fc499 (by decide) (by decide) (by decide)
  have lgx := lg_keep o1 lgx g498 fc499 (by decide) (by decide) (by decide)
  have tp := tt_fri tp o1 o2 Kg498 fc499 (by decide) (by decide) (by decide) (by decide)
  have fa := fa_fri fa o1 o2 fc499 (by decide) (by decide)
  have hI := hJ
  have l3 := (gr_len g498 o3).trans l3
  have o1 := gr_ob g498 o1
  have o2 := gr_ob g498 o2
  have o3 := gr_ob g498 o3
  intro _
  intro x500 ex500
  refine ⟨sc_in (j := 1) hv hc hL ex500 (by omega) (by decide), ?_⟩
  intro x501 ex501
  intro x502 ex502
  refine ⟨sc_in (j := 2) hv hc hL ex502 (by omega) (by decide), ?_⟩
  intro x503 ex503
  intro x504 ex504
  refine ⟨sc_in (j := 3) hv hc hL ex504 (by omega) (by decide), ?_⟩
  intro x505 ex505
  refine ⟨o2, ?_⟩
  refine ⟨by show _ ≤ 601024; omega, by show _ ≤ 7293034; omega, ?_⟩
  refine mz_X11_driest hI o2 (fun x507 S506 hJ g508 fc509 Kg508 nf2 kz => ?_)
  have wr := wr_keep hI o2 wr kz.1 kz.2 fc509 (by decide) (by decide) (by decide)
  have lgx := lg_keep o1 lgx g508 fc509 (by decide) (by decide) (by decide)
  have tp := tt_fri tp o1 o2 Kg508 fc509 (by decide) (by decide) (by decide) (by decide)
  have fa := fa_fri fa o1 o2 fc509 (by decide) (by decide)
  have wh := wh_set nf1 fc509 (by decide) nf2
  have hI := hJ
  have l3 := (gr_len g508 o3).trans l3
  have o1 := gr_ob g508 o1
  have o2 := gr_ob g508 o2
  have o3 := gr_ob g508 o3
  intro _
  unfold P_L_law_2341
  intro x510 ex510
  have back := hb x510 ex510
  exact back _ _ _ hI o1 o2 o3 l3 tp fa wh ⟨AA, GG, wr, gb⟩ lgx (by omega) (by omega)
set_option maxHeartbeats 4000000 in
set_option maxRecDepth 20000 in
theorem a_L_law_1232 {scL : Nat} {scx : Nat → Int32} {Q : Int32 → HS → Prop} {X23 : Nat → Nat → Nat → Int32 → Nat → Nat → HS → Prop} {v1 v2 v3 : Nat} {v4 : Int32} {kk nn : Nat} {S : HS} {c : Nat} (hL : scL ≤ 4096) (hc : 8 * c + 8 ≤ scL) (hb : ∀ x : Int32, x = v4 + (8 : Int32) → ∀ (kk nn : Nat) (T : HS), IV T → ob T v1 9 → ob T v2 11 → ob T v3 14 → hN T v3 = 1 → TT v1 v2 T → fI T v1 7 = fI T v2 13 → WH v1 v2 T → WRy v1 v2 T → LGx v1 T → kk ≤ 200 + 35 * (c + 1) → nn ≤ 13000 + 8200 * (c + 1) → X23 v1 v2 v3 x kk nn T) (h : LI v1 v2 v3 v4 kk nn S c) : P_L_law_1232 scL scx Q X23 v1 v2 v3 v4 kk nn S := by
  obtain ⟨hI, o1, o2, o3, l3, tp, fa, wh, wr, lgx, hv, hk, hn⟩ := h
  obtain ⟨AA, GG, wr, gb⟩ := wr
  unfold P_L_law_1232
  intro x511 ex511
  refine ⟨sc_in (j := 1) hv hc hL ex511 (by omega) (by decide), ?_⟩
  intro x512 ex512
  intro x513 ex513
  refine ⟨sc_in (j := 2) hv hc hL ex513 (by omega) (by decide), ?_⟩
  intro x514 ex514
  intro x515 ex515
  refine ⟨sc_in (j := 3) hv hc hL ex515 (by omega) (by decide), ?_⟩
  intro x516 ex516
  intro x517 ex517
  refine ⟨sc_in (j := 4) hv hc hL ex517 (by omega) (by decide), ?_⟩
  intro x518 ex518
  intro x519 ex519
  refine ⟨sc_in (j := 5) hv hc hL ex519 (by omega) (by decide), ?_⟩
  intro x520 ex520
  intro x521 ex521
  refine ⟨sc_in (j := 6) hv hc hL ex521 (by omega) (by decide), ?_⟩
  intro x522 ex522
  intro x523 ex523
  refine ⟨sc_in (j := 7) hv hc hL ex523 (by omega) (by decide), ?_⟩
  intro x524 ex524
  refine ⟨fun c525 => ?_, fun c525 => ?_⟩
  · unfold P_L_law_1285
    refine ⟨o1, ?_⟩
    refine ⟨by show _ ≤ 601024; omega, by show _ ≤ 7293034; omega, ?_⟩
    refine mz_X9_lee hI o1 (fun x527 S526 hJ g528 fc529 Kg528 nf1 kz => ?_)
    have wr := wr_keep hI o2 wr kz.1 kz.2 fc529 (by decide) (by decide) (by decide)
    have lgx := lg_keep o1 lgx g528 fc529 (by decide) (by decide) (by decide)
    have tp := tt_fri tp o1 o2 Kg528 fc529 (by decide) (by decide) (by decide) (by decide)
    have fa := fa_fri fa o1 o2 fc529 (by decide) (by decide)
    have hI := hJ
    have l3 := (gr_len g528 o3).trans l3
    have o1 := gr_ob g528 o1
    have o2 := gr_ob g528 o2
    have o3 := gr_ob g528 o3
    intro _
    intro x530 ex530
    refine ⟨sc_in (j := 1) hv hc hL ex530 (by omega) (by decide), ?_⟩
    intro x531 ex531
    intro x532 ex532
    refine ⟨sc_in (j := 2) hv hc hL ex532 (by omega) (by decide), ?_⟩
    intro x533 ex533
    intro x534 ex534
    refine ⟨sc_in (j := 3) hv hc hL ex534 (by omega) (by decide), ?_⟩
    intro x535 ex535
    intro x536 ex536
    refine ⟨sc_in (j := 4) hv hc hL ex536 (by omega) (by decide), ?_⟩
    intro x537 ex537
    intro x538 ex538
    refine ⟨sc_in (j := 5) hv hc hL ex538 (by omega) (by decide), ?_⟩
    intro x539 ex539
    intro x540 ex540
    refine ⟨sc_in (j := 6) hv hc hL ex540 (by omega) (by decide), ?_⟩
    intro x541 ex541
    intro x542 ex542
    refine ⟨sc_in (j := 7) hv hc hL ex542 (by omega) (by decide), ?_⟩
    intro x543 ex543
    have xy545 : x543 = x524 := by rw [ex543, ex542, ex524, ex523]
    refine ⟨fun c544 => ?_, fun c544 => absurd (xy545.trans c525) c544⟩
    unfold P_L_law_1342
    refine ⟨o2, ?_⟩
    refine ⟨by show _ ≤ 601024; omega, by show _ ≤ 7293034; omega, ?_⟩
    refine mz_X11_lee hI o2 (fun x547 S546 hJ g548 fc549 Kg548 nf2 kz => ?_)
    have wr := wr_keep hI o2 wr kz.1 kz.2 fc549 (by decide) (by decide) (by decide)
    have lgx := lg_keep o1 lgx g548 fc549 (by decide) (by decide) (by decide)
    have tp := tt_fri tp o1 o2 Kg548 fc549 (by decide) (by decide) (by decide) (by decide)
    have fa := fa_fri fa o1 o2 fc549 (by decide) (by decide)
    have wh := wh_set nf1 fc549 (by decide) nf2
    have hI := hJ
    have l3 := (gr_len g548 o3).trans l3
    have o1 := gr_ob g548 o1
    have o2 := gr_ob g548 o2
    have o3 := gr_ob g548 o3
    intro _
    unfold P_L_law_2341
    intro x550 ex550
    have back := hb x550 ex550
    exact back _ _ _ hI o1 o2 o3 l3 tp fa wh ⟨AA, GG, wr, gb⟩ lgx (by omega) (by omega)
  · unfold P_L_law_1285
    refine ⟨o1, ?_⟩
    refine ⟨by show _ ≤ 601024; omega, by show _ ≤ 7293034; omega, ?_⟩
    refine mz_X9_lee hI o1 (fun x552 S551 hJ g553 fc554 Kg553 nf1 kz => ?_)
    have wr := wr_keep hI o2 wr kz.1 kz.2 fc554 (by decide) (by decide) (by decide)
    have lgx := lg_keep o1 lgx g553 fc554 (by decide) (by decide) (by decide)
    have tp := tt_fri tp o1 o2 Kg553 fc554 (by decide) (by decide) (by decide) (by decide)
    have fa := fa_fri fa o1 o2 fc554 (by decide) (by decide)
    have hI := hJ
    have l3 := (gr_len g553 o3).trans l3
    have o1 := gr_ob g553 o1
    have o2 := gr_ob g553 o2
    have o3 := gr_ob g553 o3
    intro _
    intro x555 ex555
    refine ⟨sc_in (j := 1) hv hc hL ex555 (by omega) (by decide), ?_⟩
    intro x556 ex556
    intro x557 ex557
    refine ⟨sc_in (j := 2) hv hc hL ex557 (by omega) (by decide), ?_⟩
    intro x558 ex558
    intro x559 ex559
    refine ⟨sc_in (j := 3) hv hc hL ex559 (by omega) (by decide), ?_⟩
    intro x560 ex560
    intro x561 ex561
    refine ⟨sc_in (j := 4) hv hc hL ex561 (by omega) (by decide), ?_⟩
    intro x562 ex562
    intro x563 ex563
    refine ⟨sc_in (j := 5) hv hc hL ex563 (by omega) (by decide), ?_⟩
    intro x564 ex564
    intro x565 ex565
    refine ⟨sc_in (j := 6) hv hc hL ex565 (by omega) (by decide), ?_⟩
    intro x566 ex566
    intro x567 ex567
    refine ⟨sc_in (j := 7) hv hc hL ex567 (by omega) (by decide), ?_⟩
    intro x568 ex568
    have xy570 : x568 = x524 := by rw [ex568, ex567, ex524, ex523]
    refine ⟨fun c569 => absurd (xy570.symm.trans c569) c525, fun c569 => ?_⟩
    unfold P_L_law_1342
    refine ⟨o2, ?_⟩
    refine ⟨by show _ ≤ 601024; omega, by show _ ≤ 7293034; omega, ?_⟩
    refine mz_X11_lee hI o2 (fun x572 S571 hJ g573 fc574 Kg573 nf2 kz => ?_)
    have wr := wr_keep hI o2 wr kz.1 kz.2 fc574 (by decide) (by decide) (by decide)
    have lgx := lg_keep o1 lgx g573 fc574 (by decide) (by decide) (by decide)
    have tp := tt_fri tp o1 o2 Kg573 fc574 (by decide) (by decide) (by decide) (by decide)
    have fa := fa_fri fa o1 o2 fc574 (by decide) (by decide)
    have wh := wh_set nf1 fc574 (by decide) nf2
    have hI := hJ
    have l3 := (gr_len g573 o3).trans l3
    have o1 := gr_ob g573 o1
    have o2 := gr_ob g573 o2
    have o3 := gr_ob g573 o3
    intro _
    unfold P_L_law_2341
    intro x575 ex575
    have back := hb x575 ex575
    exact back _ _ _ hI o1 o2 o3 l3 tp fa wh ⟨AA, GG, wr, gb⟩ lgx (by omega) (by omega)
set_option maxHeartbeats 4000000 in
set_option maxRecDepth 20000 in
theorem a_L_law_1349 {scL : Nat} {scx : Nat → Int32} {Q : Int32 → HS → Prop} {X23 : Nat → Nat → Nat → Int32 → Nat → Nat → HS → Prop} {v1 v2 v3 : Nat} {v4 : Int32} {kk nn : Nat} {S : HS} {c : Nat} (hL : scL ≤ 4096) (hc : 8 * c + 8 ≤ scL) (hb : ∀ x : Int32, x = v4 + (8 : Int32) → ∀ (kk nn : Nat) (T : HS), IV T → ob T v1 9 → ob T v2 11 → ob T v3 14 → hN T v3 = 1 → TT v1 v2 T → fI T v1 7 = fI T v2 13 → WH v1 v2 T → WRy v1 v2 T → LGx v1 T → kk ≤ 200 + 35 * (c + 1) → nn ≤ 13000 + 8200 * (c + 1) → X23 v1 v2 v3 x kk nn T) (h : LI v1 v2 v3 v4 kk nn S c) : P_L_law_1349 scL scx Q X23 v1 v2 v3 v4 kk nn S := by
  obtain ⟨hI, o1, o2, o3, l3, tp, fa, wh, wr, lgx, hv, hk, hn⟩ := h
  obtain ⟨AA, GG, wr, gb⟩ := wr
  unfold P_L_law_1349
  intro x576 ex576
  refine ⟨sc_in (j := 1) hv hc hL ex576 (by omega) (by decide), ?_⟩
  intro x577 ex577
  intro x578 ex578
  refine ⟨sc_in (j := 2) hv hc hL ex578 (by omega) (by decide), ?_⟩
  intro x579 ex579
  intro x580 ex580
  refine ⟨sc_in (j := 3) hv hc hL ex580 (by omega) (by decide), ?_⟩
  intro x581 ex581
  intro x582 ex582
  refine ⟨sc_in (j := 4) hv hc hL ex582 (by omega) (by decide), ?_⟩
  intro x583 ex583
  intro x584 ex584
  refine ⟨sc_in (j := 5) hv hc hL ex584 (by omega) (by decide), ?_⟩
  intro x585 ex585
  intro x586 ex586
  refine ⟨sc_in (j := 6) hv hc hL ex586 (by omega) (by decide), ?_⟩
  intro x587 ex587
  refine ⟨o1, ?_⟩
  refine ⟨by show _ ≤ 601024; omega, by show _ ≤ 7293034; omega, ?_⟩
  have wr0 := wr
  obtain ⟨r9, w9, u9, J9, h91, h92, h93, h94⟩ := wr0
  have lg0 := lgx
  obtain ⟨l9, p9, q9, lg9⟩ := lg0
  refine mt_X9_first hI o1 J9 h91 h92 h93 gb lg9 (fun x589 S588 hJ g590 fc591 Kg590 nf1 tz1 => ?_)
  have kz := tz1.1
  have wr := wr_keep hI o2 wr kz.1 kz.2 fc591 (by decide) (by decide) (by decide)
  have lgx := lg_keep o1 lgx g590 fc591 (by decide) (by decide) (by decide)
  have tp := tt_fri tp o1 o2 Kg590 fc591 (by decide) (by decide) (by decide) (by decide)
  have fa := fa_fri fa o1 o2 fc591 (by decide) (by decide)
  have hI := hJ
  have l3 := (gr_len g590 o3).trans l3
  have o1 := gr_ob g590 o1
  have o2 := gr_ob g590 o2
  have o3 := gr_ob g590 o3
  intro _
  intro x592 ex592
  refine ⟨sc_in (j := 1) hv hc hL ex592 (by omega) (by decide), ?_⟩
  intro x593 ex593
  intro x594 ex594
  refine ⟨sc_in (j := 2) hv hc hL ex594 (by omega) (by decide), ?_⟩
  intro x595 ex595
  intro x596 ex596
  refine ⟨sc_in (j := 3) hv hc hL ex596 (by omega) (by decide), ?_⟩
  intro x597 ex597
  intro x598 ex598
  refine ⟨sc_in (j := 4) hv hc hL ex598 (by omega) (by decide), ?_⟩
  intro x599 ex599
  intro x600 ex600
  refine ⟨sc_in (j := 5) hv hc hL ex600 (by omega) (by decide), ?_⟩
  intro x601 ex601
  intro x602 ex602
  refine ⟨sc_in (j := 6) hv hc hL ex602 (by omega) (by decide), ?_⟩
  intro x603 ex603
  refine ⟨o2, ?_⟩
  refine ⟨by show _ ≤ 601024; omega, by show _ ≤ 7293034; omega, ?_⟩
  have wr0 := wr
  obtain ⟨-, -, -, -, -, -, ab9, hm9⟩ := wr0
  refine mt_X11_first hI o2 hm9 ab9 gb (fun x605 S604 hJ g606 fc607 Kg606 nf2 tz2 => ?_)
  have kz := tz2.1
  have fe := tz1.2.trans (Eq.symm (by subst_vars; exact tz2.2))
  have wr := wr_keep hI o2 wr kz.1 kz.2 fc607 (by decide) (by decide) (by decide)
  have lgx := lg_keep o1 lgx g606 fc607 (by decide) (by decide) (by decide)
  have tp := tt_fri tp o1 o2 Kg606 fc607 (by decide) (by decide) (by decide) (by decide)
  have fa := fa_fri fa o1 o2 fc607 (by decide) (by decide)
  have wh := wh_set nf1 fc607 (by decide) nf2
  have hI := hJ
  have l3 := (gr_len g606 o3).trans l3
  have o1 := gr_ob g606 o1
  have o2 := gr_ob g606 o2
  have o3 := gr_ob g606 o3
  intro _
  refine ⟨fun c608 => ?_, fun c608 => absurd fe c608⟩
  unfold P_L_law_2341
  intro x609 ex609
  have back := hb x609 ex609
  exact back _ _ _ hI o1 o2 o3 l3 tp fa wh ⟨AA, GG, wr, gb⟩ lgx (by omega) (by omega)
set_option maxHeartbeats 4000000 in
set_option maxRecDepth 20000 in
theorem a_L_law_1436 {scL : Nat} {scx : Nat → Int32} {Q : Int32 → HS → Prop} {X23 : Nat → Nat → Nat → Int32 → Nat → Nat → HS → Prop} {v1 v2 v3 : Nat} {v4 : Int32} {kk nn : Nat} {S : HS} {c : Nat} (hL : scL ≤ 4096) (hc : 8 * c + 8 ≤ scL) (hb : ∀ x : Int32, x = v4 + (8 : Int32) → ∀ (kk nn : Nat) (T : HS), IV T → ob T v1 9 → ob T v2 11 → ob T v3 14 → hN T v3 = 1 → TT v1 v2 T → fI T v1 7 = fI T v2 13 → WH v1 v2 T → WRy v1 v2 T → LGx v1 T → kk ≤ 200 + 35 * (c + 1) → nn ≤ 13000 + 8200 * (c + 1) → X23 v1 v2 v3 x kk nn T) (h : LI v1 v2 v3 v4 kk nn S c) : P_L_law_1436 scL scx Q X23 v1 v2 v3 v4 kk nn S := by
  obtain ⟨hI, o1, o2, o3, l3, tp, fa, wh, wr, lgx, hv, hk, hn⟩ := h
  obtain ⟨AA, GG, wr, gb⟩ := wr
  unfold P_L_law_1436
  intro x610 ex610
  refine ⟨sc_in (j := 1) hv hc hL ex610 (by omega) (by decide), ?_⟩
  intro x611 ex611
  intro x612 ex612
  refine ⟨sc_in (j := 2) hv hc hL ex612 (by omega) (by decide), ?_⟩
  intro x613 ex613
  intro x614 ex614
  refine ⟨sc_in (j := 3) hv hc hL ex614 (by omega) (by decide), ?_⟩
  intro x615 ex615
  intro x616 ex616
  refine ⟨sc_in (j := 4) hv hc hL ex616 (by omega) (by decide), ?_⟩
  intro x617 ex617
  intro x618 ex618
  refine ⟨sc_in (j := 5) hv hc hL ex618 (by omega) (by decide), ?_⟩
  intro x619 ex619
  intro x620 ex620
  refine ⟨sc_in (j := 6) hv hc hL ex620 (by omega) (by decide), ?_⟩
  intro x621 ex621
  refine ⟨fun c622 => ?_, fun c622 => ?_⟩
  · unfold P_L_law_1482
    refine ⟨o1, ?_⟩
    refine ⟨by show _ ≤ 601024; omega, by show _ ≤ 7293034; omega, ?_⟩
    refine mz_X9_least hI o1 (fun x624 S623 hJ g625 fc626 Kg625 nf1 kz => ?_)
    have wr := wr_keep hI o2 wr kz.1 kz.2 fc626 (by decide) (by decide) (by decide)
    have lgx := lg_keep o1 lgx g625 fc626 (by decide) (by decide) (by decide)
    have tp := tt_fri tp o1 o2 Kg625 fc626 (by decide) (by decide) (by decide) (by decide)
    have fa := fa_fri fa o1 o2 fc626 (by decide) (by decide)
    have hI := hJ
    have l3 := (gr_len g625 o3).trans l3
    have o1 := gr_ob g625 o1
    have o2 := gr_ob g625 o2
    have o3 := gr_ob g625 o3
    intro _
    intro x627 ex627
    refine ⟨sc_in (j := 1) hv hc hL ex627 (by omega) (by decide), ?_⟩
    intro x628 ex628
    intro x629 ex629
    refine ⟨sc_in (j := 2) hv hc hL ex629 (by omega) (by decide), ?_⟩
    intro x630 ex630
    intro x631 ex631
    refine ⟨sc_in (j := 3) hv hc hL ex631 (by omega) (by decide), ?_⟩
    intro x632 ex632
    intro x633 ex633
    refine ⟨sc_in (j := 4) hv hc hL ex633 (by omega) (by decide), ?_⟩
    intro x634 ex634
    intro x635 ex635
    refine ⟨sc_in (j := 5) hv hc hL ex635 (by omega) (by decide), ?_⟩
    intro x636 ex636
    intro x637 ex637
    refine ⟨sc_in (j := 6) hv hc hL ex637 (by omega) (by decide), ?_⟩
    intro x638 ex638
    have xy640 : x638 = x621 := by rw [ex638, ex637, ex621, ex620]
    refine ⟨fun c639 => ?_, fun c639 => absurd (xy640.trans c622) c639⟩
    unfold P_L_law_1532
    refine ⟨o2, ?_⟩
    refine ⟨by show _ ≤ 601024; omega, by show _ ≤ 7293034; omega, ?_⟩
    refine mz_X11_least hI o2 (fun x642 S641 hJ g643 fc644 Kg643 nf2 kz => ?_)
    have wr := wr_keep hI o2 wr kz.1 kz.2 fc644 (by decide) (by decide) (by decide)
    have lgx := lg_keep o1 lgx g643 fc644 (by decide) (by decide) (by decide)
    have tp := tt_fri tp o1 o2 Kg643 fc644 (by decide) (by decide) (by decide) (by decide)
    have fa := fa_fri fa o1 o2 fc644 (by decide) (by decide)
    have wh := wh_set nf1 fc644 (by decide) nf2
    have hI := hJ
    have l3 := (gr_len g643 o3).trans l3
    have o1 := gr_ob g643 o1
    have o2 := gr_ob g643 o2
    have o3 := gr_ob g643 o3
    intro _
    unfold P_L_law_2341
    intro x645 ex645
    have back := hb x645 ex645
    exact back _ _ _ hI o1 o2 o3 l3 tp fa wh ⟨AA, GG, wr, gb⟩ lgx (by omega) (by omega)
  · unfold P_L_law_1482
    refine ⟨o1, ?_⟩
    refine ⟨by show _ ≤ 601024; omega, by show _ ≤ 7293034; omega, ?_⟩
    refine mz_X9_least hI o1 (fun x647 S646 hJ g648 fc649 Kg648 nf1 kz => ?_)
    have wr := wr_keep hI o2 wr kz.1 kz.2 fc649 (by decide) (by decide) (by decide)
    have lgx := lg_keep o1 lgx g648 fc649 (by decide) (by decide) (by decide)
    have tp := tt_fri tp o1 o2 Kg648 fc649 (by decide) (by decide) (by decide) (by decide)
    have fa := fa_fri fa o1 o2 fc649 (by decide) (by decide)
    have hI := hJ
    have l3 := (gr_len g648 o3).trans l3
    have o1 := gr_ob g648 o1
    have o2 := gr_ob g648 o2
    have o3 := gr_ob g648 o3
    intro _
    intro x650 ex650
    refine ⟨sc_in (j := 1) hv hc hL ex650 (by omega) (by decide), ?_⟩
    intro x651 ex651
    intro x652 ex652
    refine ⟨sc_in (j := 2) hv hc hL ex652 (by omega) (by decide), ?_⟩
    intro x653 ex653
    intro x654 ex654
    refine ⟨sc_in (j := 3) hv hc hL ex654 (by omega) (by decide), ?_⟩
    intro x655 ex655
    intro x656 ex656
    refine ⟨sc_in (j := 4) hv hc hL ex656 (by omega) (by decide), ?_⟩
    intro x657 ex657
    intro x658 ex658
    refine ⟨sc_in (j := 5) hv hc hL ex658 (by omega) (by decide), ?_⟩
    intro x659 ex659
    intro x660 ex660
    refine ⟨sc_in (j := 6) hv hc hL ex660 (by omega) (by decide), ?_⟩
    intro x661 ex661
    have xy663 : x661 = x621 := by rw [ex661, ex660, ex621, ex620]
    refine ⟨fun c662 => absurd (xy663.symm.trans c662) c622, fun c662 => ?_⟩
    unfold P_L_law_1532
    refine ⟨o2, ?_⟩
    refine ⟨by show _ ≤ 601024; omega, by show _ ≤ 7293034; omega, ?_⟩
    refine mz_X11_least hI o2 (fun x665 S664 hJ g666 fc667 Kg666 nf2 kz => ?_)
    have wr := wr_keep hI o2 wr kz.1 kz.2 fc667 (by decide) (by decide) (by decide)
    have lgx := lg_keep o1 lgx g666 fc667 (by decide) (by decide) (by decide)
    have tp := tt_fri tp o1 o2 Kg666 fc667 (by decide) (by decide) (by decide) (by decide)
    have fa := fa_fri fa o1 o2 fc667 (by decide) (by decide)
    have wh := wh_set nf1 fc667 (by decide) nf2
    have hI := hJ
    have l3 := (gr_len g666 o3).trans l3
    have o1 := gr_ob g666 o1
    have o2 := gr_ob g666 o2
    have o3 := gr_ob g666 o3
    intro _
    unfold P_L_law_2341
    intro x668 ex668
    have back := hb x668 ex668
    exact back _ _ _ hI o1 o2 o3 l3 tp fa wh ⟨AA, GG, wr, gb⟩ lgx (by omega) (by omega)
set_option maxHeartbeats 4000000 in
set_option maxRecDepth 20000 in
theorem a_L_law_1539 {scL : Nat} {scx : Nat → Int32} {Q : Int32 → HS → Prop} {X23 : Nat → Nat → Nat → Int32 → Nat → Nat → HS → Prop} {v1 v2 v3 : Nat} {v4 : Int32} {kk nn : Nat} {S : HS} {c : Nat} (hL : scL ≤ 4096) (hc : 8 * c + 8 ≤ scL) (hb : ∀ x : Int32, x = v4 + (8 : Int32) → ∀ (kk nn : Nat) (T : HS), IV T → ob T v1 9 → ob T v2 11 → ob T v3 14 → hN T v3 = 1 → TT v1 v2 T → fI T v1 7 = fI T v2 13 → WH v1 v2 T → WRy v1 v2 T → LGx v1 T → kk ≤ 200 + 35 * (c + 1) → nn ≤ 13000 + 8200 * (c + 1) → X23 v1 v2 v3 x kk nn T) (h : LI v1 v2 v3 v4 kk nn S c) : P_L_law_1539 scL scx Q X23 v1 v2 v3 v4 kk nn S := by
  obtain ⟨hI, o1, o2, o3, l3, tp, fa, wh, wr, lgx, hv, hk, hn⟩ := h
  obtain ⟨AA, GG, wr, gb⟩ := wr
  unfold P_L_law_1539
  intro x669 ex669
  refine ⟨sc_in (j := 1) hv hc hL ex669 (by omega) (by decide), ?_⟩
  intro x670 ex670
  intro x671 ex671
  refine ⟨sc_in (j := 2) hv hc hL ex671 (by omega) (by decide), ?_⟩
  intro x672 ex672
  intro x673 ex673
  refine ⟨sc_in (j := 3) hv hc hL ex673 (by omega) (by decide), ?_⟩
  intro x674 ex674
  intro x675 ex675
  refine ⟨sc_in (j := 4) hv hc hL ex675 (by omega) (by decide), ?_⟩
  intro x676 ex676
  intro x677 ex677
  refine ⟨sc_in (j := 5) hv hc hL ex677 (by omega) (by decide), ?_⟩
  intro x678 ex678
  refine ⟨o1, ?_⟩
  refine ⟨by show _ ≤ 601024; omega, by show _ ≤ 7293034; omega, ?_⟩
  refine mz_X9_there hI o1 (fun x680 S679 hJ g681 fc682 Kg681 nf1 kz => ?_)
  have wr := wr_keep hI o2 wr kz.1 kz.2 fc682 (by decide) (by decide) (by decide)
  have lgx := lg_keep o1 lgx g681 fc682 (by decide) (by decide) (by decide)
  have tp := tt_fri tp o1 o2 Kg681 fc682 (by decide) (by decide) (by decide) (by decide)
  have fa := fa_fri fa o1 o2 fc682 (by decide) (by decide)
  have hI := hJ
  have l3 := (gr_len g681 o3).trans l3
  have o1 := gr_ob g681 o1
  have o2 := gr_ob g681 o2
  have o3 := gr_ob g681 o3
  intro _
  intro x683 ex683
  refine ⟨sc_in (j := 1) hv hc hL ex683 (by omega) (by decide), ?_⟩
  intro x684 ex684
  intro x685 ex685
  refine ⟨sc_in (j := 2) hv hc hL ex685 (by omega) (by decide), ?_⟩
  intro x686 ex686
  intro x687 ex687
  refine ⟨sc_in (j := 3) hv hc hL ex687 (by omega) (by decide), ?_⟩
  intro x688 ex688
  intro x689 ex689
  refine ⟨sc_in (j := 4) hv hc hL ex689 (by omega) (by decide), ?_⟩
  intro x690 ex690
  intro x691 ex691
  refine ⟨sc_in (j := 5) hv hc hL ex691 (by omega) (by decide), ?_⟩
  intro x692 ex692
  refine ⟨o2, ?_⟩
  refine ⟨by show _ ≤ 601024; omega, by show _ ≤ 7293034; omega, ?_⟩
  refine mz_X11_there hI o2 (fun x694 S693 hJ g695 fc696 Kg695 nf2 kz => ?_)
  have wr := wr_keep hI o2 wr kz.1 kz.2 fc696 (by decide) (by decide) (by decide)
  have lgx := lg_keep o1 lgx g695 fc696 (by decide) (by decide) (by decide)
  have tp := tt_fri tp o1 o2 Kg695 fc696 (by decide) (by decide) (by decide) (by decide)
  have fa := fa_fri fa o1 o2 fc696 (by decide) (by decide)
  have wh := wh_set nf1 fc696 (by decide) nf2
  have hI := hJ
  have l3 := (gr_len g695 o3).trans l3
  have o1 := gr_ob g695 o1
  have o2 := gr_ob g695 o2
  have o3 := gr_ob g695 o3
  intro _
  unfold P_L_law_2341
  intro x697 ex697
  have back := hb x697 ex697
  exact back _ _ _ hI o1 o2 o3 l3 tp fa wh ⟨AA, GG, wr, gb⟩ lgx (by omega) (by omega)
set_option maxHeartbeats 4000000 in
set_option maxRecDepth 20000 in
theorem a_L_law_1612 {scL : Nat} {scx : Nat → Int32} {Q : Int32 → HS → Prop} {X23 : Nat → Nat → Nat → Int32 → Nat → Nat → HS → Prop} {v1 v2 v3 : Nat} {v4 : Int32} {kk nn : Nat} {S : HS} {c : Nat} (hL : scL ≤ 4096) (hc : 8 * c + 8 ≤ scL) (hb : ∀ x : Int32, x = v4 + (8 : Int32) → ∀ (kk nn : Nat) (T : HS), IV T → ob T v1 9 → ob T v2 11 → ob T v3 14 → hN T v3 = 1 → TT v1 v2 T → fI T v1 7 = fI T v2 13 → WH v1 v2 T → WRy v1 v2 T → LGx v1 T → kk ≤ 200 + 35 * (c + 1) → nn ≤ 13000 + 8200 * (c + 1) → X23 v1 v2 v3 x kk nn T) (h : LI v1 v2 v3 v4 kk nn S c) : P_L_law_1612 scL scx Q X23 v1 v2 v3 v4 kk nn S := by
  obtain ⟨hI, o1, o2, o3, l3, tp, fa, wh, wr, lgx, hv, hk, hn⟩ := h
  obtain ⟨AA, GG, wr, gb⟩ := wr
  unfold P_L_law_1612
  intro x698 ex698
  refine ⟨sc_in (j := 1) hv hc hL ex698 (by omega) (by decide), ?_⟩
  intro x699 ex699
  intro x700 ex700
  refine ⟨sc_in (j := 2) hv hc hL ex700 (by omega) (by decide), ?_⟩
  intro x701 ex701
  intro x702 ex702
  refine ⟨sc_in (j := 3) hv hc hL ex702 (by omega) (by decide), ?_⟩
  intro x703 ex703
  intro x704 ex704
  refine ⟨sc_in (j := 4) hv hc hL ex704 (by omega) (by decide), ?_⟩
  intro x705 ex705
  intro x706 ex706
  refine ⟨sc_in (j := 5) hv hc hL ex706 (by omega) (by decide), ?_⟩
  intro x707 ex707
  refine ⟨o1, ?_⟩
  refine ⟨by show _ ≤ 601024; omega, by show _ ≤ 7293034; omega, ?_⟩
  refine mz_X9_steps hI o1 (fun x709 S708 hJ g710 fc711 Kg710 nf1 kz => ?_)
  have wr := wr_keep hI o2 wr kz.1 kz.2 fc711 (by decide) (by decide) (by decide)
  have lgx := lg_keep o1 lgx g710 fc711 (by decide) (by decide) (by decide)
  have tp := tt_fri tp o1 o2 Kg710 fc711 (by decide) (by decide) (by decide) (by decide)
  have fa := fa_fri fa o1 o2 fc711 (by decide) (by decide)
  have hI := hJ
  have l3 := (gr_len g710 o3).trans l3
  have o1 := gr_ob g710 o1
  have o2 := gr_ob g710 o2
  have o3 := gr_ob g710 o3
  intro _
  intro x712 ex712
  refine ⟨sc_in (j := 1) hv hc hL ex712 (by omega) (by decide), ?_⟩
  intro x713 ex713
  intro x714 ex714
  refine ⟨sc_in (j := 2) hv hc hL ex714 (by omega) (by decide), ?_⟩
  intro x715 ex715
  intro x716 ex716
  refine ⟨sc_in (j := 3) hv hc hL ex716 (by omega) (by decide), ?_⟩
  intro x717 ex717
  intro x718 ex718
  refine ⟨sc_in (j := 4) hv hc hL ex718 (by omega) (by decide), ?_⟩
  intro x719 ex719
  intro x720 ex720
  refine ⟨sc_in (j := 5) hv hc hL ex720 (by omega) (by decide), ?_⟩
  intro x721 ex721
  refine ⟨o2, ?_⟩
  refine ⟨by show _ ≤ 601024; omega, by show _ ≤ 7293034; omega, ?_⟩
  refine mz_X11_steps hI o2 (fun x723 S722 hJ g724 fc725 Kg724 nf2 kz => ?_)
  have wr := wr_keep hI o2 wr kz.1 kz.2 fc725 (by decide) (by decide) (by decide)
  have lgx := lg_keep o1 lgx g724 fc725 (by decide) (by decide) (by decide)
  have tp := tt_fri tp o1 o2 Kg724 fc725 (by decide) (by decide) (by decide) (by decide)
  have fa := fa_fri fa o1 o2 fc725 (by decide) (by decide)
  have wh := wh_set nf1 fc725 (by decide) nf2
  have hI := hJ
  have l3 := (gr_len g724 o3).trans l3
  have o1 := gr_ob g724 o1
  have o2 := gr_ob g724 o2
  have o3 := gr_ob g724 o3
  intro _
  unfold P_L_law_2341
  intro x726 ex726
  have back := hb x726 ex726
  exact back _ _ _ hI o1 o2 o3 l3 tp fa wh ⟨AA, GG, wr, gb⟩ lgx (by omega) (by omega)
set_option maxHeartbeats 4000000 in
set_option maxRecDepth 20000 in
theorem a_L_law_1685 {scL : Nat} {scx : Nat → Int32} {Q : Int32 → HS → Prop} {X23 : Nat → Nat → Nat → Int32 → Nat → Nat → HS → Prop} {v1 v2 v3 : Nat} {v4 : Int32} {kk nn : Nat} {S : HS} {c : Nat} (hL : scL ≤ 4096) (hc : 8 * c + 8 ≤ scL) (hb : ∀ x : Int32, x = v4 + (8 : Int32) → ∀ (kk nn : Nat) (T : HS), IV T → ob T v1 9 → ob T v2 11 → ob T v3 14 → hN T v3 = 1 → TT v1 v2 T → fI T v1 7 = fI T v2 13 → WH v1 v2 T → WRy v1 v2 T → LGx v1 T → kk ≤ 200 + 35 * (c + 1) → nn ≤ 13000 + 8200 * (c + 1) → X23 v1 v2 v3 x kk nn T) (h : LI v1 v2 v3 v4 kk nn S c) : P_L_law_1685 scL scx Q X23 v1 v2 v3 v4 kk nn S := by
  obtain ⟨hI, o1, o2, o3, l3, tp, fa, wh, wr, lgx, hv, hk, hn⟩ := h
  obtain ⟨AA, GG, wr, gb⟩ := wr
  unfold P_L_law_1685
  intro x727 ex727
  refine ⟨sc_in (j := 1) hv hc hL ex727 (by omega) (by decide), ?_⟩
  intro x728 ex728
  intro x729 ex729
  refine ⟨sc_in (j := 2) hv hc hL ex729 (by omega) (by decide), ?_⟩
  intro x730 ex730
  intro x731 ex731
  refine ⟨sc_in (j := 3) hv hc hL ex731 (by omega) (by decide), ?_⟩
  intro x732 ex732
  intro x733 ex733
  refine ⟨sc_in (j := 4) hv hc hL ex733 (by omega) (by decide), ?_⟩
  intro x734 ex734
  intro x735 ex735
  refine ⟨sc_in (j := 5) hv hc hL ex735 (by omega) (by decide), ?_⟩
  intro x736 ex736
  intro x737 ex737
  refine ⟨sc_in (j := 6) hv hc hL ex737 (by omega) (by decide), ?_⟩
  intro x738 ex738
  refine ⟨o1, ?_⟩
  refine ⟨by show _ ≤ 601024; omega, by show _ ≤ 7293034; omega, ?_⟩
  refine mz_X9_step hI o1 (fun x740 S739 hJ g741 fc742 Kg741 nf1 kz => ?_)
  have wr := wr_keep hI o2 wr kz.1 kz.2 fc742 (by decide) (by decide) (by decide)
  have lgx := lg_keep o1 lgx g741 fc742 (by decide) (by decide) (by decide)
  have tp := tt_fri tp o1 o2 Kg741 fc742 (by decide) (by decide) (by decide) (by decide)
  have fa := fa_fri fa o1 o2 fc742 (by decide) (by decide)
  have hI := hJ
  have l3 := (gr_len g741 o3).trans l3
  have o1 := gr_ob g741 o1
  have o2 := gr_ob g741 o2
  have o3 := gr_ob g741 o3
  intro _
  intro x743 ex743
  refine ⟨sc_in (j := 1) hv hc hL ex743 (by omega) (by decide), ?_⟩
  intro x744 ex744
  intro x745 ex745
  refine ⟨sc_in (j := 2) hv hc hL ex745 (by omega) (by decide), ?_⟩
  intro x746 ex746
  intro x747 ex747
  refine ⟨sc_in (j := 3) hv hc hL ex747 (by omega) (by decide), ?_⟩
  intro x748 ex748
  intro x749 ex749
  refine ⟨sc_in (j := 4) hv hc hL ex749 (by omega) (by decide), ?_⟩
  intro x750 ex750
  intro x751 ex751
  refine ⟨sc_in (j := 5) hv hc hL ex751 (by omega) (by decide), ?_⟩
  intro x752 ex752
  intro x753 ex753
  refine ⟨sc_in (j := 6) hv hc hL ex753 (by omega) (by decide), ?_⟩
  intro x754 ex754
  refine ⟨o2, ?_⟩
  refine ⟨by show _ ≤ 601024; omega, by show _ ≤ 7293034; omega, ?_⟩
  refine mz_X11_step hI o2 (fun x756 S755 hJ g757 fc758 Kg757 nf2 kz => ?_)
  have wr := wr_keep hI o2 wr kz.1 kz.2 fc758 (by decide) (by decide) (by decide)
  have lgx := lg_keep o1 lgx g757 fc758 (by decide) (by decide) (by decide)
  have tp := tt_fri tp o1 o2 Kg757 fc758 (by decide) (by decide) (by decide) (by decide)
  have fa := fa_fri fa o1 o2 fc758 (by decide) (by decide)
  have wh := wh_set nf1 fc758 (by decide) nf2
  have hI := hJ
  have l3 := (gr_len g757 o3).trans l3
  have o1 := gr_ob g757 o1
  have o2 := gr_ob g757 o2
  have o3 := gr_ob g757 o3
  intro _
  unfold P_L_law_2341
  intro x759 ex759
  have back := hb x759 ex759
  exact back _ _ _ hI o1 o2 o3 l3 tp fa wh ⟨AA, GG, wr, gb⟩ lgx (by omega) (by omega)
set_option maxHeartbeats 4000000 in
set_option maxRecDepth 20000 in
theorem a_L_law_1772 {scL : Nat} {scx : Nat → Int32} {Q : Int32 → HS → Prop} {X23 : Nat → Nat → Nat → Int32 → Nat → Nat → HS → Prop} {v1 v2 v3 : Nat} {v4 : Int32} {kk nn : Nat} {S : HS} {c : Nat} (hL : scL ≤ 4096) (hc : 8 * c + 8 ≤ scL) (hb : ∀ x : Int32, x = v4 + (8 : Int32) → ∀ (kk nn : Nat) (T : HS), IV T → ob T v1 9 → ob T v2 11 → ob T v3 14 → hN T v3 = 1 → TT v1 v2 T → fI T v1 7 = fI T v2 13 → WH v1 v2 T → WRy v1 v2 T → LGx v1 T → kk ≤ 200 + 35 * (c + 1) → nn ≤ 13000 + 8200 * (c + 1) → X23 v1 v2 v3 x kk nn T) (h : LI v1 v2 v3 v4 kk nn S c) : P_L_law_1772 scL scx Q X23 v1 v2 v3 v4 kk nn S := by
  obtain ⟨hI, o1, o2, o3, l3, tp, fa, wh, wr, lgx, hv, hk, hn⟩ := h
  obtain ⟨AA, GG, wr, gb⟩ := wr
  unfold P_L_law_1772
  intro x760 ex760
  refine ⟨sc_in (j := 1) hv hc hL ex760 (by omega) (by decide), ?_⟩
  intro x761 ex761
  intro x762 ex762
  refine ⟨sc_in (j := 2) hv hc hL ex762 (by omega) (by decide), ?_⟩
  intro x763 ex763
  intro x764 ex764
  refine ⟨sc_in (j := 3) hv hc hL ex764 (by omega) (by decide), ?_⟩
  intro x765 ex765
  intro x766 ex766
  refine ⟨sc_in (j := 4) hv hc hL ex766 (by omega) (by decide), ?_⟩
  intro x767 ex767
  refine ⟨o1, ?_⟩
  refine ⟨by show _ ≤ 601024; omega, by show _ ≤ 7293034; omega, ?_⟩
  refine mz_X9_off hI o1 (fun x769 S768 hJ g770 fc771 Kg770 nf1 kz => ?_)
  have wr := wr_keep hI o2 wr kz.1 kz.2 fc771 (by decide) (by decide) (by decide)
  have lgx := lg_keep o1 lgx g770 fc771 (by decide) (by decide) (by decide)
  have tp := tt_fri tp o1 o2 Kg770 fc771 (by decide) (by decide) (by decide) (by decide)
  have fa := fa_fri fa o1 o2 fc771 (by decide) (by decide)
  have hI := hJ
  have l3 := (gr_len g770 o3).trans l3
  have o1 := gr_ob g770 o1
  have o2 := gr_ob g770 o2
  have o3 := gr_ob g770 o3
  intro _
  intro x772 ex772
  refine ⟨sc_in (j := 1) hv hc hL ex772 (by omega) (by decide), ?_⟩
  intro x773 ex773
  intro x774 ex774
  refine ⟨sc_in (j := 2) hv hc hL ex774 (by omega) (by decide), ?_⟩
  intro x775 ex775
  intro x776 ex776
  refine ⟨sc_in (j := 3) hv hc hL ex776 (by omega) (by decide), ?_⟩
  intro x777 ex777
  intro x778 ex778
  refine ⟨sc_in (j := 4) hv hc hL ex778 (by omega) (by decide), ?_⟩
  intro x779 ex779
  refine ⟨o2, ?_⟩
  refine ⟨by show _ ≤ 601024; omega, by show _ ≤ 7293034; omega, ?_⟩
  refine mz_X11_off hI o2 (fun x781 S780 hJ g782 fc783 Kg782 nf2 kz => ?_)
  have wr := wr_keep hI o2 wr kz.1 kz.2 fc783 (by decide) (by decide) (by decide)
  have lgx := lg_keep o1 lgx g782 fc783 (by decide) (by decide) (by decide)
  have tp := tt_fri tp o1 o2 Kg782 fc783 (by decide) (by decide) (by decide) (by decide)
  have fa := fa_fri fa o1 o2 fc783 (by decide) (by decide)
  have wh := wh_set nf1 fc783 (by decide) nf2
  have hI := hJ
  have l3 := (gr_len g782 o3).trans l3
  have o1 := gr_ob g782 o1
  have o2 := gr_ob g782 o2
  have o3 := gr_ob g782 o3
  intro _
  unfold P_L_law_2341
  intro x784 ex784
  have back := hb x784 ex784
  exact back _ _ _ hI o1 o2 o3 l3 tp fa wh ⟨AA, GG, wr, gb⟩ lgx (by omega) (by omega)
set_option maxHeartbeats 4000000 in
set_option maxRecDepth 20000 in
theorem a_L_law_1833 {scL : Nat} {scx : Nat → Int32} {Q : Int32 → HS → Prop} {X23 : Nat → Nat → Nat → Int32 → Nat → Nat → HS → Prop} {v1 v2 v3 : Nat} {v4 : Int32} {kk nn : Nat} {S : HS} {c : Nat} (hL : scL ≤ 4096) (hc : 8 * c + 8 ≤ scL) (hb : ∀ x : Int32, x = v4 + (8 : Int32) → ∀ (kk nn : Nat) (T : HS), IV T → ob T v1 9 → ob T v2 11 → ob T v3 14 → hN T v3 = 1 → TT v1 v2 T → fI T v1 7 = fI T v2 13 → WH v1 v2 T → WRy v1 v2 T → LGx v1 T → kk ≤ 200 + 35 * (c + 1) → nn ≤ 13000 + 8200 * (c + 1) → X23 v1 v2 v3 x kk nn T) (h : LI v1 v2 v3 v4 kk nn S c) : P_L_law_1833 scL scx Q X23 v1 v2 v3 v4 kk nn S := by
  obtain ⟨hI, o1, o2, o3, l3, tp, fa, wh, wr, lgx, hv, hk, hn⟩ := h
  obtain ⟨AA, GG, wr, gb⟩ := wr
  unfold P_L_law_1833
  intro x785 ex785
  refine ⟨sc_in (j := 1) hv hc hL ex785 (by omega) (by decide), ?_⟩
  intro x786 ex786
  refine ⟨o1, ?_⟩
  refine ⟨by show _ ≤ 601024; omega, by show _ ≤ 7293034; omega, ?_⟩
  refine mz_X9_fits hI o1 (fun x788 S787 hJ g789 fc790 Kg789 nf1 kz => ?_)
  have wr := wr_keep hI o2 wr kz.1 kz.2 fc790 (by decide) (by decide) (by decide)
  have lgx := lg_keep o1 lgx g789 fc790 (by decide) (by decide) (by decide)
  have tp := tt_fri tp o1 o2 Kg789 fc790 (by decide) (by decide) (by decide) (by decide)
  have fa := fa_fri fa o1 o2 fc790 (by decide) (by decide)
  have hI := hJ
  have l3 := (gr_len g789 o3).trans l3
  have o1 := gr_ob g789 o1
  have o2 := gr_ob g789 o2
  have o3 := gr_ob g789 o3
  intro _
  intro x791 ex791
  refine ⟨sc_in (j := 1) hv hc hL ex791 (by omega) (by decide), ?_⟩
  intro x792 ex792
  refine ⟨o2, ?_⟩
  refine ⟨by show _ ≤ 601024; omega, by show _ ≤ 7293034; omega, ?_⟩
  refine mz_X11_fits hI o2 (fun x794 S793 hJ g795 fc796 Kg795 nf2 kz => ?_)
  have wr := wr_keep hI o2 wr kz.1 kz.2 fc796 (by decide) (by decide) (by decide)
  have lgx := lg_keep o1 lgx g795 fc796 (by decide) (by decide) (by decide)
  have tp := tt_fri tp o1 o2 Kg795 fc796 (by decide) (by decide) (by decide) (by decide)
  have fa := fa_fri fa o1 o2 fc796 (by decide) (by decide)
  have wh := wh_set nf1 fc796 (by decide) nf2
  have hI := hJ
  have l3 := (gr_len g795 o3).trans l3
  have o1 := gr_ob g795 o1
  have o2 := gr_ob g795 o2
  have o3 := gr_ob g795 o3
  intro _
  unfold P_L_law_2341
  intro x797 ex797
  have back := hb x797 ex797
  exact back _ _ _ hI o1 o2 o3 l3 tp fa wh ⟨AA, GG, wr, gb⟩ lgx (by omega) (by omega)
set_option maxHeartbeats 4000000 in
set_option maxRecDepth 20000 in
theorem a_L_law_1858 {scL : Nat} {scx : Nat → Int32} {Q : Int32 → HS → Prop} {X23 : Nat → Nat → Nat → Int32 → Nat → Nat → HS → Prop} {v1 v2 v3 : Nat} {v4 : Int32} {kk nn : Nat} {S : HS} {c : Nat} (hL : scL ≤ 4096) (hc : 8 * c + 8 ≤ scL) (hb : ∀ x : Int32, x = v4 + (8 : Int32) → ∀ (kk nn : Nat) (T : HS), IV T → ob T v1 9 → ob T v2 11 → ob T v3 14 → hN T v3 = 1 → TT v1 v2 T → fI T v1 7 = fI T v2 13 → WH v1 v2 T → WRy v1 v2 T → LGx v1 T → kk ≤ 200 + 35 * (c + 1) → nn ≤ 13000 + 8200 * (c + 1) → X23 v1 v2 v3 x kk nn T) (h : LI v1 v2 v3 v4 kk nn S c) : P_L_law_1858 scL scx Q X23 v1 v2 v3 v4 kk nn S := by
  obtain ⟨hI, o1, o2, o3, l3, tp, fa, wh, wr, lgx, hv, hk, hn⟩ := h
  obtain ⟨AA, GG, wr, gb⟩ := wr
  unfold P_L_law_1858
  intro x798 ex798
  refine ⟨sc_in (j := 1) hv hc hL ex798 (by omega) (by decide), ?_⟩
  intro x799 ex799
  intro x800 ex800
  refine ⟨sc_in (j := 2) hv hc hL ex800 (by omega) (by decide), ?_⟩
  intro x801 ex801
  refine ⟨o1, ?_⟩
  refine ⟨by show _ ≤ 601024; omega, by show _ ≤ 7293034; omega, ?_⟩
  refine mz_X9_fit hI o1 (fun x803 S802 hJ g804 fc805 Kg804 nf1 kz => ?_)
  have wr := wr_keep hI o2 wr kz.1 kz.2 fc805 (by decide) (by decide) (by decide)
  have lgx := lg_keep o1 lgx g804 fc805 (by decide) (by decide) (by decide)
  have tp := tt_fri tp o1 o2 Kg804 fc805 (by decide) (by decide) (by decide) (by decide)
  have fa := fa_fri fa o1 o2 fc805 (by decide) (by decide)
  have hI := hJ
  have l3 := (gr_len g804 o3).trans l3
  have o1 := gr_ob g804 o1
  have o2 := gr_ob g804 o2
  have o3 := gr_ob g804 o3
  intro _
  intro x806 ex806
  refine ⟨sc_in (j := 1) hv hc hL ex806 (by omega) (by decide), ?_⟩
  intro x807 ex807
  intro x808 ex808
  refine ⟨sc_in (j := 2) hv hc hL ex808 (by omega) (by decide), ?_⟩
  intro x809 ex809
  refine ⟨o2, ?_⟩
  refine ⟨by show _ ≤ 601024; omega, by show _ ≤ 7293034; omega, ?_⟩
  refine mz_X11_fit hI o2 (fun x811 S810 hJ g812 fc813 Kg812 nf2 kz => ?_)
  have wr := wr_keep hI o2 wr kz.1 kz.2 fc813 (by decide) (by decide) (by decide)
  have lgx := lg_keep o1 lgx g812 fc813 (by decide) (by decide) (by decide)
  have tp := tt_fri tp o1 o2 Kg812 fc813 (by decide) (by decide) (by decide) (by decide)
  have fa := fa_fri fa o1 o2 fc813 (by decide) (by decide)
  have wh := wh_set nf1 fc813 (by decide) nf2
  have hI := hJ
  have l3 := (gr_len g812 o3).trans l3
  have o1 := gr_ob g812 o1
  have o2 := gr_ob g812 o2
  have o3 := gr_ob g812 o3
  intro _
  unfold P_L_law_2341
  intro x814 ex814
  have back := hb x814 ex814
  exact back _ _ _ hI o1 o2 o3 l3 tp fa wh ⟨AA, GG, wr, gb⟩ lgx (by omega) (by omega)
set_option maxHeartbeats 4000000 in
set_option maxRecDepth 20000 in
theorem a_L_law_1895 {scL : Nat} {scx : Nat → Int32} {Q : Int32 → HS → Prop} {X23 : Nat → Nat → Nat → Int32 → Nat → Nat → HS → Prop} {v1 v2 v3 : Nat} {v4 : Int32} {kk nn : Nat} {S : HS} {c : Nat} (hL : scL ≤ 4096) (hc : 8 * c + 8 ≤ scL) (hb : ∀ x : Int32, x = v4 + (8 : Int32) → ∀ (kk nn : Nat) (T : HS), IV T → ob T v1 9 → ob T v2 11 → ob T v3 14 → hN T v3 = 1 → TT v1 v2 T → fI T v1 7 = fI T v2 13 → WH v1 v2 T → WRy v1 v2 T → LGx v1 T → kk ≤ 200 + 35 * (c + 1) → nn ≤ 13000 + 8200 * (c + 1) → X23 v1 v2 v3 x kk nn T) (h : LI v1 v2 v3 v4 kk nn S c) : P_L_law_1895 scL scx Q X23 v1 v2 v3 v4 kk nn S := by
  obtain ⟨hI, o1, o2, o3, l3, tp, fa, wh, wr, lgx, hv, hk, hn⟩ := h
  obtain ⟨AA, GG, wr, gb⟩ := wr
  unfold P_L_law_1895
  refine ⟨o1, ?_⟩
  refine ⟨by show _ ≤ 601024; omega, by show _ ≤ 7293034; omega, ?_⟩
  refine mz_X9_lies hI o1 (fun x816 S815 hJ g817 fc818 Kg817 nf1 kz => ?_)
  have wr := wr_keep hI o2 wr kz.1 kz.2 fc818 (by decide) (by decide) (by decide)
  have lgx := lg_keep o1 lgx g817 fc818 (by decide) (by decide) (by decide)
  have tp := tt_fri tp o1 o2 Kg817 fc818 (by decide) (by decide) (by decide) (by decide)
  have fa := fa_fri fa o1 o2 fc818 (by decide) (by decide)
  have hI := hJ
  have l3 := (gr_len g817 o3).trans l3
  have o1 := gr_ob g817 o1
  have o2 := gr_ob g817 o2
  have o3 := gr_ob g817 o3
  intro _
  refine ⟨o2, ?_⟩
  refine ⟨by show _ ≤ 601024; omega, by show _ ≤ 7293034; omega, ?_⟩
  refine mz_X11_lies hI o2 (fun x820 S819 hJ g821 fc822 Kg821 nf2 kz => ?_)
  have wr := wr_keep hI o2 wr kz.1 kz.2 fc822 (by decide) (by decide) (by decide)
  have lgx := lg_keep o1 lgx g821 fc822 (by decide) (by decide) (by decide)
  have tp := tt_fri tp o1 o2 Kg821 fc822 (by decide) (by decide) (by decide) (by decide)
  have fa := fa_fri fa o1 o2 fc822 (by decide) (by decide)
  have wh := wh_set nf1 fc822 (by decide) nf2
  have hI := hJ
  have l3 := (gr_len g821 o3).trans l3
  have o1 := gr_ob g821 o1
  have o2 := gr_ob g821 o2
  have o3 := gr_ob g821 o3
  intro _
  unfold P_L_law_2341
  intro x823 ex823
  have back := hb x823 ex823
  exact back _ _ _ hI o1 o2 o3 l3 tp fa wh ⟨AA, GG, wr, gb⟩ lgx (by omega) (by omega)
set_option maxHeartbeats 4000000 in
set_option maxRecDepth 20000 in
theorem a_L_law_1908 {scL : Nat} {scx : Nat → Int32} {Q : Int32 → HS → Prop} {X23 : Nat → Nat → Nat → Int32 → Nat → Nat → HS → Prop} {v1 v2 v3 : Nat} {v4 : Int32} {kk nn : Nat} {S : HS} {c : Nat} (hL : scL ≤ 4096) (hc : 8 * c + 8 ≤ scL) (hb : ∀ x : Int32, x = v4 + (8 : Int32) → ∀ (kk nn : Nat) (T : HS), IV T → ob T v1 9 → ob T v2 11 → ob T v3 14 → hN T v3 = 1 → TT v1 v2 T → fI T v1 7 = fI T v2 13 → WH v1 v2 T → WRy v1 v2 T → LGx v1 T → kk ≤ 200 + 35 * (c + 1) → nn ≤ 13000 + 8200 * (c + 1) → X23 v1 v2 v3 x kk nn T) (h : LI v1 v2 v3 v4 kk nn S c) : P_L_law_1908 scL scx Q X23 v1 v2 v3 v4 kk nn S := by
  obtain ⟨hI, o1, o2, o3, l3, tp, fa, wh, wr, lgx, hv, hk, hn⟩ := h
  obtain ⟨AA, GG, wr, gb⟩ := wr
  unfold P_L_law_1908
  intro x824 ex824
  refine ⟨sc_in (j := 1) hv hc hL ex824 (by omega) (by decide), ?_⟩
  intro x825 ex825
  intro x826 ex826
  refine ⟨sc_in (j := 2) hv hc hL ex826 (by omega) (by decide), ?_⟩
  intro x827 ex827
  intro x828 ex828
  refine ⟨sc_in (j := 3) hv hc hL ex828 (by omega) (by decide), ?_⟩
  intro x829 ex829
  intro x830 ex830
  refine ⟨sc_in (j := 4) hv hc hL ex830 (by omega) (by decide), ?_⟩
  intro x831 ex831
  refine ⟨o1, ?_⟩
  refine ⟨by show _ ≤ 601024; omega, by show _ ≤ 7293034; omega, ?_⟩
  refine mz_X9_day hI o1 (fun x833 S832 hJ g834 fc835 Kg834 nf1 kz => ?_)
  have wr := wr_keep hI o2 wr kz.1 kz.2 fc835 (by decide) (by decide) (by decide)
  have lgx := lg_keep o1 lgx g834 fc835 (by decide) (by decide) (by decide)
  have tp := tt_fri tp o1 o2 Kg834 fc835 (by decide) (by decide) (by decide) (by decide)
  have fa := fa_fri fa o1 o2 fc835 (by decide) (by decide)
  have hI := hJ
  have l3 := (gr_len g834 o3).trans l3
  have o1 := gr_ob g834 o1
  have o2 := gr_ob g834 o2
  have o3 := gr_ob g834 o3
  intro _
  intro x836 ex836
  refine ⟨sc_in (j := 1) hv hc hL ex836 (by omega) (by decide), ?_⟩
  intro x837 ex837
  intro x838 ex838
  refine ⟨sc_in (j := 2) hv hc hL ex838 (by omega) (by decide), ?_⟩
  intro x839 ex839
  intro x840 ex840
  refine ⟨sc_in (j := 3) hv hc hL ex840 (by omega) (by decide), ?_⟩
  intro x841 ex841
  intro x842 ex842
  refine ⟨sc_in (j := 4) hv hc hL ex842 (by omega) (by decide), ?_⟩
  intro x843 ex843
  refine ⟨o2, ?_⟩
  refine ⟨by show _ ≤ 601024; omega, by show _ ≤ 7293034; omega, ?_⟩
  refine mz_X11_day hI o2 (fun x845 S844 hJ g846 fc847 Kg846 nf2 kz => ?_)
  have wr := wr_keep hI o2 wr kz.1 kz.2 fc847 (by decide) (by decide) (by decide)
  have lgx := lg_keep o1 lgx g846 fc847 (by decide) (by decide) (by decide)
  have tp := tt_fri tp o1 o2 Kg846 fc847 (by decide) (by decide) (by decide) (by decide)
  have fa := fa_fri fa o1 o2 fc847 (by decide) (by decide)
  have wh := wh_set nf1 fc847 (by decide) nf2
  have hI := hJ
  have l3 := (gr_len g846 o3).trans l3
  have o1 := gr_ob g846 o1
  have o2 := gr_ob g846 o2
  have o3 := gr_ob g846 o3
  intro _
  unfold P_L_law_2341
  intro x848 ex848
  have back := hb x848 ex848
  exact back _ _ _ hI o1 o2 o3 l3 tp fa wh ⟨AA, GG, wr, gb⟩ lgx (by omega) (by omega)
set_option maxHeartbeats 4000000 in
set_option maxRecDepth 20000 in
theorem a_L_law_1969 {scL : Nat} {scx : Nat → Int32} {Q : Int32 → HS → Prop} {X23 : Nat → Nat → Nat → Int32 → Nat → Nat → HS → Prop} {v1 v2 v3 : Nat} {v4 : Int32} {kk nn : Nat} {S : HS} {c : Nat} (hL : scL ≤ 4096) (hc : 8 * c + 8 ≤ scL) (hb : ∀ x : Int32, x = v4 + (8 : Int32) → ∀ (kk nn : Nat) (T : HS), IV T → ob T v1 9 → ob T v2 11 → ob T v3 14 → hN T v3 = 1 → TT v1 v2 T → fI T v1 7 = fI T v2 13 → WH v1 v2 T → WRy v1 v2 T → LGx v1 T → kk ≤ 200 + 35 * (c + 1) → nn ≤ 13000 + 8200 * (c + 1) → X23 v1 v2 v3 x kk nn T) (h : LI v1 v2 v3 v4 kk nn S c) : P_L_law_1969 scL scx Q X23 v1 v2 v3 v4 kk nn S := by
  obtain ⟨hI, o1, o2, o3, l3, tp, fa, wh, wr, lgx, hv, hk, hn⟩ := h
  obtain ⟨AA, GG, wr, gb⟩ := wr
  unfold P_L_law_1969
  intro x849 ex849
  refine ⟨sc_in (j := 1) hv hc hL ex849 (by omega) (by decide), ?_⟩
  intro x850 ex850
  intro x851 ex851
  refine ⟨sc_in (j := 2) hv hc hL ex851 (by omega) (by decide), ?_⟩
  intro x852 ex852
  intro x853 ex853
  refine ⟨sc_in (j := 3) hv hc hL ex853 (by omega) (by decide), ?_⟩
  intro x854 ex854
  refine ⟨o1, ?_⟩
  refine ⟨by show _ ≤ 601024; omega, by show _ ≤ 7293034; omega, ?_⟩
  refine mz_X9_go hI o1 (fun x856 S855 hJ g857 fc858 Kg857 nf1 kz => ?_)
  have wr := wr_keep hI o2 wr kz.1 kz.2 fc858 (by decide) (by decide) (by decide)
  have lgx := lg_keep o1 lgx g857 fc858 (by decide) (by decide) (by decide)
  have tp := tt_fri tp o1 o2 Kg857 fc858 (by decide) (by decide) (by decide) (by decide)
  have fa := fa_fri fa o1 o2 fc858 (by decide) (by decide)
  have hI := hJ
  have l3 := (gr_len g857 o3).trans l3
  have o1 := gr_ob g857 o1
  have o2 := gr_ob g857 o2
  have o3 := gr_ob g857 o3
  intro _
  intro x859 ex859
  refine ⟨sc_in (j := 1) hv hc hL ex859 (by omega) (by decide), ?_⟩
  intro x860 ex860
  intro x861 ex861
  refine ⟨sc_in (j := 2) hv hc hL ex861 (by omega) (by decide), ?_⟩
  intro x862 ex862
  intro x863 ex863
  refine ⟨sc_in (j := 3) hv hc hL ex863 (by omega) (by decide), ?_⟩
  intro x864 ex864
  refine ⟨o2, ?_⟩
  refine ⟨by show _ ≤ 601024; omega, by show _ ≤ 7293034; omega, ?_⟩
  refine mz_X11_go hI o2 (fun x866 S865 hJ g867 fc868 Kg867 nf2 kz => ?_)
  have wr := wr_keep hI o2 wr kz.1 kz.2 fc868 (by decide) (by decide) (by decide)
  have lgx := lg_keep o1 lgx g867 fc868 (by decide) (by decide) (by decide)
  have tp := tt_fri tp o1 o2 Kg867 fc868 (by decide) (by decide) (by decide) (by decide)
  have fa := fa_fri fa o1 o2 fc868 (by decide) (by decide)
  have wh := wh_set nf1 fc868 (by decide) nf2
  have hI := hJ
  have l3 := (gr_len g867 o3).trans l3
  have o1 := gr_ob g867 o1
  have o2 := gr_ob g867 o2
  have o3 := gr_ob g867 o3
  intro _
  unfold P_L_law_2341
  intro x869 ex869
  have back := hb x869 ex869
  exact back _ _ _ hI o1 o2 o3 l3 tp fa wh ⟨AA, GG, wr, gb⟩ lgx (by omega) (by omega)
set_option maxHeartbeats 4000000 in
set_option maxRecDepth 20000 in
theorem a_L_law_2018 {scL : Nat} {scx : Nat → Int32} {Q : Int32 → HS → Prop} {X23 : Nat → Nat → Nat → Int32 → Nat → Nat → HS → Prop} {v1 v2 v3 : Nat} {v4 : Int32} {kk nn : Nat} {S : HS} {c : Nat} (hL : scL ≤ 4096) (hc : 8 * c + 8 ≤ scL) (hb : ∀ x : Int32, x = v4 + (8 : Int32) → ∀ (kk nn : Nat) (T : HS), IV T → ob T v1 9 → ob T v2 11 → ob T v3 14 → hN T v3 = 1 → TT v1 v2 T → fI T v1 7 = fI T v2 13 → WH v1 v2 T → WRy v1 v2 T → LGx v1 T → kk ≤ 200 + 35 * (c + 1) → nn ≤ 13000 + 8200 * (c + 1) → X23 v1 v2 v3 x kk nn T) (h : LI v1 v2 v3 v4 kk nn S c) : P_L_law_2018 scL scx Q X23 v1 v2 v3 v4 kk nn S := by
  obtain ⟨hI, o1, o2, o3, l3, tp, fa, wh, wr, lgx, hv, hk, hn⟩ := h
  obtain ⟨AA, GG, wr, gb⟩ := wr
  unfold P_L_law_2018
  intro x870 ex870
  refine ⟨sc_in (j := 1) hv hc hL ex870 (by omega) (by decide), ?_⟩
  intro x871 ex871
  refine ⟨o1, ?_⟩
  refine ⟨by show _ ≤ 601024; omega, by show _ ≤ 7293034; omega, ?_⟩
  refine mz_X9_stay hI o1 (fun x873 S872 hJ g874 fc875 _ Kg874 nf1 kz => ?_)
  have wr := wr_keep hI o2 wr kz.1 kz.2 fc875 (by decide) (by decide) (by decide)
  have lgx := lg_keep o1 lgx g874 fc875 (by decide) (by decide) (by decide)
  have tp := tt_fri tp o1 o2 Kg874 fc875 (by decide) (by decide) (by decide) (by decide)
  have fa := fa_fri fa o1 o2 fc875 (by decide) (by decide)
  have hI := hJ
  have l3 := (gr_len g874 o3).trans l3
  have o1 := gr_ob g874 o1
  have o2 := gr_ob g874 o2
  have o3 := gr_ob g874 o3
  intro _ _
  intro x876 ex876
  refine ⟨sc_in (j := 1) hv hc hL ex876 (by omega) (by decide), ?_⟩
  intro x877 ex877
  refine ⟨o2, ?_⟩
  refine ⟨by show _ ≤ 601024; omega, by show _ ≤ 7293034; omega, ?_⟩
  refine mz_X11_stay hI o2 (fun x879 S878 hJ g880 fc881 _ Kg880 nf2 kz => ?_)
  have wr := wr_keep hI o2 wr kz.1 kz.2 fc881 (by decide) (by decide) (by decide)
  have lgx := lg_keep o1 lgx g880 fc881 (by decide) (by decide) (by decide)
  have tp := tt_fri tp o1 o2 Kg880 fc881 (by decide) (by decide) (by decide) (by decide)
  have fa := fa_fri fa o1 o2 fc881 (by decide) (by decide)
  have wh := wh_set nf1 fc881 (by decide) nf2
  have hI := hJ
  have l3 := (gr_len g880 o3).trans l3
  have o1 := gr_ob g880 o1
  have o2 := gr_ob g880 o2
  have o3 := gr_ob g880 o3
  intro _ _
  unfold P_L_law_2341
  intro x882 ex882
  have back := hb x882 ex882
  exact back _ _ _ hI o1 o2 o3 l3 tp fa wh ⟨AA, GG, wr, gb⟩ lgx (by omega) (by omega)
set_option maxHeartbeats 4000000 in
set_option maxRecDepth 20000 in
theorem a_L_law_2043 {scL : Nat} {scx : Nat → Int32} {Q : Int32 → HS → Prop} {X23 : Nat → Nat → Nat → Int32 → Nat → Nat → HS → Prop} {v1 v2 v3 : Nat} {v4 : Int32} {kk nn : Nat} {S : HS} {c : Nat} (hL : scL ≤ 4096) (hc : 8 * c + 8 ≤ scL) (hb : ∀ x : Int32, x = v4 + (8 : Int32) → ∀ (kk nn : Nat) (T : HS), IV T → ob T v1 9 → ob T v2 11 → ob T v3 14 → hN T v3 = 1 → TT v1 v2 T → fI T v1 7 = fI T v2 13 → WH v1 v2 T → WRy v1 v2 T → LGx v1 T → kk ≤ 200 + 35 * (c + 1) → nn ≤ 13000 + 8200 * (c + 1) → X23 v1 v2 v3 x kk nn T) (h : LI v1 v2 v3 v4 kk nn S c) : P_L_law_2043 scL scx Q X23 v1 v2 v3 v4 kk nn S := by
  obtain ⟨hI, o1, o2, o3, l3, tp, fa, wh, wr, lgx, hv, hk, hn⟩ := h
  obtain ⟨AA, GG, wr, gb⟩ := wr
  unfold P_L_law_2043
  intro x883 ex883
  refine ⟨sc_in (j := 1) hv hc hL ex883 (by omega) (by decide), ?_⟩
  intro x884 ex884
  intro x885 ex885
  refine ⟨sc_in (j := 2) hv hc hL ex885 (by omega) (by decide), ?_⟩
  intro x886 ex886
  refine ⟨fun c887 => ?_, fun c887 => ?_⟩
  · unfold P_L_law_2064
    refine ⟨o1, ?_⟩
    refine ⟨by show _ ≤ 601024; omega, by show _ ≤ 7293034; omega, ?_⟩
    refine mz_X9_got hI o1 (fun x889 S888 hJ g890 fc891 Kg890 nf1 kz => ?_)
    have wr := wr_keep hI o2 wr kz.1 kz.2 fc891 (by decide) (by decide) (by decide)
    have lgx := lg_keep o1 lgx g890 fc891 (by decide) (by decide) (by decide)
    have tp := tt_fri tp o1 o2 Kg890 fc891 (by decide) (by decide) (by decide) (by decide)
    have fa := fa_fri fa o1 o2 fc891 (by decide) (by decide)
    have hI := hJ
    have l3 := (gr_len g890 o3).trans l3
    have o1 := gr_ob g890 o1
    have o2 := gr_ob g890 o2
    have o3 := gr_ob g890 o3
    intro _
    intro x892 ex892
    refine ⟨sc_in (j := 1) hv hc hL ex892 (by omega) (by decide), ?_⟩
    intro x893 ex893
    intro x894 ex894
    refine ⟨sc_in (j := 2) hv hc hL ex894 (by omega) (by decide), ?_⟩
    intro x895 ex895
    have xy897 : x895 = x886 := by rw [ex895, ex894, ex886, ex885]
    refine ⟨fun c896 => ?_, fun c896 => absurd (xy897.trans c887) c896⟩
    unfold P_L_law_2089
    refine ⟨o2, ?_⟩
    refine ⟨by show _ ≤ 601024; omega, by show _ ≤ 7293034; omega, ?_⟩
    refine mz_X11_got hI o2 (fun x899 S898 hJ g900 fc901 Kg900 nf2 kz => ?_)
    have wr := wr_keep hI o2 wr kz.1 kz.2 fc901 (by decide) (by decide) (by decide)
    have lgx := lg_keep o1 lgx g900 fc901 (by decide) (by decide) (by decide)
    have tp := tt_fri tp o1 o2 Kg900 fc901 (by decide) (by decide) (by decide) (by decide)
    have fa := fa_fri fa o1 o2 fc901 (by decide) (by decide)
    have wh := wh_set nf1 fc901 (by decide) nf2
    have hI := hJ
    have l3 := (gr_len g900 o3).trans l3
    have o1 := gr_ob g900 o1
    have o2 := gr_ob g900 o2
    have o3 := gr_ob g900 o3
    intro _
    unfold P_L_law_2341
    intro x902 ex902
    have back := hb x902 ex902
    exact back _ _ _ hI o1 o2 o3 l3 tp fa wh ⟨AA, GG, wr, gb⟩ lgx (by omega) (by omega)
  · unfold P_L_law_2064
    refine ⟨o1, ?_⟩
    refine ⟨by show _ ≤ 601024; omega, by show _ ≤ 7293034; omega, ?_⟩
    refine mz_X9_got hI o1 (fun x904 S903 hJ g905 fc906 Kg905 nf1 kz => ?_)
    have wr := wr_keep hI o2 wr kz.1 kz.2 fc906 (by decide) (by decide) (by decide)
    have lgx := lg_keep o1 lgx g905 fc906 (by decide) (by decide) (by decide)
    have tp := tt_fri tp o1 o2 Kg905 fc906 (by decide) (by decide) (by decide) (by decide)
    have fa := fa_fri fa o1 o2 fc906 (by decide) (by decide)
    have hI := hJ
    have l3 := (gr_len g905 o3).trans l3
    have o1 := gr_ob g905 o1
    have o2 := gr_ob g905 o2
    have o3 := gr_ob g905 o3
    intro _
    intro x907 ex907
    refine ⟨sc_in (j := 1) hv hc hL ex907 (by omega) (by decide), ?_⟩
    intro x908 ex908
    intro x909 ex909
    refine ⟨sc_in (j := 2) hv hc hL ex909 (by omega) (by decide), ?_⟩
    intro x910 ex910
    have xy912 : x910 = x886 := by rw [ex910, ex909, ex886, ex885]
    refine ⟨fun c911 => absurd (xy912.symm.trans c911) c887, fun c911 => ?_⟩
    unfold P_L_law_2089
    refine ⟨o2, ?_⟩
    refine ⟨by show _ ≤ 601024; omega, by show _ ≤ 7293034; omega, ?_⟩
    refine mz_X11_got hI o2 (fun x914 S913 hJ g915 fc916 Kg915 nf2 kz => ?_)
    have wr := wr_keep hI o2 wr kz.1 kz.2 fc916 (by decide) (by decide) (by decide)
    have lgx := lg_keep o1 lgx g915 fc916 (by decide) (by decide) (by decide)
    have tp := tt_fri tp o1 o2 Kg915 fc916 (by decide) (by decide) (by decide) (by decide)
    have fa := fa_fri fa o1 o2 fc916 (by decide) (by decide)
    have wh := wh_set nf1 fc916 (by decide) nf2
    have hI := hJ
    have l3 := (gr_len g915 o3).trans l3
    have o1 := gr_ob g915 o1
    have o2 := gr_ob g915 o2
    have o3 := gr_ob g915 o3
    intro _
    unfold P_L_law_2341
    intro x917 ex917
    have back := hb x917 ex917
    exact back _ _ _ hI o1 o2 o3 l3 tp fa wh ⟨AA, GG, wr, gb⟩ lgx (by omega) (by omega)
set_option maxHeartbeats 4000000 in
set_option maxRecDepth 20000 in
theorem a_L_law_2096 {scL : Nat} {scx : Nat → Int32} {Q : Int32 → HS → Prop} {X23 : Nat → Nat → Nat → Int32 → Nat → Nat → HS → Prop} {v1 v2 v3 : Nat} {v4 : Int32} {kk nn : Nat} {S : HS} {c : Nat} (hL : scL ≤ 4096) (hc : 8 * c + 8 ≤ scL) (hb : ∀ x : Int32, x = v4 + (8 : Int32) → ∀ (kk nn : Nat) (T : HS), IV T → ob T v1 9 → ob T v2 11 → ob T v3 14 → hN T v3 = 1 → TT v1 v2 T → fI T v1 7 = fI T v2 13 → WH v1 v2 T → WRy v1 v2 T → LGx v1 T → kk ≤ 200 + 35 * (c + 1) → nn ≤ 13000 + 8200 * (c + 1) → X23 v1 v2 v3 x kk nn T) (h : LI v1 v2 v3 v4 kk nn S c) : P_L_law_2096 scL scx Q X23 v1 v2 v3 v4 kk nn S := by
  obtain ⟨hI, o1, o2, o3, l3, tp, fa, wh, wr, lgx, hv, hk, hn⟩ := h
  obtain ⟨AA, GG, wr, gb⟩ := wr
  unfold P_L_law_2096
  intro x918 ex918
  refine ⟨sc_in (j := 1) hv hc hL ex918 (by omega) (by decide), ?_⟩
  intro x919 ex919
  refine ⟨fun c920 => ?_, fun c920 => ?_⟩
  · unfold P_L_law_2111
    refine ⟨o1, ?_⟩
    refine ⟨by show _ ≤ 601024; omega, by show _ ≤ 7293034; omega, ?_⟩
    refine mz_X9_wetness hI o1 (fun x922 S921 hJ g923 fc924 Kg923 nf1 kz => ?_)
    have wr := wr_keep hI o2 wr kz.1 kz.2 fc924 (by decide) (by decide) (by decide)
    have lgx := lg_keep o1 lgx g923 fc924 (by decide) (by decide) (by decide)
    have tp := tt_fri tp o1 o2 Kg923 fc924 (by decide) (by decide) (by decide) (by decide)
    have fa := fa_fri fa o1 o2 fc924 (by decide) (by decide)
    have hI := hJ
    have l3 := (gr_len g923 o3).trans l3
    have o1 := gr_ob g923 o1
    have o2 := gr_ob g923 o2
    have o3 := gr_ob g923 o3
    intro _
    intro x925 ex925
    refine ⟨sc_in (j := 1) hv hc hL ex925 (by omega) (by decide), ?_⟩
    intro x926 ex926
    have xy928 : x926 = x919 := by rw [ex926, ex925, ex919, ex918]
    refine ⟨fun c927 => ?_, fun c927 => absurd (xy928.trans c920) c927⟩
    unfold P_L_law_2130
    refine ⟨o2, ?_⟩
    refine ⟨by show _ ≤ 601024; omega, by show _ ≤ 7293034; omega, ?_⟩
    refine mz_X11_wetness hI o2 (fun x930 S929 hJ g931 fc932 Kg931 nf2 kz => ?_)
    have wr := wr_keep hI o2 wr kz.1 kz.2 fc932 (by decide) (by decide) (by decide)
    have lgx := lg_keep o1 lgx g931 fc932 (by decide) (by decide) (by decide)
    have tp := tt_fri tp o1 o2 Kg931 fc932 (by decide) (by decide) (by decide) (by decide)
    have fa := fa_fri fa o1 o2 fc932 (by decide) (by decide)
    have wh := wh_set nf1 fc932 (by decide) nf2
    have hI := hJ
    have l3 := (gr_len g931 o3).trans l3
    have o1 := gr_ob g931 o1
    have o2 := gr_ob g931 o2
    have o3 := gr_ob g931 o3
    intro _
    unfold P_L_law_2341
    intro x933 ex933
    have back := hb x933 ex933
    exact back _ _ _ hI o1 o2 o3 l3 tp fa wh ⟨AA, GG, wr, gb⟩ lgx (by omega) (by omega)
  · unfold P_L_law_2111
    refine ⟨o1, ?_⟩
    refine ⟨by show _ ≤ 601024; omega, by show _ ≤ 7293034; omega, ?_⟩
    refine mz_X9_wetness hI o1 (fun x935 S934 hJ g936 fc937 Kg936 nf1 kz => ?_)
    have wr := wr_keep hI o2 wr kz.1 kz.2 fc937 (by decide) (by decide) (by decide)
    have lgx := lg_keep o1 lgx g936 fc937 (by decide) (by decide) (by decide)
    have tp := tt_fri tp o1 o2 Kg936 fc937 (by decide) (by decide) (by decide) (by decide)
    have fa := fa_fri fa o1 o2 fc937 (by decide) (by decide)
    have hI := hJ
    have l3 := (gr_len g936 o3).trans l3
    have o1 := gr_ob g936 o1
    have o2 := gr_ob g936 o2
    have o3 := gr_ob g936 o3
    intro _
    intro x938 ex938
    refine ⟨sc_in (j := 1) hv hc hL ex938 (by omega) (by decide), ?_⟩
    intro x939 ex939
    have xy941 : x939 = x919 := by rw [ex939, ex938, ex919, ex918]
    refine ⟨fun c940 => absurd (xy941.symm.trans c940) c920, fun c940 => ?_⟩
    unfold P_L_law_2130
    refine ⟨o2, ?_⟩
    refine ⟨by show _ ≤ 601024; omega, by show _ ≤ 7293034; omega, ?_⟩
    refine mz_X11_wetness hI o2 (fun x943 S942 hJ g944 fc945 Kg944 nf2 kz => ?_)
    have wr := wr_keep hI o2 wr kz.1 kz.2 fc945 (by decide) (by decide) (by decide)
    have lgx := lg_keep o1 lgx g944 fc945 (by decide) (by decide) (by decide)
    have tp := tt_fri tp o1 o2 Kg944 fc945 (by decide) (by decide) (by decide) (by decide)
    have fa := fa_fri fa o1 o2 fc945 (by decide) (by decide)
    have wh := wh_set nf1 fc945 (by decide) nf2
    have hI := hJ
    have l3 := (gr_len g944 o3).trans l3
    have o1 := gr_ob g944 o1
    have o2 := gr_ob g944 o2
    have o3 := gr_ob g944 o3
    intro _
    unfold P_L_law_2341
    intro x946 ex946
    have back := hb x946 ex946
    exact back _ _ _ hI o1 o2 o3 l3 tp fa wh ⟨AA, GG, wr, gb⟩ lgx (by omega) (by omega)
set_option maxHeartbeats 4000000 in
set_option maxRecDepth 20000 in
theorem a_L_law_2137 {scL : Nat} {scx : Nat → Int32} {Q : Int32 → HS → Prop} {X23 : Nat → Nat → Nat → Int32 → Nat → Nat → HS → Prop} {v1 v2 v3 : Nat} {v4 : Int32} {kk nn : Nat} {S : HS} {c : Nat} (hL : scL ≤ 4096) (hc : 8 * c + 8 ≤ scL) (hb : ∀ x : Int32, x = v4 + (8 : Int32) → ∀ (kk nn : Nat) (T : HS), IV T → ob T v1 9 → ob T v2 11 → ob T v3 14 → hN T v3 = 1 → TT v1 v2 T → fI T v1 7 = fI T v2 13 → WH v1 v2 T → WRy v1 v2 T → LGx v1 T → kk ≤ 200 + 35 * (c + 1) → nn ≤ 13000 + 8200 * (c + 1) → X23 v1 v2 v3 x kk nn T) (h : LI v1 v2 v3 v4 kk nn S c) : P_L_law_2137 scL scx Q X23 v1 v2 v3 v4 kk nn S := by
  obtain ⟨hI, o1, o2, o3, l3, tp, fa, wh, wr, lgx, hv, hk, hn⟩ := h
  obtain ⟨AA, GG, wr, gb⟩ := wr
  unfold P_L_law_2137
  refine ⟨o1, ?_⟩
  refine ⟨by show _ ≤ 601024; omega, by show _ ≤ 7293034; omega, ?_⟩
  refine mz_X9_soaked hI o1 (fun x948 S947 hJ g949 fc950 Kg949 nf1 kz => ?_)
  have wr := wr_keep hI o2 wr kz.1 kz.2 fc950 (by decide) (by decide) (by decide)
  have lgx := lg_keep o1 lgx g949 fc950 (by decide) (by decide) (by decide)
  have tp := tt_fri tp o1 o2 Kg949 fc950 (by decide) (by decide) (by decide) (by decide)
  have fa := fa_fri fa o1 o2 fc950 (by decide) (by decide)
  have hI := hJ
  have l3 := (gr_len g949 o3).trans l3
  have o1 := gr_ob g949 o1
  have o2 := gr_ob g949 o2
  have o3 := gr_ob g949 o3
  intro _
  refine ⟨o2, ?_⟩
  refine ⟨by show _ ≤ 601024; omega, by show _ ≤ 7293034; omega, ?_⟩
  refine mz_X11_soaked hI o2 (fun x952 S951 hJ g953 fc954 Kg953 nf2 kz => ?_)
  have wr := wr_keep hI o2 wr kz.1 kz.2 fc954 (by decide) (by decide) (by decide)
  have lgx := lg_keep o1 lgx g953 fc954 (by decide) (by decide) (by decide)
  have tp := tt_fri tp o1 o2 Kg953 fc954 (by decide) (by decide) (by decide) (by decide)
  have fa := fa_fri fa o1 o2 fc954 (by decide) (by decide)
  have wh := wh_set nf1 fc954 (by decide) nf2
  have hI := hJ
  have l3 := (gr_len g953 o3).trans l3
  have o1 := gr_ob g953 o1
  have o2 := gr_ob g953 o2
  have o3 := gr_ob g953 o3
  intro _
  unfold P_L_law_2341
  intro x955 ex955
  have back := hb x955 ex955
  exact back _ _ _ hI o1 o2 o3 l3 tp fa wh ⟨AA, GG, wr, gb⟩ lgx (by omega) (by omega)
set_option maxHeartbeats 4000000 in
set_option maxRecDepth 20000 in
theorem a_L_law_2150 {scL : Nat} {scx : Nat → Int32} {Q : Int32 → HS → Prop} {X23 : Nat → Nat → Nat → Int32 → Nat → Nat → HS → Prop} {v1 v2 v3 : Nat} {v4 : Int32} {kk nn : Nat} {S : HS} {c : Nat} (hL : scL ≤ 4096) (hc : 8 * c + 8 ≤ scL) (hb : ∀ x : Int32, x = v4 + (8 : Int32) → ∀ (kk nn : Nat) (T : HS), IV T → ob T v1 9 → ob T v2 11 → ob T v3 14 → hN T v3 = 1 → TT v1 v2 T → fI T v1 7 = fI T v2 13 → WH v1 v2 T → WRy v1 v2 T → LGx v1 T → kk ≤ 200 + 35 * (c + 1) → nn ≤ 13000 + 8200 * (c + 1) → X23 v1 v2 v3 x kk nn T) (h : LI v1 v2 v3 v4 kk nn S c) : P_L_law_2150 scL scx Q X23 v1 v2 v3 v4 kk nn S := by
  obtain ⟨hI, o1, o2, o3, l3, tp, fa, wh, wr, lgx, hv, hk, hn⟩ := h
  obtain ⟨AA, GG, wr, gb⟩ := wr
  unfold P_L_law_2150
  refine ⟨o1, ?_⟩
  refine ⟨by show _ ≤ 601024; omega, by show _ ≤ 7293034; omega, ?_⟩
  refine mz_X9_undo hI o1 (fun x957 S956 hJ g958 fc959 _ Kg958 nf1 kz => ?_)
  have wr := wr_keep hI o2 wr kz.1 kz.2 fc959 (by decide) (by decide) (by decide)
  have lgx := lg_keep o1 lgx g958 fc959 (by decide) (by decide) (by decide)
  have tp := tt_fri tp o1 o2 Kg958 fc959 (by decide) (by decide) (by decide) (by decide)
  have fa := fa_fri fa o1 o2 fc959 (by decide) (by decide)
  have hI := hJ
  have l3 := (gr_len g958 o3).trans l3
  have o1 := gr_ob g958 o1
  have o2 := gr_ob g958 o2
  have o3 := gr_ob g958 o3
  intro _ _
  refine ⟨o2, ?_⟩
  refine ⟨by show _ ≤ 601024; omega, by show _ ≤ 7293034; omega, ?_⟩
  refine mz_X11_undo hI o2 (fun x961 S960 hJ g962 fc963 _ Kg962 nf2 kz => ?_)
  have wr := wr_keep hI o2 wr kz.1 kz.2 fc963 (by decide) (by decide) (by decide)
  have lgx := lg_keep o1 lgx g962 fc963 (by decide) (by decide) (by decide)
  have tp := tt_fri tp o1 o2 Kg962 fc963 (by decide) (by decide) (by decide) (by decide)
  have fa := fa_fri fa o1 o2 fc963 (by decide) (by decide)
  have wh := wh_set nf1 fc963 (by decide) nf2
  have hI := hJ
  have l3 := (gr_len g962 o3).trans l3
  have o1 := gr_ob g962 o1
  have o2 := gr_ob g962 o2
  have o3 := gr_ob g962 o3
  intro _ _
  unfold P_L_law_2341
  intro x964 ex964
  have back := hb x964 ex964
  exact back _ _ _ hI o1 o2 o3 l3 tp fa wh ⟨AA, GG, wr, gb⟩ lgx (by omega) (by omega)
set_option maxHeartbeats 4000000 in
set_option maxRecDepth 20000 in
theorem a_L_law_2163 {scL : Nat} {scx : Nat → Int32} {Q : Int32 → HS → Prop} {X23 : Nat → Nat → Nat → Int32 → Nat → Nat → HS → Prop} {v1 v2 v3 : Nat} {v4 : Int32} {kk nn : Nat} {S : HS} {c : Nat} (hL : scL ≤ 4096) (hc : 8 * c + 8 ≤ scL) (hb : ∀ x : Int32, x = v4 + (8 : Int32) → ∀ (kk nn : Nat) (T : HS), IV T → ob T v1 9 → ob T v2 11 → ob T v3 14 → hN T v3 = 1 → TT v1 v2 T → fI T v1 7 = fI T v2 13 → WH v1 v2 T → WRy v1 v2 T → LGx v1 T → kk ≤ 200 + 35 * (c + 1) → nn ≤ 13000 + 8200 * (c + 1) → X23 v1 v2 v3 x kk nn T) (h : LI v1 v2 v3 v4 kk nn S c) : P_L_law_2163 scL scx Q X23 v1 v2 v3 v4 kk nn S := by
  obtain ⟨hI, o1, o2, o3, l3, tp, fa, wh, wr, lgx, hv, hk, hn⟩ := h
  obtain ⟨AA, GG, wr, gb⟩ := wr
  unfold P_L_law_2163
  refine ⟨o1, ?_⟩
  refine ⟨by show _ ≤ 601024; omega, by show _ ≤ 7293034; omega, ?_⟩
  refine mz_X9_mark hI o1 (fun x966 S965 hJ g967 fc968 Kg967 nf1 kz => ?_)
  have wr := wr_keep hI o2 wr kz.1 kz.2 fc968 (by decide) (by decide) (by decide)
  have lgx := lg_keep o1 lgx g967 fc968 (by decide) (by decide) (by decide)
  have tp := tt_fri tp o1 o2 Kg967 fc968 (by decide) (by decide) (by decide) (by decide)
  have fa := fa_fri fa o1 o2 fc968 (by decide) (by decide)
  have hI := hJ
  have l3 := (gr_len g967 o3).trans l3
  have o1 := gr_ob g967 o1
  have o2 := gr_ob g967 o2
  have o3 := gr_ob g967 o3
  intro _
  refine ⟨o2, ?_⟩
  refine ⟨by show _ ≤ 601024; omega, by show _ ≤ 7293034; omega, ?_⟩
  refine mz_X11_mark hI o2 (fun x970 S969 hJ g971 fc972 Kg971 nf2 kz => ?_)
  have wr := wr_keep hI o2 wr kz.1 kz.2 fc972 (by decide) (by decide) (by decide)
  have lgx := lg_keep o1 lgx g971 fc972 (by decide) (by decide) (by decide)
  have tp := tt_fri tp o1 o2 Kg971 fc972 (by decide) (by decide) (by decide) (by decide)
  have fa := fa_fri fa o1 o2 fc972 (by decide) (by decide)
  have wh := wh_set nf1 fc972 (by decide) nf2
  have hI := hJ
  have l3 := (gr_len g971 o3).trans l3
  have o1 := gr_ob g971 o1
  have o2 := gr_ob g971 o2
  have o3 := gr_ob g971 o3
  intro _
  unfold P_L_law_2341
  intro x973 ex973
  have back := hb x973 ex973
  exact back _ _ _ hI o1 o2 o3 l3 tp fa wh ⟨AA, GG, wr, gb⟩ lgx (by omega) (by omega)
set_option maxHeartbeats 4000000 in
set_option maxRecDepth 20000 in
theorem a_L_law_2176 {scL : Nat} {scx : Nat → Int32} {Q : Int32 → HS → Prop} {X23 : Nat → Nat → Nat → Int32 → Nat → Nat → HS → Prop} {v1 v2 v3 : Nat} {v4 : Int32} {kk nn : Nat} {S : HS} {c : Nat} (hL : scL ≤ 4096) (hc : 8 * c + 8 ≤ scL) (hb : ∀ x : Int32, x = v4 + (8 : Int32) → ∀ (kk nn : Nat) (T : HS), IV T → ob T v1 9 → ob T v2 11 → ob T v3 14 → hN T v3 = 1 → TT v1 v2 T → fI T v1 7 = fI T v2 13 → WH v1 v2 T → WRy v1 v2 T → LGx v1 T → kk ≤ 200 + 35 * (c + 1) → nn ≤ 13000 + 8200 * (c + 1) → X23 v1 v2 v3 x kk nn T) (h : LI v1 v2 v3 v4 kk nn S c) : P_L_law_2176 scL scx Q X23 v1 v2 v3 v4 kk nn S := by
  obtain ⟨hI, o1, o2, o3, l3, tp, fa, wh, wr, lgx, hv, hk, hn⟩ := h
  obtain ⟨AA, GG, wr, gb⟩ := wr
  unfold P_L_law_2176
  intro x974 ex974
  refine ⟨sc_in (j := 1) hv hc hL ex974 (by omega) (by decide), ?_⟩
  intro x975 ex975
  refine ⟨o1, ?_⟩
  refine ⟨by show _ ≤ 601024; omega, by show _ ≤ 7293034; omega, ?_⟩
  refine mz_X9_back hI o1 (fun x977 S976 hJ g978 fc979 _ Kg978 nf1 kz => ?_)
  have wr := wr_keep hI o2 wr kz.1 kz.2 fc979 (by decide) (by decide) (by decide)
  have lgx := lg_keep o1 lgx g978 fc979 (by decide) (by decide) (by decide)
  have tp := tt_fri tp o1 o2 Kg978 fc979 (by decide) (by decide) (by decide) (by decide)
  have fa := fa_fri fa o1 o2 fc979 (by decide) (by decide)
  have hI := hJ
  have l3 := (gr_len g978 o3).trans l3
  have o1 := gr_ob g978 o1
  have o2 := gr_ob g978 o2
  have o3 := gr_ob g978 o3
  intro _ _
  intro x980 ex980
  refine ⟨sc_in (j := 1) hv hc hL ex980 (by omega) (by decide), ?_⟩
  intro x981 ex981
  refine ⟨o2, ?_⟩
  refine ⟨by show _ ≤ 601024; omega, by show _ ≤ 7293034; omega, ?_⟩
  refine mz_X11_back hI o2 (fun x983 S982 hJ g984 fc985 _ Kg984 nf2 kz => ?_)
  have wr := wr_keep hI o2 wr kz.1 kz.2 fc985 (by decide) (by decide) (by decide)
  have lgx := lg_keep o1 lgx g984 fc985 (by decide) (by decide) (by decide)
  have tp := tt_fri tp o1 o2 Kg984 fc985 (by decide) (by decide) (by decide) (by decide)
  have fa := fa_fri fa o1 o2 fc985 (by decide) (by decide)
  have wh := wh_set nf1 fc985 (by decide) nf2
  have hI := hJ
  have l3 := (gr_len g984 o3).trans l3
  have o1 := gr_ob g984 o1
  have o2 := gr_ob g984 o2
  have o3 := gr_ob g984 o3
  intro _ _
  unfold P_L_law_2341
  intro x986 ex986
  have back := hb x986 ex986
  exact back _ _ _ hI o1 o2 o3 l3 tp fa wh ⟨AA, GG, wr, gb⟩ lgx (by omega) (by omega)
set_option maxHeartbeats 4000000 in
set_option maxRecDepth 20000 in
theorem a_L_law_2201 {scL : Nat} {scx : Nat → Int32} {Q : Int32 → HS → Prop} {X23 : Nat → Nat → Nat → Int32 → Nat → Nat → HS → Prop} {v1 v2 v3 : Nat} {v4 : Int32} {kk nn : Nat} {S : HS} {c : Nat} (hL : scL ≤ 4096) (hc : 8 * c + 8 ≤ scL) (hb : ∀ x : Int32, x = v4 + (8 : Int32) → ∀ (kk nn : Nat) (T : HS), IV T → ob T v1 9 → ob T v2 11 → ob T v3 14 → hN T v3 = 1 → TT v1 v2 T → fI T v1 7 = fI T v2 13 → WH v1 v2 T → WRy v1 v2 T → LGx v1 T → kk ≤ 200 + 35 * (c + 1) → nn ≤ 13000 + 8200 * (c + 1) → X23 v1 v2 v3 x kk nn T) (h : LI v1 v2 v3 v4 kk nn S c) : P_L_law_2201 scL scx Q X23 v1 v2 v3 v4 kk nn S := by
  obtain ⟨hI, o1, o2, o3, l3, tp, fa, wh, wr, lgx, hv, hk, hn⟩ := h
  obtain ⟨AA, GG, wr, gb⟩ := wr
  unfold P_L_law_2201
  intro x987 ex987
  refine ⟨sc_in (j := 1) hv hc hL ex987 (by omega) (by decide), ?_⟩
  intro x988 ex988
  intro x989 ex989
  refine ⟨sc_in (j := 2) hv hc hL ex989 (by omega) (by decide), ?_⟩
  intro x990 ex990
  refine ⟨o1, ?_⟩
  refine ⟨by show _ ≤ 601024; omega, by show _ ≤ 7293034; omega, ?_⟩
  refine mz_X9_walker hI o1 (fun x992 S991 hJ g993 fc994 Kg993 nf1 kz => ?_)
  have wr := wr_keep hI o2 wr kz.1 kz.2 fc994 (by decide) (by decide) (by decide)
  have lgx := lg_keep o1 lgx g993 fc994 (by decide) (by decide) (by decide)
  have tp := tt_fri tp o1 o2 Kg993 fc994 (by decide) (by decide) (by decide) (by decide)
  have fa := fa_fri fa o1 o2 fc994 (by decide) (by decide)
  have hI := hJ
  have l3 := (gr_len g993 o3).trans l3
  have o1 := gr_ob g993 o1
  have o2 := gr_ob g993 o2
  have o3 := gr_ob g993 o3
  intro _
  intro x995 ex995
  refine ⟨sc_in (j := 1) hv hc hL ex995 (by omega) (by decide), ?_⟩
  intro x996 ex996
  intro x997 ex997
  refine ⟨sc_in (j := 2) hv hc hL ex997 (by omega) (by decide), ?_⟩
  intro x998 ex998
  refine ⟨o2, ?_⟩
  refine ⟨by show _ ≤ 601024; omega, by show _ ≤ 7293034; omega, ?_⟩
  refine mz_X11_walker hI o2 (fun x1000 S999 hJ g1001 fc1002 Kg1001 nf2 kz => ?_)
  have wr := wr_keep hI o2 wr kz.1 kz.2 fc1002 (by decide) (by decide) (by decide)
  have lgx := lg_keep o1 lgx g1001 fc1002 (by decide) (by decide) (by decide)
  have tp := tt_fri tp o1 o2 Kg1001 fc1002 (by decide) (by decide) (by decide) (by decide)
  have fa := fa_fri fa o1 o2 fc1002 (by decide) (by decide)
  have wh := wh_set nf1 fc1002 (by decide) nf2
  have hI := hJ
  have l3 := (gr_len g1001 o3).trans l3
  have o1 := gr_ob g1001 o1
  have o2 := gr_ob g1001 o2
  have o3 := gr_ob g1001 o3
  intro _
  unfold P_L_law_2341
  intro x1003 ex1003
  have back := hb x1003 ex1003
  exact back _ _ _ hI o1 o2 o3 l3 tp fa wh ⟨AA, GG, wr, gb⟩ lgx (by omega) (by omega)
set_option maxHeartbeats 4000000 in
set_option maxRecDepth 20000 in
theorem a_L_law_2238 {scL : Nat} {scx : Nat → Int32} {Q : Int32 → HS → Prop} {X23 : Nat → Nat → Nat → Int32 → Nat → Nat → HS → Prop} {v1 v2 v3 : Nat} {v4 : Int32} {kk nn : Nat} {S : HS} {c : Nat} (hL : scL ≤ 4096) (hc : 8 * c + 8 ≤ scL) (hb : ∀ x : Int32, x = v4 + (8 : Int32) → ∀ (kk nn : Nat) (T : HS), IV T → ob T v1 9 → ob T v2 11 → ob T v3 14 → hN T v3 = 1 → TT v1 v2 T → fI T v1 7 = fI T v2 13 → WH v1 v2 T → WRy v1 v2 T → LGx v1 T → kk ≤ 200 + 35 * (c + 1) → nn ≤ 13000 + 8200 * (c + 1) → X23 v1 v2 v3 x kk nn T) (h : LI v1 v2 v3 v4 kk nn S c) : P_L_law_2238 scL scx Q X23 v1 v2 v3 v4 kk nn S := by
  obtain ⟨hI, o1, o2, o3, l3, tp, fa, wh, wr, lgx, hv, hk, hn⟩ := h
  obtain ⟨AA, GG, wr, gb⟩ := wr
  unfold P_L_law_2238
  intro x1004 ex1004
  refine ⟨sc_in (j := 1) hv hc hL ex1004 (by omega) (by decide), ?_⟩
  intro x1005 ex1005
  intro x1006 ex1006
  refine ⟨sc_in (j := 2) hv hc hL ex1006 (by omega) (by decide), ?_⟩
  intro x1007 ex1007
  refine ⟨o1, ?_⟩
  refine ⟨by show _ ≤ 601024; omega, by show _ ≤ 7293034; omega, ?_⟩
  refine mz_X9_road hI o1 (fun x1009 S1008 hJ g1010 fc1011 Kg1010 nf1 kz => ?_)
  have wr := wr_keep hI o2 wr kz.1 kz.2 fc1011 (by decide) (by decide) (by decide)
  have lgx := lg_keep o1 lgx g1010 fc1011 (by decide) (by decide) (by decide)
  have tp := tt_fri tp o1 o2 Kg1010 fc1011 (by decide) (by decide) (by decide) (by decide)
  have fa := fa_fri fa o1 o2 fc1011 (by decide) (by decide)
  have hI := hJ
  have l3 := (gr_len g1010 o3).trans l3
  have o1 := gr_ob g1010 o1
  have o2 := gr_ob g1010 o2
  have o3 := gr_ob g1010 o3
  intro _
  intro x1012 ex1012
  refine ⟨sc_in (j := 1) hv hc hL ex1012 (by omega) (by decide), ?_⟩
  intro x1013 ex1013
  intro x1014 ex1014
  refine ⟨sc_in (j := 2) hv hc hL ex1014 (by omega) (by decide), ?_⟩
  intro x1015 ex1015
  refine ⟨o2, ?_⟩
  refine ⟨by show _ ≤ 601024; omega, by show _ ≤ 7293034; omega, ?_⟩
  refine mz_X11_road hI o2 (fun x1017 S1016 hJ g1018 fc1019 Kg1018 nf2 kz => ?_)
  have wr := wr_keep hI o2 wr kz.1 kz.2 fc1019 (by decide) (by decide) (by decide)
  have lgx := lg_keep o1 lgx g1018 fc1019 (by decide) (by decide) (by decide)
  have tp := tt_fri tp o1 o2 Kg1018 fc1019 (by decide) (by decide) (by decide) (by decide)
  have fa := fa_fri fa o1 o2 fc1019 (by decide) (by decide)
  have wh := wh_set nf1 fc1019 (by decide) nf2
  have hI := hJ
  have l3 := (gr_len g1018 o3).trans l3
  have o1 := gr_ob g1018 o1
  have o2 := gr_ob g1018 o2
  have o3 := gr_ob g1018 o3
  intro _
  unfold P_L_law_2341
  intro x1020 ex1020
  have back := hb x1020 ex1020
  exact back _ _ _ hI o1 o2 o3 l3 tp fa wh ⟨AA, GG, wr, gb⟩ lgx (by omega) (by omega)
set_option maxHeartbeats 4000000 in
set_option maxRecDepth 20000 in
theorem a_L_law_2275 {scL : Nat} {scx : Nat → Int32} {Q : Int32 → HS → Prop} {X23 : Nat → Nat → Nat → Int32 → Nat → Nat → HS → Prop} {v1 v2 v3 : Nat} {v4 : Int32} {kk nn : Nat} {S : HS} {c : Nat} (hL : scL ≤ 4096) (hc : 8 * c + 8 ≤ scL) (hb : ∀ x : Int32, x = v4 + (8 : Int32) → ∀ (kk nn : Nat) (T : HS), IV T → ob T v1 9 → ob T v2 11 → ob T v3 14 → hN T v3 = 1 → TT v1 v2 T → fI T v1 7 = fI T v2 13 → WH v1 v2 T → WRy v1 v2 T → LGx v1 T → kk ≤ 200 + 35 * (c + 1) → nn ≤ 13000 + 8200 * (c + 1) → X23 v1 v2 v3 x kk nn T) (h : LI v1 v2 v3 v4 kk nn S c) : P_L_law_2275 scL scx Q X23 v1 v2 v3 v4 kk nn S := by
  obtain ⟨hI, o1, o2, o3, l3, tp, fa, wh, wr, lgx, hv, hk, hn⟩ := h
  obtain ⟨AA, GG, wr, gb⟩ := wr
  unfold P_L_law_2275
  intro x1021 ex1021
  refine ⟨sc_in (j := 1) hv hc hL ex1021 (by omega) (by decide), ?_⟩
  intro x1022 ex1022
  refine ⟨by show _ ≤ 601024; omega, by show _ ≤ 7293034; omega, hI, o1, o3, l3, fun x1024 S1023 hJ g1025 fc1026 KL KL7 KL8 _ => ?_⟩
  have wr := wr_keep hI o2 wr KL7 KL8 fc1026 (by decide) (by decide) (by decide)
  have lgx := lg_keep o1 lgx g1025 fc1026 (by decide) (by decide) (by decide)
  have tp := tt_fri tp o1 o2 KL fc1026 (by decide) (by decide) (by decide) (by decide)
  have fa := fa_fri fa o1 o2 fc1026 (by decide) (by decide)
  have wh := wh_fri wh o1 o2 fc1026 (by decide) (by decide) (by decide)
  have hI := hJ
  have l3 := (gr_len g1025 o3).trans l3
  have o1 := gr_ob g1025 o1
  have o2 := gr_ob g1025 o2
  have o3 := gr_ob g1025 o3
  intro x1027 ex1027
  refine ⟨sc_in (j := 1) hv hc hL ex1027 (by omega) (by decide), ?_⟩
  intro x1028 ex1028
  refine ⟨o2, ?_⟩
  refine ⟨by show _ ≤ 601024; omega, by show _ ≤ 7293034; omega, ?_⟩
  refine mz_X11_led hI o2 (fun x1030 S1029 hJ g1031 fc1032 Kg1031 kz => ?_)
  have wr := wr_keep hI o2 wr kz.1 kz.2 fc1032 (by decide) (by decide) (by decide)
  have lgx := lg_keep o1 lgx g1031 fc1032 (by decide) (by decide) (by decide)
  have tp := tt_fri tp o1 o2 Kg1031 fc1032 (by decide) (by decide) (by decide) (by decide)
  have fa := fa_fri fa o1 o2 fc1032 (by decide) (by decide)
  have wh := wh_fri wh o1 o2 fc1032 (by decide) (by decide) (by decide)
  have hI := hJ
  have l3 := (gr_len g1031 o3).trans l3
  have o1 := gr_ob g1031 o1
  have o2 := gr_ob g1031 o2
  have o3 := gr_ob g1031 o3
  intro _
  unfold P_L_law_2341
  intro x1033 ex1033
  have back := hb x1033 ex1033
  exact back _ _ _ hI o1 o2 o3 l3 tp fa wh ⟨AA, GG, wr, gb⟩ lgx (by omega) (by omega)
set_option maxHeartbeats 4000000 in
set_option maxRecDepth 20000 in
theorem a_L_law_2303 {scL : Nat} {scx : Nat → Int32} {Q : Int32 → HS → Prop} {X23 : Nat → Nat → Nat → Int32 → Nat → Nat → HS → Prop} {v1 v2 v3 : Nat} {v4 : Int32} {kk nn : Nat} {S : HS} {c : Nat} (hL : scL ≤ 4096) (hc : 8 * c + 8 ≤ scL) (hb : ∀ x : Int32, x = v4 + (8 : Int32) → ∀ (kk nn : Nat) (T : HS), IV T → ob T v1 9 → ob T v2 11 → ob T v3 14 → hN T v3 = 1 → TT v1 v2 T → fI T v1 7 = fI T v2 13 → WH v1 v2 T → WRy v1 v2 T → LGx v1 T → kk ≤ 200 + 35 * (c + 1) → nn ≤ 13000 + 8200 * (c + 1) → X23 v1 v2 v3 x kk nn T) (h : LI v1 v2 v3 v4 kk nn S c) : P_L_law_2303 scL scx Q X23 v1 v2 v3 v4 kk nn S := by
  obtain ⟨hI, o1, o2, o3, l3, tp, fa, wh, wr, lgx, hv, hk, hn⟩ := h
  obtain ⟨AA, GG, wr, gb⟩ := wr
  unfold P_L_law_2303
  intro x1034 ex1034
  refine ⟨sc_in (j := 1) hv hc hL ex1034 (by omega) (by decide), ?_⟩
  intro x1035 ex1035
  refine ⟨o1, ?_⟩
  refine ⟨by show _ ≤ 601024; omega, by show _ ≤ 7293034; omega, ?_⟩
  refine m_X9_size hI o1 (fun x1037 S1036 hJ g1038 pp => ?_)
  subst pp
  intro _
  intro x1040 ex1040
  refine ⟨sc_in (j := 1) hv hc hL ex1040 (by omega) (by decide), ?_⟩
  intro x1041 ex1041
  refine ⟨o2, ?_⟩
  refine ⟨by show _ ≤ 601024; omega, by show _ ≤ 7293034; omega, ?_⟩
  refine mz_X11_size hI o2 (fun x1043 S1042 hJ g1044 fc1045 Kg1044 kz => ?_)
  have wr := wr_keep hI o2 wr kz.1 kz.2 fc1045 (by decide) (by decide) (by decide)
  have lgx := lg_keep o1 lgx g1044 fc1045 (by decide) (by decide) (by decide)
  have tp := tt_fri tp o1 o2 Kg1044 fc1045 (by decide) (by decide) (by decide) (by decide)
  have fa := fa_fri fa o1 o2 fc1045 (by decide) (by decide)
  have wh := wh_fri wh o1 o2 fc1045 (by decide) (by decide) (by decide)
  have hI := hJ
  have l3 := (gr_len g1044 o3).trans l3
  have o1 := gr_ob g1044 o1
  have o2 := gr_ob g1044 o2
  have o3 := gr_ob g1044 o3
  intro _
  unfold P_L_law_2341
  intro x1046 ex1046
  have back := hb x1046 ex1046
  exact back _ _ _ hI o1 o2 o3 l3 tp fa wh ⟨AA, GG, wr, gb⟩ lgx (by omega) (by omega)
set_option maxHeartbeats 4000000 in
set_option maxRecDepth 20000 in
theorem a_L_law_2328 {scL : Nat} {scx : Nat → Int32} {Q : Int32 → HS → Prop} {X23 : Nat → Nat → Nat → Int32 → Nat → Nat → HS → Prop} {v1 v2 v3 : Nat} {v4 : Int32} {kk nn : Nat} {S : HS} {c : Nat} (hL : scL ≤ 4096) (hc : 8 * c + 8 ≤ scL) (hb : ∀ x : Int32, x = v4 + (8 : Int32) → ∀ (kk nn : Nat) (T : HS), IV T → ob T v1 9 → ob T v2 11 → ob T v3 14 → hN T v3 = 1 → TT v1 v2 T → fI T v1 7 = fI T v2 13 → WH v1 v2 T → WRy v1 v2 T → LGx v1 T → kk ≤ 200 + 35 * (c + 1) → nn ≤ 13000 + 8200 * (c + 1) → X23 v1 v2 v3 x kk nn T) (h : LI v1 v2 v3 v4 kk nn S c) : P_L_law_2328 scL scx Q X23 v1 v2 v3 v4 kk nn S := by
  obtain ⟨hI, o1, o2, o3, l3, tp, fa, wh, wr, lgx, hv, hk, hn⟩ := h
  obtain ⟨AA, GG, wr, gb⟩ := wr
  unfold P_L_law_2328
  refine ⟨o1, ?_⟩
  refine ⟨by show _ ≤ 601024; omega, by show _ ≤ 7293034; omega, ?_⟩
  refine m_X9_trouble hI o1 (fun x1048 S1047 hJ g1049 pp => ?_)
  subst pp
  intro _
  refine ⟨o2, ?_⟩
  refine ⟨by show _ ≤ 601024; omega, by show _ ≤ 7293034; omega, ?_⟩
  refine mz_X11_trouble hI o2 (fun x1052 S1051 hJ g1053 fc1054 Kg1053 kz => ?_)
  have wr := wr_keep hI o2 wr kz.1 kz.2 fc1054 (by decide) (by decide) (by decide)
  have lgx := lg_keep o1 lgx g1053 fc1054 (by decide) (by decide) (by decide)
  have tp := tt_fri tp o1 o2 Kg1053 fc1054 (by decide) (by decide) (by decide) (by decide)
  have fa := fa_fri fa o1 o2 fc1054 (by decide) (by decide)
  have wh := wh_fri wh o1 o2 fc1054 (by decide) (by decide) (by decide)
  have hI := hJ
  have l3 := (gr_len g1053 o3).trans l3
  have o1 := gr_ob g1053 o1
  have o2 := gr_ob g1053 o2
  have o3 := gr_ob g1053 o3
  intro _
  unfold P_L_law_2341
  intro x1055 ex1055
  have back := hb x1055 ex1055
  exact back _ _ _ hI o1 o2 o3 l3 tp fa wh ⟨AA, GG, wr, gb⟩ lgx (by omega) (by omega)
set_option maxHeartbeats 4000000 in
set_option maxRecDepth 20000 in
theorem a_L_law_2341 {scL : Nat} {scx : Nat → Int32} {Q : Int32 → HS → Prop} {X23 : Nat → Nat → Nat → Int32 → Nat → Nat → HS → Prop} {v1 v2 v3 : Nat} {v4 : Int32} {kk nn : Nat} {S : HS} {c : Nat} (hL : scL ≤ 4096) (hc : 8 * c + 8 ≤ scL) (hb : ∀ x : Int32, x = v4 + (8 : Int32) → ∀ (kk nn : Nat) (T : HS), IV T → ob T v1 9 → ob T v2 11 → ob T v3 14 → hN T v3 = 1 → TT v1 v2 T → fI T v1 7 = fI T v2 13 → WH v1 v2 T → WRy v1 v2 T → LGx v1 T → kk ≤ 200 + 35 * (c + 1) → nn ≤ 13000 + 8200 * (c + 1) → X23 v1 v2 v3 x kk nn T) (h : LI v1 v2 v3 v4 kk nn S c) : P_L_law_2341 scL scx Q X23 v1 v2 v3 v4 kk nn S := by
  obtain ⟨hI, o1, o2, o3, l3, tp, fa, wh, wr, lgx, hv, hk, hn⟩ := h
  obtain ⟨AA, GG, wr, gb⟩ := wr
  unfold P_L_law_2341
  intro x1056 ex1056
  have back := hb x1056 ex1056
  exact back _ _ _ hI o1 o2 o3 l3 tp fa wh ⟨AA, GG, wr, gb⟩ lgx (by omega) (by omega)
end
section
theorem uz_1 {S : HS} {a : Nat} (E : S = nW S00 a 9 0) : UZ S := by
  have r : ∀ x j, fR S x j = none := fun x j => by
    rw [E]
    by_cases h : x = a
    · rw [h]
      exact congrFun (va_up_self (fR S00) a (fun _ => none)) j
    · exact congrFun (va_up_ne (fR S00) _ h) j
  refine ⟨⟨fun x j b e => ?_, fun x j x' j' b e => ?_⟩, fun x o => ?_⟩
  · rw [r] at e; cases e
  · rw [r] at e; cases e
  · exfalso
    rw [E] at o
    obtain ⟨o1, o2⟩ := o
    have o1 : x ∈ ([] : List Nat) ++ [a] := o1
    have o1 : x = a := by simpa using o1
    have o2 : va_up (hK S00) a 9 x = 8 := o2
    rw [o1, va_up_self] at o2
    exact absurd o2 (by decide)
theorem iv_arr {S T : HS} {a q n : Nat} (hI : IV S) (ha : a ∉ hL S) (E1 : T = nW S a q n) (hq : 12 ≤ q ∧ q < 16) : IV T := by
  have h := x_arr (E := []) (by rw [ms_nil]; exact hI) ha (by simp) E1 hq
  rw [ms_nil] at h
  exact h
theorem sc_cmp {L c : Nat} {v4 : Int32} (hL : L ≤ 4096) (hv : v4 = nI (8 * c)) (hcc : c ≤ 513) (h : ¬ (nI L - (8 : Int32)) < v4) : 8 * c + 8 ≤ L := by
  have e8 : (8 : Int32).toInt = 8 := by decide
  have eL : (nI L).toInt = (L : Int) := nI_toInt (by omega)
  have ec : (nI (8 * c)).toInt = ((8 * c : Nat) : Int) := nI_toInt (by omega)
  have es : (nI L - (8 : Int32)).toInt = (L : Int) - 8 := by
    rw [Int32.toInt_sub, eL, e8]
    exact Int.bmod_eq_of_le (by omega) (by omega)
  have h1 := Int32.le_iff_toInt_le.mp (Int32.not_lt.mp h)
  rw [hv, ec, es] at h1
  omega
theorem sc_next {v4 x : Int32} {c : Nat} (hv : v4 = nI (8 * c)) (hx : x = v4 + (8 : Int32)) : x = nI (8 * (c + 1)) := by
  have h8 : (8 : Int32) = nI 8 := by decide
  have e : 8 * c + 8 = 8 * (c + 1) := by omega
  rw [hx, hv, h8, nI_add, e]
set_option maxRecDepth 20000 in
set_option maxHeartbeats 4000000 in
theorem lp_L_law {scL : Nat} {scx : Nat → Int32} {Q : Int32 → HS → Prop} {v1 v2 v3 : Nat} (hL : scL ≤ 4096) (hQ : ∀ S, Q 1 S) : ∀ (d c : Nat), c + d = 513 → ∀ (v4 : Int32) (kk nn : Nat) (S : HS), LI v1 v2 v3 v4 kk nn S c → ∀ X23 : Nat → Nat → Nat → Int32 → Nat → Nat → HS → Prop, (∀ (v1 v2 v3 : Nat) (v4 : Int32) (kk nn : Nat) (S : HS), B_L_law_23 scL scx Q X23 v1 v2 v3 v4 kk nn S → X23 v1 v2 v3 v4 kk nn S) → X23 v1 v2 v3 v4 kk nn S := by
  intro d
  induction d with
  | zero =>
    intro c hcd v4 kk nn S h X23 hX
    have h' := h
    obtain ⟨-, -, -, -, -, -, -, -, -, -, hv, hk, hn⟩ := h'
    refine hX _ _ _ _ _ _ _ ⟨fun _ => ⟨by show _ ≤ 601024; omega, by show _ ≤ 7293034; omega, rfl, hQ S⟩, fun hcn => ?_⟩
    have hc := sc_cmp hL hv (by omega) hcn
    omega
  | succ d ih =>
    intro c hcd v4 kk nn S h X23 hX
    have h' := h
    obtain ⟨-, -, -, -, -, -, -, -, -, -, hv, hk, hn⟩ := h'
    refine hX _ _ _ _ _ _ _ ⟨fun _ => ⟨by show _ ≤ 601024; omega, by show _ ≤ 7293034; omega, rfl, hQ S⟩, fun hcn => ?_⟩
    have hc := sc_cmp hL hv (by omega) hcn
    have hb : ∀ x : Int32, x = v4 + (8 : Int32) → ∀ (kk nn : Nat) (T : HS), IV T → ob T v1 9 → ob T v2 11 → ob T v3 14 → hN T v3 = 1 → TT v1 v2 T → fI T v1 7 = fI T v2 13 → WH v1 v2 T → WRy v1 v2 T → LGx v1 T → kk ≤ 200 + 35 * (c + 1) → nn ≤ 13000 + 8200 * (c + 1) → X23 v1 v2 v3 x kk nn T := fun x ex kk nn T i1 i2 i3 i4 i5 i6 i6a i6b i6c i6d i7 i8 => ih (c + 1) (by omega) x kk nn T ⟨i1, i2, i3, i4, i5, i6, i6a, i6b, i6c, i6d, sc_next hv ex, i7, i8⟩ X23 hX
    refine ⟨sc_in0 hv hc hL, fun x ex => ?_⟩
    exact ⟨fun _ => a_L_law_2341 hL hc hb h, fun _ => a_L_law_216 hL hc hb h, fun _ => a_L_law_289 hL hc hb h, fun _ => a_L_law_314 hL hc hb h, fun _ => a_L_law_327 hL hc hb h, fun _ => a_L_law_340 hL hc hb h, fun _ => a_L_law_457 hL hc hb h, fun _ => a_L_law_560 hL hc hb h, fun _ => a_L_law_663 hL hc hb h, fun _ => a_L_law_712 hL hc hb h, fun _ => a_L_law_761 hL hc hb h, fun _ => a_L_law_834 hL hc hb h, fun _ => a_L_law_895 hL hc hb h, fun _ => a_L_law_984 hL hc hb h, fun _ => a_L_law_1045 hL hc hb h, fun _ => a_L_law_1106 hL hc hb h, fun _ => a_L_law_1183 hL hc hb h, fun _ => a_L_law_1232 hL hc hb h, fun _ => a_L_law_1349 hL hc hb h, fun _ => a_L_law_1436 hL hc hb h, fun _ => a_L_law_1539 hL hc hb h, fun _ => a_L_law_1612 hL hc hb h, fun _ => a_L_law_1685 hL hc hb h, fun _ => a_L_law_1772 hL hc hb h, fun _ => a_L_law_1833 hL hc hb h, fun _ => a_L_law_1858 hL hc hb h, fun _ => a_L_law_1895 hL hc hb h, fun _ => a_L_law_1908 hL hc hb h, fun _ => a_L_law_1969 hL hc hb h, fun _ => a_L_law_2018 hL hc hb h, fun _ => a_L_law_2043 hL hc hb h, fun _ => a_L_law_2096 hL hc hb h, fun _ => a_L_law_2137 hL hc hb h, fun _ => a_L_law_2150 hL hc hb h, fun _ => a_L_law_2163 hL hc hb h, fun _ => a_L_law_2176 hL hc hb h, fun _ => a_L_law_2201 hL hc hb h, fun _ => a_L_law_2238 hL hc hb h, fun _ => a_L_law_2275 hL hc hb h, fun _ => a_L_law_2303 hL hc hb h, fun _ => a_L_law_2328 hL hc hb h⟩
theorem p_L_law {scL : Nat} {scx : Nat → Int32} {Q : Int32 → HS → Prop} (hL : scL ≤ 4096) (hQ : ∀ S, Q 1 S) : P_L_law_0 scL scx Q 0 0 S00 := by
  unfold P_L_law_0
  refine ⟨by decide, by decide, fun a1 q1 S1 e1 => ⟨by decide, by decide, ?_⟩⟩
  have hc : P_X9_init a1 (fun T => IV T ∧ ob T a1 9 ∧ fI T a1 1 = 0) S1 := m_X9_new e1 (fun T i o _ t => ⟨i, o, t⟩)
  refine cm_X9_init (kg_X9_init hc) (ku_X9_init hc (uz_1 e1)) (fun S2 h2 hu _ => ?_)
  obtain ⟨⟨i2, o1, t2⟩, K0⟩ := h2
  have uz := hu.2.1
  have ob1 : ob S1 a1 9 := ob_of_new e1
  have z1 : fI S1 a1 = fun _ => 0 := by rw [e1]; exact va_up_self _ _ _
  have f7 : fI S2 a1 7 = 0 := (K0.2 (9, 7) (by decide) a1 ob1).trans (by rw [z1])
  have f9 : fI S2 a1 9 = 0 := (K0.2 (9, 9) (by decide) a1 ob1).trans (by rw [z1])
  refine ⟨by decide, by decide, fun a2 q2 S3 e3 => ⟨by decide, by decide, ?_⟩⟩
  have hm : P_X11_init a2 (fun T => IV T ∧ Gr S2 T ∧ ob T a2 11 ∧ FRI [] [] S2 T) S3 := m_X11_init i2 q2 e3 (fun T i g1 _ f o _ => ⟨i, g1, o, f⟩)
  refine cm_X11_init (sq_X11_init hm e3) hm (fun S4 h4 _ _ => ?_)
  obtain ⟨⟨i4, g4, o2, fc⟩, F, g, bx, h5, h6, h13, hm2, -, h3n⟩ := h4
  refine ⟨by decide, by decide, fun a3 q3 S5 e5 => ?_⟩
  subst e3
  have tt := tt_start i4 q2 o1 i2 t2 bx h5 h6
  have wrs := fun (a3 : Nat) (U : HS) => wr_start (a3 := a3) (U := U) i2 o1 uz q2 bx h3n
  have lgs := fun (a3 : Nat) (U : HS) => lg_start (a3 := a3) (U := U) i2 o1 uz q2 bx
  have f7 := (fc.1 9 7 (by decide) (by decide) a1 o1).trans f7
  have f9 := (fc.1 9 9 (by decide) (by decide) a1 o1).trans f9
  have bm := bx.2.2.2.2.2.2.1
  have o1 := gr_ob g4 o1
  have n1 := (xp_new (v := a3) q3 e5 a1 o1.1).2.2.2 (fun z => q3 (z ▸ o1.1))
  have n2 := (xp_new (v := a3) q3 e5 a2 o2.1).2.2.2 (fun z => q3 (z ▸ o2.1))
  have tt := tt_K tt o1 o2 (k2_W (k2_rf S4) q3 e5) (by rw [n1.2.2]) (by rw [n1.1]) (by rw [n2.2.2]) (by rw [n2.1])
  have fa : fI S5 a1 7 = fI S5 a2 13 := by rw [n1.1, n2.1, f7, bm, h13]
  have wh : WH a1 a2 S5 := by
    unfold WH
    rw [n1.1, n2.1, f9, bm, hm2]
    exact ⟨fun z => absurd z (by decide), fun _ => rfl⟩
  exact fun X23 hX => lp_L_law hL hQ 513 0 rfl _ _ _ _ ⟨iv_arr i4 q3 e5 (by omega), gr_ob (gr_of_new e5 q3) o1, gr_ob (gr_of_new e5 q3) o2, ob_of_new e5, by rw [e5]; exact va_up_self _ _ _, tt, fa, wh, ⟨A00, G00, wrs a3 S5 q3 e5, gb_00⟩, lgs a3 S5 q3 e5, by rw [Nat.mul_zero, nI_0], by omega, by omega⟩ X23 hX
/-- the law's walk, out of what is still open: C, E (the start) and ht (led) -/
theorem whole_open {X : CX} {scb scL : Nat} {scx : Nat → Int32} (C : Cx X cL_law RL 7 rm_L_law) (E : LE X scb scL scx (fun _ _ => True)) (ht : LD X) (hL : scL ≤ 4096) : WS X 7 0 0 0 [(0, .ref scb)] [] S00 := T_L_law_0 C E ht trivial (p_L_law hL (fun _ => trivial))
end
