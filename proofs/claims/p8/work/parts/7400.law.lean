section
def P_L_law_2342 (scL : Nat) (scx : Nat → Int32) (Q : Int32 → HS → Prop) (X23 : Nat → Nat → Nat → Int32 → Nat → Nat → HS → Prop) (v1 : Nat) (v2 : Nat) (v3 : Nat) (v4 : Int32) (kk : Nat) (nn : Nat) (S : HS) : Prop := ∀ x1 : Int32, x1 = v4 + (8 : Int32) → (X23 v1 v2 v3 x1 kk nn S)
set_option maxRecDepth 20000 in
set_option maxHeartbeats 4000000 in
theorem T_L_law_2342 {X : CX} {Q : Int32 → HS → Prop} {scb scL : Nat} {scx : Nat → Int32} (C : Cx X cL_law RL 7 rm_L_law) (E : LE X scb scL scx Q) (ht : LD X) (hn : True) {X23 : Nat → Nat → Nat → Int32 → Nat → Nat → HS → Prop} (hX23 : ∀ (v1 : Nat) (v2 : Nat) (v3 : Nat) (v4 : Int32) (kk : Nat) (nn : Nat) (S : HS), X23 v1 v2 v3 v4 kk nn S → WS X 7 kk nn 23 [(0, .ref scb), (1, .ref v1), (2, .ref v2), (3, .ref v3), (4, .int v4)] [] S) {v1 : Nat} {v2 : Nat} {v3 : Nat} {v4 : Int32} {kk : Nat} {nn : Nat} {S : HS} (h : P_L_law_2342 scL scx Q X23 v1 v2 v3 v4 kk nn S) : WS X 7 kk nn 2342 [(0, .ref scb), (1, .ref v1), (2, .ref v2), (3, .ref v3), (4, .int v4)] [] S := by
  obtain ⟨x1, ex1⟩ : ∃ z : Int32, z = v4 + (8 : Int32) := ⟨_, rfl⟩
  have h := h x1 ex1
  refine r_iinc (pc := 2342) C (v := x1) (lv' := [(4, .int x1), (0, .ref scb), (1, .ref v1), (2, .ref v2), (3, .ref v3)]) dL_law_2342 4 rfl ex1.symm (by decide) rfl ?_
  refine r_goto (pc := 2345) C (tgt := 23) dL_law_2345 (by decide) ?_
  exact r_sub [1, 2, 3, 4, 0] rfl (hX23 v1 v2 v3 x1 kk nn S h)
def P_L_law_216 (scL : Nat) (scx : Nat → Int32) (Q : Int32 → HS → Prop) (X23 : Nat → Nat → Nat → Int32 → Nat → Nat → HS → Prop) (v1 : Nat) (v2 : Nat) (v3 : Nat) (v4 : Int32) (kk : Nat) (nn : Nat) (S : HS) : Prop := ∀ x1 : Int32, x1 = v4 + (1 : Int32) → (vp_in x1 scL ∧ ∀ x3 : Int32, x3 = scx x1.toNatClampNeg → (∀ x4 : Int32, x4 = v4 + (2 : Int32) → (vp_in x4 scL ∧ ∀ x6 : Int32, x6 = scx x4.toNatClampNeg → (∀ x7 : Int32, x7 = v4 + (3 : Int32) → (vp_in x7 scL ∧ ∀ x9 : Int32, x9 = scx x7.toNatClampNeg → (∀ x10 : Int32, x10 = v4 + (4 : Int32) → (vp_in x10 scL ∧ ∀ x12 : Int32, x12 = scx x10.toNatClampNeg → (∀ x13 : Int32, x13 = v4 + (5 : Int32) → (vp_in x13 scL ∧ ∀ x15 : Int32, x15 = scx x13.toNatClampNeg → (ob S v1 9 ∧ (kk ≤ rm_L_law.cells ∧ nn ≤ rm_L_law.slots ∧ (P_X9_feed v1 x3 x6 x9 x12 x15 (fun x18 S16 => Gr S S16 → (∀ x19 : Int32, x19 = v4 + (1 : Int32) → (vp_in x19 scL ∧ ∀ x21 : Int32, x21 = scx x19.toNatClampNeg → (∀ x22 : Int32, x22 = v4 + (2 : Int32) → (vp_in x22 scL ∧ ∀ x24 : Int32, x24 = scx x22.toNatClampNeg → (∀ x25 : Int32, x25 = v4 + (3 : Int32) → (vp_in x25 scL ∧ ∀ x27 : Int32, x27 = scx x25.toNatClampNeg → (∀ x28 : Int32, x28 = v4 + (4 : Int32) → (vp_in x28 scL ∧ ∀ x30 : Int32, x30 = scx x28.toNatClampNeg → (∀ x31 : Int32, x31 = v4 + (5 : Int32) → (vp_in x31 scL ∧ ∀ x33 : Int32, x33 = scx x31.toNatClampNeg → (ob S16 v2 11 ∧ (kk ≤ rm_L_law.cells ∧ nn ≤ rm_L_law.slots ∧ (P_X11_feed v2 x21 x24 x27 x30 x33 (fun x36 S34 => Gr S16 S34 → (P_L_law_2342 scL scx Q X23 v1 v2 v3 v4 kk nn S34)) S16)))))))))))))) S))))))))))))
set_option maxRecDepth 20000 in
set_option maxHeartbeats 4000000 in
theorem T_L_law_216 {X : CX} {Q : Int32 → HS → Prop} {scb scL : Nat} {scx : Nat → Int32} (C : Cx X cL_law RL 7 rm_L_law) (E : LE X scb scL scx Q) (ht : LD X) (hn : True) {X23 : Nat → Nat → Nat → Int32 → Nat → Nat → HS → Prop} (hX23 : ∀ (v1 : Nat) (v2 : Nat) (v3 : Nat) (v4 : Int32) (kk : Nat) (nn : Nat) (S : HS), X23 v1 v2 v3 v4 kk nn S → WS X 7 kk nn 23 [(0, .ref scb), (1, .ref v1), (2, .ref v2), (3, .ref v3), (4, .int v4)] [] S) {v1 : Nat} {v2 : Nat} {v3 : Nat} {v4 : Int32} {kk : Nat} {nn : Nat} {S : HS} (h : P_L_law_216 scL scx Q X23 v1 v2 v3 v4 kk nn S) : WS X 7 kk nn 216 [(0, .ref scb), (1, .ref v1), (2, .ref v2), (3, .ref v3), (4, .int v4)] [] S := by
  refine r_aload_n (pc := 216) C dL_law_216 1 rfl ?_
  refine r_aload_n (pc := 217) C dL_law_217 0 rfl ?_
  refine r_iload (pc := 218) C dL_law_218 4 rfl ?_
  refine r_iconst (pc := 220) C (v := (1 : Int32)) dL_law_220 (by decide) ?_
  refine r_iadd (pc := 221) C dL_law_221 ?_
  refine r_topi (fun x1 ex1 => ?_)
  have h := h x1 ex1
  obtain ⟨i2, h⟩ := h
  refine r_scLd (pc := 222) C E i2 dL_law_222 ?_
  refine r_topi (fun x3 ex3 => ?_)
  have h := h x3 ex3
  refine r_aload_n (pc := 223) C dL_law_223 0 rfl ?_
  refine r_iload (pc := 224) C dL_law_224 4 rfl ?_
  refine r_iconst (pc := 226) C (v := (2 : Int32)) dL_law_226 (by decide) ?_
  refine r_iadd (pc := 227) C dL_law_227 ?_
  refine r_topi (fun x4 ex4 => ?_)
  have h := h x4 ex4
  obtain ⟨i5, h⟩ := h
  refine r_scLd (pc := 228) C E i5 dL_law_228 ?_
  refine r_topi (fun x6 ex6 => ?_)
  have h := h x6 ex6
  refine r_aload_n (pc := 229) C dL_law_229 0 rfl ?_
  refine r_iload (pc := 230) C dL_law_230 4 rfl ?_
  refine r_iconst (pc := 232) C (v := (3 : Int32)) dL_law_232 (by decide) ?_
  refine r_iadd (pc := 233) C dL_law_233 ?_
  refine r_topi (fun x7 ex7 => ?_)
  have h := h x7 ex7
  obtain ⟨i8, h⟩ := h
  refine r_scLd (pc := 234) C E i8 dL_law_234 ?_
  refine r_topi (fun x9 ex9 => ?_)
  have h := h x9 ex9
  refine r_aload_n (pc := 235) C dL_law_235 0 rfl ?_
  refine r_iload (pc := 236) C dL_law_236 4 rfl ?_
  refine r_iconst (pc := 238) C (v := (4 : Int32)) dL_law_238 (by decide) ?_
  refine r_iadd (pc := 239) C dL_law_239 ?_
  refine r_topi (fun x10 ex10 => ?_)
  have h := h x10 ex10
  obtain ⟨i11, h⟩ := h
  refine r_scLd (pc := 240) C E i11 dL_law_240 ?_
  refine r_topi (fun x12 ex12 => ?_)
  have h := h x12 ex12
  refine r_aload_n (pc := 241) C dL_law_241 0 rfl ?_
  refine r_iload (pc := 242) C dL_law_242 4 rfl ?_
  refine r_iconst (pc := 244) C (v := (5 : Int32)) dL_law_244 (by decide) ?_
  refine r_iadd (pc := 245) C dL_law_245 ?_
  refine r_topi (fun x13 ex13 => ?_)
  have h := h x13 ex13
  obtain ⟨i14, h⟩ := h
  refine r_scLd (pc := 246) C E i14 dL_law_246 ?_
  refine r_topi (fun x15 ex15 => ?_)
  have h := h x15 ex15
  obtain ⟨o_v1, h⟩ := h
  obtain ⟨hk, hk2, h⟩ := h
  refine r_callVi0 (pc := 247) C (rest := []) (a := v1) o_v1 [.int x3, .int x6, .int x9, .int x12, .int x15] yV_X9_feed g_418 (c_X9_feed h) dL_law_247 rfl rfl (Nat.le_of_ble_eq_true rfl) ⟨by decide, by decide⟩ ⟨hk, hk2⟩ ⟨rfl, rfl⟩ (fun x18 S16 h g17 => ?_)
  have h := h g17
  have o_v1 := gr_ob g17 o_v1
  refine r_pop (pc := 250) C dL_law_250 rfl ?_
  refine r_aload_n (pc := 251) C dL_law_251 2 rfl ?_
  refine r_aload_n (pc := 252) C dL_law_252 0 rfl ?_
  refine r_iload (pc := 253) C dL_law_253 4 rfl ?_
  refine r_iconst (pc := 255) C (v := (1 : Int32)) dL_law_255 (by decide) ?_
  refine r_iadd (pc := 256) C dL_law_256 ?_
  refine r_topi (fun x19 ex19 => ?_)
  have h := h x19 ex19
  obtain ⟨i20, h⟩ := h
  refine r_scLd (pc := 257) C E i20 dL_law_257 ?_
  refine r_topi (fun x21 ex21 => ?_)
  have h := h x21 ex21
  refine r_aload_n (pc := 258) C dL_law_258 0 rfl ?_
  refine r_iload (pc := 259) C dL_law_259 4 rfl ?_
  refine r_iconst (pc := 261) C (v := (2 : Int32)) dL_law_261 (by decide) ?_
  refine r_iadd (pc := 262) C dL_law_262 ?_
  refine r_topi (fun x22 ex22 => ?_)
  have h := h x22 ex22
  obtain ⟨i23, h⟩ := h
  refine r_scLd (pc := 263) C E i23 dL_law_263 ?_
  refine r_topi (fun x24 ex24 => ?_)
  have h := h x24 ex24
  refine r_aload_n (pc := 264) C dL_law_264 0 rfl ?_
  refine r_iload (pc := 265) C dL_law_265 4 rfl ?_
  refine r_iconst (pc := 267) C (v := (3 : Int32)) dL_law_267 (by decide) ?_
  refine r_iadd (pc := 268) C dL_law_268 ?_
  refine r_topi (fun x25 ex25 => ?_)
  have h := h x25 ex25
  obtain ⟨i26, h⟩ := h
  refine r_scLd (pc := 269) C E i26 dL_law_269 ?_
  refine r_topi (fun x27 ex27 => ?_)
  have h := h x27 ex27
  refine r_aload_n (pc := 270) C dL_law_270 0 rfl ?_
  refine r_iload (pc := 271) C dL_law_271 4 rfl ?_
  refine r_iconst (pc := 273) C (v := (4 : Int32)) dL_law_273 (by decide) ?_
  refine r_iadd (pc := 274) C dL_law_274 ?_
  refine r_topi (fun x28 ex28 => ?_)
  have h := h x28 ex28
  obtain ⟨i29, h⟩ := h
  refine r_scLd (pc := 275) C E i29 dL_law_275 ?_
  refine r_topi (fun x30 ex30 => ?_)
  have h := h x30 ex30
  refine r_aload_n (pc := 276) C dL_law_276 0 rfl ?_
  refine r_iload (pc := 277) C dL_law_277 4 rfl ?_
  refine r_iconst (pc := 279) C (v := (5 : Int32)) dL_law_279 (by decide) ?_
  refine r_iadd (pc := 280) C dL_law_280 ?_
  refine r_topi (fun x31 ex31 => ?_)
  have h := h x31 ex31
  obtain ⟨i32, h⟩ := h
  refine r_scLd (pc := 281) C E i32 dL_law_281 ?_
  refine r_topi (fun x33 ex33 => ?_)
  have h := h x33 ex33
  obtain ⟨o_v2, h⟩ := h
  obtain ⟨hk, hk2, h⟩ := h
  refine r_callVi0 (pc := 282) C (rest := []) (a := v2) o_v2 [.int x21, .int x24, .int x27, .int x30, .int x33] yV_X11_feed g_1242 (c_X11_feed h) dL_law_282 rfl rfl (Nat.le_of_ble_eq_true rfl) ⟨by decide, by decide⟩ ⟨hk, hk2⟩ ⟨rfl, rfl⟩ (fun x36 S34 h g35 => ?_)
  have h := h g35
  have o_v1 := gr_ob g35 o_v1
  have o_v2 := gr_ob g35 o_v2
  refine r_pop (pc := 285) C dL_law_285 rfl ?_
  refine r_goto (pc := 286) C (tgt := 2342) dL_law_286 (by decide) ?_
  exact r_sub [0, 1, 2, 3, 4] rfl (T_L_law_2342 C E ht hn hX23 h)
def P_L_law_289 (scL : Nat) (scx : Nat → Int32) (Q : Int32 → HS → Prop) (X23 : Nat → Nat → Nat → Int32 → Nat → Nat → HS → Prop) (v1 : Nat) (v2 : Nat) (v3 : Nat) (v4 : Int32) (kk : Nat) (nn : Nat) (S : HS) : Prop := ∀ x1 : Int32, x1 = v4 + (1 : Int32) → (vp_in x1 scL ∧ ∀ x3 : Int32, x3 = scx x1.toNatClampNeg → (ob S v1 9 ∧ (kk ≤ rm_L_law.cells ∧ nn ≤ rm_L_law.slots ∧ (P_X9_world v1 x3 (fun x6 S4 => Gr S S4 → (∀ x7 : Int32, x7 = v4 + (1 : Int32) → (vp_in x7 scL ∧ ∀ x9 : Int32, x9 = scx x7.toNatClampNeg → (ob S4 v2 11 ∧ (kk + 25 ≤ rm_L_law.cells ∧ nn + 225 ≤ rm_L_law.slots ∧ (P_X11_world v2 x9 (fun x12 S10 => Gr S4 S10 → (P_L_law_2342 scL scx Q X23 v1 v2 v3 v4 (kk + 25) (nn + 225) S10)) S4)))))) S))))
set_option maxRecDepth 20000 in
set_option maxHeartbeats 4000000 in
theorem T_L_law_289 {X : CX} {Q : Int32 → HS → Prop} {scb scL : Nat} {scx : Nat → Int32} (C : Cx X cL_law RL 7 rm_L_law) (E : LE X scb scL scx Q) (ht : LD X) (hn : True) {X23 : Nat → Nat → Nat → Int32 → Nat → Nat → HS → Prop} (hX23 : ∀ (v1 : Nat) (v2 : Nat) (v3 : Nat) (v4 : Int32) (kk : Nat) (nn : Nat) (S : HS), X23 v1 v2 v3 v4 kk nn S → WS X 7 kk nn 23 [(0, .ref scb), (1, .ref v1), (2, .ref v2), (3, .ref v3), (4, .int v4)] [] S) {v1 : Nat} {v2 : Nat} {v3 : Nat} {v4 : Int32} {kk : Nat} {nn : Nat} {S : HS} (h : P_L_law_289 scL scx Q X23 v1 v2 v3 v4 kk nn S) : WS X 7 kk nn 289 [(0, .ref scb), (1, .ref v1), (2, .ref v2), (3, .ref v3), (4, .int v4)] [] S := by
  refine r_aload_n (pc := 289) C dL_law_289 1 rfl ?_
  refine r_aload_n (pc := 290) C dL_law_290 0 rfl ?_
  refine r_iload (pc := 291) C dL_law_291 4 rfl ?_
  refine r_iconst (pc := 293) C (v := (1 : Int32)) dL_law_293 (by decide) ?_
  refine r_iadd (pc := 294) C dL_law_294 ?_
  refine r_topi (fun x1 ex1 => ?_)
  have h := h x1 ex1
  obtain ⟨i2, h⟩ := h
  refine r_scLd (pc := 295) C E i2 dL_law_295 ?_
  refine r_topi (fun x3 ex3 => ?_)
  have h := h x3 ex3
  obtain ⟨o_v1, h⟩ := h
  obtain ⟨hk, hk2, h⟩ := h
  refine r_callVi0 (pc := 296) C (rest := []) (a := v1) o_v1 [.int x3] yV_X9_world g_426 (c_X9_world h) dL_law_296 rfl rfl (Nat.le_of_ble_eq_true rfl) ⟨by decide, by decide⟩ ⟨hk, hk2⟩ ⟨rfl, rfl⟩ (fun x6 S4 h g5 => ?_)
  have h := h g5
  have o_v1 := gr_ob g5 o_v1
  refine r_pop (pc := 299) C dL_law_299 rfl ?_
  refine r_aload_n (pc := 300) C dL_law_300 2 rfl ?_
  refine r_aload_n (pc := 301) C dL_law_301 0 rfl ?_
  refine r_iload (pc := 302) C dL_law_302 4 rfl ?_
  refine r_iconst (pc := 304) C (v := (1 : Int32)) dL_law_304 (by decide) ?_
  refine r_iadd (pc := 305) C dL_law_305 ?_
  refine r_topi (fun x7 ex7 => ?_)
  have h := h x7 ex7
  obtain ⟨i8, h⟩ := h
  refine r_scLd (pc := 306) C E i8 dL_law_306 ?_
  refine r_topi (fun x9 ex9 => ?_)
  have h := h x9 ex9
  obtain ⟨o_v2, h⟩ := h
  obtain ⟨hk, hk2, h⟩ := h
  refine r_callVi (pc := 307) C (rest := []) (a := v2) o_v2 [.int x9] yV_X11_world g_1246 (c_X11_world h) dL_law_307 rfl rfl (Nat.le_of_ble_eq_true rfl) ⟨by decide, by decide⟩ ⟨hk, hk2⟩ (fun x12 S10 h g11 => ?_)
  have h := h g11
  have o_v1 := gr_ob g11 o_v1
  have o_v2 := gr_ob g11 o_v2
  refine r_pop (pc := 310) C dL_law_310 rfl ?_
  refine r_goto (pc := 311) C (tgt := 2342) dL_law_311 (by decide) ?_
  exact r_sub [0, 1, 2, 3, 4] rfl (T_L_law_2342 C E ht hn hX23 h)
def P_L_law_314 (scL : Nat) (scx : Nat → Int32) (Q : Int32 → HS → Prop) (X23 : Nat → Nat → Nat → Int32 → Nat → Nat → HS → Prop) (v1 : Nat) (v2 : Nat) (v3 : Nat) (v4 : Int32) (kk : Nat) (nn : Nat) (S : HS) : Prop := ob S v1 9 ∧ (kk ≤ rm_L_law.cells ∧ nn ≤ rm_L_law.slots ∧ (P_X9_fault v1 (fun x3 S1 => Gr S S1 → (ob S1 v2 11 ∧ (kk ≤ rm_L_law.cells ∧ nn ≤ rm_L_law.slots ∧ (P_X11_fault v2 (fun x6 S4 => Gr S1 S4 → (P_L_law_2342 scL scx Q X23 v1 v2 v3 v4 kk nn S4)) S1)))) S))
set_option maxRecDepth 20000 in
set_option maxHeartbeats 4000000 in
theorem T_L_law_314 {X : CX} {Q : Int32 → HS → Prop} {scb scL : Nat} {scx : Nat → Int32} (C : Cx X cL_law RL 7 rm_L_law) (E : LE X scb scL scx Q) (ht : LD X) (hn : True) {X23 : Nat → Nat → Nat → Int32 → Nat → Nat → HS → Prop} (hX23 : ∀ (v1 : Nat) (v2 : Nat) (v3 : Nat) (v4 : Int32) (kk : Nat) (nn : Nat) (S : HS), X23 v1 v2 v3 v4 kk nn S → WS X 7 kk nn 23 [(0, .ref scb), (1, .ref v1), (2, .ref v2), (3, .ref v3), (4, .int v4)] [] S) {v1 : Nat} {v2 : Nat} {v3 : Nat} {v4 : Int32} {kk : Nat} {nn : Nat} {S : HS} (h : P_L_law_314 scL scx Q X23 v1 v2 v3 v4 kk nn S) : WS X 7 kk nn 314 [(0, .ref scb), (1, .ref v1), (2, .ref v2), (3, .ref v3), (4, .int v4)] [] S := by
  refine r_aload_n (pc := 314) C dL_law_314 1 rfl ?_
  obtain ⟨o_v1, h⟩ := h
  obtain ⟨hk, hk2, h⟩ := h
  refine r_callVi0 (pc := 315) C (rest := []) (a := v1) o_v1 [] yV_X9_fault g_641 (c_X9_fault h) dL_law_315 rfl rfl (Nat.le_of_ble_eq_true rfl) ⟨by decide, by decide⟩ ⟨hk, hk2⟩ ⟨rfl, rfl⟩ (fun x3 S1 h g2 => ?_)
  have h := h g2
  have o_v1 := gr_ob g2 o_v1
  refine r_pop (pc := 318) C dL_law_318 rfl ?_
  refine r_aload_n (pc := 319) C dL_law_319 2 rfl ?_
  obtain ⟨o_v2, h⟩ := h
  obtain ⟨hk, hk2, h⟩ := h
  refine r_callVi0 (pc := 320) C (rest := []) (a := v2) o_v2 [] yV_X11_fault g_1522 (c_X11_fault h) dL_law_320 rfl rfl (Nat.le_of_ble_eq_true rfl) ⟨by decide, by decide⟩ ⟨hk, hk2⟩ ⟨rfl, rfl⟩ (fun x6 S4 h g5 => ?_)
  have h := h g5
  have o_v1 := gr_ob g5 o_v1
  have o_v2 := gr_ob g5 o_v2
  refine r_pop (pc := 323) C dL_law_323 rfl ?_
  refine r_goto (pc := 324) C (tgt := 2342) dL_law_324 (by decide) ?_
  exact r_sub [0, 1, 2, 3, 4] rfl (T_L_law_2342 C E ht hn hX23 h)
def P_L_law_327 (scL : Nat) (scx : Nat → Int32) (Q : Int32 → HS → Prop) (X23 : Nat → Nat → Nat → Int32 → Nat → Nat → HS → Prop) (v1 : Nat) (v2 : Nat) (v3 : Nat) (v4 : Int32) (kk : Nat) (nn : Nat) (S : HS) : Prop := ob S v1 9 ∧ (kk ≤ rm_L_law.cells ∧ nn ≤ rm_L_law.slots ∧ (P_X9_where v1 (fun x3 S1 => Gr S S1 → (ob S1 v2 11 ∧ (kk ≤ rm_L_law.cells ∧ nn ≤ rm_L_law.slots ∧ (P_X11_where v2 (fun x6 S4 => Gr S1 S4 → (P_L_law_2342 scL scx Q X23 v1 v2 v3 v4 kk nn S4)) S1)))) S))
set_option maxRecDepth 20000 in
set_option maxHeartbeats 4000000 in
theorem T_L_law_327 {X : CX} {Q : Int32 → HS → Prop} {scb scL : Nat} {scx : Nat → Int32} (C : Cx X cL_law RL 7 rm_L_law) (E : LE X scb scL scx Q) (ht : LD X) (hn : True) {X23 : Nat → Nat → Nat → Int32 → Nat → Nat → HS → Prop} (hX23 : ∀ (v1 : Nat) (v2 : Nat) (v3 : Nat) (v4 : Int32) (kk : Nat) (nn : Nat) (S : HS), X23 v1 v2 v3 v4 kk nn S → WS X 7 kk nn 23 [(0, .ref scb), (1, .ref v1), (2, .ref v2), (3, .ref v3), (4, .int v4)] [] S) {v1 : Nat} {v2 : Nat} {v3 : Nat} {v4 : Int32} {kk : Nat} {nn : Nat} {S : HS} (h : P_L_law_327 scL scx Q X23 v1 v2 v3 v4 kk nn S) : WS X 7 kk nn 327 [(0, .ref scb), (1, .ref v1), (2, .ref v2), (3, .ref v3), (4, .int v4)] [] S := by
  refine r_aload_n (pc := 327) C dL_law_327 1 rfl ?_
  obtain ⟨o_v1, h⟩ := h
  obtain ⟨hk, hk2, h⟩ := h
  refine r_callVi0 (pc := 328) C (rest := []) (a := v1) o_v1 [] yV_X9_where g_645 (c_X9_where h) dL_law_328 rfl rfl (Nat.le_of_ble_eq_true rfl) ⟨by decide, by decide⟩ ⟨hk, hk2⟩ ⟨rfl, rfl⟩ (fun x3 S1 h g2 => ?_)
  have h := h g2
  have o_v1 := gr_ob g2 o_v1
  refine r_pop (pc := 331) C dL_law_331 rfl ?_
  refine r_aload_n (pc := 332) C dL_law_332 2 rfl ?_
  obtain ⟨o_v2, h⟩ := h
  obtain ⟨hk, hk2, h⟩ := h
  refine r_callVi0 (pc := 333) C (rest := []) (a := v2) o_v2 [] yV_X11_where g_1526 (c_X11_where h) dL_law_333 rfl rfl (Nat.le_of_ble_eq_true rfl) ⟨by decide, by decide⟩ ⟨hk, hk2⟩ ⟨rfl, rfl⟩ (fun x6 S4 h g5 => ?_)
  have h := h g5
  have o_v1 := gr_ob g5 o_v1
  have o_v2 := gr_ob g5 o_v2
  refine r_pop (pc := 336) C dL_law_336 rfl ?_
  refine r_goto (pc := 337) C (tgt := 2342) dL_law_337 (by decide) ?_
  exact r_sub [0, 1, 2, 3, 4] rfl (T_L_law_2342 C E ht hn hX23 h)
def P_L_law_450 (scL : Nat) (scx : Nat → Int32) (Q : Int32 → HS → Prop) (X23 : Nat → Nat → Nat → Int32 → Nat → Nat → HS → Prop) (v1 : Nat) (v2 : Nat) (v3 : Nat) (v4 : Int32) (s0 : Nat) (s1 : Int32) (s2 : Int32) (s3 : Int32) (s4 : Int32) (s5 : Int32) (s6 : Int32) (s7 : Int32) (kk : Nat) (nn : Nat) (S : HS) : Prop := ob S s0 11 ∧ (kk ≤ rm_L_law.cells ∧ nn ≤ rm_L_law.slots ∧ (P_X11_face s0 s1 s2 s3 s4 s5 s6 s7 (fun x3 S1 => Gr S S1 → (P_L_law_2342 scL scx Q X23 v1 v2 v3 v4 kk nn S1)) S))
set_option maxRecDepth 20000 in
set_option maxHeartbeats 4000000 in
theorem T_L_law_450 {X : CX} {Q : Int32 → HS → Prop} {scb scL : Nat} {scx : Nat → Int32} (C : Cx X cL_law RL 7 rm_L_law) (E : LE X scb scL scx Q) (ht : LD X) (hn : True) {X23 : Nat → Nat → Nat → Int32 → Nat → Nat → HS → Prop} (hX23 : ∀ (v1 : Nat) (v2 : Nat) (v3 : Nat) (v4 : Int32) (kk : Nat) (nn : Nat) (S : HS), X23 v1 v2 v3 v4 kk nn S → WS X 7 kk nn 23 [(0, .ref scb), (1, .ref v1), (2, .ref v2), (3, .ref v3), (4, .int v4)] [] S) {v1 : Nat} {v2 : Nat} {v3 : Nat} {v4 : Int32} {s0 : Nat} {s1 : Int32} {s2 : Int32} {s3 : Int32} {s4 : Int32} {s5 : Int32} {s6 : Int32} {s7 : Int32} {kk : Nat} {nn : Nat} {S : HS} (h : P_L_law_450 scL scx Q X23 v1 v2 v3 v4 s0 s1 s2 s3 s4 s5 s6 s7 kk nn S) : WS X 7 kk nn 450 [(0, .ref scb), (1, .ref v1), (2, .ref v2), (3, .ref v3), (4, .int v4)] [.int s7, .int s6, .int s5, .int s4, .int s3, .int s2, .int s1, .ref s0] S := by
  obtain ⟨o_s0, h⟩ := h
  obtain ⟨hk, hk2, h⟩ := h
  refine r_callVl0 (pc := 450) C (rest := []) (a := s0) o_s0 [.int s1, .int s2, .int s3, .int s4, .int s5, .int s6, .int s7] yV_X11_face g_1530 (c_X11_face h) dL_law_450 rfl rfl (Nat.le_of_ble_eq_true rfl) ⟨by decide, by decide⟩ ⟨hk, hk2⟩ ⟨rfl, rfl⟩ (fun x3 S1 h g2 => ?_)
  have h := h g2
  have o_s0 := gr_ob g2 o_s0
  refine r_pop2 (pc := 453) C dL_law_453 rfl ?_
  refine r_goto (pc := 454) C (tgt := 2342) dL_law_454 (by decide) ?_
  exact r_sub [0, 1, 2, 3, 4] rfl (T_L_law_2342 C E ht hn hX23 h)
def P_L_law_393 (scL : Nat) (scx : Nat → Int32) (Q : Int32 → HS → Prop) (X23 : Nat → Nat → Nat → Int32 → Nat → Nat → HS → Prop) (v1 : Nat) (v2 : Nat) (v3 : Nat) (v4 : Int32) (s0 : Nat) (s1 : Int32) (s2 : Int32) (s3 : Int32) (s4 : Int32) (s5 : Int32) (s6 : Int32) (s7 : Int32) (kk : Nat) (nn : Nat) (S : HS) : Prop := ob S s0 9 ∧ (kk ≤ rm_L_law.cells ∧ nn ≤ rm_L_law.slots ∧ (P_X9_face s0 s1 s2 s3 s4 s5 s6 s7 (fun x3 S1 => Gr S S1 → (∀ x4 : Int32, x4 = v4 + (1 : Int32) → (vp_in x4 scL ∧ ∀ x6 : Int32, x6 = scx x4.toNatClampNeg → (∀ x7 : Int32, x7 = v4 + (2 : Int32) → (vp_in x7 scL ∧ ∀ x9 : Int32, x9 = scx x7.toNatClampNeg → (∀ x10 : Int32, x10 = v4 + (3 : Int32) → (vp_in x10 scL ∧ ∀ x12 : Int32, x12 = scx x10.toNatClampNeg → (∀ x13 : Int32, x13 = v4 + (4 : Int32) → (vp_in x13 scL ∧ ∀ x15 : Int32, x15 = scx x13.toNatClampNeg → (∀ x16 : Int32, x16 = v4 + (5 : Int32) → (vp_in x16 scL ∧ ∀ x18 : Int32, x18 = scx x16.toNatClampNeg → (∀ x19 : Int32, x19 = v4 + (6 : Int32) → (vp_in x19 scL ∧ ∀ x21 : Int32, x21 = scx x19.toNatClampNeg → (∀ x22 : Int32, x22 = v4 + (7 : Int32) → (vp_in x22 scL ∧ ∀ x24 : Int32, x24 = scx x22.toNatClampNeg → (((x24 = 0) → (P_L_law_450 scL scx Q X23 v1 v2 v3 v4 v2 x6 x9 x12 x15 x18 x21 (0 : Int32) kk nn S1)) ∧ ((¬ x24 = 0) → (P_L_law_450 scL scx Q X23 v1 v2 v3 v4 v2 x6 x9 x12 x15 x18 x21 (1 : Int32) kk nn S1)))))))))))))))))) S))
set_option maxRecDepth 20000 in
set_option maxHeartbeats 4000000 in
theorem T_L_law_393 {X : CX} {Q : Int32 → HS → Prop} {scb scL : Nat} {scx : Nat → Int32} (C : Cx X cL_law RL 7 rm_L_law) (E : LE X scb scL scx Q) (ht : LD X) (hn : True) {X23 : Nat → Nat → Nat → Int32 → Nat → Nat → HS → Prop} (hX23 : ∀ (v1 : Nat) (v2 : Nat) (v3 : Nat) (v4 : Int32) (kk : Nat) (nn : Nat) (S : HS), X23 v1 v2 v3 v4 kk nn S → WS X 7 kk nn 23 [(0, .ref scb), (1, .ref v1), (2, .ref v2), (3, .ref v3), (4, .int v4)] [] S) {v1 : Nat} {v2 : Nat} {v3 : Nat} {v4 : Int32} {s0 : Nat} {s1 : Int32} {s2 : Int32} {s3 : Int32} {s4 : Int32} {s5 : Int32} {s6 : Int32} {s7 : Int32} {kk : Nat} {nn : Nat} {S : HS} (h : P_L_law_393 scL scx Q X23 v1 v2 v3 v4 s0 s1 s2 s3 s4 s5 s6 s7 kk nn S) : WS X 7 kk nn 393 [(0, .ref scb), (1, .ref v1), (2, .ref v2), (3, .ref v3), (4, .int v4)] [.int s7, .int s6, .int s5, .int s4, .int s3, .int s2, .int s1, .ref s0] S := by
  obtain ⟨o_s0, h⟩ := h
  obtain ⟨hk, hk2, h⟩ := h
  refine r_callVl0 (pc := 393) C (rest := []) (a := s0) o_s0 [.int s1, .int s2, .int s3, .int s4, .int s5, .int s6, .int s7] yV_X9_face g_649 (c_X9_face h) dL_law_393 rfl rfl (Nat.le_of_ble_eq_true rfl) ⟨by decide, by decide⟩ ⟨hk, hk2⟩ ⟨rfl, rfl⟩ (fun x3 S1 h g2 => ?_)
  have h := h g2
  have o_s0 := gr_ob g2 o_s0
  refine r_pop2 (pc := 396) C dL_law_396 rfl ?_
  refine r_aload_n (pc := 397) C dL_law_397 2 rfl ?_
  refine r_aload_n (pc := 398) C dL_law_398 0 rfl ?_
  refine r_iload (pc := 399) C dL_law_399 4 rfl ?_
  refine r_iconst (pc := 401) C (v := (1 : Int32)) dL_law_401 (by decide) ?_
  refine r_iadd (pc := 402) C dL_law_402 ?_
  refine r_topi (fun x4 ex4 => ?_)
  have h := h x4 ex4
  obtain ⟨i5, h⟩ := h
  refine r_scLd (pc := 403) C E i5 dL_law_403 ?_
  refine r_topi (fun x6 ex6 => ?_)
  have h := h x6 ex6
  refine r_aload_n (pc := 404) C dL_law_404 0 rfl ?_
  refine r_iload (pc := 405) C dL_law_405 4 rfl ?_
  refine r_iconst (pc := 407) C (v := (2 : Int32)) dL_law_407 (by decide) ?_
  refine r_iadd (pc := 408) C dL_law_408 ?_
  refine r_topi (fun x7 ex7 => ?_)
  have h := h x7 ex7
  obtain ⟨i8, h⟩ := h
  refine r_scLd (pc := 409) C E i8 dL_law_409 ?_
  refine r_topi (fun x9 ex9 => ?_)
  have h := h x9 ex9
  refine r_aload_n (pc := 410) C dL_law_410 0 rfl ?_
  refine r_iload (pc := 411) C dL_law_411 4 rfl ?_
  refine r_iconst (pc := 413) C (v := (3 : Int32)) dL_law_413 (by decide) ?_
  refine r_iadd (pc := 414) C dL_law_414 ?_
  refine r_topi (fun x10 ex10 => ?_)
  have h := h x10 ex10
  obtain ⟨i11, h⟩ := h
  refine r_scLd (pc := 415) C E i11 dL_law_415 ?_
  refine r_topi (fun x12 ex12 => ?_)
  have h := h x12 ex12
  refine r_aload_n (pc := 416) C dL_law_416 0 rfl ?_
  refine r_iload (pc := 417) C dL_law_417 4 rfl ?_
  refine r_iconst (pc := 419) C (v := (4 : Int32)) dL_law_419 (by decide) ?_
  refine r_iadd (pc := 420) C dL_law_420 ?_
  refine r_topi (fun x13 ex13 => ?_)
  have h := h x13 ex13
  obtain ⟨i14, h⟩ := h
  refine r_scLd (pc := 421) C E i14 dL_law_421 ?_
  refine r_topi (fun x15 ex15 => ?_)
  have h := h x15 ex15
  refine r_aload_n (pc := 422) C dL_law_422 0 rfl ?_
  refine r_iload (pc := 423) C dL_law_423 4 rfl ?_
  refine r_iconst (pc := 425) C (v := (5 : Int32)) dL_law_425 (by decide) ?_
  refine r_iadd (pc := 426) C dL_law_426 ?_
  refine r_topi (fun x16 ex16 => ?_)
  have h := h x16 ex16
  obtain ⟨i17, h⟩ := h
  refine r_scLd (pc := 427) C E i17 dL_law_427 ?_
  refine r_topi (fun x18 ex18 => ?_)
  have h := h x18 ex18
  refine r_aload_n (pc := 428) C dL_law_428 0 rfl ?_
  refine r_iload (pc := 429) C dL_law_429 4 rfl ?_
  refine r_bipush (pc := 431) C (v := (6 : Int32)) dL_law_431 (by decide) ?_
  refine r_iadd (pc := 433) C dL_law_433 ?_
  refine r_topi (fun x19 ex19 => ?_)
  have h := h x19 ex19
  obtain ⟨i20, h⟩ := h
  refine r_scLd (pc := 434) C E i20 dL_law_434 ?_
  refine r_topi (fun x21 ex21 => ?_)
  have h := h x21 ex21
  refine r_aload_n (pc := 435) C dL_law_435 0 rfl ?_
  refine r_iload (pc := 436) C dL_law_436 4 rfl ?_
  refine r_bipush (pc := 438) C (v := (7 : Int32)) dL_law_438 (by decide) ?_
  refine r_iadd (pc := 440) C dL_law_440 ?_
  refine r_topi (fun x22 ex22 => ?_)
  have h := h x22 ex22
  obtain ⟨i23, h⟩ := h
  refine r_scLd (pc := 441) C E i23 dL_law_441 ?_
  refine r_topi (fun x24 ex24 => ?_)
  have h := h x24 ex24
  refine r_if_eq (pc := 442) C (tgt := 449) dL_law_442 (by decide) (fun c25 => ?_) (fun c25 => ?_)
  · have h := h.1 c25
    refine r_iconst (pc := 449) C (v := (0 : Int32)) dL_law_449 (by decide) ?_
    exact r_sub [0, 1, 2, 3, 4] rfl (T_L_law_450 C E ht hn hX23 h)
  · have h := h.2 c25
    refine r_iconst (pc := 445) C (v := (1 : Int32)) dL_law_445 (by decide) ?_
    refine r_goto (pc := 446) C (tgt := 450) dL_law_446 (by decide) ?_
    exact r_sub [0, 1, 2, 3, 4] rfl (T_L_law_450 C E ht hn hX23 h)
def P_L_law_340 (scL : Nat) (scx : Nat → Int32) (Q : Int32 → HS → Prop) (X23 : Nat → Nat → Nat → Int32 → Nat → Nat → HS → Prop) (v1 : Nat) (v2 : Nat) (v3 : Nat) (v4 : Int32) (kk : Nat) (nn : Nat) (S : HS) : Prop := ∀ x1 : Int32, x1 = v4 + (1 : Int32) → (vp_in x1 scL ∧ ∀ x3 : Int32, x3 = scx x1.toNatClampNeg → (∀ x4 : Int32, x4 = v4 + (2 : Int32) → (vp_in x4 scL ∧ ∀ x6 : Int32, x6 = scx x4.toNatClampNeg → (∀ x7 : Int32, x7 = v4 + (3 : Int32) → (vp_in x7 scL ∧ ∀ x9 : Int32, x9 = scx x7.toNatClampNeg → (∀ x10 : Int32, x10 = v4 + (4 : Int32) → (vp_in x10 scL ∧ ∀ x12 : Int32, x12 = scx x10.toNatClampNeg → (∀ x13 : Int32, x13 = v4 + (5 : Int32) → (vp_in x13 scL ∧ ∀ x15 : Int32, x15 = scx x13.toNatClampNeg → (∀ x16 : Int32, x16 = v4 + (6 : Int32) → (vp_in x16 scL ∧ ∀ x18 : Int32, x18 = scx x16.toNatClampNeg → (∀ x19 : Int32, x19 = v4 + (7 : Int32) → (vp_in x19 scL ∧ ∀ x21 : Int32, x21 = scx x19.toNatClampNeg → (((x21 = 0) → (P_L_law_393 scL scx Q X23 v1 v2 v3 v4 v1 x3 x6 x9 x12 x15 x18 (0 : Int32) kk nn S)) ∧ ((¬ x21 = 0) → (P_L_law_393 scL scx Q X23 v1 v2 v3 v4 v1 x3 x6 x9 x12 x15 x18 (1 : Int32) kk nn S))))))))))))))))
set_option maxRecDepth 20000 in
set_option maxHeartbeats 4000000 in
theorem T_L_law_340 {X : CX} {Q : Int32 → HS → Prop} {scb scL : Nat} {scx : Nat → Int32} (C : Cx X cL_law RL 7 rm_L_law) (E : LE X scb scL scx Q) (ht : LD X) (hn : True) {X23 : Nat → Nat → Nat → Int32 → Nat → Nat → HS → Prop} (hX23 : ∀ (v1 : Nat) (v2 : Nat) (v3 : Nat) (v4 : Int32) (kk : Nat) (nn : Nat) (S : HS), X23 v1 v2 v3 v4 kk nn S → WS X 7 kk nn 23 [(0, .ref scb), (1, .ref v1), (2, .ref v2), (3, .ref v3), (4, .int v4)] [] S) {v1 : Nat} {v2 : Nat} {v3 : Nat} {v4 : Int32} {kk : Nat} {nn : Nat} {S : HS} (h : P_L_law_340 scL scx Q X23 v1 v2 v3 v4 kk nn S) : WS X 7 kk nn 340 [(0, .ref scb), (1, .ref v1), (2, .ref v2), (3, .ref v3), (4, .int v4)] [] S := by
  refine r_aload_n (pc := 340) C dL_law_340 1 rfl ?_
  refine r_aload_n (pc := 341) C dL_law_341 0 rfl ?_
  refine r_iload (pc := 342) C dL_law_342 4 rfl ?_
  refine r_iconst (pc := 344) C (v := (1 : Int32)) dL_law_344 (by decide) ?_
  refine r_iadd (pc := 345) C dL_law_345 ?_
  refine r_topi (fun x1 ex1 => ?_)
  have h := h x1 ex1
  obtain ⟨i2, h⟩ := h
  refine r_scLd (pc := 346) C E i2 dL_law_346 ?_
  refine r_topi (fun x3 ex3 => ?_)
  have h := h x3 ex3
  refine r_aload_n (pc := 347) C dL_law_347 0 rfl ?_
  refine r_iload (pc := 348) C dL_law_348 4 rfl ?_
  refine r_iconst (pc := 350) C (v := (2 : Int32)) dL_law_350 (by decide) ?_
  refine r_iadd (pc := 351) C dL_law_351 ?_
  refine r_topi (fun x4 ex4 => ?_)
  have h := h x4 ex4
  obtain ⟨i5, h⟩ := h
  refine r_scLd (pc := 352) C E i5 dL_law_352 ?_
  refine r_topi (fun x6 ex6 => ?_)
  have h := h x6 ex6
  refine r_aload_n (pc := 353) C dL_law_353 0 rfl ?_
  refine r_iload (pc := 354) C dL_law_354 4 rfl ?_
  refine r_iconst (pc := 356) C (v := (3 : Int32)) dL_law_356 (by decide) ?_
  refine r_iadd (pc := 357) C dL_law_357 ?_
  refine r_topi (fun x7 ex7 => ?_)
  have h := h x7 ex7
  obtain ⟨i8, h⟩ := h
  refine r_scLd (pc := 358) C E i8 dL_law_358 ?_
  refine r_topi (fun x9 ex9 => ?_)
  have h := h x9 ex9
  refine r_aload_n (pc := 359) C dL_law_359 0 rfl ?_
  refine r_iload (pc := 360) C dL_law_360 4 rfl ?_
  refine r_iconst (pc := 362) C (v := (4 : Int32)) dL_law_362 (by decide) ?_
  refine r_iadd (pc := 363) C dL_law_363 ?_
  refine r_topi (fun x10 ex10 => ?_)
  have h := h x10 ex10
  obtain ⟨i11, h⟩ := h
  refine r_scLd (pc := 364) C E i11 dL_law_364 ?_
  refine r_topi (fun x12 ex12 => ?_)
  have h := h x12 ex12
  refine r_aload_n (pc := 365) C dL_law_365 0 rfl ?_
  refine r_iload (pc := 366) C dL_law_366 4 rfl ?_
  refine r_iconst (pc := 368) C (v := (5 : Int32)) dL_law_368 (by decide) ?_
  refine r_iadd (pc := 369) C dL_law_369 ?_
  refine r_topi (fun x13 ex13 => ?_)
  have h := h x13 ex13
  obtain ⟨i14, h⟩ := h
  refine r_scLd (pc := 370) C E i14 dL_law_370 ?_
  refine r_topi (fun x15 ex15 => ?_)
  have h := h x15 ex15
  refine r_aload_n (pc := 371) C dL_law_371 0 rfl ?_
  refine r_iload (pc := 372) C dL_law_372 4 rfl ?_
  refine r_bipush (pc := 374) C (v := (6 : Int32)) dL_law_374 (by decide) ?_
  refine r_iadd (pc := 376) C dL_law_376 ?_
  refine r_topi (fun x16 ex16 => ?_)
  have h := h x16 ex16
  obtain ⟨i17, h⟩ := h
  refine r_scLd (pc := 377) C E i17 dL_law_377 ?_
  refine r_topi (fun x18 ex18 => ?_)
  have h := h x18 ex18
  refine r_aload_n (pc := 378) C dL_law_378 0 rfl ?_
  refine r_iload (pc := 379) C dL_law_379 4 rfl ?_
  refine r_bipush (pc := 381) C (v := (7 : Int32)) dL_law_381 (by decide) ?_
  refine r_iadd (pc := 383) C dL_law_383 ?_
  refine r_topi (fun x19 ex19 => ?_)
  have h := h x19 ex19
  obtain ⟨i20, h⟩ := h
  refine r_scLd (pc := 384) C E i20 dL_law_384 ?_
  refine r_topi (fun x21 ex21 => ?_)
  have h := h x21 ex21
  refine r_if_eq (pc := 385) C (tgt := 392) dL_law_385 (by decide) (fun c22 => ?_) (fun c22 => ?_)
  · have h := h.1 c22
    refine r_iconst (pc := 392) C (v := (0 : Int32)) dL_law_392 (by decide) ?_
    exact r_sub [0, 1, 2, 3, 4] rfl (T_L_law_393 C E ht hn hX23 h)
  · have h := h.2 c22
    refine r_iconst (pc := 388) C (v := (1 : Int32)) dL_law_388 (by decide) ?_
    refine r_goto (pc := 389) C (tgt := 393) dL_law_389 (by decide) ?_
    exact r_sub [0, 1, 2, 3, 4] rfl (T_L_law_393 C E ht hn hX23 h)
def P_L_law_553 (scL : Nat) (scx : Nat → Int32) (Q : Int32 → HS → Prop) (X23 : Nat → Nat → Nat → Int32 → Nat → Nat → HS → Prop) (v1 : Nat) (v2 : Nat) (v3 : Nat) (v4 : Int32) (s0 : Nat) (s1 : Int32) (s2 : Int32) (s3 : Int32) (s4 : Int32) (s5 : Int32) (s6 : Int32) (kk : Nat) (nn : Nat) (S : HS) : Prop := ob S s0 11 ∧ (kk ≤ rm_L_law.cells ∧ nn ≤ rm_L_law.slots ∧ (P_X11_wet s0 s1 s2 s3 s4 s5 s6 (fun x3 S1 => Gr S S1 → (P_L_law_2342 scL scx Q X23 v1 v2 v3 v4 kk nn S1)) S))
set_option maxRecDepth 20000 in
set_option maxHeartbeats 4000000 in
theorem T_L_law_553 {X : CX} {Q : Int32 → HS → Prop} {scb scL : Nat} {scx : Nat → Int32} (C : Cx X cL_law RL 7 rm_L_law) (E : LE X scb scL scx Q) (ht : LD X) (hn : True) {X23 : Nat → Nat → Nat → Int32 → Nat → Nat → HS → Prop} (hX23 : ∀ (v1 : Nat) (v2 : Nat) (v3 : Nat) (v4 : Int32) (kk : Nat) (nn : Nat) (S : HS), X23 v1 v2 v3 v4 kk nn S → WS X 7 kk nn 23 [(0, .ref scb), (1, .ref v1), (2, .ref v2), (3, .ref v3), (4, .int v4)] [] S) {v1 : Nat} {v2 : Nat} {v3 : Nat} {v4 : Int32} {s0 : Nat} {s1 : Int32} {s2 : Int32} {s3 : Int32} {s4 : Int32} {s5 : Int32} {s6 : Int32} {kk : Nat} {nn : Nat} {S : HS} (h : P_L_law_553 scL scx Q X23 v1 v2 v3 v4 s0 s1 s2 s3 s4 s5 s6 kk nn S) : WS X 7 kk nn 553 [(0, .ref scb), (1, .ref v1), (2, .ref v2), (3, .ref v3), (4, .int v4)] [.int s6, .int s5, .int s4, .int s3, .int s2, .int s1, .ref s0] S := by
  obtain ⟨o_s0, h⟩ := h
  obtain ⟨hk, hk2, h⟩ := h
  refine r_callVl0 (pc := 553) C (rest := []) (a := s0) o_s0 [.int s1, .int s2, .int s3, .int s4, .int s5, .int s6] yV_X11_wet g_1590 (c_X11_wet h) dL_law_553 rfl rfl (Nat.le_of_ble_eq_true rfl) ⟨by decide, by decide⟩ ⟨hk, hk2⟩ ⟨rfl, rfl⟩ (fun x3 S1 h g2 => ?_)
  have h := h g2
  have o_s0 := gr_ob g2 o_s0
  refine r_pop2 (pc := 556) C dL_law_556 rfl ?_
  refine r_goto (pc := 557) C (tgt := 2342) dL_law_557 (by decide) ?_
  exact r_sub [0, 1, 2, 3, 4] rfl (T_L_law_2342 C E ht hn hX23 h)
def P_L_law_503 (scL : Nat) (scx : Nat → Int32) (Q : Int32 → HS → Prop) (X23 : Nat → Nat → Nat → Int32 → Nat → Nat → HS → Prop) (v1 : Nat) (v2 : Nat) (v3 : Nat) (v4 : Int32) (s0 : Nat) (s1 : Int32) (s2 : Int32) (s3 : Int32) (s4 : Int32) (s5 : Int32) (s6 : Int32) (kk : Nat) (nn : Nat) (S : HS) : Prop := ob S s0 9 ∧ (kk ≤ rm_L_law.cells ∧ nn ≤ rm_L_law.slots ∧ (P_X9_wet s0 s1 s2 s3 s4 s5 s6 (fun x3 S1 => Gr S S1 → (∀ x4 : Int32, x4 = v4 + (1 : Int32) → (vp_in x4 scL ∧ ∀ x6 : Int32, x6 = scx x4.toNatClampNeg → (∀ x7 : Int32, x7 = v4 + (2 : Int32) → (vp_in x7 scL ∧ ∀ x9 : Int32, x9 = scx x7.toNatClampNeg → (∀ x10 : Int32, x10 = v4 + (3 : Int32) → (vp_in x10 scL ∧ ∀ x12 : Int32, x12 = scx x10.toNatClampNeg → (∀ x13 : Int32, x13 = v4 + (4 : Int32) → (vp_in x13 scL ∧ ∀ x15 : Int32, x15 = scx x13.toNatClampNeg → (∀ x16 : Int32, x16 = v4 + (5 : Int32) → (vp_in x16 scL ∧ ∀ x18 : Int32, x18 = scx x16.toNatClampNeg → (∀ x19 : Int32, x19 = v4 + (6 : Int32) → (vp_in x19 scL ∧ ∀ x21 : Int32, x21 = scx x19.toNatClampNeg → (((x21 = 0) → (P_L_law_553 scL scx Q X23 v1 v2 v3 v4 v2 x6 x9 x12 x15 x18 (0 : Int32) kk nn S1)) ∧ ((¬ x21 = 0) → (P_L_law_553 scL scx Q X23 v1 v2 v3 v4 v2 x6 x9 x12 x15 x18 (1 : Int32) kk nn S1)))))))))))))))) S))
set_option maxRecDepth 20000 in
set_option maxHeartbeats 4000000 in
theorem T_L_law_503 {X : CX} {Q : Int32 → HS → Prop} {scb scL : Nat} {scx : Nat → Int32} (C : Cx X cL_law RL 7 rm_L_law) (E : LE X scb scL scx Q) (ht : LD X) (hn : True) {X23 : Nat → Nat → Nat → Int32 → Nat → Nat → HS → Prop} (hX23 : ∀ (v1 : Nat) (v2 : Nat) (v3 : Nat) (v4 : Int32) (kk : Nat) (nn : Nat) (S : HS), X23 v1 v2 v3 v4 kk nn S → WS X 7 kk nn 23 [(0, .ref scb), (1, .ref v1), (2, .ref v2), (3, .ref v3), (4, .int v4)] [] S) {v1 : Nat} {v2 : Nat} {v3 : Nat} {v4 : Int32} {s0 : Nat} {s1 : Int32} {s2 : Int32} {s3 : Int32} {s4 : Int32} {s5 : Int32} {s6 : Int32} {kk : Nat} {nn : Nat} {S : HS} (h : P_L_law_503 scL scx Q X23 v1 v2 v3 v4 s0 s1 s2 s3 s4 s5 s6 kk nn S) : WS X 7 kk nn 503 [(0, .ref scb), (1, .ref v1), (2, .ref v2), (3, .ref v3), (4, .int v4)] [.int s6, .int s5, .int s4, .int s3, .int s2, .int s1, .ref s0] S := by
  obtain ⟨o_s0, h⟩ := h
  obtain ⟨hk, hk2, h⟩ := h
  refine r_callVl0 (pc := 503) C (rest := []) (a := s0) o_s0 [.int s1, .int s2, .int s3, .int s4, .int s5, .int s6] yV_X9_wet g_728 (c_X9_wet h) dL_law_503 rfl rfl (Nat.le_of_ble_eq_true rfl) ⟨by decide, by decide⟩ ⟨hk, hk2⟩ ⟨rfl, rfl⟩ (fun x3 S1 h g2 => ?_)
  have h := h g2
  have o_s0 := gr_ob g2 o_s0
  refine r_pop2 (pc := 506) C dL_law_506 rfl ?_
  refine r_aload_n (pc := 507) C dL_law_507 2 rfl ?_
  refine r_aload_n (pc := 508) C dL_law_508 0 rfl ?_
  refine r_iload (pc := 509) C dL_law_509 4 rfl ?_
  refine r_iconst (pc := 511) C (v := (1 : Int32)) dL_law_511 (by decide) ?_
  refine r_iadd (pc := 512) C dL_law_512 ?_
  refine r_topi (fun x4 ex4 => ?_)
  have h := h x4 ex4
  obtain ⟨i5, h⟩ := h
  refine r_scLd (pc := 513) C E i5 dL_law_513 ?_
  refine r_topi (fun x6 ex6 => ?_)
  have h := h x6 ex6
  refine r_aload_n (pc := 514) C dL_law_514 0 rfl ?_
  refine r_iload (pc := 515) C dL_law_515 4 rfl ?_
  refine r_iconst (pc := 517) C (v := (2 : Int32)) dL_law_517 (by decide) ?_
  refine r_iadd (pc := 518) C dL_law_518 ?_
  refine r_topi (fun x7 ex7 => ?_)
  have h := h x7 ex7
  obtain ⟨i8, h⟩ := h
  refine r_scLd (pc := 519) C E i8 dL_law_519 ?_
  refine r_topi (fun x9 ex9 => ?_)
  have h := h x9 ex9
  refine r_aload_n (pc := 520) C dL_law_520 0 rfl ?_
  refine r_iload (pc := 521) C dL_law_521 4 rfl ?_
  refine r_iconst (pc := 523) C (v := (3 : Int32)) dL_law_523 (by decide) ?_
  refine r_iadd (pc := 524) C dL_law_524 ?_
  refine r_topi (fun x10 ex10 => ?_)
  have h := h x10 ex10
  obtain ⟨i11, h⟩ := h
  refine r_scLd (pc := 525) C E i11 dL_law_525 ?_
  refine r_topi (fun x12 ex12 => ?_)
  have h := h x12 ex12
  refine r_aload_n (pc := 526) C dL_law_526 0 rfl ?_
  refine r_iload (pc := 527) C dL_law_527 4 rfl ?_
  refine r_iconst (pc := 529) C (v := (4 : Int32)) dL_law_529 (by decide) ?_
  refine r_iadd (pc := 530) C dL_law_530 ?_
  refine r_topi (fun x13 ex13 => ?_)
  have h := h x13 ex13
  obtain ⟨i14, h⟩ := h
  refine r_scLd (pc := 531) C E i14 dL_law_531 ?_
  refine r_topi (fun x15 ex15 => ?_)
  have h := h x15 ex15
  refine r_aload_n (pc := 532) C dL_law_532 0 rfl ?_
  refine r_iload (pc := 533) C dL_law_533 4 rfl ?_
  refine r_iconst (pc := 535) C (v := (5 : Int32)) dL_law_535 (by decide) ?_
  refine r_iadd (pc := 536) C dL_law_536 ?_
  refine r_topi (fun x16 ex16 => ?_)
  have h := h x16 ex16
  obtain ⟨i17, h⟩ := h
  refine r_scLd (pc := 537) C E i17 dL_law_537 ?_
  refine r_topi (fun x18 ex18 => ?_)
  have h := h x18 ex18
  refine r_aload_n (pc := 538) C dL_law_538 0 rfl ?_
  refine r_iload (pc := 539) C dL_law_539 4 rfl ?_
  refine r_bipush (pc := 541) C (v := (6 : Int32)) dL_law_541 (by decide) ?_
  refine r_iadd (pc := 543) C dL_law_543 ?_
  refine r_topi (fun x19 ex19 => ?_)
  have h := h x19 ex19
  obtain ⟨i20, h⟩ := h
  refine r_scLd (pc := 544) C E i20 dL_law_544 ?_
  refine r_topi (fun x21 ex21 => ?_)
  have h := h x21 ex21
  refine r_if_eq (pc := 545) C (tgt := 552) dL_law_545 (by decide) (fun c22 => ?_) (fun c22 => ?_)
  · have h := h.1 c22
    refine r_iconst (pc := 552) C (v := (0 : Int32)) dL_law_552 (by decide) ?_
    exact r_sub [0, 1, 2, 3, 4] rfl (T_L_law_553 C E ht hn hX23 h)
  · have h := h.2 c22
    refine r_iconst (pc := 548) C (v := (1 : Int32)) dL_law_548 (by decide) ?_
    refine r_goto (pc := 549) C (tgt := 553) dL_law_549 (by decide) ?_
    exact r_sub [0, 1, 2, 3, 4] rfl (T_L_law_553 C E ht hn hX23 h)
def P_L_law_457 (scL : Nat) (scx : Nat → Int32) (Q : Int32 → HS → Prop) (X23 : Nat → Nat → Nat → Int32 → Nat → Nat → HS → Prop) (v1 : Nat) (v2 : Nat) (v3 : Nat) (v4 : Int32) (kk : Nat) (nn : Nat) (S : HS) : Prop := ∀ x1 : Int32, x1 = v4 + (1 : Int32) → (vp_in x1 scL ∧ ∀ x3 : Int32, x3 = scx x1.toNatClampNeg → (∀ x4 : Int32, x4 = v4 + (2 : Int32) → (vp_in x4 scL ∧ ∀ x6 : Int32, x6 = scx x4.toNatClampNeg → (∀ x7 : Int32, x7 = v4 + (3 : Int32) → (vp_in x7 scL ∧ ∀ x9 : Int32, x9 = scx x7.toNatClampNeg → (∀ x10 : Int32, x10 = v4 + (4 : Int32) → (vp_in x10 scL ∧ ∀ x12 : Int32, x12 = scx x10.toNatClampNeg → (∀ x13 : Int32, x13 = v4 + (5 : Int32) → (vp_in x13 scL ∧ ∀ x15 : Int32, x15 = scx x13.toNatClampNeg → (∀ x16 : Int32, x16 = v4 + (6 : Int32) → (vp_in x16 scL ∧ ∀ x18 : Int32, x18 = scx x16.toNatClampNeg → (((x18 = 0) → (P_L_law_503 scL scx Q X23 v1 v2 v3 v4 v1 x3 x6 x9 x12 x15 (0 : Int32) kk nn S)) ∧ ((¬ x18 = 0) → (P_L_law_503 scL scx Q X23 v1 v2 v3 v4 v1 x3 x6 x9 x12 x15 (1 : Int32) kk nn S))))))))))))))
set_option maxRecDepth 20000 in
set_option maxHeartbeats 4000000 in
theorem T_L_law_457 {X : CX} {Q : Int32 → HS → Prop} {scb scL : Nat} {scx : Nat → Int32} (C : Cx X cL_law RL 7 rm_L_law) (E : LE X scb scL scx Q) (ht : LD X) (hn : True) {X23 : Nat → Nat → Nat → Int32 → Nat → Nat → HS → Prop} (hX23 : ∀ (v1 : Nat) (v2 : Nat) (v3 : Nat) (v4 : Int32) (kk : Nat) (nn : Nat) (S : HS), X23 v1 v2 v3 v4 kk nn S → WS X 7 kk nn 23 [(0, .ref scb), (1, .ref v1), (2, .ref v2), (3, .ref v3), (4, .int v4)] [] S) {v1 : Nat} {v2 : Nat} {v3 : Nat} {v4 : Int32} {kk : Nat} {nn : Nat} {S : HS} (h : P_L_law_457 scL scx Q X23 v1 v2 v3 v4 kk nn S) : WS X 7 kk nn 457 [(0, .ref scb), (1, .ref v1), (2, .ref v2), (3, .ref v3), (4, .int v4)] [] S := by
  refine r_aload_n (pc := 457) C dL_law_457 1 rfl ?_
  refine r_aload_n (pc := 458) C dL_law_458 0 rfl ?_
  refine r_iload (pc := 459) C dL_law_459 4 rfl ?_
  refine r_iconst (pc := 461) C (v := (1 : Int32)) dL_law_461 (by decide) ?_
  refine r_iadd (pc := 462) C dL_law_462 ?_
  refine r_topi (fun x1 ex1 => ?_)
  have h := h x1 ex1
  obtain ⟨i2, h⟩ := h
  refine r_scLd (pc := 463) C E i2 dL_law_463 ?_
  refine r_topi (fun x3 ex3 => ?_)
  have h := h x3 ex3
  refine r_aload_n (pc := 464) C dL_law_464 0 rfl ?_
  refine r_iload (pc := 465) C dL_law_465 4 rfl ?_
  refine r_iconst (pc := 467) C (v := (2 : Int32)) dL_law_467 (by decide) ?_
  refine r_iadd (pc := 468) C dL_law_468 ?_
  refine r_topi (fun x4 ex4 => ?_)
  have h := h x4 ex4
  obtain ⟨i5, h⟩ := h
  refine r_scLd (pc := 469) C E i5 dL_law_469 ?_
  refine r_topi (fun x6 ex6 => ?_)
  have h := h x6 ex6
  refine r_aload_n (pc := 470) C dL_law_470 0 rfl ?_
  refine r_iload (pc := 471) C dL_law_471 4 rfl ?_
  refine r_iconst (pc := 473) C (v := (3 : Int32)) dL_law_473 (by decide) ?_
  refine r_iadd (pc := 474) C dL_law_474 ?_
  refine r_topi (fun x7 ex7 => ?_)
  have h := h x7 ex7
  obtain ⟨i8, h⟩ := h
  refine r_scLd (pc := 475) C E i8 dL_law_475 ?_
  refine r_topi (fun x9 ex9 => ?_)
  have h := h x9 ex9
  refine r_aload_n (pc := 476) C dL_law_476 0 rfl ?_
  refine r_iload (pc := 477) C dL_law_477 4 rfl ?_
  refine r_iconst (pc := 479) C (v := (4 : Int32)) dL_law_479 (by decide) ?_
  refine r_iadd (pc := 480) C dL_law_480 ?_
  refine r_topi (fun x10 ex10 => ?_)
  have h := h x10 ex10
  obtain ⟨i11, h⟩ := h
  refine r_scLd (pc := 481) C E i11 dL_law_481 ?_
  refine r_topi (fun x12 ex12 => ?_)
  have h := h x12 ex12
  refine r_aload_n (pc := 482) C dL_law_482 0 rfl ?_
  refine r_iload (pc := 483) C dL_law_483 4 rfl ?_
  refine r_iconst (pc := 485) C (v := (5 : Int32)) dL_law_485 (by decide) ?_
  refine r_iadd (pc := 486) C dL_law_486 ?_
  refine r_topi (fun x13 ex13 => ?_)
  have h := h x13 ex13
  obtain ⟨i14, h⟩ := h
  refine r_scLd (pc := 487) C E i14 dL_law_487 ?_
  refine r_topi (fun x15 ex15 => ?_)
  have h := h x15 ex15
  refine r_aload_n (pc := 488) C dL_law_488 0 rfl ?_
  refine r_iload (pc := 489) C dL_law_489 4 rfl ?_
  refine r_bipush (pc := 491) C (v := (6 : Int32)) dL_law_491 (by decide) ?_
  refine r_iadd (pc := 493) C dL_law_493 ?_
  refine r_topi (fun x16 ex16 => ?_)
  have h := h x16 ex16
  obtain ⟨i17, h⟩ := h
  refine r_scLd (pc := 494) C E i17 dL_law_494 ?_
  refine r_topi (fun x18 ex18 => ?_)
  have h := h x18 ex18
  refine r_if_eq (pc := 495) C (tgt := 502) dL_law_495 (by decide) (fun c19 => ?_) (fun c19 => ?_)
  · have h := h.1 c19
    refine r_iconst (pc := 502) C (v := (0 : Int32)) dL_law_502 (by decide) ?_
    exact r_sub [0, 1, 2, 3, 4] rfl (T_L_law_503 C E ht hn hX23 h)
  · have h := h.2 c19
    refine r_iconst (pc := 498) C (v := (1 : Int32)) dL_law_498 (by decide) ?_
    refine r_goto (pc := 499) C (tgt := 503) dL_law_499 (by decide) ?_
    exact r_sub [0, 1, 2, 3, 4] rfl (T_L_law_503 C E ht hn hX23 h)
def P_L_law_655 (scL : Nat) (scx : Nat → Int32) (Q : Int32 → HS → Prop) (X23 : Nat → Nat → Nat → Int32 → Nat → Nat → HS → Prop) (v1 : Nat) (v2 : Nat) (v3 : Nat) (v4 : Int32) (s0 : Int64) (s1 : Nat) (s2 : Int32) (s3 : Int32) (s4 : Int32) (s5 : Int32) (s6 : Int32) (s7 : Int32) (kk : Nat) (nn : Nat) (S : HS) : Prop := ob S s1 11 ∧ (kk ≤ rm_L_law.cells ∧ nn ≤ rm_L_law.slots ∧ (P_X11_mean s1 s2 s3 s4 s5 s6 s7 (fun x3 S1 => Gr S S1 → ((((lg_cmp s0 x3) = 0) → (P_L_law_2342 scL scx Q X23 v1 v2 v3 v4 kk nn S1)) ∧ ((¬ (lg_cmp s0 x3) = 0) → (kk ≤ rm_L_law.cells ∧ nn ≤ rm_L_law.slots ∧ (0 : Int32) = 1 ∧ Q (0 : Int32) S1)))) S))
set_option maxRecDepth 20000 in
set_option maxHeartbeats 4000000 in
theorem T_L_law_655 {X : CX} {Q : Int32 → HS → Prop} {scb scL : Nat} {scx : Nat → Int32} (C : Cx X cL_law RL 7 rm_L_law) (E : LE X scb scL scx Q) (ht : LD X) (hn : True) {X23 : Nat → Nat → Nat → Int32 → Nat → Nat → HS → Prop} (hX23 : ∀ (v1 : Nat) (v2 : Nat) (v3 : Nat) (v4 : Int32) (kk : Nat) (nn : Nat) (S : HS), X23 v1 v2 v3 v4 kk nn S → WS X 7 kk nn 23 [(0, .ref scb), (1, .ref v1), (2, .ref v2), (3, .ref v3), (4, .int v4)] [] S) {v1 : Nat} {v2 : Nat} {v3 : Nat} {v4 : Int32} {s0 : Int64} {s1 : Nat} {s2 : Int32} {s3 : Int32} {s4 : Int32} {s5 : Int32} {s6 : Int32} {s7 : Int32} {kk : Nat} {nn : Nat} {S : HS} (h : P_L_law_655 scL scx Q X23 v1 v2 v3 v4 s0 s1 s2 s3 s4 s5 s6 s7 kk nn S) : WS X 7 kk nn 655 [(0, .ref scb), (1, .ref v1), (2, .ref v2), (3, .ref v3), (4, .int v4)] [.int s7, .int s6, .int s5, .int s4, .int s3, .int s2, .ref s1, .long s0] S := by
  obtain ⟨o_s1, h⟩ := h
  obtain ⟨hk, hk2, h⟩ := h
  refine r_callVl0 (pc := 655) C (rest := [.long s0]) (a := s1) o_s1 [.int s2, .int s3, .int s4, .int s5, .int s6, .int s7] yV_X11_mean g_1598 (c_X11_mean h) dL_law_655 rfl rfl (Nat.le_of_ble_eq_true rfl) ⟨by decide, by decide⟩ ⟨hk, hk2⟩ ⟨rfl, rfl⟩ (fun x3 S1 h g2 => ?_)
  have h := h g2
  have o_s1 := gr_ob g2 o_s1
  refine r_lcmp (pc := 658) C dL_law_658 ?_
  refine r_if_eq (pc := 659) C (tgt := 2342) dL_law_659 (by decide) (fun c4 => ?_) (fun c4 => ?_)
  · have h := h.1 c4
    exact r_sub [0, 1, 2, 3, 4] rfl (T_L_law_2342 C E ht hn hX23 h)
  · have h := h.2 c4
    refine r_iconst (pc := 662) C (v := (0 : Int32)) dL_law_662 (by decide) ?_
    obtain ⟨hk, hk2, he, h⟩ := h
    exact r_lawret (pc := 663) C E dL_law_663 hk hk2 he
def P_L_law_606 (scL : Nat) (scx : Nat → Int32) (Q : Int32 → HS → Prop) (X23 : Nat → Nat → Nat → Int32 → Nat → Nat → HS → Prop) (v1 : Nat) (v2 : Nat) (v3 : Nat) (v4 : Int32) (s0 : Nat) (s1 : Int32) (s2 : Int32) (s3 : Int32) (s4 : Int32) (s5 : Int32) (s6 : Int32) (kk : Nat) (nn : Nat) (S : HS) : Prop := ob S s0 9 ∧ (kk ≤ rm_L_law.cells ∧ nn ≤ rm_L_law.slots ∧ (P_X9_mean s0 s1 s2 s3 s4 s5 s6 (fun x3 S1 => Gr S S1 → (∀ x4 : Int32, x4 = v4 + (1 : Int32) → (vp_in x4 scL ∧ ∀ x6 : Int32, x6 = scx x4.toNatClampNeg → (∀ x7 : Int32, x7 = v4 + (2 : Int32) → (vp_in x7 scL ∧ ∀ x9 : Int32, x9 = scx x7.toNatClampNeg → (∀ x10 : Int32, x10 = v4 + (3 : Int32) → (vp_in x10 scL ∧ ∀ x12 : Int32, x12 = scx x10.toNatClampNeg → (∀ x13 : Int32, x13 = v4 + (4 : Int32) → (vp_in x13 scL ∧ ∀ x15 : Int32, x15 = scx x13.toNatClampNeg → (∀ x16 : Int32, x16 = v4 + (5 : Int32) → (vp_in x16 scL ∧ ∀ x18 : Int32, x18 = scx x16.toNatClampNeg → (∀ x19 : Int32, x19 = v4 + (6 : Int32) → (vp_in x19 scL ∧ ∀ x21 : Int32, x21 = scx x19.toNatClampNeg → (((x21 = 0) → (P_L_law_655 scL scx Q X23 v1 v2 v3 v4 x3 v2 x6 x9 x12 x15 x18 (0 : Int32) kk nn S1)) ∧ ((¬ x21 = 0) → (P_L_law_655 scL scx Q X23 v1 v2 v3 v4 x3 v2 x6 x9 x12 x15 x18 (1 : Int32) kk nn S1)))))))))))))))) S))
set_option maxRecDepth 20000 in
set_option maxHeartbeats 4000000 in
theorem T_L_law_606 {X : CX} {Q : Int32 → HS → Prop} {scb scL : Nat} {scx : Nat → Int32} (C : Cx X cL_law RL 7 rm_L_law) (E : LE X scb scL scx Q) (ht : LD X) (hn : True) {X23 : Nat → Nat → Nat → Int32 → Nat → Nat → HS → Prop} (hX23 : ∀ (v1 : Nat) (v2 : Nat) (v3 : Nat) (v4 : Int32) (kk : Nat) (nn : Nat) (S : HS), X23 v1 v2 v3 v4 kk nn S → WS X 7 kk nn 23 [(0, .ref scb), (1, .ref v1), (2, .ref v2), (3, .ref v3), (4, .int v4)] [] S) {v1 : Nat} {v2 : Nat} {v3 : Nat} {v4 : Int32} {s0 : Nat} {s1 : Int32} {s2 : Int32} {s3 : Int32} {s4 : Int32} {s5 : Int32} {s6 : Int32} {kk : Nat} {nn : Nat} {S : HS} (h : P_L_law_606 scL scx Q X23 v1 v2 v3 v4 s0 s1 s2 s3 s4 s5 s6 kk nn S) : WS X 7 kk nn 606 [(0, .ref scb), (1, .ref v1), (2, .ref v2), (3, .ref v3), (4, .int v4)] [.int s6, .int s5, .int s4, .int s3, .int s2, .int s1, .ref s0] S := by
  obtain ⟨o_s0, h⟩ := h
  obtain ⟨hk, hk2, h⟩ := h
  refine r_callVl0 (pc := 606) C (rest := []) (a := s0) o_s0 [.int s1, .int s2, .int s3, .int s4, .int s5, .int s6] yV_X9_mean g_732 (c_X9_mean h) dL_law_606 rfl rfl (Nat.le_of_ble_eq_true rfl) ⟨by decide, by decide⟩ ⟨hk, hk2⟩ ⟨rfl, rfl⟩ (fun x3 S1 h g2 => ?_)
  have h := h g2
  have o_s0 := gr_ob g2 o_s0
  refine r_aload_n (pc := 609) C dL_law_609 2 rfl ?_
  refine r_aload_n (pc := 610) C dL_law_610 0 rfl ?_
  refine r_iload (pc := 611) C dL_law_611 4 rfl ?_
  refine r_iconst (pc := 613) C (v := (1 : Int32)) dL_law_613 (by decide) ?_
  refine r_iadd (pc := 614) C dL_law_614 ?_
  refine r_topi (fun x4 ex4 => ?_)
  have h := h x4 ex4
  obtain ⟨i5, h⟩ := h
  refine r_scLd (pc := 615) C E i5 dL_law_615 ?_
  refine r_topi (fun x6 ex6 => ?_)
  have h := h x6 ex6
  refine r_aload_n (pc := 616) C dL_law_616 0 rfl ?_
  refine r_iload (pc := 617) C dL_law_617 4 rfl ?_
  refine r_iconst (pc := 619) C (v := (2 : Int32)) dL_law_619 (by decide) ?_
  refine r_iadd (pc := 620) C dL_law_620 ?_
  refine r_topi (fun x7 ex7 => ?_)
  have h := h x7 ex7
  obtain ⟨i8, h⟩ := h
  refine r_scLd (pc := 621) C E i8 dL_law_621 ?_
  refine r_topi (fun x9 ex9 => ?_)
  have h := h x9 ex9
  refine r_aload_n (pc := 622) C dL_law_622 0 rfl ?_
  refine r_iload (pc := 623) C dL_law_623 4 rfl ?_
  refine r_iconst (pc := 625) C (v := (3 : Int32)) dL_law_625 (by decide) ?_
  refine r_iadd (pc := 626) C dL_law_626 ?_
  refine r_topi (fun x10 ex10 => ?_)
  have h := h x10 ex10
  obtain ⟨i11, h⟩ := h
  refine r_scLd (pc := 627) C E i11 dL_law_627 ?_
  refine r_topi (fun x12 ex12 => ?_)
  have h := h x12 ex12
  refine r_aload_n (pc := 628) C dL_law_628 0 rfl ?_
  refine r_iload (pc := 629) C dL_law_629 4 rfl ?_
  refine r_iconst (pc := 631) C (v := (4 : Int32)) dL_law_631 (by decide) ?_
  refine r_iadd (pc := 632) C dL_law_632 ?_
  refine r_topi (fun x13 ex13 => ?_)
  have h := h x13 ex13
  obtain ⟨i14, h⟩ := h
  refine r_scLd (pc := 633) C E i14 dL_law_633 ?_
  refine r_topi (fun x15 ex15 => ?_)
  have h := h x15 ex15
  refine r_aload_n (pc := 634) C dL_law_634 0 rfl ?_
  refine r_iload (pc := 635) C dL_law_635 4 rfl ?_
  refine r_iconst (pc := 637) C (v := (5 : Int32)) dL_law_637 (by decide) ?_
  refine r_iadd (pc := 638) C dL_law_638 ?_
  refine r_topi (fun x16 ex16 => ?_)
  have h := h x16 ex16
  obtain ⟨i17, h⟩ := h
  refine r_scLd (pc := 639) C E i17 dL_law_639 ?_
  refine r_topi (fun x18 ex18 => ?_)
  have h := h x18 ex18
  refine r_aload_n (pc := 640) C dL_law_640 0 rfl ?_
  refine r_iload (pc := 641) C dL_law_641 4 rfl ?_
  refine r_bipush (pc := 643) C (v := (6 : Int32)) dL_law_643 (by decide) ?_
  refine r_iadd (pc := 645) C dL_law_645 ?_
  refine r_topi (fun x19 ex19 => ?_)
  have h := h x19 ex19
  obtain ⟨i20, h⟩ := h
  refine r_scLd (pc := 646) C E i20 dL_law_646 ?_
  refine r_topi (fun x21 ex21 => ?_)
  have h := h x21 ex21
  refine r_if_eq (pc := 647) C (tgt := 654) dL_law_647 (by decide) (fun c22 => ?_) (fun c22 => ?_)
  · have h := h.1 c22
    refine r_iconst (pc := 654) C (v := (0 : Int32)) dL_law_654 (by decide) ?_
    exact r_sub [0, 1, 2, 3, 4] rfl (T_L_law_655 C E ht hn hX23 h)
  · have h := h.2 c22
    refine r_iconst (pc := 650) C (v := (1 : Int32)) dL_law_650 (by decide) ?_
    refine r_goto (pc := 651) C (tgt := 655) dL_law_651 (by decide) ?_
    exact r_sub [0, 1, 2, 3, 4] rfl (T_L_law_655 C E ht hn hX23 h)
def P_L_law_560 (scL : Nat) (scx : Nat → Int32) (Q : Int32 → HS → Prop) (X23 : Nat → Nat → Nat → Int32 → Nat → Nat → HS → Prop) (v1 : Nat) (v2 : Nat) (v3 : Nat) (v4 : Int32) (kk : Nat) (nn : Nat) (S : HS) : Prop := ∀ x1 : Int32, x1 = v4 + (1 : Int32) → (vp_in x1 scL ∧ ∀ x3 : Int32, x3 = scx x1.toNatClampNeg → (∀ x4 : Int32, x4 = v4 + (2 : Int32) → (vp_in x4 scL ∧ ∀ x6 : Int32, x6 = scx x4.toNatClampNeg → (∀ x7 : Int32, x7 = v4 + (3 : Int32) → (vp_in x7 scL ∧ ∀ x9 : Int32, x9 = scx x7.toNatClampNeg → (∀ x10 : Int32, x10 = v4 + (4 : Int32) → (vp_in x10 scL ∧ ∀ x12 : Int32, x12 = scx x10.toNatClampNeg → (∀ x13 : Int32, x13 = v4 + (5 : Int32) → (vp_in x13 scL ∧ ∀ x15 : Int32, x15 = scx x13.toNatClampNeg → (∀ x16 : Int32, x16 = v4 + (6 : Int32) → (vp_in x16 scL ∧ ∀ x18 : Int32, x18 = scx x16.toNatClampNeg → (((x18 = 0) → (P_L_law_606 scL scx Q X23 v1 v2 v3 v4 v1 x3 x6 x9 x12 x15 (0 : Int32) kk nn S)) ∧ ((¬ x18 = 0) → (P_L_law_606 scL scx Q X23 v1 v2 v3 v4 v1 x3 x6 x9 x12 x15 (1 : Int32) kk nn S))))))))))))))
set_option maxRecDepth 20000 in
set_option maxHeartbeats 4000000 in
theorem T_L_law_560 {X : CX} {Q : Int32 → HS → Prop} {scb scL : Nat} {scx : Nat → Int32} (C : Cx X cL_law RL 7 rm_L_law) (E : LE X scb scL scx Q) (ht : LD X) (hn : True) {X23 : Nat → Nat → Nat → Int32 → Nat → Nat → HS → Prop} (hX23 : ∀ (v1 : Nat) (v2 : Nat) (v3 : Nat) (v4 : Int32) (kk : Nat) (nn : Nat) (S : HS), X23 v1 v2 v3 v4 kk nn S → WS X 7 kk nn 23 [(0, .ref scb), (1, .ref v1), (2, .ref v2), (3, .ref v3), (4, .int v4)] [] S) {v1 : Nat} {v2 : Nat} {v3 : Nat} {v4 : Int32} {kk : Nat} {nn : Nat} {S : HS} (h : P_L_law_560 scL scx Q X23 v1 v2 v3 v4 kk nn S) : WS X 7 kk nn 560 [(0, .ref scb), (1, .ref v1), (2, .ref v2), (3, .ref v3), (4, .int v4)] [] S := by
  refine r_aload_n (pc := 560) C dL_law_560 1 rfl ?_
  refine r_aload_n (pc := 561) C dL_law_561 0 rfl ?_
  refine r_iload (pc := 562) C dL_law_562 4 rfl ?_
  refine r_iconst (pc := 564) C (v := (1 : Int32)) dL_law_564 (by decide) ?_
  refine r_iadd (pc := 565) C dL_law_565 ?_
  refine r_topi (fun x1 ex1 => ?_)
  have h := h x1 ex1
  obtain ⟨i2, h⟩ := h
  refine r_scLd (pc := 566) C E i2 dL_law_566 ?_
  refine r_topi (fun x3 ex3 => ?_)
  have h := h x3 ex3
  refine r_aload_n (pc := 567) C dL_law_567 0 rfl ?_
  refine r_iload (pc := 568) C dL_law_568 4 rfl ?_
  refine r_iconst (pc := 570) C (v := (2 : Int32)) dL_law_570 (by decide) ?_
  refine r_iadd (pc := 571) C dL_law_571 ?_
  refine r_topi (fun x4 ex4 => ?_)
  have h := h x4 ex4
  obtain ⟨i5, h⟩ := h
  refine r_scLd (pc := 572) C E i5 dL_law_572 ?_
  refine r_topi (fun x6 ex6 => ?_)
  have h := h x6 ex6
  refine r_aload_n (pc := 573) C dL_law_573 0 rfl ?_
  refine r_iload (pc := 574) C dL_law_574 4 rfl ?_
  refine r_iconst (pc := 576) C (v := (3 : Int32)) dL_law_576 (by decide) ?_
  refine r_iadd (pc := 577) C dL_law_577 ?_
  refine r_topi (fun x7 ex7 => ?_)
  have h := h x7 ex7
  obtain ⟨i8, h⟩ := h
  refine r_scLd (pc := 578) C E i8 dL_law_578 ?_
  refine r_topi (fun x9 ex9 => ?_)
  have h := h x9 ex9
  refine r_aload_n (pc := 579) C dL_law_579 0 rfl ?_
  refine r_iload (pc := 580) C dL_law_580 4 rfl ?_
  refine r_iconst (pc := 582) C (v := (4 : Int32)) dL_law_582 (by decide) ?_
  refine r_iadd (pc := 583) C dL_law_583 ?_
  refine r_topi (fun x10 ex10 => ?_)
  have h := h x10 ex10
  obtain ⟨i11, h⟩ := h
  refine r_scLd (pc := 584) C E i11 dL_law_584 ?_
  refine r_topi (fun x12 ex12 => ?_)
  have h := h x12 ex12
  refine r_aload_n (pc := 585) C dL_law_585 0 rfl ?_
  refine r_iload (pc := 586) C dL_law_586 4 rfl ?_
  refine r_iconst (pc := 588) C (v := (5 : Int32)) dL_law_588 (by decide) ?_
  refine r_iadd (pc := 589) C dL_law_589 ?_
  refine r_topi (fun x13 ex13 => ?_)
  have h := h x13 ex13
  obtain ⟨i14, h⟩ := h
  refine r_scLd (pc := 590) C E i14 dL_law_590 ?_
  refine r_topi (fun x15 ex15 => ?_)
  have h := h x15 ex15
  refine r_aload_n (pc := 591) C dL_law_591 0 rfl ?_
  refine r_iload (pc := 592) C dL_law_592 4 rfl ?_
  refine r_bipush (pc := 594) C (v := (6 : Int32)) dL_law_594 (by decide) ?_
  refine r_iadd (pc := 596) C dL_law_596 ?_
  refine r_topi (fun x16 ex16 => ?_)
  have h := h x16 ex16
  obtain ⟨i17, h⟩ := h
  refine r_scLd (pc := 597) C E i17 dL_law_597 ?_
  refine r_topi (fun x18 ex18 => ?_)
  have h := h x18 ex18
  refine r_if_eq (pc := 598) C (tgt := 605) dL_law_598 (by decide) (fun c19 => ?_) (fun c19 => ?_)
  · have h := h.1 c19
    refine r_iconst (pc := 605) C (v := (0 : Int32)) dL_law_605 (by decide) ?_
    exact r_sub [0, 1, 2, 3, 4] rfl (T_L_law_606 C E ht hn hX23 h)
  · have h := h.2 c19
    refine r_iconst (pc := 601) C (v := (1 : Int32)) dL_law_601 (by decide) ?_
    refine r_goto (pc := 602) C (tgt := 606) dL_law_602 (by decide) ?_
    exact r_sub [0, 1, 2, 3, 4] rfl (T_L_law_606 C E ht hn hX23 h)
def P_L_law_664 (scL : Nat) (scx : Nat → Int32) (Q : Int32 → HS → Prop) (X23 : Nat → Nat → Nat → Int32 → Nat → Nat → HS → Prop) (v1 : Nat) (v2 : Nat) (v3 : Nat) (v4 : Int32) (kk : Nat) (nn : Nat) (S : HS) : Prop := ∀ x1 : Int32, x1 = v4 + (1 : Int32) → (vp_in x1 scL ∧ ∀ x3 : Int32, x3 = scx x1.toNatClampNeg → (∀ x4 : Int32, x4 = v4 + (2 : Int32) → (vp_in x4 scL ∧ ∀ x6 : Int32, x6 = scx x4.toNatClampNeg → (∀ x7 : Int32, x7 = v4 + (3 : Int32) → (vp_in x7 scL ∧ ∀ x9 : Int32, x9 = scx x7.toNatClampNeg → (ob S v1 9 ∧ (kk ≤ rm_L_law.cells ∧ nn ≤ rm_L_law.slots ∧ (P_X9_minutes v1 x3 x6 x9 (fun x12 S10 => Gr S S10 → (∀ x13 : Int32, x13 = v4 + (1 : Int32) → (vp_in x13 scL ∧ ∀ x15 : Int32, x15 = scx x13.toNatClampNeg → (∀ x16 : Int32, x16 = v4 + (2 : Int32) → (vp_in x16 scL ∧ ∀ x18 : Int32, x18 = scx x16.toNatClampNeg → (∀ x19 : Int32, x19 = v4 + (3 : Int32) → (vp_in x19 scL ∧ ∀ x21 : Int32, x21 = scx x19.toNatClampNeg → (ob S10 v2 11 ∧ (kk ≤ rm_L_law.cells ∧ nn ≤ rm_L_law.slots ∧ (P_X11_minutes v2 x15 x18 x21 (fun x24 S22 => Gr S10 S22 → (P_L_law_2342 scL scx Q X23 v1 v2 v3 v4 kk nn S22)) S10)))))))))) S))))))))
set_option maxRecDepth 20000 in
set_option maxHeartbeats 4000000 in
theorem T_L_law_664 {X : CX} {Q : Int32 → HS → Prop} {scb scL : Nat} {scx : Nat → Int32} (C : Cx X cL_law RL 7 rm_L_law) (E : LE X scb scL scx Q) (ht : LD X) (hn : True) {X23 : Nat → Nat → Nat → Int32 → Nat → Nat → HS → Prop} (hX23 : ∀ (v1 : Nat) (v2 : Nat) (v3 : Nat) (v4 : Int32) (kk : Nat) (nn : Nat) (S : HS), X23 v1 v2 v3 v4 kk nn S → WS X 7 kk nn 23 [(0, .ref scb), (1, .ref v1), (2, .ref v2), (3, .ref v3), (4, .int v4)] [] S) {v1 : Nat} {v2 : Nat} {v3 : Nat} {v4 : Int32} {kk : Nat} {nn : Nat} {S : HS} (h : P_L_law_664 scL scx Q X23 v1 v2 v3 v4 kk nn S) : WS X 7 kk nn 664 [(0, .ref scb), (1, .ref v1), (2, .ref v2), (3, .ref v3), (4, .int v4)] [] S := by
  refine r_aload_n (pc := 664) C dL_law_664 1 rfl ?_
  refine r_aload_n (pc := 665) C dL_law_665 0 rfl ?_
  refine r_iload (pc := 666) C dL_law_666 4 rfl ?_
  refine r_iconst (pc := 668) C (v := (1 : Int32)) dL_law_668 (by decide) ?_
  refine r_iadd (pc := 669) C dL_law_669 ?_
  refine r_topi (fun x1 ex1 => ?_)
  have h := h x1 ex1
  obtain ⟨i2, h⟩ := h
  refine r_scLd (pc := 670) C E i2 dL_law_670 ?_
  refine r_topi (fun x3 ex3 => ?_)
  have h := h x3 ex3
  refine r_aload_n (pc := 671) C dL_law_671 0 rfl ?_
  refine r_iload (pc := 672) C dL_law_672 4 rfl ?_
  refine r_iconst (pc := 674) C (v := (2 : Int32)) dL_law_674 (by decide) ?_
  refine r_iadd (pc := 675) C dL_law_675 ?_
  refine r_topi (fun x4 ex4 => ?_)
  have h := h x4 ex4
  obtain ⟨i5, h⟩ := h
  refine r_scLd (pc := 676) C E i5 dL_law_676 ?_
  refine r_topi (fun x6 ex6 => ?_)
  have h := h x6 ex6
  refine r_aload_n (pc := 677) C dL_law_677 0 rfl ?_
  refine r_iload (pc := 678) C dL_law_678 4 rfl ?_
  refine r_iconst (pc := 680) C (v := (3 : Int32)) dL_law_680 (by decide) ?_
  refine r_iadd (pc := 681) C dL_law_681 ?_
  refine r_topi (fun x7 ex7 => ?_)
  have h := h x7 ex7
  obtain ⟨i8, h⟩ := h
  refine r_scLd (pc := 682) C E i8 dL_law_682 ?_
  refine r_topi (fun x9 ex9 => ?_)
  have h := h x9 ex9
  obtain ⟨o_v1, h⟩ := h
  obtain ⟨hk, hk2, h⟩ := h
  refine r_callVi0 (pc := 683) C (rest := []) (a := v1) o_v1 [.int x3, .int x6, .int x9] yV_X9_minutes g_737 (c_X9_minutes h) dL_law_683 rfl rfl (Nat.le_of_ble_eq_true rfl) ⟨by decide, by decide⟩ ⟨hk, hk2⟩ ⟨rfl, rfl⟩ (fun x12 S10 h g11 => ?_)
  have h := h g11
  have o_v1 := gr_ob g11 o_v1
  refine r_pop (pc := 686) C dL_law_686 rfl ?_
  refine r_aload_n (pc := 687) C dL_law_687 2 rfl ?_
  refine r_aload_n (pc := 688) C dL_law_688 0 rfl ?_
  refine r_iload (pc := 689) C dL_law_689 4 rfl ?_
  refine r_iconst (pc := 691) C (v := (1 : Int32)) dL_law_691 (by decide) ?_
  refine r_iadd (pc := 692) C dL_law_692 ?_
  refine r_topi (fun x13 ex13 => ?_)
  have h := h x13 ex13
  obtain ⟨i14, h⟩ := h
  refine r_scLd (pc := 693) C E i14 dL_law_693 ?_
  refine r_topi (fun x15 ex15 => ?_)
  have h := h x15 ex15
  refine r_aload_n (pc := 694) C dL_law_694 0 rfl ?_
  refine r_iload (pc := 695) C dL_law_695 4 rfl ?_
  refine r_iconst (pc := 697) C (v := (2 : Int32)) dL_law_697 (by decide) ?_
  refine r_iadd (pc := 698) C dL_law_698 ?_
  refine r_topi (fun x16 ex16 => ?_)
  have h := h x16 ex16
  obtain ⟨i17, h⟩ := h
  refine r_scLd (pc := 699) C E i17 dL_law_699 ?_
  refine r_topi (fun x18 ex18 => ?_)
  have h := h x18 ex18
  refine r_aload_n (pc := 700) C dL_law_700 0 rfl ?_
  refine r_iload (pc := 701) C dL_law_701 4 rfl ?_
  refine r_iconst (pc := 703) C (v := (3 : Int32)) dL_law_703 (by decide) ?_
  refine r_iadd (pc := 704) C dL_law_704 ?_
  refine r_topi (fun x19 ex19 => ?_)
  have h := h x19 ex19
  obtain ⟨i20, h⟩ := h
  refine r_scLd (pc := 705) C E i20 dL_law_705 ?_
  refine r_topi (fun x21 ex21 => ?_)
  have h := h x21 ex21
  obtain ⟨o_v2, h⟩ := h
  obtain ⟨hk, hk2, h⟩ := h
  refine r_callVi0 (pc := 706) C (rest := []) (a := v2) o_v2 [.int x15, .int x18, .int x21] yV_X11_minutes g_1603 (c_X11_minutes h) dL_law_706 rfl rfl (Nat.le_of_ble_eq_true rfl) ⟨by decide, by decide⟩ ⟨hk, hk2⟩ ⟨rfl, rfl⟩ (fun x24 S22 h g23 => ?_)
  have h := h g23
  have o_v1 := gr_ob g23 o_v1
  have o_v2 := gr_ob g23 o_v2
  refine r_pop (pc := 709) C dL_law_709 rfl ?_
  refine r_goto (pc := 710) C (tgt := 2342) dL_law_710 (by decide) ?_
  exact r_sub [0, 1, 2, 3, 4] rfl (T_L_law_2342 C E ht hn hX23 h)
end
section
def P_L_law_713 (scL : Nat) (scx : Nat → Int32) (Q : Int32 → HS → Prop) (X23 : Nat → Nat → Nat → Int32 → Nat → Nat → HS → Prop) (v1 : Nat) (v2 : Nat) (v3 : Nat) (v4 : Int32) (kk : Nat) (nn : Nat) (S : HS) : Prop := ∀ x1 : Int32, x1 = v4 + (1 : Int32) → (vp_in x1 scL ∧ ∀ x3 : Int32, x3 = scx x1.toNatClampNeg → (∀ x4 : Int32, x4 = v4 + (2 : Int32) → (vp_in x4 scL ∧ ∀ x6 : Int32, x6 = scx x4.toNatClampNeg → (∀ x7 : Int32, x7 = v4 + (3 : Int32) → (vp_in x7 scL ∧ ∀ x9 : Int32, x9 = scx x7.toNatClampNeg → (ob S v1 9 ∧ (kk ≤ rm_L_law.cells ∧ nn ≤ rm_L_law.slots ∧ (P_X9_air v1 x3 x6 x9 (fun x12 S10 => Gr S S10 → (∀ x13 : Int32, x13 = v4 + (1 : Int32) → (vp_in x13 scL ∧ ∀ x15 : Int32, x15 = scx x13.toNatClampNeg → (∀ x16 : Int32, x16 = v4 + (2 : Int32) → (vp_in x16 scL ∧ ∀ x18 : Int32, x18 = scx x16.toNatClampNeg → (∀ x19 : Int32, x19 = v4 + (3 : Int32) → (vp_in x19 scL ∧ ∀ x21 : Int32, x21 = scx x19.toNatClampNeg → (ob S10 v2 11 ∧ (kk ≤ rm_L_law.cells ∧ nn ≤ rm_L_law.slots ∧ (P_X11_air v2 x15 x18 x21 (fun x24 S22 => Gr S10 S22 → (P_L_law_2342 scL scx Q X23 v1 v2 v3 v4 kk nn S22)) S10)))))))))) S))))))))
set_option maxRecDepth 20000 in
set_option maxHeartbeats 4000000 in
theorem T_L_law_713 {X : CX} {Q : Int32 → HS → Prop} {scb scL : Nat} {scx : Nat → Int32} (C : Cx X cL_law RL 7 rm_L_law) (E : LE X scb scL scx Q) (ht : LD X) (hn : True) {X23 : Nat → Nat → Nat → Int32 → Nat → Nat → HS → Prop} (hX23 : ∀ (v1 : Nat) (v2 : Nat) (v3 : Nat) (v4 : Int32) (kk : Nat) (nn : Nat) (S : HS), X23 v1 v2 v3 v4 kk nn S → WS X 7 kk nn 23 [(0, .ref scb), (1, .ref v1), (2, .ref v2), (3, .ref v3), (4, .int v4)] [] S) {v1 : Nat} {v2 : Nat} {v3 : Nat} {v4 : Int32} {kk : Nat} {nn : Nat} {S : HS} (h : P_L_law_713 scL scx Q X23 v1 v2 v3 v4 kk nn S) : WS X 7 kk nn 713 [(0, .ref scb), (1, .ref v1), (2, .ref v2), (3, .ref v3), (4, .int v4)] [] S := by
  refine r_aload_n (pc := 713) C dL_law_713 1 rfl ?_
  refine r_aload_n (pc := 714) C dL_law_714 0 rfl ?_
  refine r_iload (pc := 715) C dL_law_715 4 rfl ?_
  refine r_iconst (pc := 717) C (v := (1 : Int32)) dL_law_717 (by decide) ?_
  refine r_iadd (pc := 718) C dL_law_718 ?_
  refine r_topi (fun x1 ex1 => ?_)
  have h := h x1 ex1
  obtain ⟨i2, h⟩ := h
  refine r_scLd (pc := 719) C E i2 dL_law_719 ?_
  refine r_topi (fun x3 ex3 => ?_)
  have h := h x3 ex3
  refine r_aload_n (pc := 720) C dL_law_720 0 rfl ?_
  refine r_iload (pc := 721) C dL_law_721 4 rfl ?_
  refine r_iconst (pc := 723) C (v := (2 : Int32)) dL_law_723 (by decide) ?_
  refine r_iadd (pc := 724) C dL_law_724 ?_
  refine r_topi (fun x4 ex4 => ?_)
  have h := h x4 ex4
  obtain ⟨i5, h⟩ := h
  refine r_scLd (pc := 725) C E i5 dL_law_725 ?_
  refine r_topi (fun x6 ex6 => ?_)
  have h := h x6 ex6
  refine r_aload_n (pc := 726) C dL_law_726 0 rfl ?_
  refine r_iload (pc := 727) C dL_law_727 4 rfl ?_
  refine r_iconst (pc := 729) C (v := (3 : Int32)) dL_law_729 (by decide) ?_
  refine r_iadd (pc := 730) C dL_law_730 ?_
  refine r_topi (fun x7 ex7 => ?_)
  have h := h x7 ex7
  obtain ⟨i8, h⟩ := h
  refine r_scLd (pc := 731) C E i8 dL_law_731 ?_
  refine r_topi (fun x9 ex9 => ?_)
  have h := h x9 ex9
  obtain ⟨o_v1, h⟩ := h
  obtain ⟨hk, hk2, h⟩ := h
  refine r_callVi0 (pc := 732) C (rest := []) (a := v1) o_v1 [.int x3, .int x6, .int x9] yV_X9_air g_745 (c_X9_air h) dL_law_732 rfl rfl (Nat.le_of_ble_eq_true rfl) ⟨by decide, by decide⟩ ⟨hk, hk2⟩ ⟨rfl, rfl⟩ (fun x12 S10 h g11 => ?_)
  have h := h g11
  have o_v1 := gr_ob g11 o_v1
  refine r_pop (pc := 735) C dL_law_735 rfl ?_
  refine r_aload_n (pc := 736) C dL_law_736 2 rfl ?_
  refine r_aload_n (pc := 737) C dL_law_737 0 rfl ?_
  refine r_iload (pc := 738) C dL_law_738 4 rfl ?_
  refine r_iconst (pc := 740) C (v := (1 : Int32)) dL_law_740 (by decide) ?_
  refine r_iadd (pc := 741) C dL_law_741 ?_
  refine r_topi (fun x13 ex13 => ?_)
  have h := h x13 ex13
  obtain ⟨i14, h⟩ := h
  refine r_scLd (pc := 742) C E i14 dL_law_742 ?_
  refine r_topi (fun x15 ex15 => ?_)
  have h := h x15 ex15
  refine r_aload_n (pc := 743) C dL_law_743 0 rfl ?_
  refine r_iload (pc := 744) C dL_law_744 4 rfl ?_
  refine r_iconst (pc := 746) C (v := (2 : Int32)) dL_law_746 (by decide) ?_
  refine r_iadd (pc := 747) C dL_law_747 ?_
  refine r_topi (fun x16 ex16 => ?_)
  have h := h x16 ex16
  obtain ⟨i17, h⟩ := h
  refine r_scLd (pc := 748) C E i17 dL_law_748 ?_
  refine r_topi (fun x18 ex18 => ?_)
  have h := h x18 ex18
  refine r_aload_n (pc := 749) C dL_law_749 0 rfl ?_
  refine r_iload (pc := 750) C dL_law_750 4 rfl ?_
  refine r_iconst (pc := 752) C (v := (3 : Int32)) dL_law_752 (by decide) ?_
  refine r_iadd (pc := 753) C dL_law_753 ?_
  refine r_topi (fun x19 ex19 => ?_)
  have h := h x19 ex19
  obtain ⟨i20, h⟩ := h
  refine r_scLd (pc := 754) C E i20 dL_law_754 ?_
  refine r_topi (fun x21 ex21 => ?_)
  have h := h x21 ex21
  obtain ⟨o_v2, h⟩ := h
  obtain ⟨hk, hk2, h⟩ := h
  refine r_callVi0 (pc := 755) C (rest := []) (a := v2) o_v2 [.int x15, .int x18, .int x21] yV_X11_air g_1611 (c_X11_air h) dL_law_755 rfl rfl (Nat.le_of_ble_eq_true rfl) ⟨by decide, by decide⟩ ⟨hk, hk2⟩ ⟨rfl, rfl⟩ (fun x24 S22 h g23 => ?_)
  have h := h g23
  have o_v1 := gr_ob g23 o_v1
  have o_v2 := gr_ob g23 o_v2
  refine r_pop (pc := 758) C dL_law_758 rfl ?_
  refine r_goto (pc := 759) C (tgt := 2342) dL_law_759 (by decide) ?_
  exact r_sub [0, 1, 2, 3, 4] rfl (T_L_law_2342 C E ht hn hX23 h)
def P_L_law_762 (scL : Nat) (scx : Nat → Int32) (Q : Int32 → HS → Prop) (X23 : Nat → Nat → Nat → Int32 → Nat → Nat → HS → Prop) (v1 : Nat) (v2 : Nat) (v3 : Nat) (v4 : Int32) (kk : Nat) (nn : Nat) (S : HS) : Prop := ∀ x1 : Int32, x1 = v4 + (1 : Int32) → (vp_in x1 scL ∧ ∀ x3 : Int32, x3 = scx x1.toNatClampNeg → (∀ x4 : Int32, x4 = v4 + (2 : Int32) → (vp_in x4 scL ∧ ∀ x6 : Int32, x6 = scx x4.toNatClampNeg → (∀ x7 : Int32, x7 = v4 + (3 : Int32) → (vp_in x7 scL ∧ ∀ x9 : Int32, x9 = scx x7.toNatClampNeg → (∀ x10 : Int32, x10 = v4 + (4 : Int32) → (vp_in x10 scL ∧ ∀ x12 : Int32, x12 = scx x10.toNatClampNeg → (∀ x13 : Int32, x13 = v4 + (5 : Int32) → (vp_in x13 scL ∧ ∀ x15 : Int32, x15 = scx x13.toNatClampNeg → (ob S v1 9 ∧ (kk ≤ rm_L_law.cells ∧ nn ≤ rm_L_law.slots ∧ (P_X9_held v1 x3 x6 x9 x12 x15 (fun x18 S16 => Gr S S16 → (∀ x19 : Int32, x19 = v4 + (1 : Int32) → (vp_in x19 scL ∧ ∀ x21 : Int32, x21 = scx x19.toNatClampNeg → (∀ x22 : Int32, x22 = v4 + (2 : Int32) → (vp_in x22 scL ∧ ∀ x24 : Int32, x24 = scx x22.toNatClampNeg → (∀ x25 : Int32, x25 = v4 + (3 : Int32) → (vp_in x25 scL ∧ ∀ x27 : Int32, x27 = scx x25.toNatClampNeg → (∀ x28 : Int32, x28 = v4 + (4 : Int32) → (vp_in x28 scL ∧ ∀ x30 : Int32, x30 = scx x28.toNatClampNeg → (∀ x31 : Int32, x31 = v4 + (5 : Int32) → (vp_in x31 scL ∧ ∀ x33 : Int32, x33 = scx x31.toNatClampNeg → (ob S16 v2 11 ∧ (kk ≤ rm_L_law.cells ∧ nn ≤ rm_L_law.slots ∧ (P_X11_held v2 x21 x24 x27 x30 x33 (fun x36 S34 => Gr S16 S34 → (P_L_law_2342 scL scx Q X23 v1 v2 v3 v4 kk nn S34)) S16)))))))))))))) S))))))))))))
set_option maxRecDepth 20000 in
set_option maxHeartbeats 4000000 in
theorem T_L_law_762 {X : CX} {Q : Int32 → HS → Prop} {scb scL : Nat} {scx : Nat → Int32} (C : Cx X cL_law RL 7 rm_L_law) (E : LE X scb scL scx Q) (ht : LD X) (hn : True) {X23 : Nat → Nat → Nat → Int32 → Nat → Nat → HS → Prop} (hX23 : ∀ (v1 : Nat) (v2 : Nat) (v3 : Nat) (v4 : Int32) (kk : Nat) (nn : Nat) (S : HS), X23 v1 v2 v3 v4 kk nn S → WS X 7 kk nn 23 [(0, .ref scb), (1, .ref v1), (2, .ref v2), (3, .ref v3), (4, .int v4)] [] S) {v1 : Nat} {v2 : Nat} {v3 : Nat} {v4 : Int32} {kk : Nat} {nn : Nat} {S : HS} (h : P_L_law_762 scL scx Q X23 v1 v2 v3 v4 kk nn S) : WS X 7 kk nn 762 [(0, .ref scb), (1, .ref v1), (2, .ref v2), (3, .ref v3), (4, .int v4)] [] S := by
  refine r_aload_n (pc := 762) C dL_law_762 1 rfl ?_
  refine r_aload_n (pc := 763) C dL_law_763 0 rfl ?_
  refine r_iload (pc := 764) C dL_law_764 4 rfl ?_
  refine r_iconst (pc := 766) C (v := (1 : Int32)) dL_law_766 (by decide) ?_
  refine r_iadd (pc := 767) C dL_law_767 ?_
  refine r_topi (fun x1 ex1 => ?_)
  have h := h x1 ex1
  obtain ⟨i2, h⟩ := h
  refine r_scLd (pc := 768) C E i2 dL_law_768 ?_
  refine r_topi (fun x3 ex3 => ?_)
  have h := h x3 ex3
  refine r_aload_n (pc := 769) C dL_law_769 0 rfl ?_
  refine r_iload (pc := 770) C dL_law_770 4 rfl ?_
  refine r_iconst (pc := 772) C (v := (2 : Int32)) dL_law_772 (by decide) ?_
  refine r_iadd (pc := 773) C dL_law_773 ?_
  refine r_topi (fun x4 ex4 => ?_)
  have h := h x4 ex4
  obtain ⟨i5, h⟩ := h
  refine r_scLd (pc := 774) C E i5 dL_law_774 ?_
  refine r_topi (fun x6 ex6 => ?_)
  have h := h x6 ex6
  refine r_aload_n (pc := 775) C dL_law_775 0 rfl ?_
  refine r_iload (pc := 776) C dL_law_776 4 rfl ?_
  refine r_iconst (pc := 778) C (v := (3 : Int32)) dL_law_778 (by decide) ?_
  refine r_iadd (pc := 779) C dL_law_779 ?_
  refine r_topi (fun x7 ex7 => ?_)
  have h := h x7 ex7
  obtain ⟨i8, h⟩ := h
  refine r_scLd (pc := 780) C E i8 dL_law_780 ?_
  refine r_topi (fun x9 ex9 => ?_)
  have h := h x9 ex9
  refine r_aload_n (pc := 781) C dL_law_781 0 rfl ?_
  refine r_iload (pc := 782) C dL_law_782 4 rfl ?_
  refine r_iconst (pc := 784) C (v := (4 : Int32)) dL_law_784 (by decide) ?_
  refine r_iadd (pc := 785) C dL_law_785 ?_
  refine r_topi (fun x10 ex10 => ?_)
  have h := h x10 ex10
  obtain ⟨i11, h⟩ := h
  refine r_scLd (pc := 786) C E i11 dL_law_786 ?_
  refine r_topi (fun x12 ex12 => ?_)
  have h := h x12 ex12
  refine r_aload_n (pc := 787) C dL_law_787 0 rfl ?_
  refine r_iload (pc := 788) C dL_law_788 4 rfl ?_
  refine r_iconst (pc := 790) C (v := (5 : Int32)) dL_law_790 (by decide) ?_
  refine r_iadd (pc := 791) C dL_law_791 ?_
  refine r_topi (fun x13 ex13 => ?_)
  have h := h x13 ex13
  obtain ⟨i14, h⟩ := h
  refine r_scLd (pc := 792) C E i14 dL_law_792 ?_
  refine r_topi (fun x15 ex15 => ?_)
  have h := h x15 ex15
  obtain ⟨o_v1, h⟩ := h
  obtain ⟨hk, hk2, h⟩ := h
  refine r_callVi0 (pc := 793) C (rest := []) (a := v1) o_v1 [.int x3, .int x6, .int x9, .int x12, .int x15] yV_X9_held g_750 (c_X9_held h) dL_law_793 rfl rfl (Nat.le_of_ble_eq_true rfl) ⟨by decide, by decide⟩ ⟨hk, hk2⟩ ⟨rfl, rfl⟩ (fun x18 S16 h g17 => ?_)
  have h := h g17
  have o_v1 := gr_ob g17 o_v1
  refine r_pop (pc := 796) C dL_law_796 rfl ?_
  refine r_aload_n (pc := 797) C dL_law_797 2 rfl ?_
  refine r_aload_n (pc := 798) C dL_law_798 0 rfl ?_
  refine r_iload (pc := 799) C dL_law_799 4 rfl ?_
  refine r_iconst (pc := 801) C (v := (1 : Int32)) dL_law_801 (by decide) ?_
  refine r_iadd (pc := 802) C dL_law_802 ?_
  refine r_topi (fun x19 ex19 => ?_)
  have h := h x19 ex19
  obtain ⟨i20, h⟩ := h
  refine r_scLd (pc := 803) C E i20 dL_law_803 ?_
  refine r_topi (fun x21 ex21 => ?_)
  have h := h x21 ex21
  refine r_aload_n (pc := 804) C dL_law_804 0 rfl ?_
  refine r_iload (pc := 805) C dL_law_805 4 rfl ?_
  refine r_iconst (pc := 807) C (v := (2 : Int32)) dL_law_807 (by decide) ?_
  refine r_iadd (pc := 808) C dL_law_808 ?_
  refine r_topi (fun x22 ex22 => ?_)
  have h := h x22 ex22
  obtain ⟨i23, h⟩ := h
  refine r_scLd (pc := 809) C E i23 dL_law_809 ?_
  refine r_topi (fun x24 ex24 => ?_)
  have h := h x24 ex24
  refine r_aload_n (pc := 810) C dL_law_810 0 rfl ?_
  refine r_iload (pc := 811) C dL_law_811 4 rfl ?_
  refine r_iconst (pc := 813) C (v := (3 : Int32)) dL_law_813 (by decide) ?_
  refine r_iadd (pc := 814) C dL_law_814 ?_
  refine r_topi (fun x25 ex25 => ?_)
  have h := h x25 ex25
  obtain ⟨i26, h⟩ := h
  refine r_scLd (pc := 815) C E i26 dL_law_815 ?_
  refine r_topi (fun x27 ex27 => ?_)
  have h := h x27 ex27
  refine r_aload_n (pc := 816) C dL_law_816 0 rfl ?_
  refine r_iload (pc := 817) C dL_law_817 4 rfl ?_
  refine r_iconst (pc := 819) C (v := (4 : Int32)) dL_law_819 (by decide) ?_
  refine r_iadd (pc := 820) C dL_law_820 ?_
  refine r_topi (fun x28 ex28 => ?_)
  have h := h x28 ex28
  obtain ⟨i29, h⟩ := h
  refine r_scLd (pc := 821) C E i29 dL_law_821 ?_
  refine r_topi (fun x30 ex30 => ?_)
  have h := h x30 ex30
  refine r_aload_n (pc := 822) C dL_law_822 0 rfl ?_
  refine r_iload (pc := 823) C dL_law_823 4 rfl ?_
  refine r_iconst (pc := 825) C (v := (5 : Int32)) dL_law_825 (by decide) ?_
  refine r_iadd (pc := 826) C dL_law_826 ?_
  refine r_topi (fun x31 ex31 => ?_)
  have h := h x31 ex31
  obtain ⟨i32, h⟩ := h
  refine r_scLd (pc := 827) C E i32 dL_law_827 ?_
  refine r_topi (fun x33 ex33 => ?_)
  have h := h x33 ex33
  obtain ⟨o_v2, h⟩ := h
  obtain ⟨hk, hk2, h⟩ := h
  refine r_callVi0 (pc := 828) C (rest := []) (a := v2) o_v2 [.int x21, .int x24, .int x27, .int x30, .int x33] yV_X11_held g_1619 (c_X11_held h) dL_law_828 rfl rfl (Nat.le_of_ble_eq_true rfl) ⟨by decide, by decide⟩ ⟨hk, hk2⟩ ⟨rfl, rfl⟩ (fun x36 S34 h g35 => ?_)
  have h := h g35
  have o_v1 := gr_ob g35 o_v1
  have o_v2 := gr_ob g35 o_v2
  refine r_pop (pc := 831) C dL_law_831 rfl ?_
  refine r_goto (pc := 832) C (tgt := 2342) dL_law_832 (by decide) ?_
  exact r_sub [0, 1, 2, 3, 4] rfl (T_L_law_2342 C E ht hn hX23 h)
def P_L_law_835 (scL : Nat) (scx : Nat → Int32) (Q : Int32 → HS → Prop) (X23 : Nat → Nat → Nat → Int32 → Nat → Nat → HS → Prop) (v1 : Nat) (v2 : Nat) (v3 : Nat) (v4 : Int32) (kk : Nat) (nn : Nat) (S : HS) : Prop := ∀ x1 : Int32, x1 = v4 + (1 : Int32) → (vp_in x1 scL ∧ ∀ x3 : Int32, x3 = scx x1.toNatClampNeg → (∀ x4 : Int32, x4 = v4 + (2 : Int32) → (vp_in x4 scL ∧ ∀ x6 : Int32, x6 = scx x4.toNatClampNeg → (∀ x7 : Int32, x7 = v4 + (3 : Int32) → (vp_in x7 scL ∧ ∀ x9 : Int32, x9 = scx x7.toNatClampNeg → (∀ x10 : Int32, x10 = v4 + (4 : Int32) → (vp_in x10 scL ∧ ∀ x12 : Int32, x12 = scx x10.toNatClampNeg → (ob S v1 9 ∧ (kk ≤ rm_L_law.cells ∧ nn ≤ rm_L_law.slots ∧ (P_X9_best v1 x3 x6 x9 x12 (fun x15 S13 => Gr S S13 → (∀ x16 : Int32, x16 = v4 + (1 : Int32) → (vp_in x16 scL ∧ ∀ x18 : Int32, x18 = scx x16.toNatClampNeg → (∀ x19 : Int32, x19 = v4 + (2 : Int32) → (vp_in x19 scL ∧ ∀ x21 : Int32, x21 = scx x19.toNatClampNeg → (∀ x22 : Int32, x22 = v4 + (3 : Int32) → (vp_in x22 scL ∧ ∀ x24 : Int32, x24 = scx x22.toNatClampNeg → (∀ x25 : Int32, x25 = v4 + (4 : Int32) → (vp_in x25 scL ∧ ∀ x27 : Int32, x27 = scx x25.toNatClampNeg → (ob S13 v2 11 ∧ (kk ≤ rm_L_law.cells ∧ nn ≤ rm_L_law.slots ∧ (P_X11_best v2 x18 x21 x24 x27 (fun x30 S28 => Gr S13 S28 → (P_L_law_2342 scL scx Q X23 v1 v2 v3 v4 kk nn S28)) S13)))))))))))) S))))))))))
set_option maxRecDepth 20000 in
set_option maxHeartbeats 4000000 in
theorem T_L_law_835 {X : CX} {Q : Int32 → HS → Prop} {scb scL : Nat} {scx : Nat → Int32} (C : Cx X cL_law RL 7 rm_L_law) (E : LE X scb scL scx Q) (ht : LD X) (hn : True) {X23 : Nat → Nat → Nat → Int32 → Nat → Nat → HS → Prop} (hX23 : ∀ (v1 : Nat) (v2 : Nat) (v3 : Nat) (v4 : Int32) (kk : Nat) (nn : Nat) (S : HS), X23 v1 v2 v3 v4 kk nn S → WS X 7 kk nn 23 [(0, .ref scb), (1, .ref v1), (2, .ref v2), (3, .ref v3), (4, .int v4)] [] S) {v1 : Nat} {v2 : Nat} {v3 : Nat} {v4 : Int32} {kk : Nat} {nn : Nat} {S : HS} (h : P_L_law_835 scL scx Q X23 v1 v2 v3 v4 kk nn S) : WS X 7 kk nn 835 [(0, .ref scb), (1, .ref v1), (2, .ref v2), (3, .ref v3), (4, .int v4)] [] S := by
  refine r_aload_n (pc := 835) C dL_law_835 1 rfl ?_
  refine r_aload_n (pc := 836) C dL_law_836 0 rfl ?_
  refine r_iload (pc := 837) C dL_law_837 4 rfl ?_
  refine r_iconst (pc := 839) C (v := (1 : Int32)) dL_law_839 (by decide) ?_
  refine r_iadd (pc := 840) C dL_law_840 ?_
  refine r_topi (fun x1 ex1 => ?_)
  have h := h x1 ex1
  obtain ⟨i2, h⟩ := h
  refine r_scLd (pc := 841) C E i2 dL_law_841 ?_
  refine r_topi (fun x3 ex3 => ?_)
  have h := h x3 ex3
  refine r_aload_n (pc := 842) C dL_law_842 0 rfl ?_
  refine r_iload (pc := 843) C dL_law_843 4 rfl ?_
  refine r_iconst (pc := 845) C (v := (2 : Int32)) dL_law_845 (by decide) ?_
  refine r_iadd (pc := 846) C dL_law_846 ?_
  refine r_topi (fun x4 ex4 => ?_)
  have h := h x4 ex4
  obtain ⟨i5, h⟩ := h
  refine r_scLd (pc := 847) C E i5 dL_law_847 ?_
  refine r_topi (fun x6 ex6 => ?_)
  have h := h x6 ex6
  refine r_aload_n (pc := 848) C dL_law_848 0 rfl ?_
  refine r_iload (pc := 849) C dL_law_849 4 rfl ?_
  refine r_iconst (pc := 851) C (v := (3 : Int32)) dL_law_851 (by decide) ?_
  refine r_iadd (pc := 852) C dL_law_852 ?_
  refine r_topi (fun x7 ex7 => ?_)
  have h := h x7 ex7
  obtain ⟨i8, h⟩ := h
  refine r_scLd (pc := 853) C E i8 dL_law_853 ?_
  refine r_topi (fun x9 ex9 => ?_)
  have h := h x9 ex9
  refine r_aload_n (pc := 854) C dL_law_854 0 rfl ?_
  refine r_iload (pc := 855) C dL_law_855 4 rfl ?_
  refine r_iconst (pc := 857) C (v := (4 : Int32)) dL_law_857 (by decide) ?_
  refine r_iadd (pc := 858) C dL_law_858 ?_
  refine r_topi (fun x10 ex10 => ?_)
  have h := h x10 ex10
  obtain ⟨i11, h⟩ := h
  refine r_scLd (pc := 859) C E i11 dL_law_859 ?_
  refine r_topi (fun x12 ex12 => ?_)
  have h := h x12 ex12
  obtain ⟨o_v1, h⟩ := h
  obtain ⟨hk, hk2, h⟩ := h
  refine r_callVi0 (pc := 860) C (rest := []) (a := v1) o_v1 [.int x3, .int x6, .int x9, .int x12] yV_X9_best g_756 (c_X9_best h) dL_law_860 rfl rfl (Nat.le_of_ble_eq_true rfl) ⟨by decide, by decide⟩ ⟨hk, hk2⟩ ⟨rfl, rfl⟩ (fun x15 S13 h g14 => ?_)
  have h := h g14
  have o_v1 := gr_ob g14 o_v1
  refine r_pop (pc := 863) C dL_law_863 rfl ?_
  refine r_aload_n (pc := 864) C dL_law_864 2 rfl ?_
  refine r_aload_n (pc := 865) C dL_law_865 0 rfl ?_
  refine r_iload (pc := 866) C dL_law_866 4 rfl ?_
  refine r_iconst (pc := 868) C (v := (1 : Int32)) dL_law_868 (by decide) ?_
  refine r_iadd (pc := 869) C dL_law_869 ?_
  refine r_topi (fun x16 ex16 => ?_)
  have h := h x16 ex16
  obtain ⟨i17, h⟩ := h
  refine r_scLd (pc := 870) C E i17 dL_law_870 ?_
  refine r_topi (fun x18 ex18 => ?_)
  have h := h x18 ex18
  refine r_aload_n (pc := 871) C dL_law_871 0 rfl ?_
  refine r_iload (pc := 872) C dL_law_872 4 rfl ?_
  refine r_iconst (pc := 874) C (v := (2 : Int32)) dL_law_874 (by decide) ?_
  refine r_iadd (pc := 875) C dL_law_875 ?_
  refine r_topi (fun x19 ex19 => ?_)
  have h := h x19 ex19
  obtain ⟨i20, h⟩ := h
  refine r_scLd (pc := 876) C E i20 dL_law_876 ?_
  refine r_topi (fun x21 ex21 => ?_)
  have h := h x21 ex21
  refine r_aload_n (pc := 877) C dL_law_877 0 rfl ?_
  refine r_iload (pc := 878) C dL_law_878 4 rfl ?_
  refine r_iconst (pc := 880) C (v := (3 : Int32)) dL_law_880 (by decide) ?_
  refine r_iadd (pc := 881) C dL_law_881 ?_
  refine r_topi (fun x22 ex22 => ?_)
  have h := h x22 ex22
  obtain ⟨i23, h⟩ := h
  refine r_scLd (pc := 882) C E i23 dL_law_882 ?_
  refine r_topi (fun x24 ex24 => ?_)
  have h := h x24 ex24
  refine r_aload_n (pc := 883) C dL_law_883 0 rfl ?_
  refine r_iload (pc := 884) C dL_law_884 4 rfl ?_
  refine r_iconst (pc := 886) C (v := (4 : Int32)) dL_law_886 (by decide) ?_
  refine r_iadd (pc := 887) C dL_law_887 ?_
  refine r_topi (fun x25 ex25 => ?_)
  have h := h x25 ex25
  obtain ⟨i26, h⟩ := h
  refine r_scLd (pc := 888) C E i26 dL_law_888 ?_
  refine r_topi (fun x27 ex27 => ?_)
  have h := h x27 ex27
  obtain ⟨o_v2, h⟩ := h
  obtain ⟨hk, hk2, h⟩ := h
  refine r_callVi0 (pc := 889) C (rest := []) (a := v2) o_v2 [.int x18, .int x21, .int x24, .int x27] yV_X11_best g_1623 (c_X11_best h) dL_law_889 rfl rfl (Nat.le_of_ble_eq_true rfl) ⟨by decide, by decide⟩ ⟨hk, hk2⟩ ⟨rfl, rfl⟩ (fun x30 S28 h g29 => ?_)
  have h := h g29
  have o_v1 := gr_ob g29 o_v1
  have o_v2 := gr_ob g29 o_v2
  refine r_pop (pc := 892) C dL_law_892 rfl ?_
  refine r_goto (pc := 893) C (tgt := 2342) dL_law_893 (by decide) ?_
  exact r_sub [0, 1, 2, 3, 4] rfl (T_L_law_2342 C E ht hn hX23 h)
def P_L_law_978 (scL : Nat) (scx : Nat → Int32) (Q : Int32 → HS → Prop) (X23 : Nat → Nat → Nat → Int32 → Nat → Nat → HS → Prop) (v1 : Nat) (v2 : Nat) (v3 : Nat) (v4 : Int32) (s0 : Nat) (s1 : Int32) (s2 : Int32) (s3 : Int32) (s4 : Int32) (s5 : Int32) (kk : Nat) (nn : Nat) (S : HS) : Prop := ob S s0 11 ∧ (kk ≤ rm_L_law.cells ∧ nn ≤ rm_L_law.slots ∧ (P_X11_saves s0 s1 s2 s3 s4 s5 (fun x3 S1 => Gr S S1 → (P_L_law_2342 scL scx Q X23 v1 v2 v3 v4 kk nn S1)) S))
set_option maxRecDepth 20000 in
set_option maxHeartbeats 4000000 in
theorem T_L_law_978 {X : CX} {Q : Int32 → HS → Prop} {scb scL : Nat} {scx : Nat → Int32} (C : Cx X cL_law RL 7 rm_L_law) (E : LE X scb scL scx Q) (ht : LD X) (hn : True) {X23 : Nat → Nat → Nat → Int32 → Nat → Nat → HS → Prop} (hX23 : ∀ (v1 : Nat) (v2 : Nat) (v3 : Nat) (v4 : Int32) (kk : Nat) (nn : Nat) (S : HS), X23 v1 v2 v3 v4 kk nn S → WS X 7 kk nn 23 [(0, .ref scb), (1, .ref v1), (2, .ref v2), (3, .ref v3), (4, .int v4)] [] S) {v1 : Nat} {v2 : Nat} {v3 : Nat} {v4 : Int32} {s0 : Nat} {s1 : Int32} {s2 : Int32} {s3 : Int32} {s4 : Int32} {s5 : Int32} {kk : Nat} {nn : Nat} {S : HS} (h : P_L_law_978 scL scx Q X23 v1 v2 v3 v4 s0 s1 s2 s3 s4 s5 kk nn S) : WS X 7 kk nn 978 [(0, .ref scb), (1, .ref v1), (2, .ref v2), (3, .ref v3), (4, .int v4)] [.int s5, .int s4, .int s3, .int s2, .int s1, .ref s0] S := by
  obtain ⟨o_s0, h⟩ := h
  obtain ⟨hk, hk2, h⟩ := h
  refine r_callVl0 (pc := 978) C (rest := []) (a := s0) o_s0 [.int s1, .int s2, .int s3, .int s4, .int s5] yV_X11_saves g_1631 (c_X11_saves h) dL_law_978 rfl rfl (Nat.le_of_ble_eq_true rfl) ⟨by decide, by decide⟩ ⟨hk, hk2⟩ ⟨rfl, rfl⟩ (fun x3 S1 h g2 => ?_)
  have h := h g2
  have o_s0 := gr_ob g2 o_s0
  refine r_pop2 (pc := 981) C dL_law_981 rfl ?_
  refine r_goto (pc := 982) C (tgt := 2342) dL_law_982 (by decide) ?_
  exact r_sub [0, 1, 2, 3, 4] rfl (T_L_law_2342 C E ht hn hX23 h)
def P_L_law_935 (scL : Nat) (scx : Nat → Int32) (Q : Int32 → HS → Prop) (X23 : Nat → Nat → Nat → Int32 → Nat → Nat → HS → Prop) (v1 : Nat) (v2 : Nat) (v3 : Nat) (v4 : Int32) (s0 : Nat) (s1 : Int32) (s2 : Int32) (s3 : Int32) (s4 : Int32) (s5 : Int32) (kk : Nat) (nn : Nat) (S : HS) : Prop := ob S s0 9 ∧ (kk ≤ rm_L_law.cells ∧ nn ≤ rm_L_law.slots ∧ (P_X9_saves s0 s1 s2 s3 s4 s5 (fun x3 S1 => Gr S S1 → (∀ x4 : Int32, x4 = v4 + (1 : Int32) → (vp_in x4 scL ∧ ∀ x6 : Int32, x6 = scx x4.toNatClampNeg → (∀ x7 : Int32, x7 = v4 + (2 : Int32) → (vp_in x7 scL ∧ ∀ x9 : Int32, x9 = scx x7.toNatClampNeg → (∀ x10 : Int32, x10 = v4 + (3 : Int32) → (vp_in x10 scL ∧ ∀ x12 : Int32, x12 = scx x10.toNatClampNeg → (∀ x13 : Int32, x13 = v4 + (4 : Int32) → (vp_in x13 scL ∧ ∀ x15 : Int32, x15 = scx x13.toNatClampNeg → (∀ x16 : Int32, x16 = v4 + (5 : Int32) → (vp_in x16 scL ∧ ∀ x18 : Int32, x18 = scx x16.toNatClampNeg → (((x18 = 0) → (P_L_law_978 scL scx Q X23 v1 v2 v3 v4 v2 x6 x9 x12 x15 (0 : Int32) kk nn S1)) ∧ ((¬ x18 = 0) → (P_L_law_978 scL scx Q X23 v1 v2 v3 v4 v2 x6 x9 x12 x15 (1 : Int32) kk nn S1)))))))))))))) S))
set_option maxRecDepth 20000 in
set_option maxHeartbeats 4000000 in
theorem T_L_law_935 {X : CX} {Q : Int32 → HS → Prop} {scb scL : Nat} {scx : Nat → Int32} (C : Cx X cL_law RL 7 rm_L_law) (E : LE X scb scL scx Q) (ht : LD X) (hn : True) {X23 : Nat → Nat → Nat → Int32 → Nat → Nat → HS → Prop} (hX23 : ∀ (v1 : Nat) (v2 : Nat) (v3 : Nat) (v4 : Int32) (kk : Nat) (nn : Nat) (S : HS), X23 v1 v2 v3 v4 kk nn S → WS X 7 kk nn 23 [(0, .ref scb), (1, .ref v1), (2, .ref v2), (3, .ref v3), (4, .int v4)] [] S) {v1 : Nat} {v2 : Nat} {v3 : Nat} {v4 : Int32} {s0 : Nat} {s1 : Int32} {s2 : Int32} {s3 : Int32} {s4 : Int32} {s5 : Int32} {kk : Nat} {nn : Nat} {S : HS} (h : P_L_law_935 scL scx Q X23 v1 v2 v3 v4 s0 s1 s2 s3 s4 s5 kk nn S) : WS X 7 kk nn 935 [(0, .ref scb), (1, .ref v1), (2, .ref v2), (3, .ref v3), (4, .int v4)] [.int s5, .int s4, .int s3, .int s2, .int s1, .ref s0] S := by
  obtain ⟨o_s0, h⟩ := h
  obtain ⟨hk, hk2, h⟩ := h
  refine r_callVl0 (pc := 935) C (rest := []) (a := s0) o_s0 [.int s1, .int s2, .int s3, .int s4, .int s5] yV_X9_saves g_766 (c_X9_saves h) dL_law_935 rfl rfl (Nat.le_of_ble_eq_true rfl) ⟨by decide, by decide⟩ ⟨hk, hk2⟩ ⟨rfl, rfl⟩ (fun x3 S1 h g2 => ?_)
  have h := h g2
  have o_s0 := gr_ob g2 o_s0
  refine r_pop2 (pc := 938) C dL_law_938 rfl ?_
  refine r_aload_n (pc := 939) C dL_law_939 2 rfl ?_
  refine r_aload_n (pc := 940) C dL_law_940 0 rfl ?_
  refine r_iload (pc := 941) C dL_law_941 4 rfl ?_
  refine r_iconst (pc := 943) C (v := (1 : Int32)) dL_law_943 (by decide) ?_
  refine r_iadd (pc := 944) C dL_law_944 ?_
  refine r_topi (fun x4 ex4 => ?_)
  have h := h x4 ex4
  obtain ⟨i5, h⟩ := h
  refine r_scLd (pc := 945) C E i5 dL_law_945 ?_
  refine r_topi (fun x6 ex6 => ?_)
  have h := h x6 ex6
  refine r_aload_n (pc := 946) C dL_law_946 0 rfl ?_
  refine r_iload (pc := 947) C dL_law_947 4 rfl ?_
  refine r_iconst (pc := 949) C (v := (2 : Int32)) dL_law_949 (by decide) ?_
  refine r_iadd (pc := 950) C dL_law_950 ?_
  refine r_topi (fun x7 ex7 => ?_)
  have h := h x7 ex7
  obtain ⟨i8, h⟩ := h
  refine r_scLd (pc := 951) C E i8 dL_law_951 ?_
  refine r_topi (fun x9 ex9 => ?_)
  have h := h x9 ex9
  refine r_aload_n (pc := 952) C dL_law_952 0 rfl ?_
  refine r_iload (pc := 953) C dL_law_953 4 rfl ?_
  refine r_iconst (pc := 955) C (v := (3 : Int32)) dL_law_955 (by decide) ?_
  refine r_iadd (pc := 956) C dL_law_956 ?_
  refine r_topi (fun x10 ex10 => ?_)
  have h := h x10 ex10
  obtain ⟨i11, h⟩ := h
  refine r_scLd (pc := 957) C E i11 dL_law_957 ?_
  refine r_topi (fun x12 ex12 => ?_)
  have h := h x12 ex12
  refine r_aload_n (pc := 958) C dL_law_958 0 rfl ?_
  refine r_iload (pc := 959) C dL_law_959 4 rfl ?_
  refine r_iconst (pc := 961) C (v := (4 : Int32)) dL_law_961 (by decide) ?_
  refine r_iadd (pc := 962) C dL_law_962 ?_
  refine r_topi (fun x13 ex13 => ?_)
  have h := h x13 ex13
  obtain ⟨i14, h⟩ := h
  refine r_scLd (pc := 963) C E i14 dL_law_963 ?_
  refine r_topi (fun x15 ex15 => ?_)
  have h := h x15 ex15
  refine r_aload_n (pc := 964) C dL_law_964 0 rfl ?_
  refine r_iload (pc := 965) C dL_law_965 4 rfl ?_
  refine r_iconst (pc := 967) C (v := (5 : Int32)) dL_law_967 (by decide) ?_
  refine r_iadd (pc := 968) C dL_law_968 ?_
  refine r_topi (fun x16 ex16 => ?_)
  have h := h x16 ex16
  obtain ⟨i17, h⟩ := h
  refine r_scLd (pc := 969) C E i17 dL_law_969 ?_
  refine r_topi (fun x18 ex18 => ?_)
  have h := h x18 ex18
  refine r_if_eq (pc := 970) C (tgt := 977) dL_law_970 (by decide) (fun c19 => ?_) (fun c19 => ?_)
  · have h := h.1 c19
    refine r_iconst (pc := 977) C (v := (0 : Int32)) dL_law_977 (by decide) ?_
    exact r_sub [0, 1, 2, 3, 4] rfl (T_L_law_978 C E ht hn hX23 h)
  · have h := h.2 c19
    refine r_iconst (pc := 973) C (v := (1 : Int32)) dL_law_973 (by decide) ?_
    refine r_goto (pc := 974) C (tgt := 978) dL_law_974 (by decide) ?_
    exact r_sub [0, 1, 2, 3, 4] rfl (T_L_law_978 C E ht hn hX23 h)
def P_L_law_896 (scL : Nat) (scx : Nat → Int32) (Q : Int32 → HS → Prop) (X23 : Nat → Nat → Nat → Int32 → Nat → Nat → HS → Prop) (v1 : Nat) (v2 : Nat) (v3 : Nat) (v4 : Int32) (kk : Nat) (nn : Nat) (S : HS) : Prop := ∀ x1 : Int32, x1 = v4 + (1 : Int32) → (vp_in x1 scL ∧ ∀ x3 : Int32, x3 = scx x1.toNatClampNeg → (∀ x4 : Int32, x4 = v4 + (2 : Int32) → (vp_in x4 scL ∧ ∀ x6 : Int32, x6 = scx x4.toNatClampNeg → (∀ x7 : Int32, x7 = v4 + (3 : Int32) → (vp_in x7 scL ∧ ∀ x9 : Int32, x9 = scx x7.toNatClampNeg → (∀ x10 : Int32, x10 = v4 + (4 : Int32) → (vp_in x10 scL ∧ ∀ x12 : Int32, x12 = scx x10.toNatClampNeg → (∀ x13 : Int32, x13 = v4 + (5 : Int32) → (vp_in x13 scL ∧ ∀ x15 : Int32, x15 = scx x13.toNatClampNeg → (((x15 = 0) → (P_L_law_935 scL scx Q X23 v1 v2 v3 v4 v1 x3 x6 x9 x12 (0 : Int32) kk nn S)) ∧ ((¬ x15 = 0) → (P_L_law_935 scL scx Q X23 v1 v2 v3 v4 v1 x3 x6 x9 x12 (1 : Int32) kk nn S))))))))))))
set_option maxRecDepth 20000 in
set_option maxHeartbeats 4000000 in
theorem T_L_law_896 {X : CX} {Q : Int32 → HS → Prop} {scb scL : Nat} {scx : Nat → Int32} (C : Cx X cL_law RL 7 rm_L_law) (E : LE X scb scL scx Q) (ht : LD X) (hn : True) {X23 : Nat → Nat → Nat → Int32 → Nat → Nat → HS → Prop} (hX23 : ∀ (v1 : Nat) (v2 : Nat) (v3 : Nat) (v4 : Int32) (kk : Nat) (nn : Nat) (S : HS), X23 v1 v2 v3 v4 kk nn S → WS X 7 kk nn 23 [(0, .ref scb), (1, .ref v1), (2, .ref v2), (3, .ref v3), (4, .int v4)] [] S) {v1 : Nat} {v2 : Nat} {v3 : Nat} {v4 : Int32} {kk : Nat} {nn : Nat} {S : HS} (h : P_L_law_896 scL scx Q X23 v1 v2 v3 v4 kk nn S) : WS X 7 kk nn 896 [(0, .ref scb), (1, .ref v1), (2, .ref v2), (3, .ref v3), (4, .int v4)] [] S := by
  refine r_aload_n (pc := 896) C dL_law_896 1 rfl ?_
  refine r_aload_n (pc := 897) C dL_law_897 0 rfl ?_
  refine r_iload (pc := 898) C dL_law_898 4 rfl ?_
  refine r_iconst (pc := 900) C (v := (1 : Int32)) dL_law_900 (by decide) ?_
  refine r_iadd (pc := 901) C dL_law_901 ?_
  refine r_topi (fun x1 ex1 => ?_)
  have h := h x1 ex1
  obtain ⟨i2, h⟩ := h
  refine r_scLd (pc := 902) C E i2 dL_law_902 ?_
  refine r_topi (fun x3 ex3 => ?_)
  have h := h x3 ex3
  refine r_aload_n (pc := 903) C dL_law_903 0 rfl ?_
  refine r_iload (pc := 904) C dL_law_904 4 rfl ?_
  refine r_iconst (pc := 906) C (v := (2 : Int32)) dL_law_906 (by decide) ?_
  refine r_iadd (pc := 907) C dL_law_907 ?_
  refine r_topi (fun x4 ex4 => ?_)
  have h := h x4 ex4
  obtain ⟨i5, h⟩ := h
  refine r_scLd (pc := 908) C E i5 dL_law_908 ?_
  refine r_topi (fun x6 ex6 => ?_)
  have h := h x6 ex6
  refine r_aload_n (pc := 909) C dL_law_909 0 rfl ?_
  refine r_iload (pc := 910) C dL_law_910 4 rfl ?_
  refine r_iconst (pc := 912) C (v := (3 : Int32)) dL_law_912 (by decide) ?_
  refine r_iadd (pc := 913) C dL_law_913 ?_
  refine r_topi (fun x7 ex7 => ?_)
  have h := h x7 ex7
  obtain ⟨i8, h⟩ := h
  refine r_scLd (pc := 914) C E i8 dL_law_914 ?_
  refine r_topi (fun x9 ex9 => ?_)
  have h := h x9 ex9
  refine r_aload_n (pc := 915) C dL_law_915 0 rfl ?_
  refine r_iload (pc := 916) C dL_law_916 4 rfl ?_
  refine r_iconst (pc := 918) C (v := (4 : Int32)) dL_law_918 (by decide) ?_
  refine r_iadd (pc := 919) C dL_law_919 ?_
  refine r_topi (fun x10 ex10 => ?_)
  have h := h x10 ex10
  obtain ⟨i11, h⟩ := h
  refine r_scLd (pc := 920) C E i11 dL_law_920 ?_
  refine r_topi (fun x12 ex12 => ?_)
  have h := h x12 ex12
  refine r_aload_n (pc := 921) C dL_law_921 0 rfl ?_
  refine r_iload (pc := 922) C dL_law_922 4 rfl ?_
  refine r_iconst (pc := 924) C (v := (5 : Int32)) dL_law_924 (by decide) ?_
  refine r_iadd (pc := 925) C dL_law_925 ?_
  refine r_topi (fun x13 ex13 => ?_)
  have h := h x13 ex13
  obtain ⟨i14, h⟩ := h
  refine r_scLd (pc := 926) C E i14 dL_law_926 ?_
  refine r_topi (fun x15 ex15 => ?_)
  have h := h x15 ex15
  refine r_if_eq (pc := 927) C (tgt := 934) dL_law_927 (by decide) (fun c16 => ?_) (fun c16 => ?_)
  · have h := h.1 c16
    refine r_iconst (pc := 934) C (v := (0 : Int32)) dL_law_934 (by decide) ?_
    exact r_sub [0, 1, 2, 3, 4] rfl (T_L_law_935 C E ht hn hX23 h)
  · have h := h.2 c16
    refine r_iconst (pc := 930) C (v := (1 : Int32)) dL_law_930 (by decide) ?_
    refine r_goto (pc := 931) C (tgt := 935) dL_law_931 (by decide) ?_
    exact r_sub [0, 1, 2, 3, 4] rfl (T_L_law_935 C E ht hn hX23 h)
def P_L_law_985 (scL : Nat) (scx : Nat → Int32) (Q : Int32 → HS → Prop) (X23 : Nat → Nat → Nat → Int32 → Nat → Nat → HS → Prop) (v1 : Nat) (v2 : Nat) (v3 : Nat) (v4 : Int32) (kk : Nat) (nn : Nat) (S : HS) : Prop := ∀ x1 : Int32, x1 = v4 + (1 : Int32) → (vp_in x1 scL ∧ ∀ x3 : Int32, x3 = scx x1.toNatClampNeg → (∀ x4 : Int32, x4 = v4 + (2 : Int32) → (vp_in x4 scL ∧ ∀ x6 : Int32, x6 = scx x4.toNatClampNeg → (∀ x7 : Int32, x7 = v4 + (3 : Int32) → (vp_in x7 scL ∧ ∀ x9 : Int32, x9 = scx x7.toNatClampNeg → (∀ x10 : Int32, x10 = v4 + (4 : Int32) → (vp_in x10 scL ∧ ∀ x12 : Int32, x12 = scx x10.toNatClampNeg → (ob S v1 9 ∧ (kk ≤ rm_L_law.cells ∧ nn ≤ rm_L_law.slots ∧ (P_X9_worst v1 x3 x6 x9 x12 (fun x15 S13 => Gr S S13 → (∀ x16 : Int32, x16 = v4 + (1 : Int32) → (vp_in x16 scL ∧ ∀ x18 : Int32, x18 = scx x16.toNatClampNeg → (∀ x19 : Int32, x19 = v4 + (2 : Int32) → (vp_in x19 scL ∧ ∀ x21 : Int32, x21 = scx x19.toNatClampNeg → (∀ x22 : Int32, x22 = v4 + (3 : Int32) → (vp_in x22 scL ∧ ∀ x24 : Int32, x24 = scx x22.toNatClampNeg → (∀ x25 : Int32, x25 = v4 + (4 : Int32) → (vp_in x25 scL ∧ ∀ x27 : Int32, x27 = scx x25.toNatClampNeg → (ob S13 v2 11 ∧ (kk ≤ rm_L_law.cells ∧ nn ≤ rm_L_law.slots ∧ (P_X11_worst v2 x18 x21 x24 x27 (fun x30 S28 => Gr S13 S28 → (P_L_law_2342 scL scx Q X23 v1 v2 v3 v4 kk nn S28)) S13)))))))))))) S))))))))))
set_option maxRecDepth 20000 in
set_option maxHeartbeats 4000000 in
theorem T_L_law_985 {X : CX} {Q : Int32 → HS → Prop} {scb scL : Nat} {scx : Nat → Int32} (C : Cx X cL_law RL 7 rm_L_law) (E : LE X scb scL scx Q) (ht : LD X) (hn : True) {X23 : Nat → Nat → Nat → Int32 → Nat → Nat → HS → Prop} (hX23 : ∀ (v1 : Nat) (v2 : Nat) (v3 : Nat) (v4 : Int32) (kk : Nat) (nn : Nat) (S : HS), X23 v1 v2 v3 v4 kk nn S → WS X 7 kk nn 23 [(0, .ref scb), (1, .ref v1), (2, .ref v2), (3, .ref v3), (4, .int v4)] [] S) {v1 : Nat} {v2 : Nat} {v3 : Nat} {v4 : Int32} {kk : Nat} {nn : Nat} {S : HS} (h : P_L_law_985 scL scx Q X23 v1 v2 v3 v4 kk nn S) : WS X 7 kk nn 985 [(0, .ref scb), (1, .ref v1), (2, .ref v2), (3, .ref v3), (4, .int v4)] [] S := by
  refine r_aload_n (pc := 985) C dL_law_985 1 rfl ?_
  refine r_aload_n (pc := 986) C dL_law_986 0 rfl ?_
  refine r_iload (pc := 987) C dL_law_987 4 rfl ?_
  refine r_iconst (pc := 989) C (v := (1 : Int32)) dL_law_989 (by decide) ?_
  refine r_iadd (pc := 990) C dL_law_990 ?_
  refine r_topi (fun x1 ex1 => ?_)
  have h := h x1 ex1
  obtain ⟨i2, h⟩ := h
  refine r_scLd (pc := 991) C E i2 dL_law_991 ?_
  refine r_topi (fun x3 ex3 => ?_)
  have h := h x3 ex3
  refine r_aload_n (pc := 992) C dL_law_992 0 rfl ?_
  refine r_iload (pc := 993) C dL_law_993 4 rfl ?_
  refine r_iconst (pc := 995) C (v := (2 : Int32)) dL_law_995 (by decide) ?_
  refine r_iadd (pc := 996) C dL_law_996 ?_
  refine r_topi (fun x4 ex4 => ?_)
  have h := h x4 ex4
  obtain ⟨i5, h⟩ := h
  refine r_scLd (pc := 997) C E i5 dL_law_997 ?_
  refine r_topi (fun x6 ex6 => ?_)
  have h := h x6 ex6
  refine r_aload_n (pc := 998) C dL_law_998 0 rfl ?_
  refine r_iload (pc := 999) C dL_law_999 4 rfl ?_
  refine r_iconst (pc := 1001) C (v := (3 : Int32)) dL_law_1001 (by decide) ?_
  refine r_iadd (pc := 1002) C dL_law_1002 ?_
  refine r_topi (fun x7 ex7 => ?_)
  have h := h x7 ex7
  obtain ⟨i8, h⟩ := h
  refine r_scLd (pc := 1003) C E i8 dL_law_1003 ?_
  refine r_topi (fun x9 ex9 => ?_)
  have h := h x9 ex9
  refine r_aload_n (pc := 1004) C dL_law_1004 0 rfl ?_
  refine r_iload (pc := 1005) C dL_law_1005 4 rfl ?_
  refine r_iconst (pc := 1007) C (v := (4 : Int32)) dL_law_1007 (by decide) ?_
  refine r_iadd (pc := 1008) C dL_law_1008 ?_
  refine r_topi (fun x10 ex10 => ?_)
  have h := h x10 ex10
  obtain ⟨i11, h⟩ := h
  refine r_scLd (pc := 1009) C E i11 dL_law_1009 ?_
  refine r_topi (fun x12 ex12 => ?_)
  have h := h x12 ex12
  obtain ⟨o_v1, h⟩ := h
  obtain ⟨hk, hk2, h⟩ := h
  refine r_callVi0 (pc := 1010) C (rest := []) (a := v1) o_v1 [.int x3, .int x6, .int x9, .int x12] yV_X9_worst g_775 (c_X9_worst h) dL_law_1010 rfl rfl (Nat.le_of_ble_eq_true rfl) ⟨by decide, by decide⟩ ⟨hk, hk2⟩ ⟨rfl, rfl⟩ (fun x15 S13 h g14 => ?_)
  have h := h g14
  have o_v1 := gr_ob g14 o_v1
  refine r_pop (pc := 1013) C dL_law_1013 rfl ?_
  refine r_aload_n (pc := 1014) C dL_law_1014 2 rfl ?_
  refine r_aload_n (pc := 1015) C dL_law_1015 0 rfl ?_
  refine r_iload (pc := 1016) C dL_law_1016 4 rfl ?_
  refine r_iconst (pc := 1018) C (v := (1 : Int32)) dL_law_1018 (by decide) ?_
  refine r_iadd (pc := 1019) C dL_law_1019 ?_
  refine r_topi (fun x16 ex16 => ?_)
  have h := h x16 ex16
  obtain ⟨i17, h⟩ := h
  refine r_scLd (pc := 1020) C E i17 dL_law_1020 ?_
  refine r_topi (fun x18 ex18 => ?_)
  have h := h x18 ex18
  refine r_aload_n (pc := 1021) C dL_law_1021 0 rfl ?_
  refine r_iload (pc := 1022) C dL_law_1022 4 rfl ?_
  refine r_iconst (pc := 1024) C (v := (2 : Int32)) dL_law_1024 (by decide) ?_
  refine r_iadd (pc := 1025) C dL_law_1025 ?_
  refine r_topi (fun x19 ex19 => ?_)
  have h := h x19 ex19
  obtain ⟨i20, h⟩ := h
  refine r_scLd (pc := 1026) C E i20 dL_law_1026 ?_
  refine r_topi (fun x21 ex21 => ?_)
  have h := h x21 ex21
  refine r_aload_n (pc := 1027) C dL_law_1027 0 rfl ?_
  refine r_iload (pc := 1028) C dL_law_1028 4 rfl ?_
  refine r_iconst (pc := 1030) C (v := (3 : Int32)) dL_law_1030 (by decide) ?_
  refine r_iadd (pc := 1031) C dL_law_1031 ?_
  refine r_topi (fun x22 ex22 => ?_)
  have h := h x22 ex22
  obtain ⟨i23, h⟩ := h
  refine r_scLd (pc := 1032) C E i23 dL_law_1032 ?_
  refine r_topi (fun x24 ex24 => ?_)
  have h := h x24 ex24
  refine r_aload_n (pc := 1033) C dL_law_1033 0 rfl ?_
  refine r_iload (pc := 1034) C dL_law_1034 4 rfl ?_
  refine r_iconst (pc := 1036) C (v := (4 : Int32)) dL_law_1036 (by decide) ?_
  refine r_iadd (pc := 1037) C dL_law_1037 ?_
  refine r_topi (fun x25 ex25 => ?_)
  have h := h x25 ex25
  obtain ⟨i26, h⟩ := h
  refine r_scLd (pc := 1038) C E i26 dL_law_1038 ?_
  refine r_topi (fun x27 ex27 => ?_)
  have h := h x27 ex27
  obtain ⟨o_v2, h⟩ := h
  obtain ⟨hk, hk2, h⟩ := h
  refine r_callVi0 (pc := 1039) C (rest := []) (a := v2) o_v2 [.int x18, .int x21, .int x24, .int x27] yV_X11_worst g_1635 (c_X11_worst h) dL_law_1039 rfl rfl (Nat.le_of_ble_eq_true rfl) ⟨by decide, by decide⟩ ⟨hk, hk2⟩ ⟨rfl, rfl⟩ (fun x30 S28 h g29 => ?_)
  have h := h g29
  have o_v1 := gr_ob g29 o_v1
  have o_v2 := gr_ob g29 o_v2
  refine r_pop (pc := 1042) C dL_law_1042 rfl ?_
  refine r_goto (pc := 1043) C (tgt := 2342) dL_law_1043 (by decide) ?_
  exact r_sub [0, 1, 2, 3, 4] rfl (T_L_law_2342 C E ht hn hX23 h)
def P_L_law_1046 (scL : Nat) (scx : Nat → Int32) (Q : Int32 → HS → Prop) (X23 : Nat → Nat → Nat → Int32 → Nat → Nat → HS → Prop) (v1 : Nat) (v2 : Nat) (v3 : Nat) (v4 : Int32) (kk : Nat) (nn : Nat) (S : HS) : Prop := ∀ x1 : Int32, x1 = v4 + (1 : Int32) → (vp_in x1 scL ∧ ∀ x3 : Int32, x3 = scx x1.toNatClampNeg → (∀ x4 : Int32, x4 = v4 + (2 : Int32) → (vp_in x4 scL ∧ ∀ x6 : Int32, x6 = scx x4.toNatClampNeg → (∀ x7 : Int32, x7 = v4 + (3 : Int32) → (vp_in x7 scL ∧ ∀ x9 : Int32, x9 = scx x7.toNatClampNeg → (∀ x10 : Int32, x10 = v4 + (4 : Int32) → (vp_in x10 scL ∧ ∀ x12 : Int32, x12 = scx x10.toNatClampNeg → (ob S v1 9 ∧ (kk ≤ rm_L_law.cells ∧ nn ≤ rm_L_law.slots ∧ (P_X9_even v1 x3 x6 x9 x12 (fun x15 S13 => Gr S S13 → (∀ x16 : Int32, x16 = v4 + (1 : Int32) → (vp_in x16 scL ∧ ∀ x18 : Int32, x18 = scx x16.toNatClampNeg → (∀ x19 : Int32, x19 = v4 + (2 : Int32) → (vp_in x19 scL ∧ ∀ x21 : Int32, x21 = scx x19.toNatClampNeg → (∀ x22 : Int32, x22 = v4 + (3 : Int32) → (vp_in x22 scL ∧ ∀ x24 : Int32, x24 = scx x22.toNatClampNeg → (∀ x25 : Int32, x25 = v4 + (4 : Int32) → (vp_in x25 scL ∧ ∀ x27 : Int32, x27 = scx x25.toNatClampNeg → (ob S13 v2 11 ∧ (kk ≤ rm_L_law.cells ∧ nn ≤ rm_L_law.slots ∧ (P_X11_even v2 x18 x21 x24 x27 (fun x30 S28 => Gr S13 S28 → (P_L_law_2342 scL scx Q X23 v1 v2 v3 v4 kk nn S28)) S13)))))))))))) S))))))))))
set_option maxRecDepth 20000 in
set_option maxHeartbeats 4000000 in
theorem T_L_law_1046 {X : CX} {Q : Int32 → HS → Prop} {scb scL : Nat} {scx : Nat → Int32} (C : Cx X cL_law RL 7 rm_L_law) (E : LE X scb scL scx Q) (ht : LD X) (hn : True) {X23 : Nat → Nat → Nat → Int32 → Nat → Nat → HS → Prop} (hX23 : ∀ (v1 : Nat) (v2 : Nat) (v3 : Nat) (v4 : Int32) (kk : Nat) (nn : Nat) (S : HS), X23 v1 v2 v3 v4 kk nn S → WS X 7 kk nn 23 [(0, .ref scb), (1, .ref v1), (2, .ref v2), (3, .ref v3), (4, .int v4)] [] S) {v1 : Nat} {v2 : Nat} {v3 : Nat} {v4 : Int32} {kk : Nat} {nn : Nat} {S : HS} (h : P_L_law_1046 scL scx Q X23 v1 v2 v3 v4 kk nn S) : WS X 7 kk nn 1046 [(0, .ref scb), (1, .ref v1), (2, .ref v2), (3, .ref v3), (4, .int v4)] [] S := by
  refine r_aload_n (pc := 1046) C dL_law_1046 1 rfl ?_
  refine r_aload_n (pc := 1047) C dL_law_1047 0 rfl ?_
  refine r_iload (pc := 1048) C dL_law_1048 4 rfl ?_
  refine r_iconst (pc := 1050) C (v := (1 : Int32)) dL_law_1050 (by decide) ?_
  refine r_iadd (pc := 1051) C dL_law_1051 ?_
  refine r_topi (fun x1 ex1 => ?_)
  have h := h x1 ex1
  obtain ⟨i2, h⟩ := h
  refine r_scLd (pc := 1052) C E i2 dL_law_1052 ?_
  refine r_topi (fun x3 ex3 => ?_)
  have h := h x3 ex3
  refine r_aload_n (pc := 1053) C dL_law_1053 0 rfl ?_
  refine r_iload (pc := 1054) C dL_law_1054 4 rfl ?_
  refine r_iconst (pc := 1056) C (v := (2 : Int32)) dL_law_1056 (by decide) ?_
  refine r_iadd (pc := 1057) C dL_law_1057 ?_
  refine r_topi (fun x4 ex4 => ?_)
  have h := h x4 ex4
  obtain ⟨i5, h⟩ := h
  refine r_scLd (pc := 1058) C E i5 dL_law_1058 ?_
  refine r_topi (fun x6 ex6 => ?_)
  have h := h x6 ex6
  refine r_aload_n (pc := 1059) C dL_law_1059 0 rfl ?_
  refine r_iload (pc := 1060) C dL_law_1060 4 rfl ?_
  refine r_iconst (pc := 1062) C (v := (3 : Int32)) dL_law_1062 (by decide) ?_
  refine r_iadd (pc := 1063) C dL_law_1063 ?_
  refine r_topi (fun x7 ex7 => ?_)
  have h := h x7 ex7
  obtain ⟨i8, h⟩ := h
  refine r_scLd (pc := 1064) C E i8 dL_law_1064 ?_
  refine r_topi (fun x9 ex9 => ?_)
  have h := h x9 ex9
  refine r_aload_n (pc := 1065) C dL_law_1065 0 rfl ?_
  refine r_iload (pc := 1066) C dL_law_1066 4 rfl ?_
  refine r_iconst (pc := 1068) C (v := (4 : Int32)) dL_law_1068 (by decide) ?_
  refine r_iadd (pc := 1069) C dL_law_1069 ?_
  refine r_topi (fun x10 ex10 => ?_)
  have h := h x10 ex10
  obtain ⟨i11, h⟩ := h
  refine r_scLd (pc := 1070) C E i11 dL_law_1070 ?_
  refine r_topi (fun x12 ex12 => ?_)
  have h := h x12 ex12
  obtain ⟨o_v1, h⟩ := h
  obtain ⟨hk, hk2, h⟩ := h
  refine r_callVi0 (pc := 1071) C (rest := []) (a := v1) o_v1 [.int x3, .int x6, .int x9, .int x12] yV_X9_even g_784 (c_X9_even h) dL_law_1071 rfl rfl (Nat.le_of_ble_eq_true rfl) ⟨by decide, by decide⟩ ⟨hk, hk2⟩ ⟨rfl, rfl⟩ (fun x15 S13 h g14 => ?_)
  have h := h g14
  have o_v1 := gr_ob g14 o_v1
  refine r_pop (pc := 1074) C dL_law_1074 rfl ?_
  refine r_aload_n (pc := 1075) C dL_law_1075 2 rfl ?_
  refine r_aload_n (pc := 1076) C dL_law_1076 0 rfl ?_
  refine r_iload (pc := 1077) C dL_law_1077 4 rfl ?_
  refine r_iconst (pc := 1079) C (v := (1 : Int32)) dL_law_1079 (by decide) ?_
  refine r_iadd (pc := 1080) C dL_law_1080 ?_
  refine r_topi (fun x16 ex16 => ?_)
  have h := h x16 ex16
  obtain ⟨i17, h⟩ := h
  refine r_scLd (pc := 1081) C E i17 dL_law_1081 ?_
  refine r_topi (fun x18 ex18 => ?_)
  have h := h x18 ex18
  refine r_aload_n (pc := 1082) C dL_law_1082 0 rfl ?_
  refine r_iload (pc := 1083) C dL_law_1083 4 rfl ?_
  refine r_iconst (pc := 1085) C (v := (2 : Int32)) dL_law_1085 (by decide) ?_
  refine r_iadd (pc := 1086) C dL_law_1086 ?_
  refine r_topi (fun x19 ex19 => ?_)
  have h := h x19 ex19
  obtain ⟨i20, h⟩ := h
  refine r_scLd (pc := 1087) C E i20 dL_law_1087 ?_
  refine r_topi (fun x21 ex21 => ?_)
  have h := h x21 ex21
  refine r_aload_n (pc := 1088) C dL_law_1088 0 rfl ?_
  refine r_iload (pc := 1089) C dL_law_1089 4 rfl ?_
  refine r_iconst (pc := 1091) C (v := (3 : Int32)) dL_law_1091 (by decide) ?_
  refine r_iadd (pc := 1092) C dL_law_1092 ?_
  refine r_topi (fun x22 ex22 => ?_)
  have h := h x22 ex22
  obtain ⟨i23, h⟩ := h
  refine r_scLd (pc := 1093) C E i23 dL_law_1093 ?_
  refine r_topi (fun x24 ex24 => ?_)
  have h := h x24 ex24
  refine r_aload_n (pc := 1094) C dL_law_1094 0 rfl ?_
  refine r_iload (pc := 1095) C dL_law_1095 4 rfl ?_
  refine r_iconst (pc := 1097) C (v := (4 : Int32)) dL_law_1097 (by decide) ?_
  refine r_iadd (pc := 1098) C dL_law_1098 ?_
  refine r_topi (fun x25 ex25 => ?_)
  have h := h x25 ex25
  obtain ⟨i26, h⟩ := h
  refine r_scLd (pc := 1099) C E i26 dL_law_1099 ?_
  refine r_topi (fun x27 ex27 => ?_)
  have h := h x27 ex27
  obtain ⟨o_v2, h⟩ := h
  obtain ⟨hk, hk2, h⟩ := h
  refine r_callVi0 (pc := 1100) C (rest := []) (a := v2) o_v2 [.int x18, .int x21, .int x24, .int x27] yV_X11_even g_1639 (c_X11_even h) dL_law_1100 rfl rfl (Nat.le_of_ble_eq_true rfl) ⟨by decide, by decide⟩ ⟨hk, hk2⟩ ⟨rfl, rfl⟩ (fun x30 S28 h g29 => ?_)
  have h := h g29
  have o_v1 := gr_ob g29 o_v1
  have o_v2 := gr_ob g29 o_v2
  refine r_pop (pc := 1103) C dL_law_1103 rfl ?_
  refine r_goto (pc := 1104) C (tgt := 2342) dL_law_1104 (by decide) ?_
  exact r_sub [0, 1, 2, 3, 4] rfl (T_L_law_2342 C E ht hn hX23 h)
def P_L_law_1177 (scL : Nat) (scx : Nat → Int32) (Q : Int32 → HS → Prop) (X23 : Nat → Nat → Nat → Int32 → Nat → Nat → HS → Prop) (v1 : Nat) (v2 : Nat) (v3 : Nat) (v4 : Int32) (s0 : Nat) (s1 : Int32) (s2 : Int32) (s3 : Int32) (s4 : Int32) (kk : Nat) (nn : Nat) (S : HS) : Prop := ob S s0 11 ∧ (kk ≤ rm_L_law.cells ∧ nn ≤ rm_L_law.slots ∧ (P_X11_round s0 s1 s2 s3 s4 (fun x3 S1 => Gr S S1 → (P_L_law_2342 scL scx Q X23 v1 v2 v3 v4 kk nn S1)) S))
set_option maxRecDepth 20000 in
set_option maxHeartbeats 4000000 in
theorem T_L_law_1177 {X : CX} {Q : Int32 → HS → Prop} {scb scL : Nat} {scx : Nat → Int32} (C : Cx X cL_law RL 7 rm_L_law) (E : LE X scb scL scx Q) (ht : LD X) (hn : True) {X23 : Nat → Nat → Nat → Int32 → Nat → Nat → HS → Prop} (hX23 : ∀ (v1 : Nat) (v2 : Nat) (v3 : Nat) (v4 : Int32) (kk : Nat) (nn : Nat) (S : HS), X23 v1 v2 v3 v4 kk nn S → WS X 7 kk nn 23 [(0, .ref scb), (1, .ref v1), (2, .ref v2), (3, .ref v3), (4, .int v4)] [] S) {v1 : Nat} {v2 : Nat} {v3 : Nat} {v4 : Int32} {s0 : Nat} {s1 : Int32} {s2 : Int32} {s3 : Int32} {s4 : Int32} {kk : Nat} {nn : Nat} {S : HS} (h : P_L_law_1177 scL scx Q X23 v1 v2 v3 v4 s0 s1 s2 s3 s4 kk nn S) : WS X 7 kk nn 1177 [(0, .ref scb), (1, .ref v1), (2, .ref v2), (3, .ref v3), (4, .int v4)] [.int s4, .int s3, .int s2, .int s1, .ref s0] S := by
  obtain ⟨o_s0, h⟩ := h
  obtain ⟨hk, hk2, h⟩ := h
  refine r_callVl0 (pc := 1177) C (rest := []) (a := s0) o_s0 [.int s1, .int s2, .int s3, .int s4] yV_X11_round g_1643 (c_X11_round h) dL_law_1177 rfl rfl (Nat.le_of_ble_eq_true rfl) ⟨by decide, by decide⟩ ⟨hk, hk2⟩ ⟨rfl, rfl⟩ (fun x3 S1 h g2 => ?_)
  have h := h g2
  have o_s0 := gr_ob g2 o_s0
  refine r_pop2 (pc := 1180) C dL_law_1180 rfl ?_
  refine r_goto (pc := 1181) C (tgt := 2342) dL_law_1181 (by decide) ?_
  exact r_sub [0, 1, 2, 3, 4] rfl (T_L_law_2342 C E ht hn hX23 h)
def P_L_law_1140 (scL : Nat) (scx : Nat → Int32) (Q : Int32 → HS → Prop) (X23 : Nat → Nat → Nat → Int32 → Nat → Nat → HS → Prop) (v1 : Nat) (v2 : Nat) (v3 : Nat) (v4 : Int32) (s0 : Nat) (s1 : Int32) (s2 : Int32) (s3 : Int32) (s4 : Int32) (kk : Nat) (nn : Nat) (S : HS) : Prop := ob S s0 9 ∧ (kk ≤ rm_L_law.cells ∧ nn ≤ rm_L_law.slots ∧ (P_X9_round s0 s1 s2 s3 s4 (fun x3 S1 => Gr S S1 → (∀ x4 : Int32, x4 = v4 + (1 : Int32) → (vp_in x4 scL ∧ ∀ x6 : Int32, x6 = scx x4.toNatClampNeg → (∀ x7 : Int32, x7 = v4 + (2 : Int32) → (vp_in x7 scL ∧ ∀ x9 : Int32, x9 = scx x7.toNatClampNeg → (∀ x10 : Int32, x10 = v4 + (3 : Int32) → (vp_in x10 scL ∧ ∀ x12 : Int32, x12 = scx x10.toNatClampNeg → (∀ x13 : Int32, x13 = v4 + (4 : Int32) → (vp_in x13 scL ∧ ∀ x15 : Int32, x15 = scx x13.toNatClampNeg → (((x15 = 0) → (P_L_law_1177 scL scx Q X23 v1 v2 v3 v4 v2 x6 x9 x12 (0 : Int32) kk nn S1)) ∧ ((¬ x15 = 0) → (P_L_law_1177 scL scx Q X23 v1 v2 v3 v4 v2 x6 x9 x12 (1 : Int32) kk nn S1)))))))))))) S))
set_option maxRecDepth 20000 in
set_option maxHeartbeats 4000000 in
theorem T_L_law_1140 {X : CX} {Q : Int32 → HS → Prop} {scb scL : Nat} {scx : Nat → Int32} (C : Cx X cL_law RL 7 rm_L_law) (E : LE X scb scL scx Q) (ht : LD X) (hn : True) {X23 : Nat → Nat → Nat → Int32 → Nat → Nat → HS → Prop} (hX23 : ∀ (v1 : Nat) (v2 : Nat) (v3 : Nat) (v4 : Int32) (kk : Nat) (nn : Nat) (S : HS), X23 v1 v2 v3 v4 kk nn S → WS X 7 kk nn 23 [(0, .ref scb), (1, .ref v1), (2, .ref v2), (3, .ref v3), (4, .int v4)] [] S) {v1 : Nat} {v2 : Nat} {v3 : Nat} {v4 : Int32} {s0 : Nat} {s1 : Int32} {s2 : Int32} {s3 : Int32} {s4 : Int32} {kk : Nat} {nn : Nat} {S : HS} (h : P_L_law_1140 scL scx Q X23 v1 v2 v3 v4 s0 s1 s2 s3 s4 kk nn S) : WS X 7 kk nn 1140 [(0, .ref scb), (1, .ref v1), (2, .ref v2), (3, .ref v3), (4, .int v4)] [.int s4, .int s3, .int s2, .int s1, .ref s0] S := by
  obtain ⟨o_s0, h⟩ := h
  obtain ⟨hk, hk2, h⟩ := h
  refine r_callVl0 (pc := 1140) C (rest := []) (a := s0) o_s0 [.int s1, .int s2, .int s3, .int s4] yV_X9_round g_788 (c_X9_round h) dL_law_1140 rfl rfl (Nat.le_of_ble_eq_true rfl) ⟨by decide, by decide⟩ ⟨hk, hk2⟩ ⟨rfl, rfl⟩ (fun x3 S1 h g2 => ?_)
  have h := h g2
  have o_s0 := gr_ob g2 o_s0
  refine r_pop2 (pc := 1143) C dL_law_1143 rfl ?_
  refine r_aload_n (pc := 1144) C dL_law_1144 2 rfl ?_
  refine r_aload_n (pc := 1145) C dL_law_1145 0 rfl ?_
  refine r_iload (pc := 1146) C dL_law_1146 4 rfl ?_
  refine r_iconst (pc := 1148) C (v := (1 : Int32)) dL_law_1148 (by decide) ?_
  refine r_iadd (pc := 1149) C dL_law_1149 ?_
  refine r_topi (fun x4 ex4 => ?_)
  have h := h x4 ex4
  obtain ⟨i5, h⟩ := h
  refine r_scLd (pc := 1150) C E i5 dL_law_1150 ?_
  refine r_topi (fun x6 ex6 => ?_)
  have h := h x6 ex6
  refine r_aload_n (pc := 1151) C dL_law_1151 0 rfl ?_
  refine r_iload (pc := 1152) C dL_law_1152 4 rfl ?_
  refine r_iconst (pc := 1154) C (v := (2 : Int32)) dL_law_1154 (by decide) ?_
  refine r_iadd (pc := 1155) C dL_law_1155 ?_
  refine r_topi (fun x7 ex7 => ?_)
  have h := h x7 ex7
  obtain ⟨i8, h⟩ := h
  refine r_scLd (pc := 1156) C E i8 dL_law_1156 ?_
  refine r_topi (fun x9 ex9 => ?_)
  have h := h x9 ex9
  refine r_aload_n (pc := 1157) C dL_law_1157 0 rfl ?_
  refine r_iload (pc := 1158) C dL_law_1158 4 rfl ?_
  refine r_iconst (pc := 1160) C (v := (3 : Int32)) dL_law_1160 (by decide) ?_
  refine r_iadd (pc := 1161) C dL_law_1161 ?_
  refine r_topi (fun x10 ex10 => ?_)
  have h := h x10 ex10
  obtain ⟨i11, h⟩ := h
  refine r_scLd (pc := 1162) C E i11 dL_law_1162 ?_
  refine r_topi (fun x12 ex12 => ?_)
  have h := h x12 ex12
  refine r_aload_n (pc := 1163) C dL_law_1163 0 rfl ?_
  refine r_iload (pc := 1164) C dL_law_1164 4 rfl ?_
  refine r_iconst (pc := 1166) C (v := (4 : Int32)) dL_law_1166 (by decide) ?_
  refine r_iadd (pc := 1167) C dL_law_1167 ?_
  refine r_topi (fun x13 ex13 => ?_)
  have h := h x13 ex13
  obtain ⟨i14, h⟩ := h
  refine r_scLd (pc := 1168) C E i14 dL_law_1168 ?_
  refine r_topi (fun x15 ex15 => ?_)
  have h := h x15 ex15
  refine r_if_eq (pc := 1169) C (tgt := 1176) dL_law_1169 (by decide) (fun c16 => ?_) (fun c16 => ?_)
  · have h := h.1 c16
    refine r_iconst (pc := 1176) C (v := (0 : Int32)) dL_law_1176 (by decide) ?_
    exact r_sub [0, 1, 2, 3, 4] rfl (T_L_law_1177 C E ht hn hX23 h)
  · have h := h.2 c16
    refine r_iconst (pc := 1172) C (v := (1 : Int32)) dL_law_1172 (by decide) ?_
    refine r_goto (pc := 1173) C (tgt := 1177) dL_law_1173 (by decide) ?_
    exact r_sub [0, 1, 2, 3, 4] rfl (T_L_law_1177 C E ht hn hX23 h)
def P_L_law_1107 (scL : Nat) (scx : Nat → Int32) (Q : Int32 → HS → Prop) (X23 : Nat → Nat → Nat → Int32 → Nat → Nat → HS → Prop) (v1 : Nat) (v2 : Nat) (v3 : Nat) (v4 : Int32) (kk : Nat) (nn : Nat) (S : HS) : Prop := ∀ x1 : Int32, x1 = v4 + (1 : Int32) → (vp_in x1 scL ∧ ∀ x3 : Int32, x3 = scx x1.toNatClampNeg → (∀ x4 : Int32, x4 = v4 + (2 : Int32) → (vp_in x4 scL ∧ ∀ x6 : Int32, x6 = scx x4.toNatClampNeg → (∀ x7 : Int32, x7 = v4 + (3 : Int32) → (vp_in x7 scL ∧ ∀ x9 : Int32, x9 = scx x7.toNatClampNeg → (∀ x10 : Int32, x10 = v4 + (4 : Int32) → (vp_in x10 scL ∧ ∀ x12 : Int32, x12 = scx x10.toNatClampNeg → (((x12 = 0) → (P_L_law_1140 scL scx Q X23 v1 v2 v3 v4 v1 x3 x6 x9 (0 : Int32) kk nn S)) ∧ ((¬ x12 = 0) → (P_L_law_1140 scL scx Q X23 v1 v2 v3 v4 v1 x3 x6 x9 (1 : Int32) kk nn S))))))))))
set_option maxRecDepth 20000 in
set_option maxHeartbeats 4000000 in
theorem T_L_law_1107 {X : CX} {Q : Int32 → HS → Prop} {scb scL : Nat} {scx : Nat → Int32} (C : Cx X cL_law RL 7 rm_L_law) (E : LE X scb scL scx Q) (ht : LD X) (hn : True) {X23 : Nat → Nat → Nat → Int32 → Nat → Nat → HS → Prop} (hX23 : ∀ (v1 : Nat) (v2 : Nat) (v3 : Nat) (v4 : Int32) (kk : Nat) (nn : Nat) (S : HS), X23 v1 v2 v3 v4 kk nn S → WS X 7 kk nn 23 [(0, .ref scb), (1, .ref v1), (2, .ref v2), (3, .ref v3), (4, .int v4)] [] S) {v1 : Nat} {v2 : Nat} {v3 : Nat} {v4 : Int32} {kk : Nat} {nn : Nat} {S : HS} (h : P_L_law_1107 scL scx Q X23 v1 v2 v3 v4 kk nn S) : WS X 7 kk nn 1107 [(0, .ref scb), (1, .ref v1), (2, .ref v2), (3, .ref v3), (4, .int v4)] [] S := by
  refine r_aload_n (pc := 1107) C dL_law_1107 1 rfl ?_
  refine r_aload_n (pc := 1108) C dL_law_1108 0 rfl ?_
  refine r_iload (pc := 1109) C dL_law_1109 4 rfl ?_
  refine r_iconst (pc := 1111) C (v := (1 : Int32)) dL_law_1111 (by decide) ?_
  refine r_iadd (pc := 1112) C dL_law_1112 ?_
  refine r_topi (fun x1 ex1 => ?_)
  have h := h x1 ex1
  obtain ⟨i2, h⟩ := h
  refine r_scLd (pc := 1113) C E i2 dL_law_1113 ?_
  refine r_topi (fun x3 ex3 => ?_)
  have h := h x3 ex3
  refine r_aload_n (pc := 1114) C dL_law_1114 0 rfl ?_
  refine r_iload (pc := 1115) C dL_law_1115 4 rfl ?_
  refine r_iconst (pc := 1117) C (v := (2 : Int32)) dL_law_1117 (by decide) ?_
  refine r_iadd (pc := 1118) C dL_law_1118 ?_
  refine r_topi (fun x4 ex4 => ?_)
  have h := h x4 ex4
  obtain ⟨i5, h⟩ := h
  refine r_scLd (pc := 1119) C E i5 dL_law_1119 ?_
  refine r_topi (fun x6 ex6 => ?_)
  have h := h x6 ex6
  refine r_aload_n (pc := 1120) C dL_law_1120 0 rfl ?_
  refine r_iload (pc := 1121) C dL_law_1121 4 rfl ?_
  refine r_iconst (pc := 1123) C (v := (3 : Int32)) dL_law_1123 (by decide) ?_
  refine r_iadd (pc := 1124) C dL_law_1124 ?_
  refine r_topi (fun x7 ex7 => ?_)
  have h := h x7 ex7
  obtain ⟨i8, h⟩ := h
  refine r_scLd (pc := 1125) C E i8 dL_law_1125 ?_
  refine r_topi (fun x9 ex9 => ?_)
  have h := h x9 ex9
  refine r_aload_n (pc := 1126) C dL_law_1126 0 rfl ?_
  refine r_iload (pc := 1127) C dL_law_1127 4 rfl ?_
  refine r_iconst (pc := 1129) C (v := (4 : Int32)) dL_law_1129 (by decide) ?_
  refine r_iadd (pc := 1130) C dL_law_1130 ?_
  refine r_topi (fun x10 ex10 => ?_)
  have h := h x10 ex10
  obtain ⟨i11, h⟩ := h
  refine r_scLd (pc := 1131) C E i11 dL_law_1131 ?_
  refine r_topi (fun x12 ex12 => ?_)
  have h := h x12 ex12
  refine r_if_eq (pc := 1132) C (tgt := 1139) dL_law_1132 (by decide) (fun c13 => ?_) (fun c13 => ?_)
  · have h := h.1 c13
    refine r_iconst (pc := 1139) C (v := (0 : Int32)) dL_law_1139 (by decide) ?_
    exact r_sub [0, 1, 2, 3, 4] rfl (T_L_law_1140 C E ht hn hX23 h)
  · have h := h.2 c13
    refine r_iconst (pc := 1135) C (v := (1 : Int32)) dL_law_1135 (by decide) ?_
    refine r_goto (pc := 1136) C (tgt := 1140) dL_law_1136 (by decide) ?_
    exact r_sub [0, 1, 2, 3, 4] rfl (T_L_law_1140 C E ht hn hX23 h)
def P_L_law_1184 (scL : Nat) (scx : Nat → Int32) (Q : Int32 → HS → Prop) (X23 : Nat → Nat → Nat → Int32 → Nat → Nat → HS → Prop) (v1 : Nat) (v2 : Nat) (v3 : Nat) (v4 : Int32) (kk : Nat) (nn : Nat) (S : HS) : Prop := ∀ x1 : Int32, x1 = v4 + (1 : Int32) → (vp_in x1 scL ∧ ∀ x3 : Int32, x3 = scx x1.toNatClampNeg → (∀ x4 : Int32, x4 = v4 + (2 : Int32) → (vp_in x4 scL ∧ ∀ x6 : Int32, x6 = scx x4.toNatClampNeg → (∀ x7 : Int32, x7 = v4 + (3 : Int32) → (vp_in x7 scL ∧ ∀ x9 : Int32, x9 = scx x7.toNatClampNeg → (ob S v1 9 ∧ (kk ≤ rm_L_law.cells ∧ nn ≤ rm_L_law.slots ∧ (P_X9_driest v1 x3 x6 x9 (fun x12 S10 => Gr S S10 → (∀ x13 : Int32, x13 = v4 + (1 : Int32) → (vp_in x13 scL ∧ ∀ x15 : Int32, x15 = scx x13.toNatClampNeg → (∀ x16 : Int32, x16 = v4 + (2 : Int32) → (vp_in x16 scL ∧ ∀ x18 : Int32, x18 = scx x16.toNatClampNeg → (∀ x19 : Int32, x19 = v4 + (3 : Int32) → (vp_in x19 scL ∧ ∀ x21 : Int32, x21 = scx x19.toNatClampNeg → (ob S10 v2 11 ∧ (kk ≤ rm_L_law.cells ∧ nn ≤ rm_L_law.slots ∧ (P_X11_driest v2 x15 x18 x21 (fun x24 S22 => Gr S10 S22 → (P_L_law_2342 scL scx Q X23 v1 v2 v3 v4 kk nn S22)) S10)))))))))) S))))))))
set_option maxRecDepth 20000 in
set_option maxHeartbeats 4000000 in
theorem T_L_law_1184 {X : CX} {Q : Int32 → HS → Prop} {scb scL : Nat} {scx : Nat → Int32} (C : Cx X cL_law RL 7 rm_L_law) (E : LE X scb scL scx Q) (ht : LD X) (hn : True) {X23 : Nat → Nat → Nat → Int32 → Nat → Nat → HS → Prop} (hX23 : ∀ (v1 : Nat) (v2 : Nat) (v3 : Nat) (v4 : Int32) (kk : Nat) (nn : Nat) (S : HS), X23 v1 v2 v3 v4 kk nn S → WS X 7 kk nn 23 [(0, .ref scb), (1, .ref v1), (2, .ref v2), (3, .ref v3), (4, .int v4)] [] S) {v1 : Nat} {v2 : Nat} {v3 : Nat} {v4 : Int32} {kk : Nat} {nn : Nat} {S : HS} (h : P_L_law_1184 scL scx Q X23 v1 v2 v3 v4 kk nn S) : WS X 7 kk nn 1184 [(0, .ref scb), (1, .ref v1), (2, .ref v2), (3, .ref v3), (4, .int v4)] [] S := by
  refine r_aload_n (pc := 1184) C dL_law_1184 1 rfl ?_
  refine r_aload_n (pc := 1185) C dL_law_1185 0 rfl ?_
  refine r_iload (pc := 1186) C dL_law_1186 4 rfl ?_
  refine r_iconst (pc := 1188) C (v := (1 : Int32)) dL_law_1188 (by decide) ?_
  refine r_iadd (pc := 1189) C dL_law_1189 ?_
  refine r_topi (fun x1 ex1 => ?_)
  have h := h x1 ex1
  obtain ⟨i2, h⟩ := h
  refine r_scLd (pc := 1190) C E i2 dL_law_1190 ?_
  refine r_topi (fun x3 ex3 => ?_)
  have h := h x3 ex3
  refine r_aload_n (pc := 1191) C dL_law_1191 0 rfl ?_
  refine r_iload (pc := 1192) C dL_law_1192 4 rfl ?_
  refine r_iconst (pc := 1194) C (v := (2 : Int32)) dL_law_1194 (by decide) ?_
  refine r_iadd (pc := 1195) C dL_law_1195 ?_
  refine r_topi (fun x4 ex4 => ?_)
  have h := h x4 ex4
  obtain ⟨i5, h⟩ := h
  refine r_scLd (pc := 1196) C E i5 dL_law_1196 ?_
  refine r_topi (fun x6 ex6 => ?_)
  have h := h x6 ex6
  refine r_aload_n (pc := 1197) C dL_law_1197 0 rfl ?_
  refine r_iload (pc := 1198) C dL_law_1198 4 rfl ?_
  refine r_iconst (pc := 1200) C (v := (3 : Int32)) dL_law_1200 (by decide) ?_
  refine r_iadd (pc := 1201) C dL_law_1201 ?_
  refine r_topi (fun x7 ex7 => ?_)
  have h := h x7 ex7
  obtain ⟨i8, h⟩ := h
  refine r_scLd (pc := 1202) C E i8 dL_law_1202 ?_
  refine r_topi (fun x9 ex9 => ?_)
  have h := h x9 ex9
  obtain ⟨o_v1, h⟩ := h
  obtain ⟨hk, hk2, h⟩ := h
  refine r_callVi0 (pc := 1203) C (rest := []) (a := v1) o_v1 [.int x3, .int x6, .int x9] yV_X9_driest g_792 (c_X9_driest h) dL_law_1203 rfl rfl (Nat.le_of_ble_eq_true rfl) ⟨by decide, by decide⟩ ⟨hk, hk2⟩ ⟨rfl, rfl⟩ (fun x12 S10 h g11 => ?_)
  have h := h g11
  have o_v1 := gr_ob g11 o_v1
  refine r_pop (pc := 1206) C dL_law_1206 rfl ?_
  refine r_aload_n (pc := 1207) C dL_law_1207 2 rfl ?_
  refine r_aload_n (pc := 1208) C dL_law_1208 0 rfl ?_
  refine r_iload (pc := 1209) C dL_law_1209 4 rfl ?_
  refine r_iconst (pc := 1211) C (v := (1 : Int32)) dL_law_1211 (by decide) ?_
  refine r_iadd (pc := 1212) C dL_law_1212 ?_
  refine r_topi (fun x13 ex13 => ?_)
  have h := h x13 ex13
  obtain ⟨i14, h⟩ := h
  refine r_scLd (pc := 1213) C E i14 dL_law_1213 ?_
  refine r_topi (fun x15 ex15 => ?_)
  have h := h x15 ex15
  refine r_aload_n (pc := 1214) C dL_law_1214 0 rfl ?_
  refine r_iload (pc := 1215) C dL_law_1215 4 rfl ?_
  refine r_iconst (pc := 1217) C (v := (2 : Int32)) dL_law_1217 (by decide) ?_
  refine r_iadd (pc := 1218) C dL_law_1218 ?_
  refine r_topi (fun x16 ex16 => ?_)
  have h := h x16 ex16
  obtain ⟨i17, h⟩ := h
  refine r_scLd (pc := 1219) C E i17 dL_law_1219 ?_
  refine r_topi (fun x18 ex18 => ?_)
  have h := h x18 ex18
  refine r_aload_n (pc := 1220) C dL_law_1220 0 rfl ?_
  refine r_iload (pc := 1221) C dL_law_1221 4 rfl ?_
  refine r_iconst (pc := 1223) C (v := (3 : Int32)) dL_law_1223 (by decide) ?_
  refine r_iadd (pc := 1224) C dL_law_1224 ?_
  refine r_topi (fun x19 ex19 => ?_)
  have h := h x19 ex19
  obtain ⟨i20, h⟩ := h
  refine r_scLd (pc := 1225) C E i20 dL_law_1225 ?_
  refine r_topi (fun x21 ex21 => ?_)
  have h := h x21 ex21
  obtain ⟨o_v2, h⟩ := h
  obtain ⟨hk, hk2, h⟩ := h
  refine r_callVi0 (pc := 1226) C (rest := []) (a := v2) o_v2 [.int x15, .int x18, .int x21] yV_X11_driest g_1651 (c_X11_driest h) dL_law_1226 rfl rfl (Nat.le_of_ble_eq_true rfl) ⟨by decide, by decide⟩ ⟨hk, hk2⟩ ⟨rfl, rfl⟩ (fun x24 S22 h g23 => ?_)
  have h := h g23
  have o_v1 := gr_ob g23 o_v1
  have o_v2 := gr_ob g23 o_v2
  refine r_pop (pc := 1229) C dL_law_1229 rfl ?_
  refine r_goto (pc := 1230) C (tgt := 2342) dL_law_1230 (by decide) ?_
  exact r_sub [0, 1, 2, 3, 4] rfl (T_L_law_2342 C E ht hn hX23 h)
def P_L_law_1343 (scL : Nat) (scx : Nat → Int32) (Q : Int32 → HS → Prop) (X23 : Nat → Nat → Nat → Int32 → Nat → Nat → HS → Prop) (v1 : Nat) (v2 : Nat) (v3 : Nat) (v4 : Int32) (s0 : Nat) (s1 : Int32) (s2 : Int32) (s3 : Int32) (s4 : Int32) (s5 : Int32) (s6 : Int32) (s7 : Int32) (kk : Nat) (nn : Nat) (S : HS) : Prop := ob S s0 11 ∧ (kk ≤ rm_L_law.cells ∧ nn ≤ rm_L_law.slots ∧ (P_X11_lee s0 s1 s2 s3 s4 s5 s6 s7 (fun x3 S1 => Gr S S1 → (P_L_law_2342 scL scx Q X23 v1 v2 v3 v4 kk nn S1)) S))
set_option maxRecDepth 20000 in
set_option maxHeartbeats 4000000 in
theorem T_L_law_1343 {X : CX} {Q : Int32 → HS → Prop} {scb scL : Nat} {scx : Nat → Int32} (C : Cx X cL_law RL 7 rm_L_law) (E : LE X scb scL scx Q) (ht : LD X) (hn : True) {X23 : Nat → Nat → Nat → Int32 → Nat → Nat → HS → Prop} (hX23 : ∀ (v1 : Nat) (v2 : Nat) (v3 : Nat) (v4 : Int32) (kk : Nat) (nn : Nat) (S : HS), X23 v1 v2 v3 v4 kk nn S → WS X 7 kk nn 23 [(0, .ref scb), (1, .ref v1), (2, .ref v2), (3, .ref v3), (4, .int v4)] [] S) {v1 : Nat} {v2 : Nat} {v3 : Nat} {v4 : Int32} {s0 : Nat} {s1 : Int32} {s2 : Int32} {s3 : Int32} {s4 : Int32} {s5 : Int32} {s6 : Int32} {s7 : Int32} {kk : Nat} {nn : Nat} {S : HS} (h : P_L_law_1343 scL scx Q X23 v1 v2 v3 v4 s0 s1 s2 s3 s4 s5 s6 s7 kk nn S) : WS X 7 kk nn 1343 [(0, .ref scb), (1, .ref v1), (2, .ref v2), (3, .ref v3), (4, .int v4)] [.int s7, .int s6, .int s5, .int s4, .int s3, .int s2, .int s1, .ref s0] S := by
  obtain ⟨o_s0, h⟩ := h
  obtain ⟨hk, hk2, h⟩ := h
  refine r_callVl0 (pc := 1343) C (rest := []) (a := s0) o_s0 [.int s1, .int s2, .int s3, .int s4, .int s5, .int s6, .int s7] yV_X11_lee g_1655 (c_X11_lee h) dL_law_1343 rfl rfl (Nat.le_of_ble_eq_true rfl) ⟨by decide, by decide⟩ ⟨hk, hk2⟩ ⟨rfl, rfl⟩ (fun x3 S1 h g2 => ?_)
  have h := h g2
  have o_s0 := gr_ob g2 o_s0
  refine r_pop2 (pc := 1346) C dL_law_1346 rfl ?_
  refine r_goto (pc := 1347) C (tgt := 2342) dL_law_1347 (by decide) ?_
  exact r_sub [0, 1, 2, 3, 4] rfl (T_L_law_2342 C E ht hn hX23 h)
end
section
def P_L_law_1286 (scL : Nat) (scx : Nat → Int32) (Q : Int32 → HS → Prop) (X23 : Nat → Nat → Nat → Int32 → Nat → Nat → HS → Prop) (v1 : Nat) (v2 : Nat) (v3 : Nat) (v4 : Int32) (s0 : Nat) (s1 : Int32) (s2 : Int32) (s3 : Int32) (s4 : Int32) (s5 : Int32) (s6 : Int32) (s7 : Int32) (kk : Nat) (nn : Nat) (S : HS) : Prop := ob S s0 9 ∧ (kk ≤ rm_L_law.cells ∧ nn ≤ rm_L_law.slots ∧ (P_X9_lee s0 s1 s2 s3 s4 s5 s6 s7 (fun x3 S1 => Gr S S1 → (∀ x4 : Int32, x4 = v4 + (1 : Int32) → (vp_in x4 scL ∧ ∀ x6 : Int32, x6 = scx x4.toNatClampNeg → (∀ x7 : Int32, x7 = v4 + (2 : Int32) → (vp_in x7 scL ∧ ∀ x9 : Int32, x9 = scx x7.toNatClampNeg → (∀ x10 : Int32, x10 = v4 + (3 : Int32) → (vp_in x10 scL ∧ ∀ x12 : Int32, x12 = scx x10.toNatClampNeg → (∀ x13 : Int32, x13 = v4 + (4 : Int32) → (vp_in x13 scL ∧ ∀ x15 : Int32, x15 = scx x13.toNatClampNeg → (∀ x16 : Int32, x16 = v4 + (5 : Int32) → (vp_in x16 scL ∧ ∀ x18 : Int32, x18 = scx x16.toNatClampNeg → (∀ x19 : Int32, x19 = v4 + (6 : Int32) → (vp_in x19 scL ∧ ∀ x21 : Int32, x21 = scx x19.toNatClampNeg → (∀ x22 : Int32, x22 = v4 + (7 : Int32) → (vp_in x22 scL ∧ ∀ x24 : Int32, x24 = scx x22.toNatClampNeg → (((x24 = 0) → (P_L_law_1343 scL scx Q X23 v1 v2 v3 v4 v2 x6 x9 x12 x15 x18 x21 (0 : Int32) kk nn S1)) ∧ ((¬ x24 = 0) → (P_L_law_1343 scL scx Q X23 v1 v2 v3 v4 v2 x6 x9 x12 x15 x18 x21 (1 : Int32) kk nn S1)))))))))))))))))) S))
set_option maxRecDepth 20000 in
set_option maxHeartbeats 4000000 in
theorem T_L_law_1286 {X : CX} {Q : Int32 → HS → Prop} {scb scL : Nat} {scx : Nat → Int32} (C : Cx X cL_law RL 7 rm_L_law) (E : LE X scb scL scx Q) (ht : LD X) (hn : True) {X23 : Nat → Nat → Nat → Int32 → Nat → Nat → HS → Prop} (hX23 : ∀ (v1 : Nat) (v2 : Nat) (v3 : Nat) (v4 : Int32) (kk : Nat) (nn : Nat) (S : HS), X23 v1 v2 v3 v4 kk nn S → WS X 7 kk nn 23 [(0, .ref scb), (1, .ref v1), (2, .ref v2), (3, .ref v3), (4, .int v4)] [] S) {v1 : Nat} {v2 : Nat} {v3 : Nat} {v4 : Int32} {s0 : Nat} {s1 : Int32} {s2 : Int32} {s3 : Int32} {s4 : Int32} {s5 : Int32} {s6 : Int32} {s7 : Int32} {kk : Nat} {nn : Nat} {S : HS} (h : P_L_law_1286 scL scx Q X23 v1 v2 v3 v4 s0 s1 s2 s3 s4 s5 s6 s7 kk nn S) : WS X 7 kk nn 1286 [(0, .ref scb), (1, .ref v1), (2, .ref v2), (3, .ref v3), (4, .int v4)] [.int s7, .int s6, .int s5, .int s4, .int s3, .int s2, .int s1, .ref s0] S := by
  obtain ⟨o_s0, h⟩ := h
  obtain ⟨hk, hk2, h⟩ := h
  refine r_callVl0 (pc := 1286) C (rest := []) (a := s0) o_s0 [.int s1, .int s2, .int s3, .int s4, .int s5, .int s6, .int s7] yV_X9_lee g_797 (c_X9_lee h) dL_law_1286 rfl rfl (Nat.le_of_ble_eq_true rfl) ⟨by decide, by decide⟩ ⟨hk, hk2⟩ ⟨rfl, rfl⟩ (fun x3 S1 h g2 => ?_)
  have h := h g2
  have o_s0 := gr_ob g2 o_s0
  refine r_pop2 (pc := 1289) C dL_law_1289 rfl ?_
  refine r_aload_n (pc := 1290) C dL_law_1290 2 rfl ?_
  refine r_aload_n (pc := 1291) C dL_law_1291 0 rfl ?_
  refine r_iload (pc := 1292) C dL_law_1292 4 rfl ?_
  refine r_iconst (pc := 1294) C (v := (1 : Int32)) dL_law_1294 (by decide) ?_
  refine r_iadd (pc := 1295) C dL_law_1295 ?_
  refine r_topi (fun x4 ex4 => ?_)
  have h := h x4 ex4
  obtain ⟨i5, h⟩ := h
  refine r_scLd (pc := 1296) C E i5 dL_law_1296 ?_
  refine r_topi (fun x6 ex6 => ?_)
  have h := h x6 ex6
  refine r_aload_n (pc := 1297) C dL_law_1297 0 rfl ?_
  refine r_iload (pc := 1298) C dL_law_1298 4 rfl ?_
  refine r_iconst (pc := 1300) C (v := (2 : Int32)) dL_law_1300 (by decide) ?_
  refine r_iadd (pc := 1301) C dL_law_1301 ?_
  refine r_topi (fun x7 ex7 => ?_)
  have h := h x7 ex7
  obtain ⟨i8, h⟩ := h
  refine r_scLd (pc := 1302) C E i8 dL_law_1302 ?_
  refine r_topi (fun x9 ex9 => ?_)
  have h := h x9 ex9
  refine r_aload_n (pc := 1303) C dL_law_1303 0 rfl ?_
  refine r_iload (pc := 1304) C dL_law_1304 4 rfl ?_
  refine r_iconst (pc := 1306) C (v := (3 : Int32)) dL_law_1306 (by decide) ?_
  refine r_iadd (pc := 1307) C dL_law_1307 ?_
  refine r_topi (fun x10 ex10 => ?_)
  have h := h x10 ex10
  obtain ⟨i11, h⟩ := h
  refine r_scLd (pc := 1308) C E i11 dL_law_1308 ?_
  refine r_topi (fun x12 ex12 => ?_)
  have h := h x12 ex12
  refine r_aload_n (pc := 1309) C dL_law_1309 0 rfl ?_
  refine r_iload (pc := 1310) C dL_law_1310 4 rfl ?_
  refine r_iconst (pc := 1312) C (v := (4 : Int32)) dL_law_1312 (by decide) ?_
  refine r_iadd (pc := 1313) C dL_law_1313 ?_
  refine r_topi (fun x13 ex13 => ?_)
  have h := h x13 ex13
  obtain ⟨i14, h⟩ := h
  refine r_scLd (pc := 1314) C E i14 dL_law_1314 ?_
  refine r_topi (fun x15 ex15 => ?_)
  have h := h x15 ex15
  refine r_aload_n (pc := 1315) C dL_law_1315 0 rfl ?_
  refine r_iload (pc := 1316) C dL_law_1316 4 rfl ?_
  refine r_iconst (pc := 1318) C (v := (5 : Int32)) dL_law_1318 (by decide) ?_
  refine r_iadd (pc := 1319) C dL_law_1319 ?_
  refine r_topi (fun x16 ex16 => ?_)
  have h := h x16 ex16
  obtain ⟨i17, h⟩ := h
  refine r_scLd (pc := 1320) C E i17 dL_law_1320 ?_
  refine r_topi (fun x18 ex18 => ?_)
  have h := h x18 ex18
  refine r_aload_n (pc := 1321) C dL_law_1321 0 rfl ?_
  refine r_iload (pc := 1322) C dL_law_1322 4 rfl ?_
  refine r_bipush (pc := 1324) C (v := (6 : Int32)) dL_law_1324 (by decide) ?_
  refine r_iadd (pc := 1326) C dL_law_1326 ?_
  refine r_topi (fun x19 ex19 => ?_)
  have h := h x19 ex19
  obtain ⟨i20, h⟩ := h
  refine r_scLd (pc := 1327) C E i20 dL_law_1327 ?_
  refine r_topi (fun x21 ex21 => ?_)
  have h := h x21 ex21
  refine r_aload_n (pc := 1328) C dL_law_1328 0 rfl ?_
  refine r_iload (pc := 1329) C dL_law_1329 4 rfl ?_
  refine r_bipush (pc := 1331) C (v := (7 : Int32)) dL_law_1331 (by decide) ?_
  refine r_iadd (pc := 1333) C dL_law_1333 ?_
  refine r_topi (fun x22 ex22 => ?_)
  have h := h x22 ex22
  obtain ⟨i23, h⟩ := h
  refine r_scLd (pc := 1334) C E i23 dL_law_1334 ?_
  refine r_topi (fun x24 ex24 => ?_)
  have h := h x24 ex24
  refine r_if_eq (pc := 1335) C (tgt := 1342) dL_law_1335 (by decide) (fun c25 => ?_) (fun c25 => ?_)
  · have h := h.1 c25
    refine r_iconst (pc := 1342) C (v := (0 : Int32)) dL_law_1342 (by decide) ?_
    exact r_sub [0, 1, 2, 3, 4] rfl (T_L_law_1343 C E ht hn hX23 h)
  · have h := h.2 c25
    refine r_iconst (pc := 1338) C (v := (1 : Int32)) dL_law_1338 (by decide) ?_
    refine r_goto (pc := 1339) C (tgt := 1343) dL_law_1339 (by decide) ?_
    exact r_sub [0, 1, 2, 3, 4] rfl (T_L_law_1343 C E ht hn hX23 h)
def P_L_law_1233 (scL : Nat) (scx : Nat → Int32) (Q : Int32 → HS → Prop) (X23 : Nat → Nat → Nat → Int32 → Nat → Nat → HS → Prop) (v1 : Nat) (v2 : Nat) (v3 : Nat) (v4 : Int32) (kk : Nat) (nn : Nat) (S : HS) : Prop := ∀ x1 : Int32, x1 = v4 + (1 : Int32) → (vp_in x1 scL ∧ ∀ x3 : Int32, x3 = scx x1.toNatClampNeg → (∀ x4 : Int32, x4 = v4 + (2 : Int32) → (vp_in x4 scL ∧ ∀ x6 : Int32, x6 = scx x4.toNatClampNeg → (∀ x7 : Int32, x7 = v4 + (3 : Int32) → (vp_in x7 scL ∧ ∀ x9 : Int32, x9 = scx x7.toNatClampNeg → (∀ x10 : Int32, x10 = v4 + (4 : Int32) → (vp_in x10 scL ∧ ∀ x12 : Int32, x12 = scx x10.toNatClampNeg → (∀ x13 : Int32, x13 = v4 + (5 : Int32) → (vp_in x13 scL ∧ ∀ x15 : Int32, x15 = scx x13.toNatClampNeg → (∀ x16 : Int32, x16 = v4 + (6 : Int32) → (vp_in x16 scL ∧ ∀ x18 : Int32, x18 = scx x16.toNatClampNeg → (∀ x19 : Int32, x19 = v4 + (7 : Int32) → (vp_in x19 scL ∧ ∀ x21 : Int32, x21 = scx x19.toNatClampNeg → (((x21 = 0) → (P_L_law_1286 scL scx Q X23 v1 v2 v3 v4 v1 x3 x6 x9 x12 x15 x18 (0 : Int32) kk nn S)) ∧ ((¬ x21 = 0) → (P_L_law_1286 scL scx Q X23 v1 v2 v3 v4 v1 x3 x6 x9 x12 x15 x18 (1 : Int32) kk nn S))))))))))))))))
set_option maxRecDepth 20000 in
set_option maxHeartbeats 4000000 in
theorem T_L_law_1233 {X : CX} {Q : Int32 → HS → Prop} {scb scL : Nat} {scx : Nat → Int32} (C : Cx X cL_law RL 7 rm_L_law) (E : LE X scb scL scx Q) (ht : LD X) (hn : True) {X23 : Nat → Nat → Nat → Int32 → Nat → Nat → HS → Prop} (hX23 : ∀ (v1 : Nat) (v2 : Nat) (v3 : Nat) (v4 : Int32) (kk : Nat) (nn : Nat) (S : HS), X23 v1 v2 v3 v4 kk nn S → WS X 7 kk nn 23 [(0, .ref scb), (1, .ref v1), (2, .ref v2), (3, .ref v3), (4, .int v4)] [] S) {v1 : Nat} {v2 : Nat} {v3 : Nat} {v4 : Int32} {kk : Nat} {nn : Nat} {S : HS} (h : P_L_law_1233 scL scx Q X23 v1 v2 v3 v4 kk nn S) : WS X 7 kk nn 1233 [(0, .ref scb), (1, .ref v1), (2, .ref v2), (3, .ref v3), (4, .int v4)] [] S := by
  refine r_aload_n (pc := 1233) C dL_law_1233 1 rfl ?_
  refine r_aload_n (pc := 1234) C dL_law_1234 0 rfl ?_
  refine r_iload (pc := 1235) C dL_law_1235 4 rfl ?_
  refine r_iconst (pc := 1237) C (v := (1 : Int32)) dL_law_1237 (by decide) ?_
  refine r_iadd (pc := 1238) C dL_law_1238 ?_
  refine r_topi (fun x1 ex1 => ?_)
  have h := h x1 ex1
  obtain ⟨i2, h⟩ := h
  refine r_scLd (pc := 1239) C E i2 dL_law_1239 ?_
  refine r_topi (fun x3 ex3 => ?_)
  have h := h x3 ex3
  refine r_aload_n (pc := 1240) C dL_law_1240 0 rfl ?_
  refine r_iload (pc := 1241) C dL_law_1241 4 rfl ?_
  refine r_iconst (pc := 1243) C (v := (2 : Int32)) dL_law_1243 (by decide) ?_
  refine r_iadd (pc := 1244) C dL_law_1244 ?_
  refine r_topi (fun x4 ex4 => ?_)
  have h := h x4 ex4
  obtain ⟨i5, h⟩ := h
  refine r_scLd (pc := 1245) C E i5 dL_law_1245 ?_
  refine r_topi (fun x6 ex6 => ?_)
  have h := h x6 ex6
  refine r_aload_n (pc := 1246) C dL_law_1246 0 rfl ?_
  refine r_iload (pc := 1247) C dL_law_1247 4 rfl ?_
  refine r_iconst (pc := 1249) C (v := (3 : Int32)) dL_law_1249 (by decide) ?_
  refine r_iadd (pc := 1250) C dL_law_1250 ?_
  refine r_topi (fun x7 ex7 => ?_)
  have h := h x7 ex7
  obtain ⟨i8, h⟩ := h
  refine r_scLd (pc := 1251) C E i8 dL_law_1251 ?_
  refine r_topi (fun x9 ex9 => ?_)
  have h := h x9 ex9
  refine r_aload_n (pc := 1252) C dL_law_1252 0 rfl ?_
  refine r_iload (pc := 1253) C dL_law_1253 4 rfl ?_
  refine r_iconst (pc := 1255) C (v := (4 : Int32)) dL_law_1255 (by decide) ?_
  refine r_iadd (pc := 1256) C dL_law_1256 ?_
  refine r_topi (fun x10 ex10 => ?_)
  have h := h x10 ex10
  obtain ⟨i11, h⟩ := h
  refine r_scLd (pc := 1257) C E i11 dL_law_1257 ?_
  refine r_topi (fun x12 ex12 => ?_)
  have h := h x12 ex12
  refine r_aload_n (pc := 1258) C dL_law_1258 0 rfl ?_
  refine r_iload (pc := 1259) C dL_law_1259 4 rfl ?_
  refine r_iconst (pc := 1261) C (v := (5 : Int32)) dL_law_1261 (by decide) ?_
  refine r_iadd (pc := 1262) C dL_law_1262 ?_
  refine r_topi (fun x13 ex13 => ?_)
  have h := h x13 ex13
  obtain ⟨i14, h⟩ := h
  refine r_scLd (pc := 1263) C E i14 dL_law_1263 ?_
  refine r_topi (fun x15 ex15 => ?_)
  have h := h x15 ex15
  refine r_aload_n (pc := 1264) C dL_law_1264 0 rfl ?_
  refine r_iload (pc := 1265) C dL_law_1265 4 rfl ?_
  refine r_bipush (pc := 1267) C (v := (6 : Int32)) dL_law_1267 (by decide) ?_
  refine r_iadd (pc := 1269) C dL_law_1269 ?_
  refine r_topi (fun x16 ex16 => ?_)
  have h := h x16 ex16
  obtain ⟨i17, h⟩ := h
  refine r_scLd (pc := 1270) C E i17 dL_law_1270 ?_
  refine r_topi (fun x18 ex18 => ?_)
  have h := h x18 ex18
  refine r_aload_n (pc := 1271) C dL_law_1271 0 rfl ?_
  refine r_iload (pc := 1272) C dL_law_1272 4 rfl ?_
  refine r_bipush (pc := 1274) C (v := (7 : Int32)) dL_law_1274 (by decide) ?_
  refine r_iadd (pc := 1276) C dL_law_1276 ?_
  refine r_topi (fun x19 ex19 => ?_)
  have h := h x19 ex19
  obtain ⟨i20, h⟩ := h
  refine r_scLd (pc := 1277) C E i20 dL_law_1277 ?_
  refine r_topi (fun x21 ex21 => ?_)
  have h := h x21 ex21
  refine r_if_eq (pc := 1278) C (tgt := 1285) dL_law_1278 (by decide) (fun c22 => ?_) (fun c22 => ?_)
  · have h := h.1 c22
    refine r_iconst (pc := 1285) C (v := (0 : Int32)) dL_law_1285 (by decide) ?_
    exact r_sub [0, 1, 2, 3, 4] rfl (T_L_law_1286 C E ht hn hX23 h)
  · have h := h.2 c22
    refine r_iconst (pc := 1281) C (v := (1 : Int32)) dL_law_1281 (by decide) ?_
    refine r_goto (pc := 1282) C (tgt := 1286) dL_law_1282 (by decide) ?_
    exact r_sub [0, 1, 2, 3, 4] rfl (T_L_law_1286 C E ht hn hX23 h)
def P_L_law_1350 (scL : Nat) (scx : Nat → Int32) (Q : Int32 → HS → Prop) (X23 : Nat → Nat → Nat → Int32 → Nat → Nat → HS → Prop) (v1 : Nat) (v2 : Nat) (v3 : Nat) (v4 : Int32) (kk : Nat) (nn : Nat) (S : HS) : Prop := ∀ x1 : Int32, x1 = v4 + (1 : Int32) → (vp_in x1 scL ∧ ∀ x3 : Int32, x3 = scx x1.toNatClampNeg → (∀ x4 : Int32, x4 = v4 + (2 : Int32) → (vp_in x4 scL ∧ ∀ x6 : Int32, x6 = scx x4.toNatClampNeg → (∀ x7 : Int32, x7 = v4 + (3 : Int32) → (vp_in x7 scL ∧ ∀ x9 : Int32, x9 = scx x7.toNatClampNeg → (∀ x10 : Int32, x10 = v4 + (4 : Int32) → (vp_in x10 scL ∧ ∀ x12 : Int32, x12 = scx x10.toNatClampNeg → (∀ x13 : Int32, x13 = v4 + (5 : Int32) → (vp_in x13 scL ∧ ∀ x15 : Int32, x15 = scx x13.toNatClampNeg → (∀ x16 : Int32, x16 = v4 + (6 : Int32) → (vp_in x16 scL ∧ ∀ x18 : Int32, x18 = scx x16.toNatClampNeg → (ob S v1 9 ∧ (kk ≤ rm_L_law.cells ∧ nn ≤ rm_L_law.slots ∧ (P_X9_first v1 x3 x6 x9 x12 x15 x18 (fun x21 S19 => Gr S S19 → (∀ x22 : Int32, x22 = v4 + (1 : Int32) → (vp_in x22 scL ∧ ∀ x24 : Int32, x24 = scx x22.toNatClampNeg → (∀ x25 : Int32, x25 = v4 + (2 : Int32) → (vp_in x25 scL ∧ ∀ x27 : Int32, x27 = scx x25.toNatClampNeg → (∀ x28 : Int32, x28 = v4 + (3 : Int32) → (vp_in x28 scL ∧ ∀ x30 : Int32, x30 = scx x28.toNatClampNeg → (∀ x31 : Int32, x31 = v4 + (4 : Int32) → (vp_in x31 scL ∧ ∀ x33 : Int32, x33 = scx x31.toNatClampNeg → (∀ x34 : Int32, x34 = v4 + (5 : Int32) → (vp_in x34 scL ∧ ∀ x36 : Int32, x36 = scx x34.toNatClampNeg → (∀ x37 : Int32, x37 = v4 + (6 : Int32) → (vp_in x37 scL ∧ ∀ x39 : Int32, x39 = scx x37.toNatClampNeg → (ob S19 v2 11 ∧ (kk ≤ rm_L_law.cells ∧ nn ≤ rm_L_law.slots ∧ (P_X11_first v2 x24 x27 x30 x33 x36 x39 (fun x42 S40 => Gr S19 S40 → (P_L_law_2342 scL scx Q X23 v1 v2 v3 v4 kk nn S40)) S19)))))))))))))))) S))))))))))))))
set_option maxRecDepth 20000 in
set_option maxHeartbeats 4000000 in
theorem T_L_law_1350 {X : CX} {Q : Int32 → HS → Prop} {scb scL : Nat} {scx : Nat → Int32} (C : Cx X cL_law RL 7 rm_L_law) (E : LE X scb scL scx Q) (ht : LD X) (hn : True) {X23 : Nat → Nat → Nat → Int32 → Nat → Nat → HS → Prop} (hX23 : ∀ (v1 : Nat) (v2 : Nat) (v3 : Nat) (v4 : Int32) (kk : Nat) (nn : Nat) (S : HS), X23 v1 v2 v3 v4 kk nn S → WS X 7 kk nn 23 [(0, .ref scb), (1, .ref v1), (2, .ref v2), (3, .ref v3), (4, .int v4)] [] S) {v1 : Nat} {v2 : Nat} {v3 : Nat} {v4 : Int32} {kk : Nat} {nn : Nat} {S : HS} (h : P_L_law_1350 scL scx Q X23 v1 v2 v3 v4 kk nn S) : WS X 7 kk nn 1350 [(0, .ref scb), (1, .ref v1), (2, .ref v2), (3, .ref v3), (4, .int v4)] [] S := by
  refine r_aload_n (pc := 1350) C dL_law_1350 1 rfl ?_
  refine r_aload_n (pc := 1351) C dL_law_1351 0 rfl ?_
  refine r_iload (pc := 1352) C dL_law_1352 4 rfl ?_
  refine r_iconst (pc := 1354) C (v := (1 : Int32)) dL_law_1354 (by decide) ?_
  refine r_iadd (pc := 1355) C dL_law_1355 ?_
  refine r_topi (fun x1 ex1 => ?_)
  have h := h x1 ex1
  obtain ⟨i2, h⟩ := h
  refine r_scLd (pc := 1356) C E i2 dL_law_1356 ?_
  refine r_topi (fun x3 ex3 => ?_)
  have h := h x3 ex3
  refine r_aload_n (pc := 1357) C dL_law_1357 0 rfl ?_
  refine r_iload (pc := 1358) C dL_law_1358 4 rfl ?_
  refine r_iconst (pc := 1360) C (v := (2 : Int32)) dL_law_1360 (by decide) ?_
  refine r_iadd (pc := 1361) C dL_law_1361 ?_
  refine r_topi (fun x4 ex4 => ?_)
  have h := h x4 ex4
  obtain ⟨i5, h⟩ := h
  refine r_scLd (pc := 1362) C E i5 dL_law_1362 ?_
  refine r_topi (fun x6 ex6 => ?_)
  have h := h x6 ex6
  refine r_aload_n (pc := 1363) C dL_law_1363 0 rfl ?_
  refine r_iload (pc := 1364) C dL_law_1364 4 rfl ?_
  refine r_iconst (pc := 1366) C (v := (3 : Int32)) dL_law_1366 (by decide) ?_
  refine r_iadd (pc := 1367) C dL_law_1367 ?_
  refine r_topi (fun x7 ex7 => ?_)
  have h := h x7 ex7
  obtain ⟨i8, h⟩ := h
  refine r_scLd (pc := 1368) C E i8 dL_law_1368 ?_
  refine r_topi (fun x9 ex9 => ?_)
  have h := h x9 ex9
  refine r_aload_n (pc := 1369) C dL_law_1369 0 rfl ?_
  refine r_iload (pc := 1370) C dL_law_1370 4 rfl ?_
  refine r_iconst (pc := 1372) C (v := (4 : Int32)) dL_law_1372 (by decide) ?_
  refine r_iadd (pc := 1373) C dL_law_1373 ?_
  refine r_topi (fun x10 ex10 => ?_)
  have h := h x10 ex10
  obtain ⟨i11, h⟩ := h
  refine r_scLd (pc := 1374) C E i11 dL_law_1374 ?_
  refine r_topi (fun x12 ex12 => ?_)
  have h := h x12 ex12
  refine r_aload_n (pc := 1375) C dL_law_1375 0 rfl ?_
  refine r_iload (pc := 1376) C dL_law_1376 4 rfl ?_
  refine r_iconst (pc := 1378) C (v := (5 : Int32)) dL_law_1378 (by decide) ?_
  refine r_iadd (pc := 1379) C dL_law_1379 ?_
  refine r_topi (fun x13 ex13 => ?_)
  have h := h x13 ex13
  obtain ⟨i14, h⟩ := h
  refine r_scLd (pc := 1380) C E i14 dL_law_1380 ?_
  refine r_topi (fun x15 ex15 => ?_)
  have h := h x15 ex15
  refine r_aload_n (pc := 1381) C dL_law_1381 0 rfl ?_
  refine r_iload (pc := 1382) C dL_law_1382 4 rfl ?_
  refine r_bipush (pc := 1384) C (v := (6 : Int32)) dL_law_1384 (by decide) ?_
  refine r_iadd (pc := 1386) C dL_law_1386 ?_
  refine r_topi (fun x16 ex16 => ?_)
  have h := h x16 ex16
  obtain ⟨i17, h⟩ := h
  refine r_scLd (pc := 1387) C E i17 dL_law_1387 ?_
  refine r_topi (fun x18 ex18 => ?_)
  have h := h x18 ex18
  obtain ⟨o_v1, h⟩ := h
  obtain ⟨hk, hk2, h⟩ := h
  refine r_callVi0 (pc := 1388) C (rest := []) (a := v1) o_v1 [.int x3, .int x6, .int x9, .int x12, .int x15, .int x18] yV_X9_first g_809 (c_X9_first h) dL_law_1388 rfl rfl (Nat.le_of_ble_eq_true rfl) ⟨by decide, by decide⟩ ⟨hk, hk2⟩ ⟨rfl, rfl⟩ (fun x21 S19 h g20 => ?_)
  have h := h g20
  have o_v1 := gr_ob g20 o_v1
  refine r_pop (pc := 1391) C dL_law_1391 rfl ?_
  refine r_aload_n (pc := 1392) C dL_law_1392 2 rfl ?_
  refine r_aload_n (pc := 1393) C dL_law_1393 0 rfl ?_
  refine r_iload (pc := 1394) C dL_law_1394 4 rfl ?_
  refine r_iconst (pc := 1396) C (v := (1 : Int32)) dL_law_1396 (by decide) ?_
  refine r_iadd (pc := 1397) C dL_law_1397 ?_
  refine r_topi (fun x22 ex22 => ?_)
  have h := h x22 ex22
  obtain ⟨i23, h⟩ := h
  refine r_scLd (pc := 1398) C E i23 dL_law_1398 ?_
  refine r_topi (fun x24 ex24 => ?_)
  have h := h x24 ex24
  refine r_aload_n (pc := 1399) C dL_law_1399 0 rfl ?_
  refine r_iload (pc := 1400) C dL_law_1400 4 rfl ?_
  refine r_iconst (pc := 1402) C (v := (2 : Int32)) dL_law_1402 (by decide) ?_
  refine r_iadd (pc := 1403) C dL_law_1403 ?_
  refine r_topi (fun x25 ex25 => ?_)
  have h := h x25 ex25
  obtain ⟨i26, h⟩ := h
  refine r_scLd (pc := 1404) C E i26 dL_law_1404 ?_
  refine r_topi (fun x27 ex27 => ?_)
  have h := h x27 ex27
  refine r_aload_n (pc := 1405) C dL_law_1405 0 rfl ?_
  refine r_iload (pc := 1406) C dL_law_1406 4 rfl ?_
  refine r_iconst (pc := 1408) C (v := (3 : Int32)) dL_law_1408 (by decide) ?_
  refine r_iadd (pc := 1409) C dL_law_1409 ?_
  refine r_topi (fun x28 ex28 => ?_)
  have h := h x28 ex28
  obtain ⟨i29, h⟩ := h
  refine r_scLd (pc := 1410) C E i29 dL_law_1410 ?_
  refine r_topi (fun x30 ex30 => ?_)
  have h := h x30 ex30
  refine r_aload_n (pc := 1411) C dL_law_1411 0 rfl ?_
  refine r_iload (pc := 1412) C dL_law_1412 4 rfl ?_
  refine r_iconst (pc := 1414) C (v := (4 : Int32)) dL_law_1414 (by decide) ?_
  refine r_iadd (pc := 1415) C dL_law_1415 ?_
  refine r_topi (fun x31 ex31 => ?_)
  have h := h x31 ex31
  obtain ⟨i32, h⟩ := h
  refine r_scLd (pc := 1416) C E i32 dL_law_1416 ?_
  refine r_topi (fun x33 ex33 => ?_)
  have h := h x33 ex33
  refine r_aload_n (pc := 1417) C dL_law_1417 0 rfl ?_
  refine r_iload (pc := 1418) C dL_law_1418 4 rfl ?_
  refine r_iconst (pc := 1420) C (v := (5 : Int32)) dL_law_1420 (by decide) ?_
  refine r_iadd (pc := 1421) C dL_law_1421 ?_
  refine r_topi (fun x34 ex34 => ?_)
  have h := h x34 ex34
  obtain ⟨i35, h⟩ := h
  refine r_scLd (pc := 1422) C E i35 dL_law_1422 ?_
  refine r_topi (fun x36 ex36 => ?_)
  have h := h x36 ex36
  refine r_aload_n (pc := 1423) C dL_law_1423 0 rfl ?_
  refine r_iload (pc := 1424) C dL_law_1424 4 rfl ?_
  refine r_bipush (pc := 1426) C (v := (6 : Int32)) dL_law_1426 (by decide) ?_
  refine r_iadd (pc := 1428) C dL_law_1428 ?_
  refine r_topi (fun x37 ex37 => ?_)
  have h := h x37 ex37
  obtain ⟨i38, h⟩ := h
  refine r_scLd (pc := 1429) C E i38 dL_law_1429 ?_
  refine r_topi (fun x39 ex39 => ?_)
  have h := h x39 ex39
  obtain ⟨o_v2, h⟩ := h
  obtain ⟨hk, hk2, h⟩ := h
  refine r_callVi0 (pc := 1430) C (rest := []) (a := v2) o_v2 [.int x24, .int x27, .int x30, .int x33, .int x36, .int x39] yV_X11_first g_1667 (c_X11_first h) dL_law_1430 rfl rfl (Nat.le_of_ble_eq_true rfl) ⟨by decide, by decide⟩ ⟨hk, hk2⟩ ⟨rfl, rfl⟩ (fun x42 S40 h g41 => ?_)
  have h := h g41
  have o_v1 := gr_ob g41 o_v1
  have o_v2 := gr_ob g41 o_v2
  refine r_pop (pc := 1433) C dL_law_1433 rfl ?_
  refine r_goto (pc := 1434) C (tgt := 2342) dL_law_1434 (by decide) ?_
  exact r_sub [0, 1, 2, 3, 4] rfl (T_L_law_2342 C E ht hn hX23 h)
def P_L_law_1533 (scL : Nat) (scx : Nat → Int32) (Q : Int32 → HS → Prop) (X23 : Nat → Nat → Nat → Int32 → Nat → Nat → HS → Prop) (v1 : Nat) (v2 : Nat) (v3 : Nat) (v4 : Int32) (s0 : Nat) (s1 : Int32) (s2 : Int32) (s3 : Int32) (s4 : Int32) (s5 : Int32) (s6 : Int32) (kk : Nat) (nn : Nat) (S : HS) : Prop := ob S s0 11 ∧ (kk ≤ rm_L_law.cells ∧ nn ≤ rm_L_law.slots ∧ (P_X11_least s0 s1 s2 s3 s4 s5 s6 (fun x3 S1 => Gr S S1 → (P_L_law_2342 scL scx Q X23 v1 v2 v3 v4 kk nn S1)) S))
set_option maxRecDepth 20000 in
set_option maxHeartbeats 4000000 in
theorem T_L_law_1533 {X : CX} {Q : Int32 → HS → Prop} {scb scL : Nat} {scx : Nat → Int32} (C : Cx X cL_law RL 7 rm_L_law) (E : LE X scb scL scx Q) (ht : LD X) (hn : True) {X23 : Nat → Nat → Nat → Int32 → Nat → Nat → HS → Prop} (hX23 : ∀ (v1 : Nat) (v2 : Nat) (v3 : Nat) (v4 : Int32) (kk : Nat) (nn : Nat) (S : HS), X23 v1 v2 v3 v4 kk nn S → WS X 7 kk nn 23 [(0, .ref scb), (1, .ref v1), (2, .ref v2), (3, .ref v3), (4, .int v4)] [] S) {v1 : Nat} {v2 : Nat} {v3 : Nat} {v4 : Int32} {s0 : Nat} {s1 : Int32} {s2 : Int32} {s3 : Int32} {s4 : Int32} {s5 : Int32} {s6 : Int32} {kk : Nat} {nn : Nat} {S : HS} (h : P_L_law_1533 scL scx Q X23 v1 v2 v3 v4 s0 s1 s2 s3 s4 s5 s6 kk nn S) : WS X 7 kk nn 1533 [(0, .ref scb), (1, .ref v1), (2, .ref v2), (3, .ref v3), (4, .int v4)] [.int s6, .int s5, .int s4, .int s3, .int s2, .int s1, .ref s0] S := by
  obtain ⟨o_s0, h⟩ := h
  obtain ⟨hk, hk2, h⟩ := h
  refine r_callVl0 (pc := 1533) C (rest := []) (a := s0) o_s0 [.int s1, .int s2, .int s3, .int s4, .int s5, .int s6] yV_X11_least g_1671 (c_X11_least h) dL_law_1533 rfl rfl (Nat.le_of_ble_eq_true rfl) ⟨by decide, by decide⟩ ⟨hk, hk2⟩ ⟨rfl, rfl⟩ (fun x3 S1 h g2 => ?_)
  have h := h g2
  have o_s0 := gr_ob g2 o_s0
  refine r_pop2 (pc := 1536) C dL_law_1536 rfl ?_
  refine r_goto (pc := 1537) C (tgt := 2342) dL_law_1537 (by decide) ?_
  exact r_sub [0, 1, 2, 3, 4] rfl (T_L_law_2342 C E ht hn hX23 h)
def P_L_law_1483 (scL : Nat) (scx : Nat → Int32) (Q : Int32 → HS → Prop) (X23 : Nat → Nat → Nat → Int32 → Nat → Nat → HS → Prop) (v1 : Nat) (v2 : Nat) (v3 : Nat) (v4 : Int32) (s0 : Nat) (s1 : Int32) (s2 : Int32) (s3 : Int32) (s4 : Int32) (s5 : Int32) (s6 : Int32) (kk : Nat) (nn : Nat) (S : HS) : Prop := ob S s0 9 ∧ (kk + 8 ≤ rm_L_law.cells ∧ nn + 7937 ≤ rm_L_law.slots ∧ (P_X9_least s0 s1 s2 s3 s4 s5 s6 (fun x3 S1 => Gr S S1 → (∀ x4 : Int32, x4 = v4 + (1 : Int32) → (vp_in x4 scL ∧ ∀ x6 : Int32, x6 = scx x4.toNatClampNeg → (∀ x7 : Int32, x7 = v4 + (2 : Int32) → (vp_in x7 scL ∧ ∀ x9 : Int32, x9 = scx x7.toNatClampNeg → (∀ x10 : Int32, x10 = v4 + (3 : Int32) → (vp_in x10 scL ∧ ∀ x12 : Int32, x12 = scx x10.toNatClampNeg → (∀ x13 : Int32, x13 = v4 + (4 : Int32) → (vp_in x13 scL ∧ ∀ x15 : Int32, x15 = scx x13.toNatClampNeg → (∀ x16 : Int32, x16 = v4 + (5 : Int32) → (vp_in x16 scL ∧ ∀ x18 : Int32, x18 = scx x16.toNatClampNeg → (∀ x19 : Int32, x19 = v4 + (6 : Int32) → (vp_in x19 scL ∧ ∀ x21 : Int32, x21 = scx x19.toNatClampNeg → (((x21 = 0) → (P_L_law_1533 scL scx Q X23 v1 v2 v3 v4 v2 x6 x9 x12 x15 x18 (0 : Int32) (kk + 8) (nn + 7937) S1)) ∧ ((¬ x21 = 0) → (P_L_law_1533 scL scx Q X23 v1 v2 v3 v4 v2 x6 x9 x12 x15 x18 (1 : Int32) (kk + 8) (nn + 7937) S1)))))))))))))))) S))
set_option maxRecDepth 20000 in
set_option maxHeartbeats 4000000 in
theorem T_L_law_1483 {X : CX} {Q : Int32 → HS → Prop} {scb scL : Nat} {scx : Nat → Int32} (C : Cx X cL_law RL 7 rm_L_law) (E : LE X scb scL scx Q) (ht : LD X) (hn : True) {X23 : Nat → Nat → Nat → Int32 → Nat → Nat → HS → Prop} (hX23 : ∀ (v1 : Nat) (v2 : Nat) (v3 : Nat) (v4 : Int32) (kk : Nat) (nn : Nat) (S : HS), X23 v1 v2 v3 v4 kk nn S → WS X 7 kk nn 23 [(0, .ref scb), (1, .ref v1), (2, .ref v2), (3, .ref v3), (4, .int v4)] [] S) {v1 : Nat} {v2 : Nat} {v3 : Nat} {v4 : Int32} {s0 : Nat} {s1 : Int32} {s2 : Int32} {s3 : Int32} {s4 : Int32} {s5 : Int32} {s6 : Int32} {kk : Nat} {nn : Nat} {S : HS} (h : P_L_law_1483 scL scx Q X23 v1 v2 v3 v4 s0 s1 s2 s3 s4 s5 s6 kk nn S) : WS X 7 kk nn 1483 [(0, .ref scb), (1, .ref v1), (2, .ref v2), (3, .ref v3), (4, .int v4)] [.int s6, .int s5, .int s4, .int s3, .int s2, .int s1, .ref s0] S := by
  obtain ⟨o_s0, h⟩ := h
  obtain ⟨hk, hk2, h⟩ := h
  refine r_callVl (pc := 1483) C (rest := []) (a := s0) o_s0 [.int s1, .int s2, .int s3, .int s4, .int s5, .int s6] yV_X9_least g_813 (c_X9_least h) dL_law_1483 rfl rfl (Nat.le_of_ble_eq_true rfl) ⟨by decide, by decide⟩ ⟨hk, hk2⟩ (fun x3 S1 h g2 => ?_)
  have h := h g2
  have o_s0 := gr_ob g2 o_s0
  refine r_pop2 (pc := 1486) C dL_law_1486 rfl ?_
  refine r_aload_n (pc := 1487) C dL_law_1487 2 rfl ?_
  refine r_aload_n (pc := 1488) C dL_law_1488 0 rfl ?_
  refine r_iload (pc := 1489) C dL_law_1489 4 rfl ?_
  refine r_iconst (pc := 1491) C (v := (1 : Int32)) dL_law_1491 (by decide) ?_
  refine r_iadd (pc := 1492) C dL_law_1492 ?_
  refine r_topi (fun x4 ex4 => ?_)
  have h := h x4 ex4
  obtain ⟨i5, h⟩ := h
  refine r_scLd (pc := 1493) C E i5 dL_law_1493 ?_
  refine r_topi (fun x6 ex6 => ?_)
  have h := h x6 ex6
  refine r_aload_n (pc := 1494) C dL_law_1494 0 rfl ?_
  refine r_iload (pc := 1495) C dL_law_1495 4 rfl ?_
  refine r_iconst (pc := 1497) C (v := (2 : Int32)) dL_law_1497 (by decide) ?_
  refine r_iadd (pc := 1498) C dL_law_1498 ?_
  refine r_topi (fun x7 ex7 => ?_)
  have h := h x7 ex7
  obtain ⟨i8, h⟩ := h
  refine r_scLd (pc := 1499) C E i8 dL_law_1499 ?_
  refine r_topi (fun x9 ex9 => ?_)
  have h := h x9 ex9
  refine r_aload_n (pc := 1500) C dL_law_1500 0 rfl ?_
  refine r_iload (pc := 1501) C dL_law_1501 4 rfl ?_
  refine r_iconst (pc := 1503) C (v := (3 : Int32)) dL_law_1503 (by decide) ?_
  refine r_iadd (pc := 1504) C dL_law_1504 ?_
  refine r_topi (fun x10 ex10 => ?_)
  have h := h x10 ex10
  obtain ⟨i11, h⟩ := h
  refine r_scLd (pc := 1505) C E i11 dL_law_1505 ?_
  refine r_topi (fun x12 ex12 => ?_)
  have h := h x12 ex12
  refine r_aload_n (pc := 1506) C dL_law_1506 0 rfl ?_
  refine r_iload (pc := 1507) C dL_law_1507 4 rfl ?_
  refine r_iconst (pc := 1509) C (v := (4 : Int32)) dL_law_1509 (by decide) ?_
  refine r_iadd (pc := 1510) C dL_law_1510 ?_
  refine r_topi (fun x13 ex13 => ?_)
  have h := h x13 ex13
  obtain ⟨i14, h⟩ := h
  refine r_scLd (pc := 1511) C E i14 dL_law_1511 ?_
  refine r_topi (fun x15 ex15 => ?_)
  have h := h x15 ex15
  refine r_aload_n (pc := 1512) C dL_law_1512 0 rfl ?_
  refine r_iload (pc := 1513) C dL_law_1513 4 rfl ?_
  refine r_iconst (pc := 1515) C (v := (5 : Int32)) dL_law_1515 (by decide) ?_
  refine r_iadd (pc := 1516) C dL_law_1516 ?_
  refine r_topi (fun x16 ex16 => ?_)
  have h := h x16 ex16
  obtain ⟨i17, h⟩ := h
  refine r_scLd (pc := 1517) C E i17 dL_law_1517 ?_
  refine r_topi (fun x18 ex18 => ?_)
  have h := h x18 ex18
  refine r_aload_n (pc := 1518) C dL_law_1518 0 rfl ?_
  refine r_iload (pc := 1519) C dL_law_1519 4 rfl ?_
  refine r_bipush (pc := 1521) C (v := (6 : Int32)) dL_law_1521 (by decide) ?_
  refine r_iadd (pc := 1523) C dL_law_1523 ?_
  refine r_topi (fun x19 ex19 => ?_)
  have h := h x19 ex19
  obtain ⟨i20, h⟩ := h
  refine r_scLd (pc := 1524) C E i20 dL_law_1524 ?_
  refine r_topi (fun x21 ex21 => ?_)
  have h := h x21 ex21
  refine r_if_eq (pc := 1525) C (tgt := 1532) dL_law_1525 (by decide) (fun c22 => ?_) (fun c22 => ?_)
  · have h := h.1 c22
    refine r_iconst (pc := 1532) C (v := (0 : Int32)) dL_law_1532 (by decide) ?_
    exact r_sub [0, 1, 2, 3, 4] rfl (T_L_law_1533 C E ht hn hX23 h)
  · have h := h.2 c22
    refine r_iconst (pc := 1528) C (v := (1 : Int32)) dL_law_1528 (by decide) ?_
    refine r_goto (pc := 1529) C (tgt := 1533) dL_law_1529 (by decide) ?_
    exact r_sub [0, 1, 2, 3, 4] rfl (T_L_law_1533 C E ht hn hX23 h)
def P_L_law_1437 (scL : Nat) (scx : Nat → Int32) (Q : Int32 → HS → Prop) (X23 : Nat → Nat → Nat → Int32 → Nat → Nat → HS → Prop) (v1 : Nat) (v2 : Nat) (v3 : Nat) (v4 : Int32) (kk : Nat) (nn : Nat) (S : HS) : Prop := ∀ x1 : Int32, x1 = v4 + (1 : Int32) → (vp_in x1 scL ∧ ∀ x3 : Int32, x3 = scx x1.toNatClampNeg → (∀ x4 : Int32, x4 = v4 + (2 : Int32) → (vp_in x4 scL ∧ ∀ x6 : Int32, x6 = scx x4.toNatClampNeg → (∀ x7 : Int32, x7 = v4 + (3 : Int32) → (vp_in x7 scL ∧ ∀ x9 : Int32, x9 = scx x7.toNatClampNeg → (∀ x10 : Int32, x10 = v4 + (4 : Int32) → (vp_in x10 scL ∧ ∀ x12 : Int32, x12 = scx x10.toNatClampNeg → (∀ x13 : Int32, x13 = v4 + (5 : Int32) → (vp_in x13 scL ∧ ∀ x15 : Int32, x15 = scx x13.toNatClampNeg → (∀ x16 : Int32, x16 = v4 + (6 : Int32) → (vp_in x16 scL ∧ ∀ x18 : Int32, x18 = scx x16.toNatClampNeg → (((x18 = 0) → (P_L_law_1483 scL scx Q X23 v1 v2 v3 v4 v1 x3 x6 x9 x12 x15 (0 : Int32) kk nn S)) ∧ ((¬ x18 = 0) → (P_L_law_1483 scL scx Q X23 v1 v2 v3 v4 v1 x3 x6 x9 x12 x15 (1 : Int32) kk nn S))))))))))))))
set_option maxRecDepth 20000 in
set_option maxHeartbeats 4000000 in
theorem T_L_law_1437 {X : CX} {Q : Int32 → HS → Prop} {scb scL : Nat} {scx : Nat → Int32} (C : Cx X cL_law RL 7 rm_L_law) (E : LE X scb scL scx Q) (ht : LD X) (hn : True) {X23 : Nat → Nat → Nat → Int32 → Nat → Nat → HS → Prop} (hX23 : ∀ (v1 : Nat) (v2 : Nat) (v3 : Nat) (v4 : Int32) (kk : Nat) (nn : Nat) (S : HS), X23 v1 v2 v3 v4 kk nn S → WS X 7 kk nn 23 [(0, .ref scb), (1, .ref v1), (2, .ref v2), (3, .ref v3), (4, .int v4)] [] S) {v1 : Nat} {v2 : Nat} {v3 : Nat} {v4 : Int32} {kk : Nat} {nn : Nat} {S : HS} (h : P_L_law_1437 scL scx Q X23 v1 v2 v3 v4 kk nn S) : WS X 7 kk nn 1437 [(0, .ref scb), (1, .ref v1), (2, .ref v2), (3, .ref v3), (4, .int v4)] [] S := by
  refine r_aload_n (pc := 1437) C dL_law_1437 1 rfl ?_
  refine r_aload_n (pc := 1438) C dL_law_1438 0 rfl ?_
  refine r_iload (pc := 1439) C dL_law_1439 4 rfl ?_
  refine r_iconst (pc := 1441) C (v := (1 : Int32)) dL_law_1441 (by decide) ?_
  refine r_iadd (pc := 1442) C dL_law_1442 ?_
  refine r_topi (fun x1 ex1 => ?_)
  have h := h x1 ex1
  obtain ⟨i2, h⟩ := h
  refine r_scLd (pc := 1443) C E i2 dL_law_1443 ?_
  refine r_topi (fun x3 ex3 => ?_)
  have h := h x3 ex3
  refine r_aload_n (pc := 1444) C dL_law_1444 0 rfl ?_
  refine r_iload (pc := 1445) C dL_law_1445 4 rfl ?_
  refine r_iconst (pc := 1447) C (v := (2 : Int32)) dL_law_1447 (by decide) ?_
  refine r_iadd (pc := 1448) C dL_law_1448 ?_
  refine r_topi (fun x4 ex4 => ?_)
  have h := h x4 ex4
  obtain ⟨i5, h⟩ := h
  refine r_scLd (pc := 1449) C E i5 dL_law_1449 ?_
  refine r_topi (fun x6 ex6 => ?_)
  have h := h x6 ex6
  refine r_aload_n (pc := 1450) C dL_law_1450 0 rfl ?_
  refine r_iload (pc := 1451) C dL_law_1451 4 rfl ?_
  refine r_iconst (pc := 1453) C (v := (3 : Int32)) dL_law_1453 (by decide) ?_
  refine r_iadd (pc := 1454) C dL_law_1454 ?_
  refine r_topi (fun x7 ex7 => ?_)
  have h := h x7 ex7
  obtain ⟨i8, h⟩ := h
  refine r_scLd (pc := 1455) C E i8 dL_law_1455 ?_
  refine r_topi (fun x9 ex9 => ?_)
  have h := h x9 ex9
  refine r_aload_n (pc := 1456) C dL_law_1456 0 rfl ?_
  refine r_iload (pc := 1457) C dL_law_1457 4 rfl ?_
  refine r_iconst (pc := 1459) C (v := (4 : Int32)) dL_law_1459 (by decide) ?_
  refine r_iadd (pc := 1460) C dL_law_1460 ?_
  refine r_topi (fun x10 ex10 => ?_)
  have h := h x10 ex10
  obtain ⟨i11, h⟩ := h
  refine r_scLd (pc := 1461) C E i11 dL_law_1461 ?_
  refine r_topi (fun x12 ex12 => ?_)
  have h := h x12 ex12
  refine r_aload_n (pc := 1462) C dL_law_1462 0 rfl ?_
  refine r_iload (pc := 1463) C dL_law_1463 4 rfl ?_
  refine r_iconst (pc := 1465) C (v := (5 : Int32)) dL_law_1465 (by decide) ?_
  refine r_iadd (pc := 1466) C dL_law_1466 ?_
  refine r_topi (fun x13 ex13 => ?_)
  have h := h x13 ex13
  obtain ⟨i14, h⟩ := h
  refine r_scLd (pc := 1467) C E i14 dL_law_1467 ?_
  refine r_topi (fun x15 ex15 => ?_)
  have h := h x15 ex15
  refine r_aload_n (pc := 1468) C dL_law_1468 0 rfl ?_
  refine r_iload (pc := 1469) C dL_law_1469 4 rfl ?_
  refine r_bipush (pc := 1471) C (v := (6 : Int32)) dL_law_1471 (by decide) ?_
  refine r_iadd (pc := 1473) C dL_law_1473 ?_
  refine r_topi (fun x16 ex16 => ?_)
  have h := h x16 ex16
  obtain ⟨i17, h⟩ := h
  refine r_scLd (pc := 1474) C E i17 dL_law_1474 ?_
  refine r_topi (fun x18 ex18 => ?_)
  have h := h x18 ex18
  refine r_if_eq (pc := 1475) C (tgt := 1482) dL_law_1475 (by decide) (fun c19 => ?_) (fun c19 => ?_)
  · have h := h.1 c19
    refine r_iconst (pc := 1482) C (v := (0 : Int32)) dL_law_1482 (by decide) ?_
    exact r_sub [0, 1, 2, 3, 4] rfl (T_L_law_1483 C E ht hn hX23 h)
  · have h := h.2 c19
    refine r_iconst (pc := 1478) C (v := (1 : Int32)) dL_law_1478 (by decide) ?_
    refine r_goto (pc := 1479) C (tgt := 1483) dL_law_1479 (by decide) ?_
    exact r_sub [0, 1, 2, 3, 4] rfl (T_L_law_1483 C E ht hn hX23 h)
def P_L_law_1540 (scL : Nat) (scx : Nat → Int32) (Q : Int32 → HS → Prop) (X23 : Nat → Nat → Nat → Int32 → Nat → Nat → HS → Prop) (v1 : Nat) (v2 : Nat) (v3 : Nat) (v4 : Int32) (kk : Nat) (nn : Nat) (S : HS) : Prop := ∀ x1 : Int32, x1 = v4 + (1 : Int32) → (vp_in x1 scL ∧ ∀ x3 : Int32, x3 = scx x1.toNatClampNeg → (∀ x4 : Int32, x4 = v4 + (2 : Int32) → (vp_in x4 scL ∧ ∀ x6 : Int32, x6 = scx x4.toNatClampNeg → (∀ x7 : Int32, x7 = v4 + (3 : Int32) → (vp_in x7 scL ∧ ∀ x9 : Int32, x9 = scx x7.toNatClampNeg → (∀ x10 : Int32, x10 = v4 + (4 : Int32) → (vp_in x10 scL ∧ ∀ x12 : Int32, x12 = scx x10.toNatClampNeg → (∀ x13 : Int32, x13 = v4 + (5 : Int32) → (vp_in x13 scL ∧ ∀ x15 : Int32, x15 = scx x13.toNatClampNeg → (ob S v1 9 ∧ (kk + 8 ≤ rm_L_law.cells ∧ nn + 7937 ≤ rm_L_law.slots ∧ (P_X9_there v1 x3 x6 x9 x12 x15 (fun x18 S16 => Gr S S16 → (∀ x19 : Int32, x19 = v4 + (1 : Int32) → (vp_in x19 scL ∧ ∀ x21 : Int32, x21 = scx x19.toNatClampNeg → (∀ x22 : Int32, x22 = v4 + (2 : Int32) → (vp_in x22 scL ∧ ∀ x24 : Int32, x24 = scx x22.toNatClampNeg → (∀ x25 : Int32, x25 = v4 + (3 : Int32) → (vp_in x25 scL ∧ ∀ x27 : Int32, x27 = scx x25.toNatClampNeg → (∀ x28 : Int32, x28 = v4 + (4 : Int32) → (vp_in x28 scL ∧ ∀ x30 : Int32, x30 = scx x28.toNatClampNeg → (∀ x31 : Int32, x31 = v4 + (5 : Int32) → (vp_in x31 scL ∧ ∀ x33 : Int32, x33 = scx x31.toNatClampNeg → (ob S16 v2 11 ∧ (kk + 8 ≤ rm_L_law.cells ∧ nn + 7937 ≤ rm_L_law.slots ∧ (P_X11_there v2 x21 x24 x27 x30 x33 (fun x36 S34 => Gr S16 S34 → (P_L_law_2342 scL scx Q X23 v1 v2 v3 v4 (kk + 8) (nn + 7937) S34)) S16)))))))))))))) S))))))))))))
set_option maxRecDepth 20000 in
set_option maxHeartbeats 4000000 in
theorem T_L_law_1540 {X : CX} {Q : Int32 → HS → Prop} {scb scL : Nat} {scx : Nat → Int32} (C : Cx X cL_law RL 7 rm_L_law) (E : LE X scb scL scx Q) (ht : LD X) (hn : True) {X23 : Nat → Nat → Nat → Int32 → Nat → Nat → HS → Prop} (hX23 : ∀ (v1 : Nat) (v2 : Nat) (v3 : Nat) (v4 : Int32) (kk : Nat) (nn : Nat) (S : HS), X23 v1 v2 v3 v4 kk nn S → WS X 7 kk nn 23 [(0, .ref scb), (1, .ref v1), (2, .ref v2), (3, .ref v3), (4, .int v4)] [] S) {v1 : Nat} {v2 : Nat} {v3 : Nat} {v4 : Int32} {kk : Nat} {nn : Nat} {S : HS} (h : P_L_law_1540 scL scx Q X23 v1 v2 v3 v4 kk nn S) : WS X 7 kk nn 1540 [(0, .ref scb), (1, .ref v1), (2, .ref v2), (3, .ref v3), (4, .int v4)] [] S := by
  refine r_aload_n (pc := 1540) C dL_law_1540 1 rfl ?_
  refine r_aload_n (pc := 1541) C dL_law_1541 0 rfl ?_
  refine r_iload (pc := 1542) C dL_law_1542 4 rfl ?_
  refine r_iconst (pc := 1544) C (v := (1 : Int32)) dL_law_1544 (by decide) ?_
  refine r_iadd (pc := 1545) C dL_law_1545 ?_
  refine r_topi (fun x1 ex1 => ?_)
  have h := h x1 ex1
  obtain ⟨i2, h⟩ := h
  refine r_scLd (pc := 1546) C E i2 dL_law_1546 ?_
  refine r_topi (fun x3 ex3 => ?_)
  have h := h x3 ex3
  refine r_aload_n (pc := 1547) C dL_law_1547 0 rfl ?_
  refine r_iload (pc := 1548) C dL_law_1548 4 rfl ?_
  refine r_iconst (pc := 1550) C (v := (2 : Int32)) dL_law_1550 (by decide) ?_
  refine r_iadd (pc := 1551) C dL_law_1551 ?_
  refine r_topi (fun x4 ex4 => ?_)
  have h := h x4 ex4
  obtain ⟨i5, h⟩ := h
  refine r_scLd (pc := 1552) C E i5 dL_law_1552 ?_
  refine r_topi (fun x6 ex6 => ?_)
  have h := h x6 ex6
  refine r_aload_n (pc := 1553) C dL_law_1553 0 rfl ?_
  refine r_iload (pc := 1554) C dL_law_1554 4 rfl ?_
  refine r_iconst (pc := 1556) C (v := (3 : Int32)) dL_law_1556 (by decide) ?_
  refine r_iadd (pc := 1557) C dL_law_1557 ?_
  refine r_topi (fun x7 ex7 => ?_)
  have h := h x7 ex7
  obtain ⟨i8, h⟩ := h
  refine r_scLd (pc := 1558) C E i8 dL_law_1558 ?_
  refine r_topi (fun x9 ex9 => ?_)
  have h := h x9 ex9
  refine r_aload_n (pc := 1559) C dL_law_1559 0 rfl ?_
  refine r_iload (pc := 1560) C dL_law_1560 4 rfl ?_
  refine r_iconst (pc := 1562) C (v := (4 : Int32)) dL_law_1562 (by decide) ?_
  refine r_iadd (pc := 1563) C dL_law_1563 ?_
  refine r_topi (fun x10 ex10 => ?_)
  have h := h x10 ex10
  obtain ⟨i11, h⟩ := h
  refine r_scLd (pc := 1564) C E i11 dL_law_1564 ?_
  refine r_topi (fun x12 ex12 => ?_)
  have h := h x12 ex12
  refine r_aload_n (pc := 1565) C dL_law_1565 0 rfl ?_
  refine r_iload (pc := 1566) C dL_law_1566 4 rfl ?_
  refine r_iconst (pc := 1568) C (v := (5 : Int32)) dL_law_1568 (by decide) ?_
  refine r_iadd (pc := 1569) C dL_law_1569 ?_
  refine r_topi (fun x13 ex13 => ?_)
  have h := h x13 ex13
  obtain ⟨i14, h⟩ := h
  refine r_scLd (pc := 1570) C E i14 dL_law_1570 ?_
  refine r_topi (fun x15 ex15 => ?_)
  have h := h x15 ex15
  obtain ⟨o_v1, h⟩ := h
  obtain ⟨hk, hk2, h⟩ := h
  refine r_callVi (pc := 1571) C (rest := []) (a := v1) o_v1 [.int x3, .int x6, .int x9, .int x12, .int x15] yV_X9_there g_900 (c_X9_there h) dL_law_1571 rfl rfl (Nat.le_of_ble_eq_true rfl) ⟨by decide, by decide⟩ ⟨hk, hk2⟩ (fun x18 S16 h g17 => ?_)
  have h := h g17
  have o_v1 := gr_ob g17 o_v1
  refine r_pop (pc := 1574) C dL_law_1574 rfl ?_
  refine r_aload_n (pc := 1575) C dL_law_1575 2 rfl ?_
  refine r_aload_n (pc := 1576) C dL_law_1576 0 rfl ?_
  refine r_iload (pc := 1577) C dL_law_1577 4 rfl ?_
  refine r_iconst (pc := 1579) C (v := (1 : Int32)) dL_law_1579 (by decide) ?_
  refine r_iadd (pc := 1580) C dL_law_1580 ?_
  refine r_topi (fun x19 ex19 => ?_)
  have h := h x19 ex19
  obtain ⟨i20, h⟩ := h
  refine r_scLd (pc := 1581) C E i20 dL_law_1581 ?_
  refine r_topi (fun x21 ex21 => ?_)
  have h := h x21 ex21
  refine r_aload_n (pc := 1582) C dL_law_1582 0 rfl ?_
  refine r_iload (pc := 1583) C dL_law_1583 4 rfl ?_
  refine r_iconst (pc := 1585) C (v := (2 : Int32)) dL_law_1585 (by decide) ?_
  refine r_iadd (pc := 1586) C dL_law_1586 ?_
  refine r_topi (fun x22 ex22 => ?_)
  have h := h x22 ex22
  obtain ⟨i23, h⟩ := h
  refine r_scLd (pc := 1587) C E i23 dL_law_1587 ?_
  refine r_topi (fun x24 ex24 => ?_)
  have h := h x24 ex24
  refine r_aload_n (pc := 1588) C dL_law_1588 0 rfl ?_
  refine r_iload (pc := 1589) C dL_law_1589 4 rfl ?_
  refine r_iconst (pc := 1591) C (v := (3 : Int32)) dL_law_1591 (by decide) ?_
  refine r_iadd (pc := 1592) C dL_law_1592 ?_
  refine r_topi (fun x25 ex25 => ?_)
  have h := h x25 ex25
  obtain ⟨i26, h⟩ := h
  refine r_scLd (pc := 1593) C E i26 dL_law_1593 ?_
  refine r_topi (fun x27 ex27 => ?_)
  have h := h x27 ex27
  refine r_aload_n (pc := 1594) C dL_law_1594 0 rfl ?_
  refine r_iload (pc := 1595) C dL_law_1595 4 rfl ?_
  refine r_iconst (pc := 1597) C (v := (4 : Int32)) dL_law_1597 (by decide) ?_
  refine r_iadd (pc := 1598) C dL_law_1598 ?_
  refine r_topi (fun x28 ex28 => ?_)
  have h := h x28 ex28
  obtain ⟨i29, h⟩ := h
  refine r_scLd (pc := 1599) C E i29 dL_law_1599 ?_
  refine r_topi (fun x30 ex30 => ?_)
  have h := h x30 ex30
  refine r_aload_n (pc := 1600) C dL_law_1600 0 rfl ?_
  refine r_iload (pc := 1601) C dL_law_1601 4 rfl ?_
  refine r_iconst (pc := 1603) C (v := (5 : Int32)) dL_law_1603 (by decide) ?_
  refine r_iadd (pc := 1604) C dL_law_1604 ?_
  refine r_topi (fun x31 ex31 => ?_)
  have h := h x31 ex31
  obtain ⟨i32, h⟩ := h
  refine r_scLd (pc := 1605) C E i32 dL_law_1605 ?_
  refine r_topi (fun x33 ex33 => ?_)
  have h := h x33 ex33
  obtain ⟨o_v2, h⟩ := h
  obtain ⟨hk, hk2, h⟩ := h
  refine r_callVi0 (pc := 1606) C (rest := []) (a := v2) o_v2 [.int x21, .int x24, .int x27, .int x30, .int x33] yV_X11_there g_1727 (c_X11_there h) dL_law_1606 rfl rfl (Nat.le_of_ble_eq_true rfl) ⟨by decide, by decide⟩ ⟨hk, hk2⟩ ⟨rfl, rfl⟩ (fun x36 S34 h g35 => ?_)
  have h := h g35
  have o_v1 := gr_ob g35 o_v1
  have o_v2 := gr_ob g35 o_v2
  refine r_pop (pc := 1609) C dL_law_1609 rfl ?_
  refine r_goto (pc := 1610) C (tgt := 2342) dL_law_1610 (by decide) ?_
  exact r_sub [0, 1, 2, 3, 4] rfl (T_L_law_2342 C E ht hn hX23 h)
def P_L_law_1613 (scL : Nat) (scx : Nat → Int32) (Q : Int32 → HS → Prop) (X23 : Nat → Nat → Nat → Int32 → Nat → Nat → HS → Prop) (v1 : Nat) (v2 : Nat) (v3 : Nat) (v4 : Int32) (kk : Nat) (nn : Nat) (S : HS) : Prop := ∀ x1 : Int32, x1 = v4 + (1 : Int32) → (vp_in x1 scL ∧ ∀ x3 : Int32, x3 = scx x1.toNatClampNeg → (∀ x4 : Int32, x4 = v4 + (2 : Int32) → (vp_in x4 scL ∧ ∀ x6 : Int32, x6 = scx x4.toNatClampNeg → (∀ x7 : Int32, x7 = v4 + (3 : Int32) → (vp_in x7 scL ∧ ∀ x9 : Int32, x9 = scx x7.toNatClampNeg → (∀ x10 : Int32, x10 = v4 + (4 : Int32) → (vp_in x10 scL ∧ ∀ x12 : Int32, x12 = scx x10.toNatClampNeg → (∀ x13 : Int32, x13 = v4 + (5 : Int32) → (vp_in x13 scL ∧ ∀ x15 : Int32, x15 = scx x13.toNatClampNeg → (ob S v1 9 ∧ (kk + 8 ≤ rm_L_law.cells ∧ nn + 7937 ≤ rm_L_law.slots ∧ (P_X9_steps v1 x3 x6 x9 x12 x15 (fun x18 S16 => Gr S S16 → (∀ x19 : Int32, x19 = v4 + (1 : Int32) → (vp_in x19 scL ∧ ∀ x21 : Int32, x21 = scx x19.toNatClampNeg → (∀ x22 : Int32, x22 = v4 + (2 : Int32) → (vp_in x22 scL ∧ ∀ x24 : Int32, x24 = scx x22.toNatClampNeg → (∀ x25 : Int32, x25 = v4 + (3 : Int32) → (vp_in x25 scL ∧ ∀ x27 : Int32, x27 = scx x25.toNatClampNeg → (∀ x28 : Int32, x28 = v4 + (4 : Int32) → (vp_in x28 scL ∧ ∀ x30 : Int32, x30 = scx x28.toNatClampNeg → (∀ x31 : Int32, x31 = v4 + (5 : Int32) → (vp_in x31 scL ∧ ∀ x33 : Int32, x33 = scx x31.toNatClampNeg → (ob S16 v2 11 ∧ (kk + 8 ≤ rm_L_law.cells ∧ nn + 7937 ≤ rm_L_law.slots ∧ (P_X11_steps v2 x21 x24 x27 x30 x33 (fun x36 S34 => Gr S16 S34 → (P_L_law_2342 scL scx Q X23 v1 v2 v3 v4 (kk + 8) (nn + 7937) S34)) S16)))))))))))))) S))))))))))))
set_option maxRecDepth 20000 in
set_option maxHeartbeats 4000000 in
theorem T_L_law_1613 {X : CX} {Q : Int32 → HS → Prop} {scb scL : Nat} {scx : Nat → Int32} (C : Cx X cL_law RL 7 rm_L_law) (E : LE X scb scL scx Q) (ht : LD X) (hn : True) {X23 : Nat → Nat → Nat → Int32 → Nat → Nat → HS → Prop} (hX23 : ∀ (v1 : Nat) (v2 : Nat) (v3 : Nat) (v4 : Int32) (kk : Nat) (nn : Nat) (S : HS), X23 v1 v2 v3 v4 kk nn S → WS X 7 kk nn 23 [(0, .ref scb), (1, .ref v1), (2, .ref v2), (3, .ref v3), (4, .int v4)] [] S) {v1 : Nat} {v2 : Nat} {v3 : Nat} {v4 : Int32} {kk : Nat} {nn : Nat} {S : HS} (h : P_L_law_1613 scL scx Q X23 v1 v2 v3 v4 kk nn S) : WS X 7 kk nn 1613 [(0, .ref scb), (1, .ref v1), (2, .ref v2), (3, .ref v3), (4, .int v4)] [] S := by
  refine r_aload_n (pc := 1613) C dL_law_1613 1 rfl ?_
  refine r_aload_n (pc := 1614) C dL_law_1614 0 rfl ?_
  refine r_iload (pc := 1615) C dL_law_1615 4 rfl ?_
  refine r_iconst (pc := 1617) C (v := (1 : Int32)) dL_law_1617 (by decide) ?_
  refine r_iadd (pc := 1618) C dL_law_1618 ?_
  refine r_topi (fun x1 ex1 => ?_)
  have h := h x1 ex1
  obtain ⟨i2, h⟩ := h
  refine r_scLd (pc := 1619) C E i2 dL_law_1619 ?_
  refine r_topi (fun x3 ex3 => ?_)
  have h := h x3 ex3
  refine r_aload_n (pc := 1620) C dL_law_1620 0 rfl ?_
  refine r_iload (pc := 1621) C dL_law_1621 4 rfl ?_
  refine r_iconst (pc := 1623) C (v := (2 : Int32)) dL_law_1623 (by decide) ?_
  refine r_iadd (pc := 1624) C dL_law_1624 ?_
  refine r_topi (fun x4 ex4 => ?_)
  have h := h x4 ex4
  obtain ⟨i5, h⟩ := h
  refine r_scLd (pc := 1625) C E i5 dL_law_1625 ?_
  refine r_topi (fun x6 ex6 => ?_)
  have h := h x6 ex6
  refine r_aload_n (pc := 1626) C dL_law_1626 0 rfl ?_
  refine r_iload (pc := 1627) C dL_law_1627 4 rfl ?_
  refine r_iconst (pc := 1629) C (v := (3 : Int32)) dL_law_1629 (by decide) ?_
  refine r_iadd (pc := 1630) C dL_law_1630 ?_
  refine r_topi (fun x7 ex7 => ?_)
  have h := h x7 ex7
  obtain ⟨i8, h⟩ := h
  refine r_scLd (pc := 1631) C E i8 dL_law_1631 ?_
  refine r_topi (fun x9 ex9 => ?_)
  have h := h x9 ex9
  refine r_aload_n (pc := 1632) C dL_law_1632 0 rfl ?_
  refine r_iload (pc := 1633) C dL_law_1633 4 rfl ?_
  refine r_iconst (pc := 1635) C (v := (4 : Int32)) dL_law_1635 (by decide) ?_
  refine r_iadd (pc := 1636) C dL_law_1636 ?_
  refine r_topi (fun x10 ex10 => ?_)
  have h := h x10 ex10
  obtain ⟨i11, h⟩ := h
  refine r_scLd (pc := 1637) C E i11 dL_law_1637 ?_
  refine r_topi (fun x12 ex12 => ?_)
  have h := h x12 ex12
  refine r_aload_n (pc := 1638) C dL_law_1638 0 rfl ?_
  refine r_iload (pc := 1639) C dL_law_1639 4 rfl ?_
  refine r_iconst (pc := 1641) C (v := (5 : Int32)) dL_law_1641 (by decide) ?_
  refine r_iadd (pc := 1642) C dL_law_1642 ?_
  refine r_topi (fun x13 ex13 => ?_)
  have h := h x13 ex13
  obtain ⟨i14, h⟩ := h
  refine r_scLd (pc := 1643) C E i14 dL_law_1643 ?_
  refine r_topi (fun x15 ex15 => ?_)
  have h := h x15 ex15
  obtain ⟨o_v1, h⟩ := h
  obtain ⟨hk, hk2, h⟩ := h
  refine r_callVi (pc := 1644) C (rest := []) (a := v1) o_v1 [.int x3, .int x6, .int x9, .int x12, .int x15] yV_X9_steps g_908 (c_X9_steps h) dL_law_1644 rfl rfl (Nat.le_of_ble_eq_true rfl) ⟨by decide, by decide⟩ ⟨hk, hk2⟩ (fun x18 S16 h g17 => ?_)
  have h := h g17
  have o_v1 := gr_ob g17 o_v1
  refine r_pop (pc := 1647) C dL_law_1647 rfl ?_
  refine r_aload_n (pc := 1648) C dL_law_1648 2 rfl ?_
  refine r_aload_n (pc := 1649) C dL_law_1649 0 rfl ?_
  refine r_iload (pc := 1650) C dL_law_1650 4 rfl ?_
  refine r_iconst (pc := 1652) C (v := (1 : Int32)) dL_law_1652 (by decide) ?_
  refine r_iadd (pc := 1653) C dL_law_1653 ?_
  refine r_topi (fun x19 ex19 => ?_)
  have h := h x19 ex19
  obtain ⟨i20, h⟩ := h
  refine r_scLd (pc := 1654) C E i20 dL_law_1654 ?_
  refine r_topi (fun x21 ex21 => ?_)
  have h := h x21 ex21
  refine r_aload_n (pc := 1655) C dL_law_1655 0 rfl ?_
  refine r_iload (pc := 1656) C dL_law_1656 4 rfl ?_
  refine r_iconst (pc := 1658) C (v := (2 : Int32)) dL_law_1658 (by decide) ?_
  refine r_iadd (pc := 1659) C dL_law_1659 ?_
  refine r_topi (fun x22 ex22 => ?_)
  have h := h x22 ex22
  obtain ⟨i23, h⟩ := h
  refine r_scLd (pc := 1660) C E i23 dL_law_1660 ?_
  refine r_topi (fun x24 ex24 => ?_)
  have h := h x24 ex24
  refine r_aload_n (pc := 1661) C dL_law_1661 0 rfl ?_
  refine r_iload (pc := 1662) C dL_law_1662 4 rfl ?_
  refine r_iconst (pc := 1664) C (v := (3 : Int32)) dL_law_1664 (by decide) ?_
  refine r_iadd (pc := 1665) C dL_law_1665 ?_
  refine r_topi (fun x25 ex25 => ?_)
  have h := h x25 ex25
  obtain ⟨i26, h⟩ := h
  refine r_scLd (pc := 1666) C E i26 dL_law_1666 ?_
  refine r_topi (fun x27 ex27 => ?_)
  have h := h x27 ex27
  refine r_aload_n (pc := 1667) C dL_law_1667 0 rfl ?_
  refine r_iload (pc := 1668) C dL_law_1668 4 rfl ?_
  refine r_iconst (pc := 1670) C (v := (4 : Int32)) dL_law_1670 (by decide) ?_
  refine r_iadd (pc := 1671) C dL_law_1671 ?_
  refine r_topi (fun x28 ex28 => ?_)
  have h := h x28 ex28
  obtain ⟨i29, h⟩ := h
  refine r_scLd (pc := 1672) C E i29 dL_law_1672 ?_
  refine r_topi (fun x30 ex30 => ?_)
  have h := h x30 ex30
  refine r_aload_n (pc := 1673) C dL_law_1673 0 rfl ?_
  refine r_iload (pc := 1674) C dL_law_1674 4 rfl ?_
  refine r_iconst (pc := 1676) C (v := (5 : Int32)) dL_law_1676 (by decide) ?_
  refine r_iadd (pc := 1677) C dL_law_1677 ?_
  refine r_topi (fun x31 ex31 => ?_)
  have h := h x31 ex31
  obtain ⟨i32, h⟩ := h
  refine r_scLd (pc := 1678) C E i32 dL_law_1678 ?_
  refine r_topi (fun x33 ex33 => ?_)
  have h := h x33 ex33
  obtain ⟨o_v2, h⟩ := h
  obtain ⟨hk, hk2, h⟩ := h
  refine r_callVi0 (pc := 1679) C (rest := []) (a := v2) o_v2 [.int x21, .int x24, .int x27, .int x30, .int x33] yV_X11_steps g_1731 (c_X11_steps h) dL_law_1679 rfl rfl (Nat.le_of_ble_eq_true rfl) ⟨by decide, by decide⟩ ⟨hk, hk2⟩ ⟨rfl, rfl⟩ (fun x36 S34 h g35 => ?_)
  have h := h g35
  have o_v1 := gr_ob g35 o_v1
  have o_v2 := gr_ob g35 o_v2
  refine r_pop (pc := 1682) C dL_law_1682 rfl ?_
  refine r_goto (pc := 1683) C (tgt := 2342) dL_law_1683 (by decide) ?_
  exact r_sub [0, 1, 2, 3, 4] rfl (T_L_law_2342 C E ht hn hX23 h)
def P_L_law_1686 (scL : Nat) (scx : Nat → Int32) (Q : Int32 → HS → Prop) (X23 : Nat → Nat → Nat → Int32 → Nat → Nat → HS → Prop) (v1 : Nat) (v2 : Nat) (v3 : Nat) (v4 : Int32) (kk : Nat) (nn : Nat) (S : HS) : Prop := ∀ x1 : Int32, x1 = v4 + (1 : Int32) → (vp_in x1 scL ∧ ∀ x3 : Int32, x3 = scx x1.toNatClampNeg → (∀ x4 : Int32, x4 = v4 + (2 : Int32) → (vp_in x4 scL ∧ ∀ x6 : Int32, x6 = scx x4.toNatClampNeg → (∀ x7 : Int32, x7 = v4 + (3 : Int32) → (vp_in x7 scL ∧ ∀ x9 : Int32, x9 = scx x7.toNatClampNeg → (∀ x10 : Int32, x10 = v4 + (4 : Int32) → (vp_in x10 scL ∧ ∀ x12 : Int32, x12 = scx x10.toNatClampNeg → (∀ x13 : Int32, x13 = v4 + (5 : Int32) → (vp_in x13 scL ∧ ∀ x15 : Int32, x15 = scx x13.toNatClampNeg → (∀ x16 : Int32, x16 = v4 + (6 : Int32) → (vp_in x16 scL ∧ ∀ x18 : Int32, x18 = scx x16.toNatClampNeg → (ob S v1 9 ∧ (kk + 8 ≤ rm_L_law.cells ∧ nn + 7937 ≤ rm_L_law.slots ∧ (P_X9_step v1 x3 x6 x9 x12 x15 x18 (fun x21 S19 => Gr S S19 → (∀ x22 : Int32, x22 = v4 + (1 : Int32) → (vp_in x22 scL ∧ ∀ x24 : Int32, x24 = scx x22.toNatClampNeg → (∀ x25 : Int32, x25 = v4 + (2 : Int32) → (vp_in x25 scL ∧ ∀ x27 : Int32, x27 = scx x25.toNatClampNeg → (∀ x28 : Int32, x28 = v4 + (3 : Int32) → (vp_in x28 scL ∧ ∀ x30 : Int32, x30 = scx x28.toNatClampNeg → (∀ x31 : Int32, x31 = v4 + (4 : Int32) → (vp_in x31 scL ∧ ∀ x33 : Int32, x33 = scx x31.toNatClampNeg → (∀ x34 : Int32, x34 = v4 + (5 : Int32) → (vp_in x34 scL ∧ ∀ x36 : Int32, x36 = scx x34.toNatClampNeg → (∀ x37 : Int32, x37 = v4 + (6 : Int32) → (vp_in x37 scL ∧ ∀ x39 : Int32, x39 = scx x37.toNatClampNeg → (ob S19 v2 11 ∧ (kk + 8 ≤ rm_L_law.cells ∧ nn + 7937 ≤ rm_L_law.slots ∧ (P_X11_step v2 x24 x27 x30 x33 x36 x39 (fun x42 S40 => Gr S19 S40 → (P_L_law_2342 scL scx Q X23 v1 v2 v3 v4 (kk + 8) (nn + 7937) S40)) S19)))))))))))))))) S))))))))))))))
set_option maxRecDepth 20000 in
set_option maxHeartbeats 4000000 in
theorem T_L_law_1686 {X : CX} {Q : Int32 → HS → Prop} {scb scL : Nat} {scx : Nat → Int32} (C : Cx X cL_law RL 7 rm_L_law) (E : LE X scb scL scx Q) (ht : LD X) (hn : True) {X23 : Nat → Nat → Nat → Int32 → Nat → Nat → HS → Prop} (hX23 : ∀ (v1 : Nat) (v2 : Nat) (v3 : Nat) (v4 : Int32) (kk : Nat) (nn : Nat) (S : HS), X23 v1 v2 v3 v4 kk nn S → WS X 7 kk nn 23 [(0, .ref scb), (1, .ref v1), (2, .ref v2), (3, .ref v3), (4, .int v4)] [] S) {v1 : Nat} {v2 : Nat} {v3 : Nat} {v4 : Int32} {kk : Nat} {nn : Nat} {S : HS} (h : P_L_law_1686 scL scx Q X23 v1 v2 v3 v4 kk nn S) : WS X 7 kk nn 1686 [(0, .ref scb), (1, .ref v1), (2, .ref v2), (3, .ref v3), (4, .int v4)] [] S := by
  refine r_aload_n (pc := 1686) C dL_law_1686 1 rfl ?_
  refine r_aload_n (pc := 1687) C dL_law_1687 0 rfl ?_
  refine r_iload (pc := 1688) C dL_law_1688 4 rfl ?_
  refine r_iconst (pc := 1690) C (v := (1 : Int32)) dL_law_1690 (by decide) ?_
  refine r_iadd (pc := 1691) C dL_law_1691 ?_
  refine r_topi (fun x1 ex1 => ?_)
  have h := h x1 ex1
  obtain ⟨i2, h⟩ := h
  refine r_scLd (pc := 1692) C E i2 dL_law_1692 ?_
  refine r_topi (fun x3 ex3 => ?_)
  have h := h x3 ex3
  refine r_aload_n (pc := 1693) C dL_law_1693 0 rfl ?_
  refine r_iload (pc := 1694) C dL_law_1694 4 rfl ?_
  refine r_iconst (pc := 1696) C (v := (2 : Int32)) dL_law_1696 (by decide) ?_
  refine r_iadd (pc := 1697) C dL_law_1697 ?_
  refine r_topi (fun x4 ex4 => ?_)
  have h := h x4 ex4
  obtain ⟨i5, h⟩ := h
  refine r_scLd (pc := 1698) C E i5 dL_law_1698 ?_
  refine r_topi (fun x6 ex6 => ?_)
  have h := h x6 ex6
  refine r_aload_n (pc := 1699) C dL_law_1699 0 rfl ?_
  refine r_iload (pc := 1700) C dL_law_1700 4 rfl ?_
  refine r_iconst (pc := 1702) C (v := (3 : Int32)) dL_law_1702 (by decide) ?_
  refine r_iadd (pc := 1703) C dL_law_1703 ?_
  refine r_topi (fun x7 ex7 => ?_)
  have h := h x7 ex7
  obtain ⟨i8, h⟩ := h
  refine r_scLd (pc := 1704) C E i8 dL_law_1704 ?_
  refine r_topi (fun x9 ex9 => ?_)
  have h := h x9 ex9
  refine r_aload_n (pc := 1705) C dL_law_1705 0 rfl ?_
  refine r_iload (pc := 1706) C dL_law_1706 4 rfl ?_
  refine r_iconst (pc := 1708) C (v := (4 : Int32)) dL_law_1708 (by decide) ?_
  refine r_iadd (pc := 1709) C dL_law_1709 ?_
  refine r_topi (fun x10 ex10 => ?_)
  have h := h x10 ex10
  obtain ⟨i11, h⟩ := h
  refine r_scLd (pc := 1710) C E i11 dL_law_1710 ?_
  refine r_topi (fun x12 ex12 => ?_)
  have h := h x12 ex12
  refine r_aload_n (pc := 1711) C dL_law_1711 0 rfl ?_
  refine r_iload (pc := 1712) C dL_law_1712 4 rfl ?_
  refine r_iconst (pc := 1714) C (v := (5 : Int32)) dL_law_1714 (by decide) ?_
  refine r_iadd (pc := 1715) C dL_law_1715 ?_
  refine r_topi (fun x13 ex13 => ?_)
  have h := h x13 ex13
  obtain ⟨i14, h⟩ := h
  refine r_scLd (pc := 1716) C E i14 dL_law_1716 ?_
  refine r_topi (fun x15 ex15 => ?_)
  have h := h x15 ex15
  refine r_aload_n (pc := 1717) C dL_law_1717 0 rfl ?_
  refine r_iload (pc := 1718) C dL_law_1718 4 rfl ?_
  refine r_bipush (pc := 1720) C (v := (6 : Int32)) dL_law_1720 (by decide) ?_
  refine r_iadd (pc := 1722) C dL_law_1722 ?_
  refine r_topi (fun x16 ex16 => ?_)
  have h := h x16 ex16
  obtain ⟨i17, h⟩ := h
  refine r_scLd (pc := 1723) C E i17 dL_law_1723 ?_
  refine r_topi (fun x18 ex18 => ?_)
  have h := h x18 ex18
  obtain ⟨o_v1, h⟩ := h
  obtain ⟨hk, hk2, h⟩ := h
  refine r_callVi (pc := 1724) C (rest := []) (a := v1) o_v1 [.int x3, .int x6, .int x9, .int x12, .int x15, .int x18] yV_X9_step g_917 (c_X9_step h) dL_law_1724 rfl rfl (Nat.le_of_ble_eq_true rfl) ⟨by decide, by decide⟩ ⟨hk, hk2⟩ (fun x21 S19 h g20 => ?_)
  have h := h g20
  have o_v1 := gr_ob g20 o_v1
  refine r_pop (pc := 1727) C dL_law_1727 rfl ?_
  refine r_aload_n (pc := 1728) C dL_law_1728 2 rfl ?_
  refine r_aload_n (pc := 1729) C dL_law_1729 0 rfl ?_
  refine r_iload (pc := 1730) C dL_law_1730 4 rfl ?_
  refine r_iconst (pc := 1732) C (v := (1 : Int32)) dL_law_1732 (by decide) ?_
  refine r_iadd (pc := 1733) C dL_law_1733 ?_
  refine r_topi (fun x22 ex22 => ?_)
  have h := h x22 ex22
  obtain ⟨i23, h⟩ := h
  refine r_scLd (pc := 1734) C E i23 dL_law_1734 ?_
  refine r_topi (fun x24 ex24 => ?_)
  have h := h x24 ex24
  refine r_aload_n (pc := 1735) C dL_law_1735 0 rfl ?_
  refine r_iload (pc := 1736) C dL_law_1736 4 rfl ?_
  refine r_iconst (pc := 1738) C (v := (2 : Int32)) dL_law_1738 (by decide) ?_
  refine r_iadd (pc := 1739) C dL_law_1739 ?_
  refine r_topi (fun x25 ex25 => ?_)
  have h := h x25 ex25
  obtain ⟨i26, h⟩ := h
  refine r_scLd (pc := 1740) C E i26 dL_law_1740 ?_
  refine r_topi (fun x27 ex27 => ?_)
  have h := h x27 ex27
  refine r_aload_n (pc := 1741) C dL_law_1741 0 rfl ?_
  refine r_iload (pc := 1742) C dL_law_1742 4 rfl ?_
  refine r_iconst (pc := 1744) C (v := (3 : Int32)) dL_law_1744 (by decide) ?_
  refine r_iadd (pc := 1745) C dL_law_1745 ?_
  refine r_topi (fun x28 ex28 => ?_)
  have h := h x28 ex28
  obtain ⟨i29, h⟩ := h
  refine r_scLd (pc := 1746) C E i29 dL_law_1746 ?_
  refine r_topi (fun x30 ex30 => ?_)
  have h := h x30 ex30
  refine r_aload_n (pc := 1747) C dL_law_1747 0 rfl ?_
  refine r_iload (pc := 1748) C dL_law_1748 4 rfl ?_
  refine r_iconst (pc := 1750) C (v := (4 : Int32)) dL_law_1750 (by decide) ?_
  refine r_iadd (pc := 1751) C dL_law_1751 ?_
  refine r_topi (fun x31 ex31 => ?_)
  have h := h x31 ex31
  obtain ⟨i32, h⟩ := h
  refine r_scLd (pc := 1752) C E i32 dL_law_1752 ?_
  refine r_topi (fun x33 ex33 => ?_)
  have h := h x33 ex33
  refine r_aload_n (pc := 1753) C dL_law_1753 0 rfl ?_
  refine r_iload (pc := 1754) C dL_law_1754 4 rfl ?_
  refine r_iconst (pc := 1756) C (v := (5 : Int32)) dL_law_1756 (by decide) ?_
  refine r_iadd (pc := 1757) C dL_law_1757 ?_
  refine r_topi (fun x34 ex34 => ?_)
  have h := h x34 ex34
  obtain ⟨i35, h⟩ := h
  refine r_scLd (pc := 1758) C E i35 dL_law_1758 ?_
  refine r_topi (fun x36 ex36 => ?_)
  have h := h x36 ex36
  refine r_aload_n (pc := 1759) C dL_law_1759 0 rfl ?_
  refine r_iload (pc := 1760) C dL_law_1760 4 rfl ?_
  refine r_bipush (pc := 1762) C (v := (6 : Int32)) dL_law_1762 (by decide) ?_
  refine r_iadd (pc := 1764) C dL_law_1764 ?_
  refine r_topi (fun x37 ex37 => ?_)
  have h := h x37 ex37
  obtain ⟨i38, h⟩ := h
  refine r_scLd (pc := 1765) C E i38 dL_law_1765 ?_
  refine r_topi (fun x39 ex39 => ?_)
  have h := h x39 ex39
  obtain ⟨o_v2, h⟩ := h
  obtain ⟨hk, hk2, h⟩ := h
  refine r_callVi0 (pc := 1766) C (rest := []) (a := v2) o_v2 [.int x24, .int x27, .int x30, .int x33, .int x36, .int x39] yV_X11_step g_1739 (c_X11_step h) dL_law_1766 rfl rfl (Nat.le_of_ble_eq_true rfl) ⟨by decide, by decide⟩ ⟨hk, hk2⟩ ⟨rfl, rfl⟩ (fun x42 S40 h g41 => ?_)
  have h := h g41
  have o_v1 := gr_ob g41 o_v1
  have o_v2 := gr_ob g41 o_v2
  refine r_pop (pc := 1769) C dL_law_1769 rfl ?_
  refine r_goto (pc := 1770) C (tgt := 2342) dL_law_1770 (by decide) ?_
  exact r_sub [0, 1, 2, 3, 4] rfl (T_L_law_2342 C E ht hn hX23 h)
def P_L_law_1773 (scL : Nat) (scx : Nat → Int32) (Q : Int32 → HS → Prop) (X23 : Nat → Nat → Nat → Int32 → Nat → Nat → HS → Prop) (v1 : Nat) (v2 : Nat) (v3 : Nat) (v4 : Int32) (kk : Nat) (nn : Nat) (S : HS) : Prop := ∀ x1 : Int32, x1 = v4 + (1 : Int32) → (vp_in x1 scL ∧ ∀ x3 : Int32, x3 = scx x1.toNatClampNeg → (∀ x4 : Int32, x4 = v4 + (2 : Int32) → (vp_in x4 scL ∧ ∀ x6 : Int32, x6 = scx x4.toNatClampNeg → (∀ x7 : Int32, x7 = v4 + (3 : Int32) → (vp_in x7 scL ∧ ∀ x9 : Int32, x9 = scx x7.toNatClampNeg → (∀ x10 : Int32, x10 = v4 + (4 : Int32) → (vp_in x10 scL ∧ ∀ x12 : Int32, x12 = scx x10.toNatClampNeg → (ob S v1 9 ∧ (kk + 8 ≤ rm_L_law.cells ∧ nn + 7937 ≤ rm_L_law.slots ∧ (P_X9_off v1 x3 x6 x9 x12 (fun x15 S13 => Gr S S13 → (∀ x16 : Int32, x16 = v4 + (1 : Int32) → (vp_in x16 scL ∧ ∀ x18 : Int32, x18 = scx x16.toNatClampNeg → (∀ x19 : Int32, x19 = v4 + (2 : Int32) → (vp_in x19 scL ∧ ∀ x21 : Int32, x21 = scx x19.toNatClampNeg → (∀ x22 : Int32, x22 = v4 + (3 : Int32) → (vp_in x22 scL ∧ ∀ x24 : Int32, x24 = scx x22.toNatClampNeg → (∀ x25 : Int32, x25 = v4 + (4 : Int32) → (vp_in x25 scL ∧ ∀ x27 : Int32, x27 = scx x25.toNatClampNeg → (ob S13 v2 11 ∧ (kk + 8 ≤ rm_L_law.cells ∧ nn + 7937 ≤ rm_L_law.slots ∧ (P_X11_off v2 x18 x21 x24 x27 (fun x30 S28 => Gr S13 S28 → (P_L_law_2342 scL scx Q X23 v1 v2 v3 v4 (kk + 8) (nn + 7937) S28)) S13)))))))))))) S))))))))))
set_option maxRecDepth 20000 in
set_option maxHeartbeats 4000000 in
theorem T_L_law_1773 {X : CX} {Q : Int32 → HS → Prop} {scb scL : Nat} {scx : Nat → Int32} (C : Cx X cL_law RL 7 rm_L_law) (E : LE X scb scL scx Q) (ht : LD X) (hn : True) {X23 : Nat → Nat → Nat → Int32 → Nat → Nat → HS → Prop} (hX23 : ∀ (v1 : Nat) (v2 : Nat) (v3 : Nat) (v4 : Int32) (kk : Nat) (nn : Nat) (S : HS), X23 v1 v2 v3 v4 kk nn S → WS X 7 kk nn 23 [(0, .ref scb), (1, .ref v1), (2, .ref v2), (3, .ref v3), (4, .int v4)] [] S) {v1 : Nat} {v2 : Nat} {v3 : Nat} {v4 : Int32} {kk : Nat} {nn : Nat} {S : HS} (h : P_L_law_1773 scL scx Q X23 v1 v2 v3 v4 kk nn S) : WS X 7 kk nn 1773 [(0, .ref scb), (1, .ref v1), (2, .ref v2), (3, .ref v3), (4, .int v4)] [] S := by
  refine r_aload_n (pc := 1773) C dL_law_1773 1 rfl ?_
  refine r_aload_n (pc := 1774) C dL_law_1774 0 rfl ?_
  refine r_iload (pc := 1775) C dL_law_1775 4 rfl ?_
  refine r_iconst (pc := 1777) C (v := (1 : Int32)) dL_law_1777 (by decide) ?_
  refine r_iadd (pc := 1778) C dL_law_1778 ?_
  refine r_topi (fun x1 ex1 => ?_)
  have h := h x1 ex1
  obtain ⟨i2, h⟩ := h
  refine r_scLd (pc := 1779) C E i2 dL_law_1779 ?_
  refine r_topi (fun x3 ex3 => ?_)
  have h := h x3 ex3
  refine r_aload_n (pc := 1780) C dL_law_1780 0 rfl ?_
  refine r_iload (pc := 1781) C dL_law_1781 4 rfl ?_
  refine r_iconst (pc := 1783) C (v := (2 : Int32)) dL_law_1783 (by decide) ?_
  refine r_iadd (pc := 1784) C dL_law_1784 ?_
  refine r_topi (fun x4 ex4 => ?_)
  have h := h x4 ex4
  obtain ⟨i5, h⟩ := h
  refine r_scLd (pc := 1785) C E i5 dL_law_1785 ?_
  refine r_topi (fun x6 ex6 => ?_)
  have h := h x6 ex6
  refine r_aload_n (pc := 1786) C dL_law_1786 0 rfl ?_
  refine r_iload (pc := 1787) C dL_law_1787 4 rfl ?_
  refine r_iconst (pc := 1789) C (v := (3 : Int32)) dL_law_1789 (by decide) ?_
  refine r_iadd (pc := 1790) C dL_law_1790 ?_
  refine r_topi (fun x7 ex7 => ?_)
  have h := h x7 ex7
  obtain ⟨i8, h⟩ := h
  refine r_scLd (pc := 1791) C E i8 dL_law_1791 ?_
  refine r_topi (fun x9 ex9 => ?_)
  have h := h x9 ex9
  refine r_aload_n (pc := 1792) C dL_law_1792 0 rfl ?_
  refine r_iload (pc := 1793) C dL_law_1793 4 rfl ?_
  refine r_iconst (pc := 1795) C (v := (4 : Int32)) dL_law_1795 (by decide) ?_
  refine r_iadd (pc := 1796) C dL_law_1796 ?_
  refine r_topi (fun x10 ex10 => ?_)
  have h := h x10 ex10
  obtain ⟨i11, h⟩ := h
  refine r_scLd (pc := 1797) C E i11 dL_law_1797 ?_
  refine r_topi (fun x12 ex12 => ?_)
  have h := h x12 ex12
  obtain ⟨o_v1, h⟩ := h
  obtain ⟨hk, hk2, h⟩ := h
  refine r_callVi (pc := 1798) C (rest := []) (a := v1) o_v1 [.int x3, .int x6, .int x9, .int x12] yV_X9_off g_921 (c_X9_off h) dL_law_1798 rfl rfl (Nat.le_of_ble_eq_true rfl) ⟨by decide, by decide⟩ ⟨hk, hk2⟩ (fun x15 S13 h g14 => ?_)
  have h := h g14
  have o_v1 := gr_ob g14 o_v1
  refine r_pop (pc := 1801) C dL_law_1801 rfl ?_
  refine r_aload_n (pc := 1802) C dL_law_1802 2 rfl ?_
  refine r_aload_n (pc := 1803) C dL_law_1803 0 rfl ?_
  refine r_iload (pc := 1804) C dL_law_1804 4 rfl ?_
  refine r_iconst (pc := 1806) C (v := (1 : Int32)) dL_law_1806 (by decide) ?_
  refine r_iadd (pc := 1807) C dL_law_1807 ?_
  refine r_topi (fun x16 ex16 => ?_)
  have h := h x16 ex16
  obtain ⟨i17, h⟩ := h
  refine r_scLd (pc := 1808) C E i17 dL_law_1808 ?_
  refine r_topi (fun x18 ex18 => ?_)
  have h := h x18 ex18
  refine r_aload_n (pc := 1809) C dL_law_1809 0 rfl ?_
  refine r_iload (pc := 1810) C dL_law_1810 4 rfl ?_
  refine r_iconst (pc := 1812) C (v := (2 : Int32)) dL_law_1812 (by decide) ?_
  refine r_iadd (pc := 1813) C dL_law_1813 ?_
  refine r_topi (fun x19 ex19 => ?_)
  have h := h x19 ex19
  obtain ⟨i20, h⟩ := h
  refine r_scLd (pc := 1814) C E i20 dL_law_1814 ?_
  refine r_topi (fun x21 ex21 => ?_)
  have h := h x21 ex21
  refine r_aload_n (pc := 1815) C dL_law_1815 0 rfl ?_
  refine r_iload (pc := 1816) C dL_law_1816 4 rfl ?_
  refine r_iconst (pc := 1818) C (v := (3 : Int32)) dL_law_1818 (by decide) ?_
  refine r_iadd (pc := 1819) C dL_law_1819 ?_
  refine r_topi (fun x22 ex22 => ?_)
  have h := h x22 ex22
  obtain ⟨i23, h⟩ := h
  refine r_scLd (pc := 1820) C E i23 dL_law_1820 ?_
  refine r_topi (fun x24 ex24 => ?_)
  have h := h x24 ex24
  refine r_aload_n (pc := 1821) C dL_law_1821 0 rfl ?_
  refine r_iload (pc := 1822) C dL_law_1822 4 rfl ?_
  refine r_iconst (pc := 1824) C (v := (4 : Int32)) dL_law_1824 (by decide) ?_
  refine r_iadd (pc := 1825) C dL_law_1825 ?_
  refine r_topi (fun x25 ex25 => ?_)
  have h := h x25 ex25
  obtain ⟨i26, h⟩ := h
  refine r_scLd (pc := 1826) C E i26 dL_law_1826 ?_
  refine r_topi (fun x27 ex27 => ?_)
  have h := h x27 ex27
  obtain ⟨o_v2, h⟩ := h
  obtain ⟨hk, hk2, h⟩ := h
  refine r_callVi0 (pc := 1827) C (rest := []) (a := v2) o_v2 [.int x18, .int x21, .int x24, .int x27] yV_X11_off g_1743 (c_X11_off h) dL_law_1827 rfl rfl (Nat.le_of_ble_eq_true rfl) ⟨by decide, by decide⟩ ⟨hk, hk2⟩ ⟨rfl, rfl⟩ (fun x30 S28 h g29 => ?_)
  have h := h g29
  have o_v1 := gr_ob g29 o_v1
  have o_v2 := gr_ob g29 o_v2
  refine r_pop (pc := 1830) C dL_law_1830 rfl ?_
  refine r_goto (pc := 1831) C (tgt := 2342) dL_law_1831 (by decide) ?_
  exact r_sub [0, 1, 2, 3, 4] rfl (T_L_law_2342 C E ht hn hX23 h)
end
section
def P_L_law_1834 (scL : Nat) (scx : Nat → Int32) (Q : Int32 → HS → Prop) (X23 : Nat → Nat → Nat → Int32 → Nat → Nat → HS → Prop) (v1 : Nat) (v2 : Nat) (v3 : Nat) (v4 : Int32) (kk : Nat) (nn : Nat) (S : HS) : Prop := ∀ x1 : Int32, x1 = v4 + (1 : Int32) → (vp_in x1 scL ∧ ∀ x3 : Int32, x3 = scx x1.toNatClampNeg → (ob S v1 9 ∧ (kk ≤ rm_L_law.cells ∧ nn ≤ rm_L_law.slots ∧ (P_X9_fits v1 x3 (fun x6 S4 => Gr S S4 → (∀ x7 : Int32, x7 = v4 + (1 : Int32) → (vp_in x7 scL ∧ ∀ x9 : Int32, x9 = scx x7.toNatClampNeg → (ob S4 v2 11 ∧ (kk ≤ rm_L_law.cells ∧ nn ≤ rm_L_law.slots ∧ (P_X11_fits v2 x9 (fun x12 S10 => Gr S4 S10 → (P_L_law_2342 scL scx Q X23 v1 v2 v3 v4 kk nn S10)) S4)))))) S))))
set_option maxRecDepth 20000 in
set_option maxHeartbeats 4000000 in
theorem T_L_law_1834 {X : CX} {Q : Int32 → HS → Prop} {scb scL : Nat} {scx : Nat → Int32} (C : Cx X cL_law RL 7 rm_L_law) (E : LE X scb scL scx Q) (ht : LD X) (hn : True) {X23 : Nat → Nat → Nat → Int32 → Nat → Nat → HS → Prop} (hX23 : ∀ (v1 : Nat) (v2 : Nat) (v3 : Nat) (v4 : Int32) (kk : Nat) (nn : Nat) (S : HS), X23 v1 v2 v3 v4 kk nn S → WS X 7 kk nn 23 [(0, .ref scb), (1, .ref v1), (2, .ref v2), (3, .ref v3), (4, .int v4)] [] S) {v1 : Nat} {v2 : Nat} {v3 : Nat} {v4 : Int32} {kk : Nat} {nn : Nat} {S : HS} (h : P_L_law_1834 scL scx Q X23 v1 v2 v3 v4 kk nn S) : WS X 7 kk nn 1834 [(0, .ref scb), (1, .ref v1), (2, .ref v2), (3, .ref v3), (4, .int v4)] [] S := by
  refine r_aload_n (pc := 1834) C dL_law_1834 1 rfl ?_
  refine r_aload_n (pc := 1835) C dL_law_1835 0 rfl ?_
  refine r_iload (pc := 1836) C dL_law_1836 4 rfl ?_
  refine r_iconst (pc := 1838) C (v := (1 : Int32)) dL_law_1838 (by decide) ?_
  refine r_iadd (pc := 1839) C dL_law_1839 ?_
  refine r_topi (fun x1 ex1 => ?_)
  have h := h x1 ex1
  obtain ⟨i2, h⟩ := h
  refine r_scLd (pc := 1840) C E i2 dL_law_1840 ?_
  refine r_topi (fun x3 ex3 => ?_)
  have h := h x3 ex3
  obtain ⟨o_v1, h⟩ := h
  obtain ⟨hk, hk2, h⟩ := h
  refine r_callVi0 (pc := 1841) C (rest := []) (a := v1) o_v1 [.int x3] yV_X9_fits g_925 (c_X9_fits h) dL_law_1841 rfl rfl (Nat.le_of_ble_eq_true rfl) ⟨by decide, by decide⟩ ⟨hk, hk2⟩ ⟨rfl, rfl⟩ (fun x6 S4 h g5 => ?_)
  have h := h g5
  have o_v1 := gr_ob g5 o_v1
  refine r_pop (pc := 1844) C dL_law_1844 rfl ?_
  refine r_aload_n (pc := 1845) C dL_law_1845 2 rfl ?_
  refine r_aload_n (pc := 1846) C dL_law_1846 0 rfl ?_
  refine r_iload (pc := 1847) C dL_law_1847 4 rfl ?_
  refine r_iconst (pc := 1849) C (v := (1 : Int32)) dL_law_1849 (by decide) ?_
  refine r_iadd (pc := 1850) C dL_law_1850 ?_
  refine r_topi (fun x7 ex7 => ?_)
  have h := h x7 ex7
  obtain ⟨i8, h⟩ := h
  refine r_scLd (pc := 1851) C E i8 dL_law_1851 ?_
  refine r_topi (fun x9 ex9 => ?_)
  have h := h x9 ex9
  obtain ⟨o_v2, h⟩ := h
  obtain ⟨hk, hk2, h⟩ := h
  refine r_callVi0 (pc := 1852) C (rest := []) (a := v2) o_v2 [.int x9] yV_X11_fits g_1747 (c_X11_fits h) dL_law_1852 rfl rfl (Nat.le_of_ble_eq_true rfl) ⟨by decide, by decide⟩ ⟨hk, hk2⟩ ⟨rfl, rfl⟩ (fun x12 S10 h g11 => ?_)
  have h := h g11
  have o_v1 := gr_ob g11 o_v1
  have o_v2 := gr_ob g11 o_v2
  refine r_pop (pc := 1855) C dL_law_1855 rfl ?_
  refine r_goto (pc := 1856) C (tgt := 2342) dL_law_1856 (by decide) ?_
  exact r_sub [0, 1, 2, 3, 4] rfl (T_L_law_2342 C E ht hn hX23 h)
def P_L_law_1859 (scL : Nat) (scx : Nat → Int32) (Q : Int32 → HS → Prop) (X23 : Nat → Nat → Nat → Int32 → Nat → Nat → HS → Prop) (v1 : Nat) (v2 : Nat) (v3 : Nat) (v4 : Int32) (kk : Nat) (nn : Nat) (S : HS) : Prop := ∀ x1 : Int32, x1 = v4 + (1 : Int32) → (vp_in x1 scL ∧ ∀ x3 : Int32, x3 = scx x1.toNatClampNeg → (∀ x4 : Int32, x4 = v4 + (2 : Int32) → (vp_in x4 scL ∧ ∀ x6 : Int32, x6 = scx x4.toNatClampNeg → (ob S v1 9 ∧ (kk ≤ rm_L_law.cells ∧ nn ≤ rm_L_law.slots ∧ (P_X9_fit v1 x3 x6 (fun x9 S7 => Gr S S7 → (∀ x10 : Int32, x10 = v4 + (1 : Int32) → (vp_in x10 scL ∧ ∀ x12 : Int32, x12 = scx x10.toNatClampNeg → (∀ x13 : Int32, x13 = v4 + (2 : Int32) → (vp_in x13 scL ∧ ∀ x15 : Int32, x15 = scx x13.toNatClampNeg → (ob S7 v2 11 ∧ (kk ≤ rm_L_law.cells ∧ nn ≤ rm_L_law.slots ∧ (P_X11_fit v2 x12 x15 (fun x18 S16 => Gr S7 S16 → (P_L_law_2342 scL scx Q X23 v1 v2 v3 v4 kk nn S16)) S7)))))))) S))))))
set_option maxRecDepth 20000 in
set_option maxHeartbeats 4000000 in
theorem T_L_law_1859 {X : CX} {Q : Int32 → HS → Prop} {scb scL : Nat} {scx : Nat → Int32} (C : Cx X cL_law RL 7 rm_L_law) (E : LE X scb scL scx Q) (ht : LD X) (hn : True) {X23 : Nat → Nat → Nat → Int32 → Nat → Nat → HS → Prop} (hX23 : ∀ (v1 : Nat) (v2 : Nat) (v3 : Nat) (v4 : Int32) (kk : Nat) (nn : Nat) (S : HS), X23 v1 v2 v3 v4 kk nn S → WS X 7 kk nn 23 [(0, .ref scb), (1, .ref v1), (2, .ref v2), (3, .ref v3), (4, .int v4)] [] S) {v1 : Nat} {v2 : Nat} {v3 : Nat} {v4 : Int32} {kk : Nat} {nn : Nat} {S : HS} (h : P_L_law_1859 scL scx Q X23 v1 v2 v3 v4 kk nn S) : WS X 7 kk nn 1859 [(0, .ref scb), (1, .ref v1), (2, .ref v2), (3, .ref v3), (4, .int v4)] [] S := by
  refine r_aload_n (pc := 1859) C dL_law_1859 1 rfl ?_
  refine r_aload_n (pc := 1860) C dL_law_1860 0 rfl ?_
  refine r_iload (pc := 1861) C dL_law_1861 4 rfl ?_
  refine r_iconst (pc := 1863) C (v := (1 : Int32)) dL_law_1863 (by decide) ?_
  refine r_iadd (pc := 1864) C dL_law_1864 ?_
  refine r_topi (fun x1 ex1 => ?_)
  have h := h x1 ex1
  obtain ⟨i2, h⟩ := h
  refine r_scLd (pc := 1865) C E i2 dL_law_1865 ?_
  refine r_topi (fun x3 ex3 => ?_)
  have h := h x3 ex3
  refine r_aload_n (pc := 1866) C dL_law_1866 0 rfl ?_
  refine r_iload (pc := 1867) C dL_law_1867 4 rfl ?_
  refine r_iconst (pc := 1869) C (v := (2 : Int32)) dL_law_1869 (by decide) ?_
  refine r_iadd (pc := 1870) C dL_law_1870 ?_
  refine r_topi (fun x4 ex4 => ?_)
  have h := h x4 ex4
  obtain ⟨i5, h⟩ := h
  refine r_scLd (pc := 1871) C E i5 dL_law_1871 ?_
  refine r_topi (fun x6 ex6 => ?_)
  have h := h x6 ex6
  obtain ⟨o_v1, h⟩ := h
  obtain ⟨hk, hk2, h⟩ := h
  refine r_callVi0 (pc := 1872) C (rest := []) (a := v1) o_v1 [.int x3, .int x6] yV_X9_fit g_949 (c_X9_fit h) dL_law_1872 rfl rfl (Nat.le_of_ble_eq_true rfl) ⟨by decide, by decide⟩ ⟨hk, hk2⟩ ⟨rfl, rfl⟩ (fun x9 S7 h g8 => ?_)
  have h := h g8
  have o_v1 := gr_ob g8 o_v1
  refine r_pop (pc := 1875) C dL_law_1875 rfl ?_
  refine r_aload_n (pc := 1876) C dL_law_1876 2 rfl ?_
  refine r_aload_n (pc := 1877) C dL_law_1877 0 rfl ?_
  refine r_iload (pc := 1878) C dL_law_1878 4 rfl ?_
  refine r_iconst (pc := 1880) C (v := (1 : Int32)) dL_law_1880 (by decide) ?_
  refine r_iadd (pc := 1881) C dL_law_1881 ?_
  refine r_topi (fun x10 ex10 => ?_)
  have h := h x10 ex10
  obtain ⟨i11, h⟩ := h
  refine r_scLd (pc := 1882) C E i11 dL_law_1882 ?_
  refine r_topi (fun x12 ex12 => ?_)
  have h := h x12 ex12
  refine r_aload_n (pc := 1883) C dL_law_1883 0 rfl ?_
  refine r_iload (pc := 1884) C dL_law_1884 4 rfl ?_
  refine r_iconst (pc := 1886) C (v := (2 : Int32)) dL_law_1886 (by decide) ?_
  refine r_iadd (pc := 1887) C dL_law_1887 ?_
  refine r_topi (fun x13 ex13 => ?_)
  have h := h x13 ex13
  obtain ⟨i14, h⟩ := h
  refine r_scLd (pc := 1888) C E i14 dL_law_1888 ?_
  refine r_topi (fun x15 ex15 => ?_)
  have h := h x15 ex15
  obtain ⟨o_v2, h⟩ := h
  obtain ⟨hk, hk2, h⟩ := h
  refine r_callVi0 (pc := 1889) C (rest := []) (a := v2) o_v2 [.int x12, .int x15] yV_X11_fit g_1759 (c_X11_fit h) dL_law_1889 rfl rfl (Nat.le_of_ble_eq_true rfl) ⟨by decide, by decide⟩ ⟨hk, hk2⟩ ⟨rfl, rfl⟩ (fun x18 S16 h g17 => ?_)
  have h := h g17
  have o_v1 := gr_ob g17 o_v1
  have o_v2 := gr_ob g17 o_v2
  refine r_pop (pc := 1892) C dL_law_1892 rfl ?_
  refine r_goto (pc := 1893) C (tgt := 2342) dL_law_1893 (by decide) ?_
  exact r_sub [0, 1, 2, 3, 4] rfl (T_L_law_2342 C E ht hn hX23 h)
def P_L_law_1896 (scL : Nat) (scx : Nat → Int32) (Q : Int32 → HS → Prop) (X23 : Nat → Nat → Nat → Int32 → Nat → Nat → HS → Prop) (v1 : Nat) (v2 : Nat) (v3 : Nat) (v4 : Int32) (kk : Nat) (nn : Nat) (S : HS) : Prop := ob S v1 9 ∧ (kk ≤ rm_L_law.cells ∧ nn ≤ rm_L_law.slots ∧ (P_X9_lies v1 (fun x3 S1 => Gr S S1 → (ob S1 v2 11 ∧ (kk ≤ rm_L_law.cells ∧ nn ≤ rm_L_law.slots ∧ (P_X11_lies v2 (fun x6 S4 => Gr S1 S4 → (P_L_law_2342 scL scx Q X23 v1 v2 v3 v4 kk nn S4)) S1)))) S))
set_option maxRecDepth 20000 in
set_option maxHeartbeats 4000000 in
theorem T_L_law_1896 {X : CX} {Q : Int32 → HS → Prop} {scb scL : Nat} {scx : Nat → Int32} (C : Cx X cL_law RL 7 rm_L_law) (E : LE X scb scL scx Q) (ht : LD X) (hn : True) {X23 : Nat → Nat → Nat → Int32 → Nat → Nat → HS → Prop} (hX23 : ∀ (v1 : Nat) (v2 : Nat) (v3 : Nat) (v4 : Int32) (kk : Nat) (nn : Nat) (S : HS), X23 v1 v2 v3 v4 kk nn S → WS X 7 kk nn 23 [(0, .ref scb), (1, .ref v1), (2, .ref v2), (3, .ref v3), (4, .int v4)] [] S) {v1 : Nat} {v2 : Nat} {v3 : Nat} {v4 : Int32} {kk : Nat} {nn : Nat} {S : HS} (h : P_L_law_1896 scL scx Q X23 v1 v2 v3 v4 kk nn S) : WS X 7 kk nn 1896 [(0, .ref scb), (1, .ref v1), (2, .ref v2), (3, .ref v3), (4, .int v4)] [] S := by
  refine r_aload_n (pc := 1896) C dL_law_1896 1 rfl ?_
  obtain ⟨o_v1, h⟩ := h
  obtain ⟨hk, hk2, h⟩ := h
  refine r_callVi0 (pc := 1897) C (rest := []) (a := v1) o_v1 [] yV_X9_lies g_957 (c_X9_lies h) dL_law_1897 rfl rfl (Nat.le_of_ble_eq_true rfl) ⟨by decide, by decide⟩ ⟨hk, hk2⟩ ⟨rfl, rfl⟩ (fun x3 S1 h g2 => ?_)
  have h := h g2
  have o_v1 := gr_ob g2 o_v1
  refine r_pop (pc := 1900) C dL_law_1900 rfl ?_
  refine r_aload_n (pc := 1901) C dL_law_1901 2 rfl ?_
  obtain ⟨o_v2, h⟩ := h
  obtain ⟨hk, hk2, h⟩ := h
  refine r_callVi0 (pc := 1902) C (rest := []) (a := v2) o_v2 [] yV_X11_lies g_1763 (c_X11_lies h) dL_law_1902 rfl rfl (Nat.le_of_ble_eq_true rfl) ⟨by decide, by decide⟩ ⟨hk, hk2⟩ ⟨rfl, rfl⟩ (fun x6 S4 h g5 => ?_)
  have h := h g5
  have o_v1 := gr_ob g5 o_v1
  have o_v2 := gr_ob g5 o_v2
  refine r_pop (pc := 1905) C dL_law_1905 rfl ?_
  refine r_goto (pc := 1906) C (tgt := 2342) dL_law_1906 (by decide) ?_
  exact r_sub [0, 1, 2, 3, 4] rfl (T_L_law_2342 C E ht hn hX23 h)
def P_L_law_1909 (scL : Nat) (scx : Nat → Int32) (Q : Int32 → HS → Prop) (X23 : Nat → Nat → Nat → Int32 → Nat → Nat → HS → Prop) (v1 : Nat) (v2 : Nat) (v3 : Nat) (v4 : Int32) (kk : Nat) (nn : Nat) (S : HS) : Prop := ∀ x1 : Int32, x1 = v4 + (1 : Int32) → (vp_in x1 scL ∧ ∀ x3 : Int32, x3 = scx x1.toNatClampNeg → (∀ x4 : Int32, x4 = v4 + (2 : Int32) → (vp_in x4 scL ∧ ∀ x6 : Int32, x6 = scx x4.toNatClampNeg → (∀ x7 : Int32, x7 = v4 + (3 : Int32) → (vp_in x7 scL ∧ ∀ x9 : Int32, x9 = scx x7.toNatClampNeg → (∀ x10 : Int32, x10 = v4 + (4 : Int32) → (vp_in x10 scL ∧ ∀ x12 : Int32, x12 = scx x10.toNatClampNeg → (ob S v1 9 ∧ (kk ≤ rm_L_law.cells ∧ nn ≤ rm_L_law.slots ∧ (P_X9_day v1 x3 x6 x9 x12 (fun x15 S13 => Gr S S13 → (∀ x16 : Int32, x16 = v4 + (1 : Int32) → (vp_in x16 scL ∧ ∀ x18 : Int32, x18 = scx x16.toNatClampNeg → (∀ x19 : Int32, x19 = v4 + (2 : Int32) → (vp_in x19 scL ∧ ∀ x21 : Int32, x21 = scx x19.toNatClampNeg → (∀ x22 : Int32, x22 = v4 + (3 : Int32) → (vp_in x22 scL ∧ ∀ x24 : Int32, x24 = scx x22.toNatClampNeg → (∀ x25 : Int32, x25 = v4 + (4 : Int32) → (vp_in x25 scL ∧ ∀ x27 : Int32, x27 = scx x25.toNatClampNeg → (ob S13 v2 11 ∧ (kk ≤ rm_L_law.cells ∧ nn ≤ rm_L_law.slots ∧ (P_X11_day v2 x18 x21 x24 x27 (fun x30 S28 => Gr S13 S28 → (P_L_law_2342 scL scx Q X23 v1 v2 v3 v4 kk nn S28)) S13)))))))))))) S))))))))))
set_option maxRecDepth 20000 in
set_option maxHeartbeats 4000000 in
theorem T_L_law_1909 {X : CX} {Q : Int32 → HS → Prop} {scb scL : Nat} {scx : Nat → Int32} (C : Cx X cL_law RL 7 rm_L_law) (E : LE X scb scL scx Q) (ht : LD X) (hn : True) {X23 : Nat → Nat → Nat → Int32 → Nat → Nat → HS → Prop} (hX23 : ∀ (v1 : Nat) (v2 : Nat) (v3 : Nat) (v4 : Int32) (kk : Nat) (nn : Nat) (S : HS), X23 v1 v2 v3 v4 kk nn S → WS X 7 kk nn 23 [(0, .ref scb), (1, .ref v1), (2, .ref v2), (3, .ref v3), (4, .int v4)] [] S) {v1 : Nat} {v2 : Nat} {v3 : Nat} {v4 : Int32} {kk : Nat} {nn : Nat} {S : HS} (h : P_L_law_1909 scL scx Q X23 v1 v2 v3 v4 kk nn S) : WS X 7 kk nn 1909 [(0, .ref scb), (1, .ref v1), (2, .ref v2), (3, .ref v3), (4, .int v4)] [] S := by
  refine r_aload_n (pc := 1909) C dL_law_1909 1 rfl ?_
  refine r_aload_n (pc := 1910) C dL_law_1910 0 rfl ?_
  refine r_iload (pc := 1911) C dL_law_1911 4 rfl ?_
  refine r_iconst (pc := 1913) C (v := (1 : Int32)) dL_law_1913 (by decide) ?_
  refine r_iadd (pc := 1914) C dL_law_1914 ?_
  refine r_topi (fun x1 ex1 => ?_)
  have h := h x1 ex1
  obtain ⟨i2, h⟩ := h
  refine r_scLd (pc := 1915) C E i2 dL_law_1915 ?_
  refine r_topi (fun x3 ex3 => ?_)
  have h := h x3 ex3
  refine r_aload_n (pc := 1916) C dL_law_1916 0 rfl ?_
  refine r_iload (pc := 1917) C dL_law_1917 4 rfl ?_
  refine r_iconst (pc := 1919) C (v := (2 : Int32)) dL_law_1919 (by decide) ?_
  refine r_iadd (pc := 1920) C dL_law_1920 ?_
  refine r_topi (fun x4 ex4 => ?_)
  have h := h x4 ex4
  obtain ⟨i5, h⟩ := h
  refine r_scLd (pc := 1921) C E i5 dL_law_1921 ?_
  refine r_topi (fun x6 ex6 => ?_)
  have h := h x6 ex6
  refine r_aload_n (pc := 1922) C dL_law_1922 0 rfl ?_
  refine r_iload (pc := 1923) C dL_law_1923 4 rfl ?_
  refine r_iconst (pc := 1925) C (v := (3 : Int32)) dL_law_1925 (by decide) ?_
  refine r_iadd (pc := 1926) C dL_law_1926 ?_
  refine r_topi (fun x7 ex7 => ?_)
  have h := h x7 ex7
  obtain ⟨i8, h⟩ := h
  refine r_scLd (pc := 1927) C E i8 dL_law_1927 ?_
  refine r_topi (fun x9 ex9 => ?_)
  have h := h x9 ex9
  refine r_aload_n (pc := 1928) C dL_law_1928 0 rfl ?_
  refine r_iload (pc := 1929) C dL_law_1929 4 rfl ?_
  refine r_iconst (pc := 1931) C (v := (4 : Int32)) dL_law_1931 (by decide) ?_
  refine r_iadd (pc := 1932) C dL_law_1932 ?_
  refine r_topi (fun x10 ex10 => ?_)
  have h := h x10 ex10
  obtain ⟨i11, h⟩ := h
  refine r_scLd (pc := 1933) C E i11 dL_law_1933 ?_
  refine r_topi (fun x12 ex12 => ?_)
  have h := h x12 ex12
  obtain ⟨o_v1, h⟩ := h
  obtain ⟨hk, hk2, h⟩ := h
  refine r_callVi0 (pc := 1934) C (rest := []) (a := v1) o_v1 [.int x3, .int x6, .int x9, .int x12] yV_X9_day g_962 (c_X9_day h) dL_law_1934 rfl rfl (Nat.le_of_ble_eq_true rfl) ⟨by decide, by decide⟩ ⟨hk, hk2⟩ ⟨rfl, rfl⟩ (fun x15 S13 h g14 => ?_)
  have h := h g14
  have o_v1 := gr_ob g14 o_v1
  refine r_pop (pc := 1937) C dL_law_1937 rfl ?_
  refine r_aload_n (pc := 1938) C dL_law_1938 2 rfl ?_
  refine r_aload_n (pc := 1939) C dL_law_1939 0 rfl ?_
  refine r_iload (pc := 1940) C dL_law_1940 4 rfl ?_
  refine r_iconst (pc := 1942) C (v := (1 : Int32)) dL_law_1942 (by decide) ?_
  refine r_iadd (pc := 1943) C dL_law_1943 ?_
  refine r_topi (fun x16 ex16 => ?_)
  have h := h x16 ex16
  obtain ⟨i17, h⟩ := h
  refine r_scLd (pc := 1944) C E i17 dL_law_1944 ?_
  refine r_topi (fun x18 ex18 => ?_)
  have h := h x18 ex18
  refine r_aload_n (pc := 1945) C dL_law_1945 0 rfl ?_
  refine r_iload (pc := 1946) C dL_law_1946 4 rfl ?_
  refine r_iconst (pc := 1948) C (v := (2 : Int32)) dL_law_1948 (by decide) ?_
  refine r_iadd (pc := 1949) C dL_law_1949 ?_
  refine r_topi (fun x19 ex19 => ?_)
  have h := h x19 ex19
  obtain ⟨i20, h⟩ := h
  refine r_scLd (pc := 1950) C E i20 dL_law_1950 ?_
  refine r_topi (fun x21 ex21 => ?_)
  have h := h x21 ex21
  refine r_aload_n (pc := 1951) C dL_law_1951 0 rfl ?_
  refine r_iload (pc := 1952) C dL_law_1952 4 rfl ?_
  refine r_iconst (pc := 1954) C (v := (3 : Int32)) dL_law_1954 (by decide) ?_
  refine r_iadd (pc := 1955) C dL_law_1955 ?_
  refine r_topi (fun x22 ex22 => ?_)
  have h := h x22 ex22
  obtain ⟨i23, h⟩ := h
  refine r_scLd (pc := 1956) C E i23 dL_law_1956 ?_
  refine r_topi (fun x24 ex24 => ?_)
  have h := h x24 ex24
  refine r_aload_n (pc := 1957) C dL_law_1957 0 rfl ?_
  refine r_iload (pc := 1958) C dL_law_1958 4 rfl ?_
  refine r_iconst (pc := 1960) C (v := (4 : Int32)) dL_law_1960 (by decide) ?_
  refine r_iadd (pc := 1961) C dL_law_1961 ?_
  refine r_topi (fun x25 ex25 => ?_)
  have h := h x25 ex25
  obtain ⟨i26, h⟩ := h
  refine r_scLd (pc := 1962) C E i26 dL_law_1962 ?_
  refine r_topi (fun x27 ex27 => ?_)
  have h := h x27 ex27
  obtain ⟨o_v2, h⟩ := h
  obtain ⟨hk, hk2, h⟩ := h
  refine r_callVi0 (pc := 1963) C (rest := []) (a := v2) o_v2 [.int x18, .int x21, .int x24, .int x27] yV_X11_day g_1767 (c_X11_day h) dL_law_1963 rfl rfl (Nat.le_of_ble_eq_true rfl) ⟨by decide, by decide⟩ ⟨hk, hk2⟩ ⟨rfl, rfl⟩ (fun x30 S28 h g29 => ?_)
  have h := h g29
  have o_v1 := gr_ob g29 o_v1
  have o_v2 := gr_ob g29 o_v2
  refine r_pop (pc := 1966) C dL_law_1966 rfl ?_
  refine r_goto (pc := 1967) C (tgt := 2342) dL_law_1967 (by decide) ?_
  exact r_sub [0, 1, 2, 3, 4] rfl (T_L_law_2342 C E ht hn hX23 h)
def P_L_law_1970 (scL : Nat) (scx : Nat → Int32) (Q : Int32 → HS → Prop) (X23 : Nat → Nat → Nat → Int32 → Nat → Nat → HS → Prop) (v1 : Nat) (v2 : Nat) (v3 : Nat) (v4 : Int32) (kk : Nat) (nn : Nat) (S : HS) : Prop := ∀ x1 : Int32, x1 = v4 + (1 : Int32) → (vp_in x1 scL ∧ ∀ x3 : Int32, x3 = scx x1.toNatClampNeg → (∀ x4 : Int32, x4 = v4 + (2 : Int32) → (vp_in x4 scL ∧ ∀ x6 : Int32, x6 = scx x4.toNatClampNeg → (∀ x7 : Int32, x7 = v4 + (3 : Int32) → (vp_in x7 scL ∧ ∀ x9 : Int32, x9 = scx x7.toNatClampNeg → (ob S v1 9 ∧ (kk ≤ rm_L_law.cells ∧ nn ≤ rm_L_law.slots ∧ (P_X9_go v1 x3 x6 x9 (fun x12 S10 => Gr S S10 → (∀ x13 : Int32, x13 = v4 + (1 : Int32) → (vp_in x13 scL ∧ ∀ x15 : Int32, x15 = scx x13.toNatClampNeg → (∀ x16 : Int32, x16 = v4 + (2 : Int32) → (vp_in x16 scL ∧ ∀ x18 : Int32, x18 = scx x16.toNatClampNeg → (∀ x19 : Int32, x19 = v4 + (3 : Int32) → (vp_in x19 scL ∧ ∀ x21 : Int32, x21 = scx x19.toNatClampNeg → (ob S10 v2 11 ∧ (kk ≤ rm_L_law.cells ∧ nn ≤ rm_L_law.slots ∧ (P_X11_go v2 x15 x18 x21 (fun x24 S22 => Gr S10 S22 → (P_L_law_2342 scL scx Q X23 v1 v2 v3 v4 kk nn S22)) S10)))))))))) S))))))))
set_option maxRecDepth 20000 in
set_option maxHeartbeats 4000000 in
theorem T_L_law_1970 {X : CX} {Q : Int32 → HS → Prop} {scb scL : Nat} {scx : Nat → Int32} (C : Cx X cL_law RL 7 rm_L_law) (E : LE X scb scL scx Q) (ht : LD X) (hn : True) {X23 : Nat → Nat → Nat → Int32 → Nat → Nat → HS → Prop} (hX23 : ∀ (v1 : Nat) (v2 : Nat) (v3 : Nat) (v4 : Int32) (kk : Nat) (nn : Nat) (S : HS), X23 v1 v2 v3 v4 kk nn S → WS X 7 kk nn 23 [(0, .ref scb), (1, .ref v1), (2, .ref v2), (3, .ref v3), (4, .int v4)] [] S) {v1 : Nat} {v2 : Nat} {v3 : Nat} {v4 : Int32} {kk : Nat} {nn : Nat} {S : HS} (h : P_L_law_1970 scL scx Q X23 v1 v2 v3 v4 kk nn S) : WS X 7 kk nn 1970 [(0, .ref scb), (1, .ref v1), (2, .ref v2), (3, .ref v3), (4, .int v4)] [] S := by
  refine r_aload_n (pc := 1970) C dL_law_1970 1 rfl ?_
  refine r_aload_n (pc := 1971) C dL_law_1971 0 rfl ?_
  refine r_iload (pc := 1972) C dL_law_1972 4 rfl ?_
  refine r_iconst (pc := 1974) C (v := (1 : Int32)) dL_law_1974 (by decide) ?_
  refine r_iadd (pc := 1975) C dL_law_1975 ?_
  refine r_topi (fun x1 ex1 => ?_)
  have h := h x1 ex1
  obtain ⟨i2, h⟩ := h
  refine r_scLd (pc := 1976) C E i2 dL_law_1976 ?_
  refine r_topi (fun x3 ex3 => ?_)
  have h := h x3 ex3
  refine r_aload_n (pc := 1977) C dL_law_1977 0 rfl ?_
  refine r_iload (pc := 1978) C dL_law_1978 4 rfl ?_
  refine r_iconst (pc := 1980) C (v := (2 : Int32)) dL_law_1980 (by decide) ?_
  refine r_iadd (pc := 1981) C dL_law_1981 ?_
  refine r_topi (fun x4 ex4 => ?_)
  have h := h x4 ex4
  obtain ⟨i5, h⟩ := h
  refine r_scLd (pc := 1982) C E i5 dL_law_1982 ?_
  refine r_topi (fun x6 ex6 => ?_)
  have h := h x6 ex6
  refine r_aload_n (pc := 1983) C dL_law_1983 0 rfl ?_
  refine r_iload (pc := 1984) C dL_law_1984 4 rfl ?_
  refine r_iconst (pc := 1986) C (v := (3 : Int32)) dL_law_1986 (by decide) ?_
  refine r_iadd (pc := 1987) C dL_law_1987 ?_
  refine r_topi (fun x7 ex7 => ?_)
  have h := h x7 ex7
  obtain ⟨i8, h⟩ := h
  refine r_scLd (pc := 1988) C E i8 dL_law_1988 ?_
  refine r_topi (fun x9 ex9 => ?_)
  have h := h x9 ex9
  obtain ⟨o_v1, h⟩ := h
  obtain ⟨hk, hk2, h⟩ := h
  refine r_callVi0 (pc := 1989) C (rest := []) (a := v1) o_v1 [.int x3, .int x6, .int x9] yV_X9_go g_977 (c_X9_go h) dL_law_1989 rfl rfl (Nat.le_of_ble_eq_true rfl) ⟨by decide, by decide⟩ ⟨hk, hk2⟩ ⟨rfl, rfl⟩ (fun x12 S10 h g11 => ?_)
  have h := h g11
  have o_v1 := gr_ob g11 o_v1
  refine r_pop (pc := 1992) C dL_law_1992 rfl ?_
  refine r_aload_n (pc := 1993) C dL_law_1993 2 rfl ?_
  refine r_aload_n (pc := 1994) C dL_law_1994 0 rfl ?_
  refine r_iload (pc := 1995) C dL_law_1995 4 rfl ?_
  refine r_iconst (pc := 1997) C (v := (1 : Int32)) dL_law_1997 (by decide) ?_
  refine r_iadd (pc := 1998) C dL_law_1998 ?_
  refine r_topi (fun x13 ex13 => ?_)
  have h := h x13 ex13
  obtain ⟨i14, h⟩ := h
  refine r_scLd (pc := 1999) C E i14 dL_law_1999 ?_
  refine r_topi (fun x15 ex15 => ?_)
  have h := h x15 ex15
  refine r_aload_n (pc := 2000) C dL_law_2000 0 rfl ?_
  refine r_iload (pc := 2001) C dL_law_2001 4 rfl ?_
  refine r_iconst (pc := 2003) C (v := (2 : Int32)) dL_law_2003 (by decide) ?_
  refine r_iadd (pc := 2004) C dL_law_2004 ?_
  refine r_topi (fun x16 ex16 => ?_)
  have h := h x16 ex16
  obtain ⟨i17, h⟩ := h
  refine r_scLd (pc := 2005) C E i17 dL_law_2005 ?_
  refine r_topi (fun x18 ex18 => ?_)
  have h := h x18 ex18
  refine r_aload_n (pc := 2006) C dL_law_2006 0 rfl ?_
  refine r_iload (pc := 2007) C dL_law_2007 4 rfl ?_
  refine r_iconst (pc := 2009) C (v := (3 : Int32)) dL_law_2009 (by decide) ?_
  refine r_iadd (pc := 2010) C dL_law_2010 ?_
  refine r_topi (fun x19 ex19 => ?_)
  have h := h x19 ex19
  obtain ⟨i20, h⟩ := h
  refine r_scLd (pc := 2011) C E i20 dL_law_2011 ?_
  refine r_topi (fun x21 ex21 => ?_)
  have h := h x21 ex21
  obtain ⟨o_v2, h⟩ := h
  obtain ⟨hk, hk2, h⟩ := h
  refine r_callVi0 (pc := 2012) C (rest := []) (a := v2) o_v2 [.int x15, .int x18, .int x21] yV_X11_go g_1775 (c_X11_go h) dL_law_2012 rfl rfl (Nat.le_of_ble_eq_true rfl) ⟨by decide, by decide⟩ ⟨hk, hk2⟩ ⟨rfl, rfl⟩ (fun x24 S22 h g23 => ?_)
  have h := h g23
  have o_v1 := gr_ob g23 o_v1
  have o_v2 := gr_ob g23 o_v2
  refine r_pop (pc := 2015) C dL_law_2015 rfl ?_
  refine r_goto (pc := 2016) C (tgt := 2342) dL_law_2016 (by decide) ?_
  exact r_sub [0, 1, 2, 3, 4] rfl (T_L_law_2342 C E ht hn hX23 h)
def P_L_law_2019 (scL : Nat) (scx : Nat → Int32) (Q : Int32 → HS → Prop) (X23 : Nat → Nat → Nat → Int32 → Nat → Nat → HS → Prop) (v1 : Nat) (v2 : Nat) (v3 : Nat) (v4 : Int32) (kk : Nat) (nn : Nat) (S : HS) : Prop := ∀ x1 : Int32, x1 = v4 + (1 : Int32) → (vp_in x1 scL ∧ ∀ x3 : Int32, x3 = scx x1.toNatClampNeg → (ob S v1 9 ∧ (kk ≤ rm_L_law.cells ∧ nn ≤ rm_L_law.slots ∧ (P_X9_stay v1 x3 (fun x6 S4 => Gr S S4 → bl x6 → (∀ x7 : Int32, x7 = v4 + (1 : Int32) → (vp_in x7 scL ∧ ∀ x9 : Int32, x9 = scx x7.toNatClampNeg → (ob S4 v2 11 ∧ (kk ≤ rm_L_law.cells ∧ nn ≤ rm_L_law.slots ∧ (P_X11_stay v2 x9 (fun x12 S10 => Gr S4 S10 → bl x12 → (P_L_law_2342 scL scx Q X23 v1 v2 v3 v4 kk nn S10)) S4)))))) S))))
set_option maxRecDepth 20000 in
set_option maxHeartbeats 4000000 in
theorem T_L_law_2019 {X : CX} {Q : Int32 → HS → Prop} {scb scL : Nat} {scx : Nat → Int32} (C : Cx X cL_law RL 7 rm_L_law) (E : LE X scb scL scx Q) (ht : LD X) (hn : True) {X23 : Nat → Nat → Nat → Int32 → Nat → Nat → HS → Prop} (hX23 : ∀ (v1 : Nat) (v2 : Nat) (v3 : Nat) (v4 : Int32) (kk : Nat) (nn : Nat) (S : HS), X23 v1 v2 v3 v4 kk nn S → WS X 7 kk nn 23 [(0, .ref scb), (1, .ref v1), (2, .ref v2), (3, .ref v3), (4, .int v4)] [] S) {v1 : Nat} {v2 : Nat} {v3 : Nat} {v4 : Int32} {kk : Nat} {nn : Nat} {S : HS} (h : P_L_law_2019 scL scx Q X23 v1 v2 v3 v4 kk nn S) : WS X 7 kk nn 2019 [(0, .ref scb), (1, .ref v1), (2, .ref v2), (3, .ref v3), (4, .int v4)] [] S := by
  refine r_aload_n (pc := 2019) C dL_law_2019 1 rfl ?_
  refine r_aload_n (pc := 2020) C dL_law_2020 0 rfl ?_
  refine r_iload (pc := 2021) C dL_law_2021 4 rfl ?_
  refine r_iconst (pc := 2023) C (v := (1 : Int32)) dL_law_2023 (by decide) ?_
  refine r_iadd (pc := 2024) C dL_law_2024 ?_
  refine r_topi (fun x1 ex1 => ?_)
  have h := h x1 ex1
  obtain ⟨i2, h⟩ := h
  refine r_scLd (pc := 2025) C E i2 dL_law_2025 ?_
  refine r_topi (fun x3 ex3 => ?_)
  have h := h x3 ex3
  obtain ⟨o_v1, h⟩ := h
  obtain ⟨hk, hk2, h⟩ := h
  refine r_callVi0 (pc := 2026) C (rest := []) (a := v1) o_v1 [.int x3] yV_X9_stay g_1004 (c_X9_stay h) dL_law_2026 rfl rfl (Nat.le_of_ble_eq_true rfl) ⟨by decide, by decide⟩ ⟨hk, hk2⟩ ⟨rfl, rfl⟩ (fun x6 S4 h g5 => ?_)
  have bx6 := h.1
  have h := h.2 g5 bx6
  have o_v1 := gr_ob g5 o_v1
  refine r_pop (pc := 2029) C dL_law_2029 rfl ?_
  refine r_aload_n (pc := 2030) C dL_law_2030 2 rfl ?_
  refine r_aload_n (pc := 2031) C dL_law_2031 0 rfl ?_
  refine r_iload (pc := 2032) C dL_law_2032 4 rfl ?_
  refine r_iconst (pc := 2034) C (v := (1 : Int32)) dL_law_2034 (by decide) ?_
  refine r_iadd (pc := 2035) C dL_law_2035 ?_
  refine r_topi (fun x7 ex7 => ?_)
  have h := h x7 ex7
  obtain ⟨i8, h⟩ := h
  refine r_scLd (pc := 2036) C E i8 dL_law_2036 ?_
  refine r_topi (fun x9 ex9 => ?_)
  have h := h x9 ex9
  obtain ⟨o_v2, h⟩ := h
  obtain ⟨hk, hk2, h⟩ := h
  refine r_callVi0 (pc := 2037) C (rest := []) (a := v2) o_v2 [.int x9] yV_X11_stay g_1791 (c_X11_stay h) dL_law_2037 rfl rfl (Nat.le_of_ble_eq_true rfl) ⟨by decide, by decide⟩ ⟨hk, hk2⟩ ⟨rfl, rfl⟩ (fun x12 S10 h g11 => ?_)
  have bx12 := h.1
  have h := h.2 g11 bx12
  have o_v1 := gr_ob g11 o_v1
  have o_v2 := gr_ob g11 o_v2
  refine r_pop (pc := 2040) C dL_law_2040 rfl ?_
  refine r_goto (pc := 2041) C (tgt := 2342) dL_law_2041 (by decide) ?_
  exact r_sub [0, 1, 2, 3, 4] rfl (T_L_law_2342 C E ht hn hX23 h)
def P_L_law_2090 (scL : Nat) (scx : Nat → Int32) (Q : Int32 → HS → Prop) (X23 : Nat → Nat → Nat → Int32 → Nat → Nat → HS → Prop) (v1 : Nat) (v2 : Nat) (v3 : Nat) (v4 : Int32) (s0 : Nat) (s1 : Int32) (s2 : Int32) (kk : Nat) (nn : Nat) (S : HS) : Prop := ob S s0 11 ∧ (kk ≤ rm_L_law.cells ∧ nn ≤ rm_L_law.slots ∧ (P_X11_got s0 s1 s2 (fun x3 S1 => Gr S S1 → (P_L_law_2342 scL scx Q X23 v1 v2 v3 v4 kk nn S1)) S))
set_option maxRecDepth 20000 in
set_option maxHeartbeats 4000000 in
theorem T_L_law_2090 {X : CX} {Q : Int32 → HS → Prop} {scb scL : Nat} {scx : Nat → Int32} (C : Cx X cL_law RL 7 rm_L_law) (E : LE X scb scL scx Q) (ht : LD X) (hn : True) {X23 : Nat → Nat → Nat → Int32 → Nat → Nat → HS → Prop} (hX23 : ∀ (v1 : Nat) (v2 : Nat) (v3 : Nat) (v4 : Int32) (kk : Nat) (nn : Nat) (S : HS), X23 v1 v2 v3 v4 kk nn S → WS X 7 kk nn 23 [(0, .ref scb), (1, .ref v1), (2, .ref v2), (3, .ref v3), (4, .int v4)] [] S) {v1 : Nat} {v2 : Nat} {v3 : Nat} {v4 : Int32} {s0 : Nat} {s1 : Int32} {s2 : Int32} {kk : Nat} {nn : Nat} {S : HS} (h : P_L_law_2090 scL scx Q X23 v1 v2 v3 v4 s0 s1 s2 kk nn S) : WS X 7 kk nn 2090 [(0, .ref scb), (1, .ref v1), (2, .ref v2), (3, .ref v3), (4, .int v4)] [.int s2, .int s1, .ref s0] S := by
  obtain ⟨o_s0, h⟩ := h
  obtain ⟨hk, hk2, h⟩ := h
  refine r_callVl0 (pc := 2090) C (rest := []) (a := s0) o_s0 [.int s1, .int s2] yV_X11_got g_1804 (c_X11_got h) dL_law_2090 rfl rfl (Nat.le_of_ble_eq_true rfl) ⟨by decide, by decide⟩ ⟨hk, hk2⟩ ⟨rfl, rfl⟩ (fun x3 S1 h g2 => ?_)
  have h := h g2
  have o_s0 := gr_ob g2 o_s0
  refine r_pop2 (pc := 2093) C dL_law_2093 rfl ?_
  refine r_goto (pc := 2094) C (tgt := 2342) dL_law_2094 (by decide) ?_
  exact r_sub [0, 1, 2, 3, 4] rfl (T_L_law_2342 C E ht hn hX23 h)
def P_L_law_2065 (scL : Nat) (scx : Nat → Int32) (Q : Int32 → HS → Prop) (X23 : Nat → Nat → Nat → Int32 → Nat → Nat → HS → Prop) (v1 : Nat) (v2 : Nat) (v3 : Nat) (v4 : Int32) (s0 : Nat) (s1 : Int32) (s2 : Int32) (kk : Nat) (nn : Nat) (S : HS) : Prop := ob S s0 9 ∧ (kk ≤ rm_L_law.cells ∧ nn ≤ rm_L_law.slots ∧ (P_X9_got s0 s1 s2 (fun x3 S1 => Gr S S1 → (∀ x4 : Int32, x4 = v4 + (1 : Int32) → (vp_in x4 scL ∧ ∀ x6 : Int32, x6 = scx x4.toNatClampNeg → (∀ x7 : Int32, x7 = v4 + (2 : Int32) → (vp_in x7 scL ∧ ∀ x9 : Int32, x9 = scx x7.toNatClampNeg → (((x9 = 0) → (P_L_law_2090 scL scx Q X23 v1 v2 v3 v4 v2 x6 (0 : Int32) kk nn S1)) ∧ ((¬ x9 = 0) → (P_L_law_2090 scL scx Q X23 v1 v2 v3 v4 v2 x6 (1 : Int32) kk nn S1)))))))) S))
set_option maxRecDepth 20000 in
set_option maxHeartbeats 4000000 in
theorem T_L_law_2065 {X : CX} {Q : Int32 → HS → Prop} {scb scL : Nat} {scx : Nat → Int32} (C : Cx X cL_law RL 7 rm_L_law) (E : LE X scb scL scx Q) (ht : LD X) (hn : True) {X23 : Nat → Nat → Nat → Int32 → Nat → Nat → HS → Prop} (hX23 : ∀ (v1 : Nat) (v2 : Nat) (v3 : Nat) (v4 : Int32) (kk : Nat) (nn : Nat) (S : HS), X23 v1 v2 v3 v4 kk nn S → WS X 7 kk nn 23 [(0, .ref scb), (1, .ref v1), (2, .ref v2), (3, .ref v3), (4, .int v4)] [] S) {v1 : Nat} {v2 : Nat} {v3 : Nat} {v4 : Int32} {s0 : Nat} {s1 : Int32} {s2 : Int32} {kk : Nat} {nn : Nat} {S : HS} (h : P_L_law_2065 scL scx Q X23 v1 v2 v3 v4 s0 s1 s2 kk nn S) : WS X 7 kk nn 2065 [(0, .ref scb), (1, .ref v1), (2, .ref v2), (3, .ref v3), (4, .int v4)] [.int s2, .int s1, .ref s0] S := by
  obtain ⟨o_s0, h⟩ := h
  obtain ⟨hk, hk2, h⟩ := h
  refine r_callVl0 (pc := 2065) C (rest := []) (a := s0) o_s0 [.int s1, .int s2] yV_X9_got g_1014 (c_X9_got h) dL_law_2065 rfl rfl (Nat.le_of_ble_eq_true rfl) ⟨by decide, by decide⟩ ⟨hk, hk2⟩ ⟨rfl, rfl⟩ (fun x3 S1 h g2 => ?_)
  have h := h g2
  have o_s0 := gr_ob g2 o_s0
  refine r_pop2 (pc := 2068) C dL_law_2068 rfl ?_
  refine r_aload_n (pc := 2069) C dL_law_2069 2 rfl ?_
  refine r_aload_n (pc := 2070) C dL_law_2070 0 rfl ?_
  refine r_iload (pc := 2071) C dL_law_2071 4 rfl ?_
  refine r_iconst (pc := 2073) C (v := (1 : Int32)) dL_law_2073 (by decide) ?_
  refine r_iadd (pc := 2074) C dL_law_2074 ?_
  refine r_topi (fun x4 ex4 => ?_)
  have h := h x4 ex4
  obtain ⟨i5, h⟩ := h
  refine r_scLd (pc := 2075) C E i5 dL_law_2075 ?_
  refine r_topi (fun x6 ex6 => ?_)
  have h := h x6 ex6
  refine r_aload_n (pc := 2076) C dL_law_2076 0 rfl ?_
  refine r_iload (pc := 2077) C dL_law_2077 4 rfl ?_
  refine r_iconst (pc := 2079) C (v := (2 : Int32)) dL_law_2079 (by decide) ?_
  refine r_iadd (pc := 2080) C dL_law_2080 ?_
  refine r_topi (fun x7 ex7 => ?_)
  have h := h x7 ex7
  obtain ⟨i8, h⟩ := h
  refine r_scLd (pc := 2081) C E i8 dL_law_2081 ?_
  refine r_topi (fun x9 ex9 => ?_)
  have h := h x9 ex9
  refine r_if_eq (pc := 2082) C (tgt := 2089) dL_law_2082 (by decide) (fun c10 => ?_) (fun c10 => ?_)
  · have h := h.1 c10
    refine r_iconst (pc := 2089) C (v := (0 : Int32)) dL_law_2089 (by decide) ?_
    exact r_sub [0, 1, 2, 3, 4] rfl (T_L_law_2090 C E ht hn hX23 h)
  · have h := h.2 c10
    refine r_iconst (pc := 2085) C (v := (1 : Int32)) dL_law_2085 (by decide) ?_
    refine r_goto (pc := 2086) C (tgt := 2090) dL_law_2086 (by decide) ?_
    exact r_sub [0, 1, 2, 3, 4] rfl (T_L_law_2090 C E ht hn hX23 h)
def P_L_law_2044 (scL : Nat) (scx : Nat → Int32) (Q : Int32 → HS → Prop) (X23 : Nat → Nat → Nat → Int32 → Nat → Nat → HS → Prop) (v1 : Nat) (v2 : Nat) (v3 : Nat) (v4 : Int32) (kk : Nat) (nn : Nat) (S : HS) : Prop := ∀ x1 : Int32, x1 = v4 + (1 : Int32) → (vp_in x1 scL ∧ ∀ x3 : Int32, x3 = scx x1.toNatClampNeg → (∀ x4 : Int32, x4 = v4 + (2 : Int32) → (vp_in x4 scL ∧ ∀ x6 : Int32, x6 = scx x4.toNatClampNeg → (((x6 = 0) → (P_L_law_2065 scL scx Q X23 v1 v2 v3 v4 v1 x3 (0 : Int32) kk nn S)) ∧ ((¬ x6 = 0) → (P_L_law_2065 scL scx Q X23 v1 v2 v3 v4 v1 x3 (1 : Int32) kk nn S))))))
set_option maxRecDepth 20000 in
set_option maxHeartbeats 4000000 in
theorem T_L_law_2044 {X : CX} {Q : Int32 → HS → Prop} {scb scL : Nat} {scx : Nat → Int32} (C : Cx X cL_law RL 7 rm_L_law) (E : LE X scb scL scx Q) (ht : LD X) (hn : True) {X23 : Nat → Nat → Nat → Int32 → Nat → Nat → HS → Prop} (hX23 : ∀ (v1 : Nat) (v2 : Nat) (v3 : Nat) (v4 : Int32) (kk : Nat) (nn : Nat) (S : HS), X23 v1 v2 v3 v4 kk nn S → WS X 7 kk nn 23 [(0, .ref scb), (1, .ref v1), (2, .ref v2), (3, .ref v3), (4, .int v4)] [] S) {v1 : Nat} {v2 : Nat} {v3 : Nat} {v4 : Int32} {kk : Nat} {nn : Nat} {S : HS} (h : P_L_law_2044 scL scx Q X23 v1 v2 v3 v4 kk nn S) : WS X 7 kk nn 2044 [(0, .ref scb), (1, .ref v1), (2, .ref v2), (3, .ref v3), (4, .int v4)] [] S := by
  refine r_aload_n (pc := 2044) C dL_law_2044 1 rfl ?_
  refine r_aload_n (pc := 2045) C dL_law_2045 0 rfl ?_
  refine r_iload (pc := 2046) C dL_law_2046 4 rfl ?_
  refine r_iconst (pc := 2048) C (v := (1 : Int32)) dL_law_2048 (by decide) ?_
  refine r_iadd (pc := 2049) C dL_law_2049 ?_
  refine r_topi (fun x1 ex1 => ?_)
  have h := h x1 ex1
  obtain ⟨i2, h⟩ := h
  refine r_scLd (pc := 2050) C E i2 dL_law_2050 ?_
  refine r_topi (fun x3 ex3 => ?_)
  have h := h x3 ex3
  refine r_aload_n (pc := 2051) C dL_law_2051 0 rfl ?_
  refine r_iload (pc := 2052) C dL_law_2052 4 rfl ?_
  refine r_iconst (pc := 2054) C (v := (2 : Int32)) dL_law_2054 (by decide) ?_
  refine r_iadd (pc := 2055) C dL_law_2055 ?_
  refine r_topi (fun x4 ex4 => ?_)
  have h := h x4 ex4
  obtain ⟨i5, h⟩ := h
  refine r_scLd (pc := 2056) C E i5 dL_law_2056 ?_
  refine r_topi (fun x6 ex6 => ?_)
  have h := h x6 ex6
  refine r_if_eq (pc := 2057) C (tgt := 2064) dL_law_2057 (by decide) (fun c7 => ?_) (fun c7 => ?_)
  · have h := h.1 c7
    refine r_iconst (pc := 2064) C (v := (0 : Int32)) dL_law_2064 (by decide) ?_
    exact r_sub [0, 1, 2, 3, 4] rfl (T_L_law_2065 C E ht hn hX23 h)
  · have h := h.2 c7
    refine r_iconst (pc := 2060) C (v := (1 : Int32)) dL_law_2060 (by decide) ?_
    refine r_goto (pc := 2061) C (tgt := 2065) dL_law_2061 (by decide) ?_
    exact r_sub [0, 1, 2, 3, 4] rfl (T_L_law_2065 C E ht hn hX23 h)
def P_L_law_2131 (scL : Nat) (scx : Nat → Int32) (Q : Int32 → HS → Prop) (X23 : Nat → Nat → Nat → Int32 → Nat → Nat → HS → Prop) (v1 : Nat) (v2 : Nat) (v3 : Nat) (v4 : Int32) (s0 : Nat) (s1 : Int32) (kk : Nat) (nn : Nat) (S : HS) : Prop := ob S s0 11 ∧ (kk ≤ rm_L_law.cells ∧ nn ≤ rm_L_law.slots ∧ (P_X11_wetness s0 s1 (fun x3 S1 => Gr S S1 → (P_L_law_2342 scL scx Q X23 v1 v2 v3 v4 kk nn S1)) S))
set_option maxRecDepth 20000 in
set_option maxHeartbeats 4000000 in
theorem T_L_law_2131 {X : CX} {Q : Int32 → HS → Prop} {scb scL : Nat} {scx : Nat → Int32} (C : Cx X cL_law RL 7 rm_L_law) (E : LE X scb scL scx Q) (ht : LD X) (hn : True) {X23 : Nat → Nat → Nat → Int32 → Nat → Nat → HS → Prop} (hX23 : ∀ (v1 : Nat) (v2 : Nat) (v3 : Nat) (v4 : Int32) (kk : Nat) (nn : Nat) (S : HS), X23 v1 v2 v3 v4 kk nn S → WS X 7 kk nn 23 [(0, .ref scb), (1, .ref v1), (2, .ref v2), (3, .ref v3), (4, .int v4)] [] S) {v1 : Nat} {v2 : Nat} {v3 : Nat} {v4 : Int32} {s0 : Nat} {s1 : Int32} {kk : Nat} {nn : Nat} {S : HS} (h : P_L_law_2131 scL scx Q X23 v1 v2 v3 v4 s0 s1 kk nn S) : WS X 7 kk nn 2131 [(0, .ref scb), (1, .ref v1), (2, .ref v2), (3, .ref v3), (4, .int v4)] [.int s1, .ref s0] S := by
  obtain ⟨o_s0, h⟩ := h
  obtain ⟨hk, hk2, h⟩ := h
  refine r_callVl0 (pc := 2131) C (rest := []) (a := s0) o_s0 [.int s1] yV_X11_wetness g_1808 (c_X11_wetness h) dL_law_2131 rfl rfl (Nat.le_of_ble_eq_true rfl) ⟨by decide, by decide⟩ ⟨hk, hk2⟩ ⟨rfl, rfl⟩ (fun x3 S1 h g2 => ?_)
  have h := h g2
  have o_s0 := gr_ob g2 o_s0
  refine r_pop2 (pc := 2134) C dL_law_2134 rfl ?_
  refine r_goto (pc := 2135) C (tgt := 2342) dL_law_2135 (by decide) ?_
  exact r_sub [0, 1, 2, 3, 4] rfl (T_L_law_2342 C E ht hn hX23 h)
def P_L_law_2112 (scL : Nat) (scx : Nat → Int32) (Q : Int32 → HS → Prop) (X23 : Nat → Nat → Nat → Int32 → Nat → Nat → HS → Prop) (v1 : Nat) (v2 : Nat) (v3 : Nat) (v4 : Int32) (s0 : Nat) (s1 : Int32) (kk : Nat) (nn : Nat) (S : HS) : Prop := ob S s0 9 ∧ (kk ≤ rm_L_law.cells ∧ nn ≤ rm_L_law.slots ∧ (P_X9_wetness s0 s1 (fun x3 S1 => Gr S S1 → (∀ x4 : Int32, x4 = v4 + (1 : Int32) → (vp_in x4 scL ∧ ∀ x6 : Int32, x6 = scx x4.toNatClampNeg → (((x6 = 0) → (P_L_law_2131 scL scx Q X23 v1 v2 v3 v4 v2 (0 : Int32) kk nn S1)) ∧ ((¬ x6 = 0) → (P_L_law_2131 scL scx Q X23 v1 v2 v3 v4 v2 (1 : Int32) kk nn S1)))))) S))
set_option maxRecDepth 20000 in
set_option maxHeartbeats 4000000 in
theorem T_L_law_2112 {X : CX} {Q : Int32 → HS → Prop} {scb scL : Nat} {scx : Nat → Int32} (C : Cx X cL_law RL 7 rm_L_law) (E : LE X scb scL scx Q) (ht : LD X) (hn : True) {X23 : Nat → Nat → Nat → Int32 → Nat → Nat → HS → Prop} (hX23 : ∀ (v1 : Nat) (v2 : Nat) (v3 : Nat) (v4 : Int32) (kk : Nat) (nn : Nat) (S : HS), X23 v1 v2 v3 v4 kk nn S → WS X 7 kk nn 23 [(0, .ref scb), (1, .ref v1), (2, .ref v2), (3, .ref v3), (4, .int v4)] [] S) {v1 : Nat} {v2 : Nat} {v3 : Nat} {v4 : Int32} {s0 : Nat} {s1 : Int32} {kk : Nat} {nn : Nat} {S : HS} (h : P_L_law_2112 scL scx Q X23 v1 v2 v3 v4 s0 s1 kk nn S) : WS X 7 kk nn 2112 [(0, .ref scb), (1, .ref v1), (2, .ref v2), (3, .ref v3), (4, .int v4)] [.int s1, .ref s0] S := by
  obtain ⟨o_s0, h⟩ := h
  obtain ⟨hk, hk2, h⟩ := h
  refine r_callVl0 (pc := 2112) C (rest := []) (a := s0) o_s0 [.int s1] yV_X9_wetness g_1018 (c_X9_wetness h) dL_law_2112 rfl rfl (Nat.le_of_ble_eq_true rfl) ⟨by decide, by decide⟩ ⟨hk, hk2⟩ ⟨rfl, rfl⟩ (fun x3 S1 h g2 => ?_)
  have h := h g2
  have o_s0 := gr_ob g2 o_s0
  refine r_pop2 (pc := 2115) C dL_law_2115 rfl ?_
  refine r_aload_n (pc := 2116) C dL_law_2116 2 rfl ?_
  refine r_aload_n (pc := 2117) C dL_law_2117 0 rfl ?_
  refine r_iload (pc := 2118) C dL_law_2118 4 rfl ?_
  refine r_iconst (pc := 2120) C (v := (1 : Int32)) dL_law_2120 (by decide) ?_
  refine r_iadd (pc := 2121) C dL_law_2121 ?_
  refine r_topi (fun x4 ex4 => ?_)
  have h := h x4 ex4
  obtain ⟨i5, h⟩ := h
  refine r_scLd (pc := 2122) C E i5 dL_law_2122 ?_
  refine r_topi (fun x6 ex6 => ?_)
  have h := h x6 ex6
  refine r_if_eq (pc := 2123) C (tgt := 2130) dL_law_2123 (by decide) (fun c7 => ?_) (fun c7 => ?_)
  · have h := h.1 c7
    refine r_iconst (pc := 2130) C (v := (0 : Int32)) dL_law_2130 (by decide) ?_
    exact r_sub [0, 1, 2, 3, 4] rfl (T_L_law_2131 C E ht hn hX23 h)
  · have h := h.2 c7
    refine r_iconst (pc := 2126) C (v := (1 : Int32)) dL_law_2126 (by decide) ?_
    refine r_goto (pc := 2127) C (tgt := 2131) dL_law_2127 (by decide) ?_
    exact r_sub [0, 1, 2, 3, 4] rfl (T_L_law_2131 C E ht hn hX23 h)
def P_L_law_2097 (scL : Nat) (scx : Nat → Int32) (Q : Int32 → HS → Prop) (X23 : Nat → Nat → Nat → Int32 → Nat → Nat → HS → Prop) (v1 : Nat) (v2 : Nat) (v3 : Nat) (v4 : Int32) (kk : Nat) (nn : Nat) (S : HS) : Prop := ∀ x1 : Int32, x1 = v4 + (1 : Int32) → (vp_in x1 scL ∧ ∀ x3 : Int32, x3 = scx x1.toNatClampNeg → (((x3 = 0) → (P_L_law_2112 scL scx Q X23 v1 v2 v3 v4 v1 (0 : Int32) kk nn S)) ∧ ((¬ x3 = 0) → (P_L_law_2112 scL scx Q X23 v1 v2 v3 v4 v1 (1 : Int32) kk nn S))))
set_option maxRecDepth 20000 in
set_option maxHeartbeats 4000000 in
theorem T_L_law_2097 {X : CX} {Q : Int32 → HS → Prop} {scb scL : Nat} {scx : Nat → Int32} (C : Cx X cL_law RL 7 rm_L_law) (E : LE X scb scL scx Q) (ht : LD X) (hn : True) {X23 : Nat → Nat → Nat → Int32 → Nat → Nat → HS → Prop} (hX23 : ∀ (v1 : Nat) (v2 : Nat) (v3 : Nat) (v4 : Int32) (kk : Nat) (nn : Nat) (S : HS), X23 v1 v2 v3 v4 kk nn S → WS X 7 kk nn 23 [(0, .ref scb), (1, .ref v1), (2, .ref v2), (3, .ref v3), (4, .int v4)] [] S) {v1 : Nat} {v2 : Nat} {v3 : Nat} {v4 : Int32} {kk : Nat} {nn : Nat} {S : HS} (h : P_L_law_2097 scL scx Q X23 v1 v2 v3 v4 kk nn S) : WS X 7 kk nn 2097 [(0, .ref scb), (1, .ref v1), (2, .ref v2), (3, .ref v3), (4, .int v4)] [] S := by
  refine r_aload_n (pc := 2097) C dL_law_2097 1 rfl ?_
  refine r_aload_n (pc := 2098) C dL_law_2098 0 rfl ?_
  refine r_iload (pc := 2099) C dL_law_2099 4 rfl ?_
  refine r_iconst (pc := 2101) C (v := (1 : Int32)) dL_law_2101 (by decide) ?_
  refine r_iadd (pc := 2102) C dL_law_2102 ?_
  refine r_topi (fun x1 ex1 => ?_)
  have h := h x1 ex1
  obtain ⟨i2, h⟩ := h
  refine r_scLd (pc := 2103) C E i2 dL_law_2103 ?_
  refine r_topi (fun x3 ex3 => ?_)
  have h := h x3 ex3
  refine r_if_eq (pc := 2104) C (tgt := 2111) dL_law_2104 (by decide) (fun c4 => ?_) (fun c4 => ?_)
  · have h := h.1 c4
    refine r_iconst (pc := 2111) C (v := (0 : Int32)) dL_law_2111 (by decide) ?_
    exact r_sub [0, 1, 2, 3, 4] rfl (T_L_law_2112 C E ht hn hX23 h)
  · have h := h.2 c4
    refine r_iconst (pc := 2107) C (v := (1 : Int32)) dL_law_2107 (by decide) ?_
    refine r_goto (pc := 2108) C (tgt := 2112) dL_law_2108 (by decide) ?_
    exact r_sub [0, 1, 2, 3, 4] rfl (T_L_law_2112 C E ht hn hX23 h)
def P_L_law_2138 (scL : Nat) (scx : Nat → Int32) (Q : Int32 → HS → Prop) (X23 : Nat → Nat → Nat → Int32 → Nat → Nat → HS → Prop) (v1 : Nat) (v2 : Nat) (v3 : Nat) (v4 : Int32) (kk : Nat) (nn : Nat) (S : HS) : Prop := ob S v1 9 ∧ (kk ≤ rm_L_law.cells ∧ nn ≤ rm_L_law.slots ∧ (P_X9_soaked v1 (fun x3 S1 => Gr S S1 → (ob S1 v2 11 ∧ (kk ≤ rm_L_law.cells ∧ nn ≤ rm_L_law.slots ∧ (P_X11_soaked v2 (fun x6 S4 => Gr S1 S4 → (P_L_law_2342 scL scx Q X23 v1 v2 v3 v4 kk nn S4)) S1)))) S))
set_option maxRecDepth 20000 in
set_option maxHeartbeats 4000000 in
theorem T_L_law_2138 {X : CX} {Q : Int32 → HS → Prop} {scb scL : Nat} {scx : Nat → Int32} (C : Cx X cL_law RL 7 rm_L_law) (E : LE X scb scL scx Q) (ht : LD X) (hn : True) {X23 : Nat → Nat → Nat → Int32 → Nat → Nat → HS → Prop} (hX23 : ∀ (v1 : Nat) (v2 : Nat) (v3 : Nat) (v4 : Int32) (kk : Nat) (nn : Nat) (S : HS), X23 v1 v2 v3 v4 kk nn S → WS X 7 kk nn 23 [(0, .ref scb), (1, .ref v1), (2, .ref v2), (3, .ref v3), (4, .int v4)] [] S) {v1 : Nat} {v2 : Nat} {v3 : Nat} {v4 : Int32} {kk : Nat} {nn : Nat} {S : HS} (h : P_L_law_2138 scL scx Q X23 v1 v2 v3 v4 kk nn S) : WS X 7 kk nn 2138 [(0, .ref scb), (1, .ref v1), (2, .ref v2), (3, .ref v3), (4, .int v4)] [] S := by
  refine r_aload_n (pc := 2138) C dL_law_2138 1 rfl ?_
  obtain ⟨o_v1, h⟩ := h
  obtain ⟨hk, hk2, h⟩ := h
  refine r_callVi0 (pc := 2139) C (rest := []) (a := v1) o_v1 [] yV_X9_soaked g_1032 (c_X9_soaked h) dL_law_2139 rfl rfl (Nat.le_of_ble_eq_true rfl) ⟨by decide, by decide⟩ ⟨hk, hk2⟩ ⟨rfl, rfl⟩ (fun x3 S1 h g2 => ?_)
  have h := h g2
  have o_v1 := gr_ob g2 o_v1
  refine r_pop (pc := 2142) C dL_law_2142 rfl ?_
  refine r_aload_n (pc := 2143) C dL_law_2143 2 rfl ?_
  obtain ⟨o_v2, h⟩ := h
  obtain ⟨hk, hk2, h⟩ := h
  refine r_callVi0 (pc := 2144) C (rest := []) (a := v2) o_v2 [] yV_X11_soaked g_1820 (c_X11_soaked h) dL_law_2144 rfl rfl (Nat.le_of_ble_eq_true rfl) ⟨by decide, by decide⟩ ⟨hk, hk2⟩ ⟨rfl, rfl⟩ (fun x6 S4 h g5 => ?_)
  have h := h g5
  have o_v1 := gr_ob g5 o_v1
  have o_v2 := gr_ob g5 o_v2
  refine r_pop (pc := 2147) C dL_law_2147 rfl ?_
  refine r_goto (pc := 2148) C (tgt := 2342) dL_law_2148 (by decide) ?_
  exact r_sub [0, 1, 2, 3, 4] rfl (T_L_law_2342 C E ht hn hX23 h)
def P_L_law_2151 (scL : Nat) (scx : Nat → Int32) (Q : Int32 → HS → Prop) (X23 : Nat → Nat → Nat → Int32 → Nat → Nat → HS → Prop) (v1 : Nat) (v2 : Nat) (v3 : Nat) (v4 : Int32) (kk : Nat) (nn : Nat) (S : HS) : Prop := ob S v1 9 ∧ (kk ≤ rm_L_law.cells ∧ nn ≤ rm_L_law.slots ∧ (P_X9_undo v1 (fun x3 S1 => Gr S S1 → bl x3 → (ob S1 v2 11 ∧ (kk ≤ rm_L_law.cells ∧ nn ≤ rm_L_law.slots ∧ (P_X11_undo v2 (fun x6 S4 => Gr S1 S4 → bl x6 → (P_L_law_2342 scL scx Q X23 v1 v2 v3 v4 kk nn S4)) S1)))) S))
set_option maxRecDepth 20000 in
set_option maxHeartbeats 4000000 in
theorem T_L_law_2151 {X : CX} {Q : Int32 → HS → Prop} {scb scL : Nat} {scx : Nat → Int32} (C : Cx X cL_law RL 7 rm_L_law) (E : LE X scb scL scx Q) (ht : LD X) (hn : True) {X23 : Nat → Nat → Nat → Int32 → Nat → Nat → HS → Prop} (hX23 : ∀ (v1 : Nat) (v2 : Nat) (v3 : Nat) (v4 : Int32) (kk : Nat) (nn : Nat) (S : HS), X23 v1 v2 v3 v4 kk nn S → WS X 7 kk nn 23 [(0, .ref scb), (1, .ref v1), (2, .ref v2), (3, .ref v3), (4, .int v4)] [] S) {v1 : Nat} {v2 : Nat} {v3 : Nat} {v4 : Int32} {kk : Nat} {nn : Nat} {S : HS} (h : P_L_law_2151 scL scx Q X23 v1 v2 v3 v4 kk nn S) : WS X 7 kk nn 2151 [(0, .ref scb), (1, .ref v1), (2, .ref v2), (3, .ref v3), (4, .int v4)] [] S := by
  refine r_aload_n (pc := 2151) C dL_law_2151 1 rfl ?_
  obtain ⟨o_v1, h⟩ := h
  obtain ⟨hk, hk2, h⟩ := h
  refine r_callVi0 (pc := 2152) C (rest := []) (a := v1) o_v1 [] yV_X9_undo g_1036 (c_X9_undo h) dL_law_2152 rfl rfl (Nat.le_of_ble_eq_true rfl) ⟨by decide, by decide⟩ ⟨hk, hk2⟩ ⟨rfl, rfl⟩ (fun x3 S1 h g2 => ?_)
  have bx3 := h.1
  have h := h.2 g2 bx3
  have o_v1 := gr_ob g2 o_v1
  refine r_pop (pc := 2155) C dL_law_2155 rfl ?_
  refine r_aload_n (pc := 2156) C dL_law_2156 2 rfl ?_
  obtain ⟨o_v2, h⟩ := h
  obtain ⟨hk, hk2, h⟩ := h
  refine r_callVi0 (pc := 2157) C (rest := []) (a := v2) o_v2 [] yV_X11_undo g_1824 (c_X11_undo h) dL_law_2157 rfl rfl (Nat.le_of_ble_eq_true rfl) ⟨by decide, by decide⟩ ⟨hk, hk2⟩ ⟨rfl, rfl⟩ (fun x6 S4 h g5 => ?_)
  have bx6 := h.1
  have h := h.2 g5 bx6
  have o_v1 := gr_ob g5 o_v1
  have o_v2 := gr_ob g5 o_v2
  refine r_pop (pc := 2160) C dL_law_2160 rfl ?_
  refine r_goto (pc := 2161) C (tgt := 2342) dL_law_2161 (by decide) ?_
  exact r_sub [0, 1, 2, 3, 4] rfl (T_L_law_2342 C E ht hn hX23 h)
def P_L_law_2164 (scL : Nat) (scx : Nat → Int32) (Q : Int32 → HS → Prop) (X23 : Nat → Nat → Nat → Int32 → Nat → Nat → HS → Prop) (v1 : Nat) (v2 : Nat) (v3 : Nat) (v4 : Int32) (kk : Nat) (nn : Nat) (S : HS) : Prop := ob S v1 9 ∧ (kk ≤ rm_L_law.cells ∧ nn ≤ rm_L_law.slots ∧ (P_X9_mark v1 (fun x3 S1 => Gr S S1 → (ob S1 v2 11 ∧ (kk ≤ rm_L_law.cells ∧ nn ≤ rm_L_law.slots ∧ (P_X11_mark v2 (fun x6 S4 => Gr S1 S4 → (P_L_law_2342 scL scx Q X23 v1 v2 v3 v4 kk nn S4)) S1)))) S))
set_option maxRecDepth 20000 in
set_option maxHeartbeats 4000000 in
theorem T_L_law_2164 {X : CX} {Q : Int32 → HS → Prop} {scb scL : Nat} {scx : Nat → Int32} (C : Cx X cL_law RL 7 rm_L_law) (E : LE X scb scL scx Q) (ht : LD X) (hn : True) {X23 : Nat → Nat → Nat → Int32 → Nat → Nat → HS → Prop} (hX23 : ∀ (v1 : Nat) (v2 : Nat) (v3 : Nat) (v4 : Int32) (kk : Nat) (nn : Nat) (S : HS), X23 v1 v2 v3 v4 kk nn S → WS X 7 kk nn 23 [(0, .ref scb), (1, .ref v1), (2, .ref v2), (3, .ref v3), (4, .int v4)] [] S) {v1 : Nat} {v2 : Nat} {v3 : Nat} {v4 : Int32} {kk : Nat} {nn : Nat} {S : HS} (h : P_L_law_2164 scL scx Q X23 v1 v2 v3 v4 kk nn S) : WS X 7 kk nn 2164 [(0, .ref scb), (1, .ref v1), (2, .ref v2), (3, .ref v3), (4, .int v4)] [] S := by
  refine r_aload_n (pc := 2164) C dL_law_2164 1 rfl ?_
  obtain ⟨o_v1, h⟩ := h
  obtain ⟨hk, hk2, h⟩ := h
  refine r_callVi0 (pc := 2165) C (rest := []) (a := v1) o_v1 [] yV_X9_mark g_1044 (c_X9_mark h) dL_law_2165 rfl rfl (Nat.le_of_ble_eq_true rfl) ⟨by decide, by decide⟩ ⟨hk, hk2⟩ ⟨rfl, rfl⟩ (fun x3 S1 h g2 => ?_)
  have h := h g2
  have o_v1 := gr_ob g2 o_v1
  refine r_pop (pc := 2168) C dL_law_2168 rfl ?_
  refine r_aload_n (pc := 2169) C dL_law_2169 2 rfl ?_
  obtain ⟨o_v2, h⟩ := h
  obtain ⟨hk, hk2, h⟩ := h
  refine r_callVi0 (pc := 2170) C (rest := []) (a := v2) o_v2 [] yV_X11_mark g_1828 (c_X11_mark h) dL_law_2170 rfl rfl (Nat.le_of_ble_eq_true rfl) ⟨by decide, by decide⟩ ⟨hk, hk2⟩ ⟨rfl, rfl⟩ (fun x6 S4 h g5 => ?_)
  have h := h g5
  have o_v1 := gr_ob g5 o_v1
  have o_v2 := gr_ob g5 o_v2
  refine r_pop (pc := 2173) C dL_law_2173 rfl ?_
  refine r_goto (pc := 2174) C (tgt := 2342) dL_law_2174 (by decide) ?_
  exact r_sub [0, 1, 2, 3, 4] rfl (T_L_law_2342 C E ht hn hX23 h)
def P_L_law_2177 (scL : Nat) (scx : Nat → Int32) (Q : Int32 → HS → Prop) (X23 : Nat → Nat → Nat → Int32 → Nat → Nat → HS → Prop) (v1 : Nat) (v2 : Nat) (v3 : Nat) (v4 : Int32) (kk : Nat) (nn : Nat) (S : HS) : Prop := ∀ x1 : Int32, x1 = v4 + (1 : Int32) → (vp_in x1 scL ∧ ∀ x3 : Int32, x3 = scx x1.toNatClampNeg → (ob S v1 9 ∧ (kk ≤ rm_L_law.cells ∧ nn ≤ rm_L_law.slots ∧ (P_X9_back v1 x3 (fun x6 S4 => Gr S S4 → bl x6 → (∀ x7 : Int32, x7 = v4 + (1 : Int32) → (vp_in x7 scL ∧ ∀ x9 : Int32, x9 = scx x7.toNatClampNeg → (ob S4 v2 11 ∧ (kk ≤ rm_L_law.cells ∧ nn ≤ rm_L_law.slots ∧ (P_X11_back v2 x9 (fun x12 S10 => Gr S4 S10 → bl x12 → (P_L_law_2342 scL scx Q X23 v1 v2 v3 v4 kk nn S10)) S4)))))) S))))
set_option maxRecDepth 20000 in
set_option maxHeartbeats 4000000 in
theorem T_L_law_2177 {X : CX} {Q : Int32 → HS → Prop} {scb scL : Nat} {scx : Nat → Int32} (C : Cx X cL_law RL 7 rm_L_law) (E : LE X scb scL scx Q) (ht : LD X) (hn : True) {X23 : Nat → Nat → Nat → Int32 → Nat → Nat → HS → Prop} (hX23 : ∀ (v1 : Nat) (v2 : Nat) (v3 : Nat) (v4 : Int32) (kk : Nat) (nn : Nat) (S : HS), X23 v1 v2 v3 v4 kk nn S → WS X 7 kk nn 23 [(0, .ref scb), (1, .ref v1), (2, .ref v2), (3, .ref v3), (4, .int v4)] [] S) {v1 : Nat} {v2 : Nat} {v3 : Nat} {v4 : Int32} {kk : Nat} {nn : Nat} {S : HS} (h : P_L_law_2177 scL scx Q X23 v1 v2 v3 v4 kk nn S) : WS X 7 kk nn 2177 [(0, .ref scb), (1, .ref v1), (2, .ref v2), (3, .ref v3), (4, .int v4)] [] S := by
  refine r_aload_n (pc := 2177) C dL_law_2177 1 rfl ?_
  refine r_aload_n (pc := 2178) C dL_law_2178 0 rfl ?_
  refine r_iload (pc := 2179) C dL_law_2179 4 rfl ?_
  refine r_iconst (pc := 2181) C (v := (1 : Int32)) dL_law_2181 (by decide) ?_
  refine r_iadd (pc := 2182) C dL_law_2182 ?_
  refine r_topi (fun x1 ex1 => ?_)
  have h := h x1 ex1
  obtain ⟨i2, h⟩ := h
  refine r_scLd (pc := 2183) C E i2 dL_law_2183 ?_
  refine r_topi (fun x3 ex3 => ?_)
  have h := h x3 ex3
  obtain ⟨o_v1, h⟩ := h
  obtain ⟨hk, hk2, h⟩ := h
  refine r_callVi0 (pc := 2184) C (rest := []) (a := v1) o_v1 [.int x3] yV_X9_back g_1052 (c_X9_back h) dL_law_2184 rfl rfl (Nat.le_of_ble_eq_true rfl) ⟨by decide, by decide⟩ ⟨hk, hk2⟩ ⟨rfl, rfl⟩ (fun x6 S4 h g5 => ?_)
  have bx6 := h.1
  have h := h.2 g5 bx6
  have o_v1 := gr_ob g5 o_v1
  refine r_pop (pc := 2187) C dL_law_2187 rfl ?_
  refine r_aload_n (pc := 2188) C dL_law_2188 2 rfl ?_
  refine r_aload_n (pc := 2189) C dL_law_2189 0 rfl ?_
  refine r_iload (pc := 2190) C dL_law_2190 4 rfl ?_
  refine r_iconst (pc := 2192) C (v := (1 : Int32)) dL_law_2192 (by decide) ?_
  refine r_iadd (pc := 2193) C dL_law_2193 ?_
  refine r_topi (fun x7 ex7 => ?_)
  have h := h x7 ex7
  obtain ⟨i8, h⟩ := h
  refine r_scLd (pc := 2194) C E i8 dL_law_2194 ?_
  refine r_topi (fun x9 ex9 => ?_)
  have h := h x9 ex9
  obtain ⟨o_v2, h⟩ := h
  obtain ⟨hk, hk2, h⟩ := h
  refine r_callVi0 (pc := 2195) C (rest := []) (a := v2) o_v2 [.int x9] yV_X11_back g_1832 (c_X11_back h) dL_law_2195 rfl rfl (Nat.le_of_ble_eq_true rfl) ⟨by decide, by decide⟩ ⟨hk, hk2⟩ ⟨rfl, rfl⟩ (fun x12 S10 h g11 => ?_)
  have bx12 := h.1
  have h := h.2 g11 bx12
  have o_v1 := gr_ob g11 o_v1
  have o_v2 := gr_ob g11 o_v2
  refine r_pop (pc := 2198) C dL_law_2198 rfl ?_
  refine r_goto (pc := 2199) C (tgt := 2342) dL_law_2199 (by decide) ?_
  exact r_sub [0, 1, 2, 3, 4] rfl (T_L_law_2342 C E ht hn hX23 h)
def P_L_law_2202 (scL : Nat) (scx : Nat → Int32) (Q : Int32 → HS → Prop) (X23 : Nat → Nat → Nat → Int32 → Nat → Nat → HS → Prop) (v1 : Nat) (v2 : Nat) (v3 : Nat) (v4 : Int32) (kk : Nat) (nn : Nat) (S : HS) : Prop := ∀ x1 : Int32, x1 = v4 + (1 : Int32) → (vp_in x1 scL ∧ ∀ x3 : Int32, x3 = scx x1.toNatClampNeg → (∀ x4 : Int32, x4 = v4 + (2 : Int32) → (vp_in x4 scL ∧ ∀ x6 : Int32, x6 = scx x4.toNatClampNeg → (ob S v1 9 ∧ (kk ≤ rm_L_law.cells ∧ nn ≤ rm_L_law.slots ∧ (P_X9_walker v1 x3 x6 (fun x9 S7 => Gr S S7 → (∀ x10 : Int32, x10 = v4 + (1 : Int32) → (vp_in x10 scL ∧ ∀ x12 : Int32, x12 = scx x10.toNatClampNeg → (∀ x13 : Int32, x13 = v4 + (2 : Int32) → (vp_in x13 scL ∧ ∀ x15 : Int32, x15 = scx x13.toNatClampNeg → (ob S7 v2 11 ∧ (kk ≤ rm_L_law.cells ∧ nn ≤ rm_L_law.slots ∧ (P_X11_walker v2 x12 x15 (fun x18 S16 => Gr S7 S16 → (P_L_law_2342 scL scx Q X23 v1 v2 v3 v4 kk nn S16)) S7)))))))) S))))))
set_option maxRecDepth 20000 in
set_option maxHeartbeats 4000000 in
theorem T_L_law_2202 {X : CX} {Q : Int32 → HS → Prop} {scb scL : Nat} {scx : Nat → Int32} (C : Cx X cL_law RL 7 rm_L_law) (E : LE X scb scL scx Q) (ht : LD X) (hn : True) {X23 : Nat → Nat → Nat → Int32 → Nat → Nat → HS → Prop} (hX23 : ∀ (v1 : Nat) (v2 : Nat) (v3 : Nat) (v4 : Int32) (kk : Nat) (nn : Nat) (S : HS), X23 v1 v2 v3 v4 kk nn S → WS X 7 kk nn 23 [(0, .ref scb), (1, .ref v1), (2, .ref v2), (3, .ref v3), (4, .int v4)] [] S) {v1 : Nat} {v2 : Nat} {v3 : Nat} {v4 : Int32} {kk : Nat} {nn : Nat} {S : HS} (h : P_L_law_2202 scL scx Q X23 v1 v2 v3 v4 kk nn S) : WS X 7 kk nn 2202 [(0, .ref scb), (1, .ref v1), (2, .ref v2), (3, .ref v3), (4, .int v4)] [] S := by
  refine r_aload_n (pc := 2202) C dL_law_2202 1 rfl ?_
  refine r_aload_n (pc := 2203) C dL_law_2203 0 rfl ?_
  refine r_iload (pc := 2204) C dL_law_2204 4 rfl ?_
  refine r_iconst (pc := 2206) C (v := (1 : Int32)) dL_law_2206 (by decide) ?_
  refine r_iadd (pc := 2207) C dL_law_2207 ?_
  refine r_topi (fun x1 ex1 => ?_)
  have h := h x1 ex1
  obtain ⟨i2, h⟩ := h
  refine r_scLd (pc := 2208) C E i2 dL_law_2208 ?_
  refine r_topi (fun x3 ex3 => ?_)
  have h := h x3 ex3
  refine r_aload_n (pc := 2209) C dL_law_2209 0 rfl ?_
  refine r_iload (pc := 2210) C dL_law_2210 4 rfl ?_
  refine r_iconst (pc := 2212) C (v := (2 : Int32)) dL_law_2212 (by decide) ?_
  refine r_iadd (pc := 2213) C dL_law_2213 ?_
  refine r_topi (fun x4 ex4 => ?_)
  have h := h x4 ex4
  obtain ⟨i5, h⟩ := h
  refine r_scLd (pc := 2214) C E i5 dL_law_2214 ?_
  refine r_topi (fun x6 ex6 => ?_)
  have h := h x6 ex6
  obtain ⟨o_v1, h⟩ := h
  obtain ⟨hk, hk2, h⟩ := h
  refine r_callVi0 (pc := 2215) C (rest := []) (a := v1) o_v1 [.int x3, .int x6] yV_X9_walker g_1060 (c_X9_walker h) dL_law_2215 rfl rfl (Nat.le_of_ble_eq_true rfl) ⟨by decide, by decide⟩ ⟨hk, hk2⟩ ⟨rfl, rfl⟩ (fun x9 S7 h g8 => ?_)
  have h := h g8
  have o_v1 := gr_ob g8 o_v1
  refine r_pop (pc := 2218) C dL_law_2218 rfl ?_
  refine r_aload_n (pc := 2219) C dL_law_2219 2 rfl ?_
  refine r_aload_n (pc := 2220) C dL_law_2220 0 rfl ?_
  refine r_iload (pc := 2221) C dL_law_2221 4 rfl ?_
  refine r_iconst (pc := 2223) C (v := (1 : Int32)) dL_law_2223 (by decide) ?_
  refine r_iadd (pc := 2224) C dL_law_2224 ?_
  refine r_topi (fun x10 ex10 => ?_)
  have h := h x10 ex10
  obtain ⟨i11, h⟩ := h
  refine r_scLd (pc := 2225) C E i11 dL_law_2225 ?_
  refine r_topi (fun x12 ex12 => ?_)
  have h := h x12 ex12
  refine r_aload_n (pc := 2226) C dL_law_2226 0 rfl ?_
  refine r_iload (pc := 2227) C dL_law_2227 4 rfl ?_
  refine r_iconst (pc := 2229) C (v := (2 : Int32)) dL_law_2229 (by decide) ?_
  refine r_iadd (pc := 2230) C dL_law_2230 ?_
  refine r_topi (fun x13 ex13 => ?_)
  have h := h x13 ex13
  obtain ⟨i14, h⟩ := h
  refine r_scLd (pc := 2231) C E i14 dL_law_2231 ?_
  refine r_topi (fun x15 ex15 => ?_)
  have h := h x15 ex15
  obtain ⟨o_v2, h⟩ := h
  obtain ⟨hk, hk2, h⟩ := h
  refine r_callVi0 (pc := 2232) C (rest := []) (a := v2) o_v2 [.int x12, .int x15] yV_X11_walker g_1836 (c_X11_walker h) dL_law_2232 rfl rfl (Nat.le_of_ble_eq_true rfl) ⟨by decide, by decide⟩ ⟨hk, hk2⟩ ⟨rfl, rfl⟩ (fun x18 S16 h g17 => ?_)
  have h := h g17
  have o_v1 := gr_ob g17 o_v1
  have o_v2 := gr_ob g17 o_v2
  refine r_pop (pc := 2235) C dL_law_2235 rfl ?_
  refine r_goto (pc := 2236) C (tgt := 2342) dL_law_2236 (by decide) ?_
  exact r_sub [0, 1, 2, 3, 4] rfl (T_L_law_2342 C E ht hn hX23 h)
def P_L_law_2239 (scL : Nat) (scx : Nat → Int32) (Q : Int32 → HS → Prop) (X23 : Nat → Nat → Nat → Int32 → Nat → Nat → HS → Prop) (v1 : Nat) (v2 : Nat) (v3 : Nat) (v4 : Int32) (kk : Nat) (nn : Nat) (S : HS) : Prop := ∀ x1 : Int32, x1 = v4 + (1 : Int32) → (vp_in x1 scL ∧ ∀ x3 : Int32, x3 = scx x1.toNatClampNeg → (∀ x4 : Int32, x4 = v4 + (2 : Int32) → (vp_in x4 scL ∧ ∀ x6 : Int32, x6 = scx x4.toNatClampNeg → (ob S v1 9 ∧ (kk ≤ rm_L_law.cells ∧ nn ≤ rm_L_law.slots ∧ (P_X9_road v1 x3 x6 (fun x9 S7 => Gr S S7 → (∀ x10 : Int32, x10 = v4 + (1 : Int32) → (vp_in x10 scL ∧ ∀ x12 : Int32, x12 = scx x10.toNatClampNeg → (∀ x13 : Int32, x13 = v4 + (2 : Int32) → (vp_in x13 scL ∧ ∀ x15 : Int32, x15 = scx x13.toNatClampNeg → (ob S7 v2 11 ∧ (kk ≤ rm_L_law.cells ∧ nn ≤ rm_L_law.slots ∧ (P_X11_road v2 x12 x15 (fun x18 S16 => Gr S7 S16 → (P_L_law_2342 scL scx Q X23 v1 v2 v3 v4 kk nn S16)) S7)))))))) S))))))
set_option maxRecDepth 20000 in
set_option maxHeartbeats 4000000 in
theorem T_L_law_2239 {X : CX} {Q : Int32 → HS → Prop} {scb scL : Nat} {scx : Nat → Int32} (C : Cx X cL_law RL 7 rm_L_law) (E : LE X scb scL scx Q) (ht : LD X) (hn : True) {X23 : Nat → Nat → Nat → Int32 → Nat → Nat → HS → Prop} (hX23 : ∀ (v1 : Nat) (v2 : Nat) (v3 : Nat) (v4 : Int32) (kk : Nat) (nn : Nat) (S : HS), X23 v1 v2 v3 v4 kk nn S → WS X 7 kk nn 23 [(0, .ref scb), (1, .ref v1), (2, .ref v2), (3, .ref v3), (4, .int v4)] [] S) {v1 : Nat} {v2 : Nat} {v3 : Nat} {v4 : Int32} {kk : Nat} {nn : Nat} {S : HS} (h : P_L_law_2239 scL scx Q X23 v1 v2 v3 v4 kk nn S) : WS X 7 kk nn 2239 [(0, .ref scb), (1, .ref v1), (2, .ref v2), (3, .ref v3), (4, .int v4)] [] S := by
  refine r_aload_n (pc := 2239) C dL_law_2239 1 rfl ?_
  refine r_aload_n (pc := 2240) C dL_law_2240 0 rfl ?_
  refine r_iload (pc := 2241) C dL_law_2241 4 rfl ?_
  refine r_iconst (pc := 2243) C (v := (1 : Int32)) dL_law_2243 (by decide) ?_
  refine r_iadd (pc := 2244) C dL_law_2244 ?_
  refine r_topi (fun x1 ex1 => ?_)
  have h := h x1 ex1
  obtain ⟨i2, h⟩ := h
  refine r_scLd (pc := 2245) C E i2 dL_law_2245 ?_
  refine r_topi (fun x3 ex3 => ?_)
  have h := h x3 ex3
  refine r_aload_n (pc := 2246) C dL_law_2246 0 rfl ?_
  refine r_iload (pc := 2247) C dL_law_2247 4 rfl ?_
  refine r_iconst (pc := 2249) C (v := (2 : Int32)) dL_law_2249 (by decide) ?_
  refine r_iadd (pc := 2250) C dL_law_2250 ?_
  refine r_topi (fun x4 ex4 => ?_)
  have h := h x4 ex4
  obtain ⟨i5, h⟩ := h
  refine r_scLd (pc := 2251) C E i5 dL_law_2251 ?_
  refine r_topi (fun x6 ex6 => ?_)
  have h := h x6 ex6
  obtain ⟨o_v1, h⟩ := h
  obtain ⟨hk, hk2, h⟩ := h
  refine r_callVi0 (pc := 2252) C (rest := []) (a := v1) o_v1 [.int x3, .int x6] yV_X9_road g_1068 (c_X9_road h) dL_law_2252 rfl rfl (Nat.le_of_ble_eq_true rfl) ⟨by decide, by decide⟩ ⟨hk, hk2⟩ ⟨rfl, rfl⟩ (fun x9 S7 h g8 => ?_)
  have h := h g8
  have o_v1 := gr_ob g8 o_v1
  refine r_pop (pc := 2255) C dL_law_2255 rfl ?_
  refine r_aload_n (pc := 2256) C dL_law_2256 2 rfl ?_
  refine r_aload_n (pc := 2257) C dL_law_2257 0 rfl ?_
  refine r_iload (pc := 2258) C dL_law_2258 4 rfl ?_
  refine r_iconst (pc := 2260) C (v := (1 : Int32)) dL_law_2260 (by decide) ?_
  refine r_iadd (pc := 2261) C dL_law_2261 ?_
  refine r_topi (fun x10 ex10 => ?_)
  have h := h x10 ex10
  obtain ⟨i11, h⟩ := h
  refine r_scLd (pc := 2262) C E i11 dL_law_2262 ?_
  refine r_topi (fun x12 ex12 => ?_)
  have h := h x12 ex12
  refine r_aload_n (pc := 2263) C dL_law_2263 0 rfl ?_
  refine r_iload (pc := 2264) C dL_law_2264 4 rfl ?_
  refine r_iconst (pc := 2266) C (v := (2 : Int32)) dL_law_2266 (by decide) ?_
  refine r_iadd (pc := 2267) C dL_law_2267 ?_
  refine r_topi (fun x13 ex13 => ?_)
  have h := h x13 ex13
  obtain ⟨i14, h⟩ := h
  refine r_scLd (pc := 2268) C E i14 dL_law_2268 ?_
  refine r_topi (fun x15 ex15 => ?_)
  have h := h x15 ex15
  obtain ⟨o_v2, h⟩ := h
  obtain ⟨hk, hk2, h⟩ := h
  refine r_callVi0 (pc := 2269) C (rest := []) (a := v2) o_v2 [.int x12, .int x15] yV_X11_road g_1840 (c_X11_road h) dL_law_2269 rfl rfl (Nat.le_of_ble_eq_true rfl) ⟨by decide, by decide⟩ ⟨hk, hk2⟩ ⟨rfl, rfl⟩ (fun x18 S16 h g17 => ?_)
  have h := h g17
  have o_v1 := gr_ob g17 o_v1
  have o_v2 := gr_ob g17 o_v2
  refine r_pop (pc := 2272) C dL_law_2272 rfl ?_
  refine r_goto (pc := 2273) C (tgt := 2342) dL_law_2273 (by decide) ?_
  exact r_sub [0, 1, 2, 3, 4] rfl (T_L_law_2342 C E ht hn hX23 h)
def P_L_law_2276 (scL : Nat) (scx : Nat → Int32) (Q : Int32 → HS → Prop) (X23 : Nat → Nat → Nat → Int32 → Nat → Nat → HS → Prop) (v1 : Nat) (v2 : Nat) (v3 : Nat) (v4 : Int32) (kk : Nat) (nn : Nat) (S : HS) : Prop := ∀ x1 : Int32, x1 = v4 + (1 : Int32) → (vp_in x1 scL ∧ ∀ x3 : Int32, x3 = scx x1.toNatClampNeg → (kk + 2 ≤ rm_L_law.cells ∧ nn + 32 ≤ rm_L_law.slots ∧ P_L_led v1 x3 v3 (fun x5 S4 => Gr S S4 → (∀ x7 : Int32, x7 = v4 + (1 : Int32) → (vp_in x7 scL ∧ ∀ x9 : Int32, x9 = scx x7.toNatClampNeg → (ob S4 v2 11 ∧ (kk + 2 ≤ rm_L_law.cells ∧ nn + 32 ≤ rm_L_law.slots ∧ (P_X11_led v2 x9 (fun x12 S10 => Gr S4 S10 → (P_L_law_2342 scL scx Q X23 v1 v2 v3 v4 (kk + 2) (nn + 32) S10)) S4)))))) S))
set_option maxRecDepth 20000 in
set_option maxHeartbeats 4000000 in
theorem T_L_law_2276 {X : CX} {Q : Int32 → HS → Prop} {scb scL : Nat} {scx : Nat → Int32} (C : Cx X cL_law RL 7 rm_L_law) (E : LE X scb scL scx Q) (ht : LD X) (hn : True) {X23 : Nat → Nat → Nat → Int32 → Nat → Nat → HS → Prop} (hX23 : ∀ (v1 : Nat) (v2 : Nat) (v3 : Nat) (v4 : Int32) (kk : Nat) (nn : Nat) (S : HS), X23 v1 v2 v3 v4 kk nn S → WS X 7 kk nn 23 [(0, .ref scb), (1, .ref v1), (2, .ref v2), (3, .ref v3), (4, .int v4)] [] S) {v1 : Nat} {v2 : Nat} {v3 : Nat} {v4 : Int32} {kk : Nat} {nn : Nat} {S : HS} (h : P_L_law_2276 scL scx Q X23 v1 v2 v3 v4 kk nn S) : WS X 7 kk nn 2276 [(0, .ref scb), (1, .ref v1), (2, .ref v2), (3, .ref v3), (4, .int v4)] [] S := by
  refine r_aload_n (pc := 2276) C dL_law_2276 1 rfl ?_
  refine r_aload_n (pc := 2277) C dL_law_2277 0 rfl ?_
  refine r_iload (pc := 2278) C dL_law_2278 4 rfl ?_
  refine r_iconst (pc := 2280) C (v := (1 : Int32)) dL_law_2280 (by decide) ?_
  refine r_iadd (pc := 2281) C dL_law_2281 ?_
  refine r_topi (fun x1 ex1 => ?_)
  have h := h x1 ex1
  obtain ⟨i2, h⟩ := h
  refine r_scLd (pc := 2282) C E i2 dL_law_2282 ?_
  refine r_topi (fun x3 ex3 => ?_)
  have h := h x3 ex3
  refine r_aload_n (pc := 2283) C dL_law_2283 3 rfl ?_
  obtain ⟨hk, hk2, h⟩ := h
  refine ht _ _ 2284 _ [] _ _ _ _ _ _ hk hk2 dL_law_2284 g_1084 (Nat.le_of_ble_eq_true rfl) h (fun x5 S4 h g6 => ?_)
  have h := h g6
  refine r_istore (pc := 2287) C dL_law_2287 (by decide) (lv' := [(5, .int x5), (0, .ref scb), (1, .ref v1), (2, .ref v2), (3, .ref v3), (4, .int v4)]) rfl ?_
  refine r_aload_n (pc := 2289) C dL_law_2289 3 rfl ?_
  refine r_aload_n (pc := 2290) C dL_law_2290 1 rfl ?_
  refine r_iload (pc := 2291) C dL_law_2291 5 rfl ?_
  refine r_iconst (pc := 2293) C (v := (1 : Int32)) dL_law_2293 (by decide) ?_
  refine r_iadd (pc := 2294) C dL_law_2294 ?_
  refine r_topi (fun x7 ex7 => ?_)
  have h := h x7 ex7
  obtain ⟨i8, h⟩ := h
  refine r_scLd (pc := 2295) C E i8 dL_law_2295 ?_
  refine r_topi (fun x9 ex9 => ?_)
  have h := h x9 ex9
  obtain ⟨o_v2, h⟩ := h
  obtain ⟨hk, hk2, h⟩ := h
  refine r_callVi0 (pc := 2296) C (rest := []) (a := v2) o_v2 [.int x9] yV_X11_led g_1844 (c_X11_led h) dL_law_2296 rfl rfl (Nat.le_of_ble_eq_true rfl) ⟨by decide, by decide⟩ ⟨hk, hk2⟩ ⟨rfl, rfl⟩ (fun x12 S10 h g11 => ?_)
  have h := h g11
  have o_v2 := gr_ob g11 o_v2
  refine r_istore (pc := 2299) C dL_law_2299 (by decide) (lv' := [(6, .int x12), (5, .int x5), (0, .ref scb), (1, .ref v1), (2, .ref v2), (3, .ref v3), (4, .int v4)]) rfl ?_
  refine r_goto (pc := 2301) C (tgt := 2342) dL_law_2301 (by decide) ?_
  exact r_sub [2, 3, 4, 5, 6] rfl (T_L_law_2342 C E ht hn hX23 h)
end
section
def P_L_law_2304 (scL : Nat) (scx : Nat → Int32) (Q : Int32 → HS → Prop) (X23 : Nat → Nat → Nat → Int32 → Nat → Nat → HS → Prop) (v1 : Nat) (v2 : Nat) (v3 : Nat) (v4 : Int32) (kk : Nat) (nn : Nat) (S : HS) : Prop := ∀ x1 : Int32, x1 = v4 + (1 : Int32) → (vp_in x1 scL ∧ ∀ x3 : Int32, x3 = scx x1.toNatClampNeg → (ob S v1 9 ∧ (kk ≤ rm_L_law.cells ∧ nn ≤ rm_L_law.slots ∧ (P_X9_size v1 x3 (fun x6 S4 => Gr S S4 → (∀ x7 : Int32, x7 = v4 + (1 : Int32) → (vp_in x7 scL ∧ ∀ x9 : Int32, x9 = scx x7.toNatClampNeg → (ob S4 v2 11 ∧ (kk ≤ rm_L_law.cells ∧ nn ≤ rm_L_law.slots ∧ (P_X11_size v2 x9 (fun x12 S10 => Gr S4 S10 → (P_L_law_2342 scL scx Q X23 v1 v2 v3 v4 kk nn S10)) S4)))))) S))))
set_option maxRecDepth 20000 in
set_option maxHeartbeats 4000000 in
theorem T_L_law_2304 {X : CX} {Q : Int32 → HS → Prop} {scb scL : Nat} {scx : Nat → Int32} (C : Cx X cL_law RL 7 rm_L_law) (E : LE X scb scL scx Q) (ht : LD X) (hn : True) {X23 : Nat → Nat → Nat → Int32 → Nat → Nat → HS → Prop} (hX23 : ∀ (v1 : Nat) (v2 : Nat) (v3 : Nat) (v4 : Int32) (kk : Nat) (nn : Nat) (S : HS), X23 v1 v2 v3 v4 kk nn S → WS X 7 kk nn 23 [(0, .ref scb), (1, .ref v1), (2, .ref v2), (3, .ref v3), (4, .int v4)] [] S) {v1 : Nat} {v2 : Nat} {v3 : Nat} {v4 : Int32} {kk : Nat} {nn : Nat} {S : HS} (h : P_L_law_2304 scL scx Q X23 v1 v2 v3 v4 kk nn S) : WS X 7 kk nn 2304 [(0, .ref scb), (1, .ref v1), (2, .ref v2), (3, .ref v3), (4, .int v4)] [] S := by
  refine r_aload_n (pc := 2304) C dL_law_2304 1 rfl ?_
  refine r_aload_n (pc := 2305) C dL_law_2305 0 rfl ?_
  refine r_iload (pc := 2306) C dL_law_2306 4 rfl ?_
  refine r_iconst (pc := 2308) C (v := (1 : Int32)) dL_law_2308 (by decide) ?_
  refine r_iadd (pc := 2309) C dL_law_2309 ?_
  refine r_topi (fun x1 ex1 => ?_)
  have h := h x1 ex1
  obtain ⟨i2, h⟩ := h
  refine r_scLd (pc := 2310) C E i2 dL_law_2310 ?_
  refine r_topi (fun x3 ex3 => ?_)
  have h := h x3 ex3
  obtain ⟨o_v1, h⟩ := h
  obtain ⟨hk, hk2, h⟩ := h
  refine r_callVi0 (pc := 2311) C (rest := []) (a := v1) o_v1 [.int x3] yV_X9_size g_1076 (c_X9_size h) dL_law_2311 rfl rfl (Nat.le_of_ble_eq_true rfl) ⟨by decide, by decide⟩ ⟨hk, hk2⟩ ⟨rfl, rfl⟩ (fun x6 S4 h g5 => ?_)
  have h := h g5
  have o_v1 := gr_ob g5 o_v1
  refine r_pop (pc := 2314) C dL_law_2314 rfl ?_
  refine r_aload_n (pc := 2315) C dL_law_2315 2 rfl ?_
  refine r_aload_n (pc := 2316) C dL_law_2316 0 rfl ?_
  refine r_iload (pc := 2317) C dL_law_2317 4 rfl ?_
  refine r_iconst (pc := 2319) C (v := (1 : Int32)) dL_law_2319 (by decide) ?_
  refine r_iadd (pc := 2320) C dL_law_2320 ?_
  refine r_topi (fun x7 ex7 => ?_)
  have h := h x7 ex7
  obtain ⟨i8, h⟩ := h
  refine r_scLd (pc := 2321) C E i8 dL_law_2321 ?_
  refine r_topi (fun x9 ex9 => ?_)
  have h := h x9 ex9
  obtain ⟨o_v2, h⟩ := h
  obtain ⟨hk, hk2, h⟩ := h
  refine r_callVi0 (pc := 2322) C (rest := []) (a := v2) o_v2 [.int x9] yV_X11_size g_1848 (c_X11_size h) dL_law_2322 rfl rfl (Nat.le_of_ble_eq_true rfl) ⟨by decide, by decide⟩ ⟨hk, hk2⟩ ⟨rfl, rfl⟩ (fun x12 S10 h g11 => ?_)
  have h := h g11
  have o_v1 := gr_ob g11 o_v1
  have o_v2 := gr_ob g11 o_v2
  refine r_pop (pc := 2325) C dL_law_2325 rfl ?_
  refine r_goto (pc := 2326) C (tgt := 2342) dL_law_2326 (by decide) ?_
  exact r_sub [0, 1, 2, 3, 4] rfl (T_L_law_2342 C E ht hn hX23 h)
def P_L_law_2329 (scL : Nat) (scx : Nat → Int32) (Q : Int32 → HS → Prop) (X23 : Nat → Nat → Nat → Int32 → Nat → Nat → HS → Prop) (v1 : Nat) (v2 : Nat) (v3 : Nat) (v4 : Int32) (kk : Nat) (nn : Nat) (S : HS) : Prop := ob S v1 9 ∧ (kk ≤ rm_L_law.cells ∧ nn ≤ rm_L_law.slots ∧ (P_X9_trouble v1 (fun x3 S1 => Gr S S1 → (ob S1 v2 11 ∧ (kk ≤ rm_L_law.cells ∧ nn ≤ rm_L_law.slots ∧ (P_X11_trouble v2 (fun x6 S4 => Gr S1 S4 → (P_L_law_2342 scL scx Q X23 v1 v2 v3 v4 kk nn S4)) S1)))) S))
set_option maxRecDepth 20000 in
set_option maxHeartbeats 4000000 in
theorem T_L_law_2329 {X : CX} {Q : Int32 → HS → Prop} {scb scL : Nat} {scx : Nat → Int32} (C : Cx X cL_law RL 7 rm_L_law) (E : LE X scb scL scx Q) (ht : LD X) (hn : True) {X23 : Nat → Nat → Nat → Int32 → Nat → Nat → HS → Prop} (hX23 : ∀ (v1 : Nat) (v2 : Nat) (v3 : Nat) (v4 : Int32) (kk : Nat) (nn : Nat) (S : HS), X23 v1 v2 v3 v4 kk nn S → WS X 7 kk nn 23 [(0, .ref scb), (1, .ref v1), (2, .ref v2), (3, .ref v3), (4, .int v4)] [] S) {v1 : Nat} {v2 : Nat} {v3 : Nat} {v4 : Int32} {kk : Nat} {nn : Nat} {S : HS} (h : P_L_law_2329 scL scx Q X23 v1 v2 v3 v4 kk nn S) : WS X 7 kk nn 2329 [(0, .ref scb), (1, .ref v1), (2, .ref v2), (3, .ref v3), (4, .int v4)] [] S := by
  refine r_aload_n (pc := 2329) C dL_law_2329 1 rfl ?_
  obtain ⟨o_v1, h⟩ := h
  obtain ⟨hk, hk2, h⟩ := h
  refine r_callVi0 (pc := 2330) C (rest := []) (a := v1) o_v1 [] yV_X9_trouble g_1080 (c_X9_trouble h) dL_law_2330 rfl rfl (Nat.le_of_ble_eq_true rfl) ⟨by decide, by decide⟩ ⟨hk, hk2⟩ ⟨rfl, rfl⟩ (fun x3 S1 h g2 => ?_)
  have h := h g2
  have o_v1 := gr_ob g2 o_v1
  refine r_pop (pc := 2333) C dL_law_2333 rfl ?_
  refine r_aload_n (pc := 2334) C dL_law_2334 2 rfl ?_
  obtain ⟨o_v2, h⟩ := h
  obtain ⟨hk, hk2, h⟩ := h
  refine r_callVi0 (pc := 2335) C (rest := []) (a := v2) o_v2 [] yV_X11_trouble g_1852 (c_X11_trouble h) dL_law_2335 rfl rfl (Nat.le_of_ble_eq_true rfl) ⟨by decide, by decide⟩ ⟨hk, hk2⟩ ⟨rfl, rfl⟩ (fun x6 S4 h g5 => ?_)
  have h := h g5
  have o_v1 := gr_ob g5 o_v1
  have o_v2 := gr_ob g5 o_v2
  refine r_pop (pc := 2338) C dL_law_2338 rfl ?_
  refine r_goto (pc := 2339) C (tgt := 2342) dL_law_2339 (by decide) ?_
  exact r_sub [0, 1, 2, 3, 4] rfl (T_L_law_2342 C E ht hn hX23 h)
def B_L_law_23 (scL : Nat) (scx : Nat → Int32) (Q : Int32 → HS → Prop) (X23 : Nat → Nat → Nat → Int32 → Nat → Nat → HS → Prop) (v1 : Nat) (v2 : Nat) (v3 : Nat) (v4 : Int32) (kk : Nat) (nn : Nat) (S : HS) : Prop := ((((nI scL) - (8 : Int32)) < v4) → (kk ≤ rm_L_law.cells ∧ nn ≤ rm_L_law.slots ∧ (1 : Int32) = 1 ∧ Q (1 : Int32) S)) ∧ ((¬ ((nI scL) - (8 : Int32)) < v4) → (vp_in v4 scL ∧ ∀ x3 : Int32, x3 = scx v4.toNatClampNeg → (((x3 &&& (63 : Int32)).toInt < 0 ∨ 39 < (x3 &&& (63 : Int32)).toInt → (P_L_law_2342 scL scx Q X23 v1 v2 v3 v4 kk nn S)) ∧ ((x3 &&& (63 : Int32)).toInt = 0 → (P_L_law_216 scL scx Q X23 v1 v2 v3 v4 kk nn S)) ∧ ((x3 &&& (63 : Int32)).toInt = 1 → (P_L_law_289 scL scx Q X23 v1 v2 v3 v4 kk nn S)) ∧ ((x3 &&& (63 : Int32)).toInt = 2 → (P_L_law_314 scL scx Q X23 v1 v2 v3 v4 kk nn S)) ∧ ((x3 &&& (63 : Int32)).toInt = 3 → (P_L_law_327 scL scx Q X23 v1 v2 v3 v4 kk nn S)) ∧ ((x3 &&& (63 : Int32)).toInt = 4 → (P_L_law_340 scL scx Q X23 v1 v2 v3 v4 kk nn S)) ∧ ((x3 &&& (63 : Int32)).toInt = 5 → (P_L_law_457 scL scx Q X23 v1 v2 v3 v4 kk nn S)) ∧ ((x3 &&& (63 : Int32)).toInt = 6 → (P_L_law_560 scL scx Q X23 v1 v2 v3 v4 kk nn S)) ∧ ((x3 &&& (63 : Int32)).toInt = 7 → (P_L_law_664 scL scx Q X23 v1 v2 v3 v4 kk nn S)) ∧ ((x3 &&& (63 : Int32)).toInt = 8 → (P_L_law_713 scL scx Q X23 v1 v2 v3 v4 kk nn S)) ∧ ((x3 &&& (63 : Int32)).toInt = 9 → (P_L_law_762 scL scx Q X23 v1 v2 v3 v4 kk nn S)) ∧ ((x3 &&& (63 : Int32)).toInt = 10 → (P_L_law_835 scL scx Q X23 v1 v2 v3 v4 kk nn S)) ∧ ((x3 &&& (63 : Int32)).toInt = 11 → (P_L_law_896 scL scx Q X23 v1 v2 v3 v4 kk nn S)) ∧ ((x3 &&& (63 : Int32)).toInt = 12 → (P_L_law_985 scL scx Q X23 v1 v2 v3 v4 kk nn S)) ∧ ((x3 &&& (63 : Int32)).toInt = 13 → (P_L_law_1046 scL scx Q X23 v1 v2 v3 v4 kk nn S)) ∧ ((x3 &&& (63 : Int32)).toInt = 14 → (P_L_law_1107 scL scx Q X23 v1 v2 v3 v4 kk nn S)) ∧ ((x3 &&& (63 : Int32)).toInt = 15 → (P_L_law_1184 scL scx Q X23 v1 v2 v3 v4 kk nn S)) ∧ ((x3 &&& (63 : Int32)).toInt = 16 → (P_L_law_1233 scL scx Q X23 v1 v2 v3 v4 kk nn S)) ∧ ((x3 &&& (63 : Int32)).toInt = 17 → (P_L_law_1350 scL scx Q X23 v1 v2 v3 v4 kk nn S)) ∧ ((x3 &&& (63 : Int32)).toInt = 18 → (P_L_law_1437 scL scx Q X23 v1 v2 v3 v4 kk nn S)) ∧ ((x3 &&& (63 : Int32)).toInt = 19 → (P_L_law_1540 scL scx Q X23 v1 v2 v3 v4 kk nn S)) ∧ ((x3 &&& (63 : Int32)).toInt = 20 → (P_L_law_1613 scL scx Q X23 v1 v2 v3 v4 kk nn S)) ∧ ((x3 &&& (63 : Int32)).toInt = 21 → (P_L_law_1686 scL scx Q X23 v1 v2 v3 v4 kk nn S)) ∧ ((x3 &&& (63 : Int32)).toInt = 22 → (P_L_law_1773 scL scx Q X23 v1 v2 v3 v4 kk nn S)) ∧ ((x3 &&& (63 : Int32)).toInt = 23 → (P_L_law_1834 scL scx Q X23 v1 v2 v3 v4 kk nn S)) ∧ ((x3 &&& (63 : Int32)).toInt = 24 → (P_L_law_1859 scL scx Q X23 v1 v2 v3 v4 kk nn S)) ∧ ((x3 &&& (63 : Int32)).toInt = 25 → (P_L_law_1896 scL scx Q X23 v1 v2 v3 v4 kk nn S)) ∧ ((x3 &&& (63 : Int32)).toInt = 26 → (P_L_law_1909 scL scx Q X23 v1 v2 v3 v4 kk nn S)) ∧ ((x3 &&& (63 : Int32)).toInt = 27 → (P_L_law_1970 scL scx Q X23 v1 v2 v3 v4 kk nn S)) ∧ ((x3 &&& (63 : Int32)).toInt = 28 → (P_L_law_2019 scL scx Q X23 v1 v2 v3 v4 kk nn S)) ∧ ((x3 &&& (63 : Int32)).toInt = 29 → (P_L_law_2044 scL scx Q X23 v1 v2 v3 v4 kk nn S)) ∧ ((x3 &&& (63 : Int32)).toInt = 30 → (P_L_law_2097 scL scx Q X23 v1 v2 v3 v4 kk nn S)) ∧ ((x3 &&& (63 : Int32)).toInt = 31 → (P_L_law_2138 scL scx Q X23 v1 v2 v3 v4 kk nn S)) ∧ ((x3 &&& (63 : Int32)).toInt = 32 → (P_L_law_2151 scL scx Q X23 v1 v2 v3 v4 kk nn S)) ∧ ((x3 &&& (63 : Int32)).toInt = 33 → (P_L_law_2164 scL scx Q X23 v1 v2 v3 v4 kk nn S)) ∧ ((x3 &&& (63 : Int32)).toInt = 34 → (P_L_law_2177 scL scx Q X23 v1 v2 v3 v4 kk nn S)) ∧ ((x3 &&& (63 : Int32)).toInt = 35 → (P_L_law_2202 scL scx Q X23 v1 v2 v3 v4 kk nn S)) ∧ ((x3 &&& (63 : Int32)).toInt = 36 → (P_L_law_2239 scL scx Q X23 v1 v2 v3 v4 kk nn S)) ∧ ((x3 &&& (63 : Int32)).toInt = 37 → (P_L_law_2276 scL scx Q X23 v1 v2 v3 v4 kk nn S)) ∧ ((x3 &&& (63 : Int32)).toInt = 38 → (P_L_law_2304 scL scx Q X23 v1 v2 v3 v4 kk nn S)) ∧ ((x3 &&& (63 : Int32)).toInt = 39 → (P_L_law_2329 scL scx Q X23 v1 v2 v3 v4 kk nn S)))))
def P_L_law_23 (scL : Nat) (scx : Nat → Int32) (Q : Int32 → HS → Prop) (v1 : Nat) (v2 : Nat) (v3 : Nat) (v4 : Int32) (kk : Nat) (nn : Nat) (S : HS) : Prop := ∀ X23 : Nat → Nat → Nat → Int32 → Nat → Nat → HS → Prop, (∀ (v1 : Nat) (v2 : Nat) (v3 : Nat) (v4 : Int32) (kk : Nat) (nn : Nat) (S : HS), B_L_law_23 scL scx Q X23 v1 v2 v3 v4 kk nn S → X23 v1 v2 v3 v4 kk nn S) → X23 v1 v2 v3 v4 kk nn S
set_option maxRecDepth 20000 in
set_option maxHeartbeats 4000000 in
theorem TB_L_law_23 {X : CX} {Q : Int32 → HS → Prop} {scb scL : Nat} {scx : Nat → Int32} (C : Cx X cL_law RL 7 rm_L_law) (E : LE X scb scL scx Q) (ht : LD X) (hn : True) {X23 : Nat → Nat → Nat → Int32 → Nat → Nat → HS → Prop} (hX23 : ∀ (v1 : Nat) (v2 : Nat) (v3 : Nat) (v4 : Int32) (kk : Nat) (nn : Nat) (S : HS), X23 v1 v2 v3 v4 kk nn S → WS X 7 kk nn 23 [(0, .ref scb), (1, .ref v1), (2, .ref v2), (3, .ref v3), (4, .int v4)] [] S) {v1 : Nat} {v2 : Nat} {v3 : Nat} {v4 : Int32} {kk : Nat} {nn : Nat} {S : HS} (h : B_L_law_23 scL scx Q X23 v1 v2 v3 v4 kk nn S) : WS X 7 kk nn 23 [(0, .ref scb), (1, .ref v1), (2, .ref v2), (3, .ref v3), (4, .int v4)] [] S := by
  refine r_iload (pc := 23) C dL_law_23 4 rfl ?_
  refine r_aload_n (pc := 25) C dL_law_25 0 rfl ?_
  refine r_scLen (pc := 26) C E dL_law_26 ?_
  refine r_bipush (pc := 27) C (v := (8 : Int32)) dL_law_27 (by decide) ?_
  refine r_isub (pc := 29) C dL_law_29 ?_
  refine r_icmp_gt (pc := 30) C (tgt := 2348) dL_law_30 (by decide) (fun c1 => ?_) (fun c1 => ?_)
  · have h := h.1 c1
    refine r_iconst (pc := 2348) C (v := (1 : Int32)) dL_law_2348 (by decide) ?_
    obtain ⟨hk, hk2, he, h⟩ := h
    exact r_lawret (pc := 2349) C E dL_law_2349 hk hk2 he
  · have h := h.2 c1
    refine r_aload_n (pc := 33) C dL_law_33 0 rfl ?_
    refine r_iload (pc := 34) C dL_law_34 4 rfl ?_
    obtain ⟨i2, h⟩ := h
    refine r_scLd (pc := 36) C E i2 dL_law_36 ?_
    refine r_topi (fun x3 ex3 => ?_)
    have h := h x3 ex3
    refine r_bipush (pc := 37) C (v := (63 : Int32)) dL_law_37 (by decide) ?_
    refine r_iand (pc := 39) C dL_law_39 ?_
    refine r_table (pc := 40) C (tgt := 2342) dL_law_40 (by decide) (fun c4 => ?_) (fun j hj hx => ?_)
    · have h := h.1 c4
      exact r_sub [0, 1, 2, 3, 4] rfl (T_L_law_2342 C E ht hn hX23 h)
    · match j, hj, hx with
      | 0, _, hx =>
        refine ⟨176, 216, rfl, by decide, ?_⟩
        have h := h.2.1 (by simpa using hx)
        exact r_sub [0, 1, 2, 3, 4] rfl (T_L_law_216 C E ht hn hX23 h)
      | 1, _, hx =>
        refine ⟨249, 289, rfl, by decide, ?_⟩
        have h := h.2.2.1 (by simpa using hx)
        exact r_sub [0, 1, 2, 3, 4] rfl (T_L_law_289 C E ht hn hX23 h)
      | 2, _, hx =>
        refine ⟨274, 314, rfl, by decide, ?_⟩
        have h := h.2.2.2.1 (by simpa using hx)
        exact r_sub [0, 1, 2, 3, 4] rfl (T_L_law_314 C E ht hn hX23 h)
      | 3, _, hx =>
        refine ⟨287, 327, rfl, by decide, ?_⟩
        have h := h.2.2.2.2.1 (by simpa using hx)
        exact r_sub [0, 1, 2, 3, 4] rfl (T_L_law_327 C E ht hn hX23 h)
      | 4, _, hx =>
        refine ⟨300, 340, rfl, by decide, ?_⟩
        have h := h.2.2.2.2.2.1 (by simpa using hx)
        exact r_sub [0, 1, 2, 3, 4] rfl (T_L_law_340 C E ht hn hX23 h)
      | 5, _, hx =>
        refine ⟨417, 457, rfl, by decide, ?_⟩
        have h := h.2.2.2.2.2.2.1 (by simpa using hx)
        exact r_sub [0, 1, 2, 3, 4] rfl (T_L_law_457 C E ht hn hX23 h)
      | 6, _, hx =>
        refine ⟨520, 560, rfl, by decide, ?_⟩
        have h := h.2.2.2.2.2.2.2.1 (by simpa using hx)
        exact r_sub [0, 1, 2, 3, 4] rfl (T_L_law_560 C E ht hn hX23 h)
      | 7, _, hx =>
        refine ⟨624, 664, rfl, by decide, ?_⟩
        have h := h.2.2.2.2.2.2.2.2.1 (by simpa using hx)
        exact r_sub [0, 1, 2, 3, 4] rfl (T_L_law_664 C E ht hn hX23 h)
      | 8, _, hx =>
        refine ⟨673, 713, rfl, by decide, ?_⟩
        have h := h.2.2.2.2.2.2.2.2.2.1 (by simpa using hx)
        exact r_sub [0, 1, 2, 3, 4] rfl (T_L_law_713 C E ht hn hX23 h)
      | 9, _, hx =>
        refine ⟨722, 762, rfl, by decide, ?_⟩
        have h := h.2.2.2.2.2.2.2.2.2.2.1 (by simpa using hx)
        exact r_sub [0, 1, 2, 3, 4] rfl (T_L_law_762 C E ht hn hX23 h)
      | 10, _, hx =>
        refine ⟨795, 835, rfl, by decide, ?_⟩
        have h := h.2.2.2.2.2.2.2.2.2.2.2.1 (by simpa using hx)
        exact r_sub [0, 1, 2, 3, 4] rfl (T_L_law_835 C E ht hn hX23 h)
      | 11, _, hx =>
        refine ⟨856, 896, rfl, by decide, ?_⟩
        have h := h.2.2.2.2.2.2.2.2.2.2.2.2.1 (by simpa using hx)
        exact r_sub [0, 1, 2, 3, 4] rfl (T_L_law_896 C E ht hn hX23 h)
      | 12, _, hx =>
        refine ⟨945, 985, rfl, by decide, ?_⟩
        have h := h.2.2.2.2.2.2.2.2.2.2.2.2.2.1 (by simpa using hx)
        exact r_sub [0, 1, 2, 3, 4] rfl (T_L_law_985 C E ht hn hX23 h)
      | 13, _, hx =>
        refine ⟨1006, 1046, rfl, by decide, ?_⟩
        have h := h.2.2.2.2.2.2.2.2.2.2.2.2.2.2.1 (by simpa using hx)
        exact r_sub [0, 1, 2, 3, 4] rfl (T_L_law_1046 C E ht hn hX23 h)
      | 14, _, hx =>
        refine ⟨1067, 1107, rfl, by decide, ?_⟩
        have h := h.2.2.2.2.2.2.2.2.2.2.2.2.2.2.2.1 (by simpa using hx)
        exact r_sub [0, 1, 2, 3, 4] rfl (T_L_law_1107 C E ht hn hX23 h)
      | 15, _, hx =>
        refine ⟨1144, 1184, rfl, by decide, ?_⟩
        have h := h.2.2.2.2.2.2.2.2.2.2.2.2.2.2.2.2.1 (by simpa using hx)
        exact r_sub [0, 1, 2, 3, 4] rfl (T_L_law_1184 C E ht hn hX23 h)
      | 16, _, hx =>
        refine ⟨1193, 1233, rfl, by decide, ?_⟩
        have h := h.2.2.2.2.2.2.2.2.2.2.2.2.2.2.2.2.2.1 (by simpa using hx)
        exact r_sub [0, 1, 2, 3, 4] rfl (T_L_law_1233 C E ht hn hX23 h)
      | 17, _, hx =>
        refine ⟨1310, 1350, rfl, by decide, ?_⟩
        have h := h.2.2.2.2.2.2.2.2.2.2.2.2.2.2.2.2.2.2.1 (by simpa using hx)
        exact r_sub [0, 1, 2, 3, 4] rfl (T_L_law_1350 C E ht hn hX23 h)
      | 18, _, hx =>
        refine ⟨1397, 1437, rfl, by decide, ?_⟩
        have h := h.2.2.2.2.2.2.2.2.2.2.2.2.2.2.2.2.2.2.2.1 (by simpa using hx)
        exact r_sub [0, 1, 2, 3, 4] rfl (T_L_law_1437 C E ht hn hX23 h)
      | 19, _, hx =>
        refine ⟨1500, 1540, rfl, by decide, ?_⟩
        have h := h.2.2.2.2.2.2.2.2.2.2.2.2.2.2.2.2.2.2.2.2.1 (by simpa using hx)
        exact r_sub [0, 1, 2, 3, 4] rfl (T_L_law_1540 C E ht hn hX23 h)
      | 20, _, hx =>
        refine ⟨1573, 1613, rfl, by decide, ?_⟩
        have h := h.2.2.2.2.2.2.2.2.2.2.2.2.2.2.2.2.2.2.2.2.2.1 (by simpa using hx)
        exact r_sub [0, 1, 2, 3, 4] rfl (T_L_law_1613 C E ht hn hX23 h)
      | 21, _, hx =>
        refine ⟨1646, 1686, rfl, by decide, ?_⟩
        have h := h.2.2.2.2.2.2.2.2.2.2.2.2.2.2.2.2.2.2.2.2.2.2.1 (by simpa using hx)
        exact r_sub [0, 1, 2, 3, 4] rfl (T_L_law_1686 C E ht hn hX23 h)
      | 22, _, hx =>
        refine ⟨1733, 1773, rfl, by decide, ?_⟩
        have h := h.2.2.2.2.2.2.2.2.2.2.2.2.2.2.2.2.2.2.2.2.2.2.2.1 (by simpa using hx)
        exact r_sub [0, 1, 2, 3, 4] rfl (T_L_law_1773 C E ht hn hX23 h)
      | 23, _, hx =>
        refine ⟨1794, 1834, rfl, by decide, ?_⟩
        have h := h.2.2.2.2.2.2.2.2.2.2.2.2.2.2.2.2.2.2.2.2.2.2.2.2.1 (by simpa using hx)
        exact r_sub [0, 1, 2, 3, 4] rfl (T_L_law_1834 C E ht hn hX23 h)
      | 24, _, hx =>
        refine ⟨1819, 1859, rfl, by decide, ?_⟩
        have h := h.2.2.2.2.2.2.2.2.2.2.2.2.2.2.2.2.2.2.2.2.2.2.2.2.2.1 (by simpa using hx)
        exact r_sub [0, 1, 2, 3, 4] rfl (T_L_law_1859 C E ht hn hX23 h)
      | 25, _, hx =>
        refine ⟨1856, 1896, rfl, by decide, ?_⟩
        have h := h.2.2.2.2.2.2.2.2.2.2.2.2.2.2.2.2.2.2.2.2.2.2.2.2.2.2.1 (by simpa using hx)
        exact r_sub [0, 1, 2, 3, 4] rfl (T_L_law_1896 C E ht hn hX23 h)
      | 26, _, hx =>
        refine ⟨1869, 1909, rfl, by decide, ?_⟩
        have h := h.2.2.2.2.2.2.2.2.2.2.2.2.2.2.2.2.2.2.2.2.2.2.2.2.2.2.2.1 (by simpa using hx)
        exact r_sub [0, 1, 2, 3, 4] rfl (T_L_law_1909 C E ht hn hX23 h)
      | 27, _, hx =>
        refine ⟨1930, 1970, rfl, by decide, ?_⟩
        have h := h.2.2.2.2.2.2.2.2.2.2.2.2.2.2.2.2.2.2.2.2.2.2.2.2.2.2.2.2.1 (by simpa using hx)
        exact r_sub [0, 1, 2, 3, 4] rfl (T_L_law_1970 C E ht hn hX23 h)
      | 28, _, hx =>
        refine ⟨1979, 2019, rfl, by decide, ?_⟩
        have h := h.2.2.2.2.2.2.2.2.2.2.2.2.2.2.2.2.2.2.2.2.2.2.2.2.2.2.2.2.2.1 (by simpa using hx)
        exact r_sub [0, 1, 2, 3, 4] rfl (T_L_law_2019 C E ht hn hX23 h)
      | 29, _, hx =>
        refine ⟨2004, 2044, rfl, by decide, ?_⟩
        have h := h.2.2.2.2.2.2.2.2.2.2.2.2.2.2.2.2.2.2.2.2.2.2.2.2.2.2.2.2.2.2.1 (by simpa using hx)
        exact r_sub [0, 1, 2, 3, 4] rfl (T_L_law_2044 C E ht hn hX23 h)
      | 30, _, hx =>
        refine ⟨2057, 2097, rfl, by decide, ?_⟩
        have h := h.2.2.2.2.2.2.2.2.2.2.2.2.2.2.2.2.2.2.2.2.2.2.2.2.2.2.2.2.2.2.2.1 (by simpa using hx)
        exact r_sub [0, 1, 2, 3, 4] rfl (T_L_law_2097 C E ht hn hX23 h)
      | 31, _, hx =>
        refine ⟨2098, 2138, rfl, by decide, ?_⟩
        have h := h.2.2.2.2.2.2.2.2.2.2.2.2.2.2.2.2.2.2.2.2.2.2.2.2.2.2.2.2.2.2.2.2.1 (by simpa using hx)
        exact r_sub [0, 1, 2, 3, 4] rfl (T_L_law_2138 C E ht hn hX23 h)
      | 32, _, hx =>
        refine ⟨2111, 2151, rfl, by decide, ?_⟩
        have h := h.2.2.2.2.2.2.2.2.2.2.2.2.2.2.2.2.2.2.2.2.2.2.2.2.2.2.2.2.2.2.2.2.2.1 (by simpa using hx)
        exact r_sub [0, 1, 2, 3, 4] rfl (T_L_law_2151 C E ht hn hX23 h)
      | 33, _, hx =>
        refine ⟨2124, 2164, rfl, by decide, ?_⟩
        have h := h.2.2.2.2.2.2.2.2.2.2.2.2.2.2.2.2.2.2.2.2.2.2.2.2.2.2.2.2.2.2.2.2.2.2.1 (by simpa using hx)
        exact r_sub [0, 1, 2, 3, 4] rfl (T_L_law_2164 C E ht hn hX23 h)
      | 34, _, hx =>
        refine ⟨2137, 2177, rfl, by decide, ?_⟩
        have h := h.2.2.2.2.2.2.2.2.2.2.2.2.2.2.2.2.2.2.2.2.2.2.2.2.2.2.2.2.2.2.2.2.2.2.2.1 (by simpa using hx)
        exact r_sub [0, 1, 2, 3, 4] rfl (T_L_law_2177 C E ht hn hX23 h)
      | 35, _, hx =>
        refine ⟨2162, 2202, rfl, by decide, ?_⟩
        have h := h.2.2.2.2.2.2.2.2.2.2.2.2.2.2.2.2.2.2.2.2.2.2.2.2.2.2.2.2.2.2.2.2.2.2.2.2.1 (by simpa using hx)
        exact r_sub [0, 1, 2, 3, 4] rfl (T_L_law_2202 C E ht hn hX23 h)
      | 36, _, hx =>
        refine ⟨2199, 2239, rfl, by decide, ?_⟩
        have h := h.2.2.2.2.2.2.2.2.2.2.2.2.2.2.2.2.2.2.2.2.2.2.2.2.2.2.2.2.2.2.2.2.2.2.2.2.2.1 (by simpa using hx)
        exact r_sub [0, 1, 2, 3, 4] rfl (T_L_law_2239 C E ht hn hX23 h)
      | 37, _, hx =>
        refine ⟨2236, 2276, rfl, by decide, ?_⟩
        have h := h.2.2.2.2.2.2.2.2.2.2.2.2.2.2.2.2.2.2.2.2.2.2.2.2.2.2.2.2.2.2.2.2.2.2.2.2.2.2.1 (by simpa using hx)
        exact r_sub [0, 1, 2, 3, 4] rfl (T_L_law_2276 C E ht hn hX23 h)
      | 38, _, hx =>
        refine ⟨2264, 2304, rfl, by decide, ?_⟩
        have h := h.2.2.2.2.2.2.2.2.2.2.2.2.2.2.2.2.2.2.2.2.2.2.2.2.2.2.2.2.2.2.2.2.2.2.2.2.2.2.2.1 (by simpa using hx)
        exact r_sub [0, 1, 2, 3, 4] rfl (T_L_law_2304 C E ht hn hX23 h)
      | 39, _, hx =>
        refine ⟨2289, 2329, rfl, by decide, ?_⟩
        have h := h.2.2.2.2.2.2.2.2.2.2.2.2.2.2.2.2.2.2.2.2.2.2.2.2.2.2.2.2.2.2.2.2.2.2.2.2.2.2.2.2 (by simpa using hx)
        exact r_sub [0, 1, 2, 3, 4] rfl (T_L_law_2329 C E ht hn hX23 h)
      | j + 40, hj, _ => exact absurd hj (by omega)
theorem T_L_law_23 {X : CX} {Q : Int32 → HS → Prop} {scb scL : Nat} {scx : Nat → Int32} (C : Cx X cL_law RL 7 rm_L_law) (E : LE X scb scL scx Q) (ht : LD X) (hn : True) {v1 : Nat} {v2 : Nat} {v3 : Nat} {v4 : Int32} {kk : Nat} {nn : Nat} {S : HS} (h : P_L_law_23 scL scx Q v1 v2 v3 v4 kk nn S) : WS X 7 kk nn 23 [(0, .ref scb), (1, .ref v1), (2, .ref v2), (3, .ref v3), (4, .int v4)] [] S :=
  h (fun v1 v2 v3 v4 kk nn S => WS X 7 kk nn 23 [(0, .ref scb), (1, .ref v1), (2, .ref v2), (3, .ref v3), (4, .int v4)] [] S) (fun v1 v2 v3 v4 kk nn S hh => TB_L_law_23 C E ht hn (fun v1 v2 v3 v4 kk nn S z => z) hh)
def P_L_law_0 (scL : Nat) (scx : Nat → Int32) (Q : Int32 → HS → Prop) (kk : Nat) (nn : Nat) (S : HS) : Prop := kk + 1 ≤ rm_L_law.cells ∧ nn + 10 ≤ rm_L_law.slots ∧ ∀ a1 : Nat, a1 ∉ hL S → ∀ S2 : HS, S2 = nW S a1 9 0 → (kk + 1 + 118 ≤ rm_L_law.cells ∧ nn + 10 + 1517 ≤ rm_L_law.slots ∧ (P_X9_init a1 (fun S3 => Gr S2 S3 → (kk + 1 + 118 + 1 ≤ rm_L_law.cells ∧ nn + 10 + 1517 + 26 ≤ rm_L_law.slots ∧ ∀ a6 : Nat, a6 ∉ hL S3 → ∀ S7 : HS, S7 = nW S3 a6 11 0 → (kk + 1 + 118 + 1 + 7 ≤ rm_L_law.cells ∧ nn + 10 + 1517 + 26 + 10664 ≤ rm_L_law.slots ∧ (P_X11_init a6 (fun S8 => Gr S7 S8 → (kk + 1 + 118 + 1 + 7 + 1 ≤ rm_L_law.cells ∧ nn + 10 + 1517 + 26 + 10664 + 1 ≤ rm_L_law.slots ∧ ∀ a11 : Nat, a11 ∉ hL S8 → ∀ S12 : HS, S12 = nW S8 a11 14 1 → (P_L_law_23 scL scx Q a1 a6 a11 (0 : Int32) (kk + 1 + 118 + 1 + 7 + 1) (nn + 10 + 1517 + 26 + 10664 + 1) S12))) S7)))) S2))
set_option maxRecDepth 20000 in
set_option maxHeartbeats 4000000 in
theorem T_L_law_0 {X : CX} {Q : Int32 → HS → Prop} {scb scL : Nat} {scx : Nat → Int32} (C : Cx X cL_law RL 7 rm_L_law) (E : LE X scb scL scx Q) (ht : LD X) (hn : True) {kk : Nat} {nn : Nat} {S : HS} (h : P_L_law_0 scL scx Q kk nn S) : WS X 7 kk nn 0 [(0, .ref scb)] [] S := by
  obtain ⟨hk, hk2, h⟩ := h
  refine r_new (pc := 0) C nc_L_8 dL_law_0 hk hk2 (fun a1 q17 => ?_)
  refine r_heap (fun S2 eS2 => ?_)
  have h := h a1 q17 S2 eS2
  have g18 := gr_of_new eS2 q17
  have o_a1 := ob_of_new eS2
  refine r_dup (pc := 3) C dL_law_3 rfl ?_
  obtain ⟨hk, hk2, h⟩ := h
  refine r_callIv (pc := 4) C (rest := [.ref a1]) (a := a1) [] yI_X9_init g_24 (c_X9_init h) dL_law_4 rfl rfl (Nat.le_of_ble_eq_true rfl) ⟨by decide, by decide⟩ ⟨hk, hk2⟩ (fun S3 h g4 => ?_)
  have h := h g4
  have o_a1 := gr_ob g4 o_a1
  refine r_astore_n (pc := 7) C dL_law_7 rfl (by decide) (lv' := [(1, .ref a1), (0, .ref scb)]) rfl ?_
  obtain ⟨hk, hk2, h⟩ := h
  refine r_new (pc := 8) C nc_L_16 dL_law_8 hk hk2 (fun a6 q15 => ?_)
  refine r_heap (fun S7 eS7 => ?_)
  have h := h a6 q15 S7 eS7
  have g16 := gr_of_new eS7 q15
  have o_a6 := ob_of_new eS7
  have o_a1 := gr_ob g16 o_a1
  refine r_dup (pc := 11) C dL_law_11 rfl ?_
  obtain ⟨hk, hk2, h⟩ := h
  refine r_callIv (pc := 12) C (rest := [.ref a6]) (a := a6) [] yI_X11_init g_1159 (c_X11_init h) dL_law_12 rfl rfl (Nat.le_of_ble_eq_true rfl) ⟨by decide, by decide⟩ ⟨hk, hk2⟩ (fun S8 h g9 => ?_)
  have h := h g9
  have o_a1 := gr_ob g9 o_a1
  have o_a6 := gr_ob g9 o_a6
  refine r_astore_n (pc := 15) C dL_law_15 rfl (by decide) (lv' := [(2, .ref a6), (1, .ref a1), (0, .ref scb)]) rfl ?_
  refine r_iconst (pc := 16) C (v := (1 : Int32)) dL_law_16 (by decide) ?_
  obtain ⟨hk, hk2, h⟩ := h
  refine r_newa14 (pc := 17) C (N := 1) g_266 dL_law_17 (by decide) (by decide) (by decide) hk hk2 (fun a11 q13 => ?_)
  refine r_heap (fun S12 eS12 => ?_)
  have h := h a11 q13 S12 eS12
  have g14 := gr_of_new eS12 q13
  have o_a11 := ob_of_new eS12
  have o_a1 := gr_ob g14 o_a1
  have o_a6 := gr_ob g14 o_a6
  refine r_astore_n (pc := 19) C dL_law_19 rfl (by decide) (lv' := [(3, .ref a11), (2, .ref a6), (1, .ref a1), (0, .ref scb)]) rfl ?_
  refine r_iconst (pc := 20) C (v := (0 : Int32)) dL_law_20 (by decide) ?_
  refine r_istore (pc := 21) C dL_law_21 (by decide) (lv' := [(4, .int (0 : Int32)), (3, .ref a11), (2, .ref a6), (1, .ref a1), (0, .ref scb)]) rfl ?_
  exact r_sub [4, 3, 2, 1, 0] rfl (T_L_law_23 C E ht hn h)
end
section
theorem sc_nI {v4 x : Int32} {c j : Nat} (hv : v4 = nI (8 * c)) (hx : x = v4 + nI j) : x = nI (8 * c + j) := by rw [hx, hv, nI_add]
theorem sc_in {v4 x k : Int32} {c j L : Nat} (hv : v4 = nI (8 * c)) (hc : 8 * c + 8 ≤ L) (hL : L ≤ 4096) (hx : x = v4 + k) (hj : j < 8) (hk : k = nI j) : vp_in x L := by
  have e : x = nI (8 * c + j) := sc_nI hv (by rw [hx, hk])
  rw [e]
  exact nI_in (by omega) (by omega)
theorem sc_in0 {v4 : Int32} {c L : Nat} (hv : v4 = nI (8 * c)) (hc : 8 * c + 8 ≤ L) (hL : L ≤ 4096) : vp_in v4 L := by
  rw [hv]
  exact nI_in (by omega) (by omega)
/-- what holds at the head of the law's loop, c calls done -/
def LI (v1 v2 v3 : Nat) (v4 : Int32) (kk nn : Nat) (S : HS) (c : Nat) : Prop := IV S ∧ ob S v1 9 ∧ ob S v2 11 ∧ ob S v3 14 ∧ hN S v3 = 1 ∧ TT v1 v2 S ∧ fI S v1 7 = fI S v2 13 ∧ WH v1 v2 S ∧ WRy v1 v2 S ∧ LGx v1 S ∧ v4 = nI (8 * c) ∧ kk ≤ 200 + 35 * c ∧ nn ≤ 13000 + 8200 * c

set_option maxHeartbeats 4000000 in
set_option maxRecDepth 20000 in
theorem a_L_law_216 {scL : Nat} {scx : Nat → Int32} {Q : Int32 → HS → Prop} {X23 : Nat → Nat → Nat → Int32 → Nat → Nat → HS → Prop} {v1 v2 v3 : Nat} {v4 : Int32} {kk nn : Nat} {S : HS} {c : Nat} (hL : scL ≤ 4096) (hc : 8 * c + 8 ≤ scL) (hb : ∀ x : Int32, x = v4 + (8 : Int32) → ∀ (kk nn : Nat) (T : HS), IV T → ob T v1 9 → ob T v2 11 → ob T v3 14 → hN T v3 = 1 → TT v1 v2 T → fI T v1 7 = fI T v2 13 → WH v1 v2 T → WRy v1 v2 T → LGx v1 T → kk ≤ 200 + 35 * (c + 1) → nn ≤ 13000 + 8200 * (c + 1) → X23 v1 v2 v3 x kk nn T) (h : LI v1 v2 v3 v4 kk nn S c) : P_L_law_216 scL scx Q X23 v1 v2 v3 v4 kk nn S := by
  obtain ⟨hI, o1, o2, o3, l3, tp, fa, wh, wr, lgx, hv, hk, hn⟩ := h
  obtain ⟨AA, GG, wr, gb⟩ := wr
  unfold P_L_law_216
  intro x1 ex1
  refine ⟨sc_in (j := 1) hv hc hL ex1 (by omega) (by decide), ?_⟩
  intro x2 ex2
  intro x3 ex3
  refine ⟨sc_in (j := 2) hv hc hL ex3 (by omega) (by decide), ?_⟩
  intro x4 ex4
  intro x5 ex5
  refine ⟨sc_in (j := 3) hv hc hL ex5 (by omega) (by decide), ?_⟩
  intro x6 ex6
  intro x7 ex7
  refine ⟨sc_in (j := 4) hv hc hL ex7 (by omega) (by decide), ?_⟩
  intro x8 ex8
  intro x9 ex9
  refine ⟨sc_in (j := 5) hv hc hL ex9 (by omega) (by decide), ?_⟩
  intro x10 ex10
  refine ⟨o1, ?_⟩
  refine ⟨by show _ ≤ 601024; omega, by show _ ≤ 7293034; omega, ?_⟩
  have tt0 := tp
  have c1 := o1
  have c2 := o2
  obtain ⟨f9, t9, a9, b9, ht9, TPc, TPm, hab9, hB9⟩ := tp
  refine mz_X9_feed hI o1 TPc ht9 (fun x12 S11 hJ g13 fc14 pp wa1 kz => ?_)
  have wr := wr_keep hI o2 wr kz.1 kz.2 fc14 (by decide) (by decide) (by decide)
  have lgx := lg_keep o1 lgx g13 fc14 (by decide) (by decide) (by decide)
  have TPd := tp_ft TPm wa1.1 (Ne.symm hab9) (ob_ne TPm.2.2.2.1 o1 (by decide)) (ob_ne o2 TPc.2.2.2.1 (by decide)) (ob_ne o2 o1 (by decide))
  have fa := fa_fri fa o1 o2 fc14 (by decide) (by decide)
  have wh := wh_fri wh o1 o2 fc14 (by decide) (by decide) (by decide)
  have hI := hJ
  have l3 := (gr_len g13 o3).trans l3
  have o1 := gr_ob g13 o1
  have o2 := gr_ob g13 o2
  have o3 := gr_ob g13 o3
  intro _
  intro x15 ex15
  refine ⟨sc_in (j := 1) hv hc hL ex15 (by omega) (by decide), ?_⟩
  intro x16 ex16
  intro x17 ex17
  refine ⟨sc_in (j := 2) hv hc hL ex17 (by omega) (by decide), ?_⟩
  intro x18 ex18
  intro x19 ex19
  refine ⟨sc_in (j := 3) hv hc hL ex19 (by omega) (by decide), ?_⟩
  intro x20 ex20
  intro x21 ex21
  refine ⟨sc_in (j := 4) hv hc hL ex21 (by omega) (by decide), ?_⟩
  intro x22 ex22
  intro x23 ex23
  refine ⟨sc_in (j := 5) hv hc hL ex23 (by omega) (by decide), ?_⟩
  intro x24 ex24
  refine ⟨o2, ?_⟩
  refine ⟨by show _ ≤ 601024; omega, by show _ ≤ 7293034; omega, ?_⟩
  refine mz_X11_feed hI o2 TPd ht9 (fun x26 S25 hJ g27 fc28 pp wa2 kz => ?_)
  have wr := wr_keep hI o2 wr kz.1 kz.2 fc28 (by decide) (by decide) (by decide)
  have lgx := lg_keep o1 lgx g27 fc28 (by decide) (by decide) (by decide)
  have fe0 := tt_feed c1 c2 ht9 TPc TPm hab9 hB9 wa1.1 wa1.2 wa2.1 (by subst_vars; exact wa2.2)
  have tp := fe0.1
  have fe := fe0.2
  have fa := fa_fri fa o1 o2 fc28 (by decide) (by decide)
  have wh := wh_fri wh o1 o2 fc28 (by decide) (by decide) (by decide)
  have hI := hJ
  have l3 := (gr_len g27 o3).trans l3
  have o1 := gr_ob g27 o1
  have o2 := gr_ob g27 o2
  have o3 := gr_ob g27 o3
  intro _
  unfold P_L_law_2342
  intro x29 ex29
  have back := hb x29 ex29
  exact back _ _ _ hI o1 o2 o3 l3 tp fa wh ⟨AA, GG, wr, gb⟩ lgx (by omega) (by omega)
set_option maxHeartbeats 4000000 in
set_option maxRecDepth 20000 in
theorem a_L_law_289 {scL : Nat} {scx : Nat → Int32} {Q : Int32 → HS → Prop} {X23 : Nat → Nat → Nat → Int32 → Nat → Nat → HS → Prop} {v1 v2 v3 : Nat} {v4 : Int32} {kk nn : Nat} {S : HS} {c : Nat} (hL : scL ≤ 4096) (hc : 8 * c + 8 ≤ scL) (hb : ∀ x : Int32, x = v4 + (8 : Int32) → ∀ (kk nn : Nat) (T : HS), IV T → ob T v1 9 → ob T v2 11 → ob T v3 14 → hN T v3 = 1 → TT v1 v2 T → fI T v1 7 = fI T v2 13 → WH v1 v2 T → WRy v1 v2 T → LGx v1 T → kk ≤ 200 + 35 * (c + 1) → nn ≤ 13000 + 8200 * (c + 1) → X23 v1 v2 v3 x kk nn T) (h : LI v1 v2 v3 v4 kk nn S c) : P_L_law_289 scL scx Q X23 v1 v2 v3 v4 kk nn S := by
  obtain ⟨hI, o1, o2, o3, l3, tp, fa, wh, wr, lgx, hv, hk, hn⟩ := h
  obtain ⟨AA, GG, wr, gb⟩ := wr
  unfold P_L_law_289
  intro x30 ex30
  refine ⟨sc_in (j := 1) hv hc hL ex30 (by omega) (by decide), ?_⟩
  intro x31 ex31
  refine ⟨o1, ?_⟩
  refine ⟨by show _ ≤ 601024; omega, by show _ ≤ 7293034; omega, ?_⟩
  have tt0 := tp
  have c1 := o1
  have c2 := o2
  obtain ⟨f9, t9, a9, b9, ht9, TPc, TPm, hab9, hB9⟩ := tp
  have wr0 := wr
  obtain ⟨r9, w9, u9, J9, h91, h92, h93, h94⟩ := wr0
  have hI0 := hI
  refine my_X9_world hI o1 TPc ht9 J9 (fun x33 S32 hJ g34 fc35 pp Kg34 wa1 wx1 => ?_)
  have lgx := lg_keep o1 lgx g34 fc35 (by decide) (by decide) (by decide)
  have gw := g34
  have TPd := tp_mid TPm o2 Kg34 fc35 (by decide) (by decide)
  have fp1 := pp
  have Kw := Kg34
  have fw := fc35
  have hI := hJ
  have l3 := (gr_len g34 o3).trans l3
  have o1 := gr_ob g34 o1
  have o2 := gr_ob g34 o2
  have o3 := gr_ob g34 o3
  intro _
  intro x36 ex36
  refine ⟨sc_in (j := 1) hv hc hL ex36 (by omega) (by decide), ?_⟩
  intro x37 ex37
  refine ⟨o2, ?_⟩
  refine ⟨by show _ ≤ 601024; omega, by show _ ≤ 7293034; omega, ?_⟩
  refine my_X11_world hI o2 TPd ht9 hB9 (fun x39 S38 hJ g40 fc41 pp Kg40 wa2 wx2 => ?_)
  have lgx := lg_keep o1 lgx g40 fc41 (by decide) (by decide) (by decide)
  have tp := tt_world tt0 c1 c2 Kw Kg40 fw fc41 (by decide) (by decide) (by decide) (by decide) (by decide) (by decide) fp1 (by subst_vars; exact pp)
  have fe := wc_wm ht9 wa1 (by subst_vars; exact wa2)
  have fa := fa_world ht9 wa1 (by subst_vars; exact wa2) fa o1 c2 fw fc41 (by decide) (by decide)
  have wh := wh_world ht9 wa1 (by subst_vars; exact wa2) o1 fc41 (by decide) (by decide)
  have wrx := wr_wy hI0 hI hJ c2 J9 h91 h92 h93 h94 gw wx1.2 fw (by decide) (by decide) (by decide) (by decide) g40 wx1.1 (by subst_vars; exact wx2) gb (fun p hp => rw_gb hp)
  have hI := hJ
  have l3 := (gr_len g40 o3).trans l3
  have o1 := gr_ob g40 o1
  have o2 := gr_ob g40 o2
  have o3 := gr_ob g40 o3
  intro _
  unfold P_L_law_2342
  intro x42 ex42
  have back := hb x42 ex42
  exact back _ _ _ hI o1 o2 o3 l3 tp fa wh wrx lgx (by omega) (by omega)
set_option maxHeartbeats 4000000 in
set_option maxRecDepth 20000 in
theorem a_L_law_314 {scL : Nat} {scx : Nat → Int32} {Q : Int32 → HS → Prop} {X23 : Nat → Nat → Nat → Int32 → Nat → Nat → HS → Prop} {v1 v2 v3 : Nat} {v4 : Int32} {kk nn : Nat} {S : HS} {c : Nat} (hL : scL ≤ 4096) (hc : 8 * c + 8 ≤ scL) (hb : ∀ x : Int32, x = v4 + (8 : Int32) → ∀ (kk nn : Nat) (T : HS), IV T → ob T v1 9 → ob T v2 11 → ob T v3 14 → hN T v3 = 1 → TT v1 v2 T → fI T v1 7 = fI T v2 13 → WH v1 v2 T → WRy v1 v2 T → LGx v1 T → kk ≤ 200 + 35 * (c + 1) → nn ≤ 13000 + 8200 * (c + 1) → X23 v1 v2 v3 x kk nn T) (h : LI v1 v2 v3 v4 kk nn S c) : P_L_law_314 scL scx Q X23 v1 v2 v3 v4 kk nn S := by
  obtain ⟨hI, o1, o2, o3, l3, tp, fa, wh, wr, lgx, hv, hk, hn⟩ := h
  obtain ⟨AA, GG, wr, gb⟩ := wr
  unfold P_L_law_314
  refine ⟨o1, ?_⟩
  refine ⟨by show _ ≤ 601024; omega, by show _ ≤ 7293034; omega, ?_⟩
  refine mv_X9_fault hI o1 (fun x44 S43 hJ g45 pp Kg45 vv1 => ?_)
  subst pp
  intro _
  refine ⟨o2, ?_⟩
  refine ⟨by show _ ≤ 601024; omega, by show _ ≤ 7293034; omega, ?_⟩
  refine mz_X11_fault hI o2 (fun x48 S47 hJ g49 fc50 Kg49 vv2 kz => ?_)
  have wr := wr_keep hI o2 wr kz.1 kz.2 fc50 (by decide) (by decide) (by decide)
  have lgx := lg_keep o1 lgx g49 fc50 (by decide) (by decide) (by decide)
  have fe := vv1.trans (fa.trans vv2.symm)
  have tp := tt_fri tp o1 o2 Kg49 fc50 (by decide) (by decide) (by decide) (by decide)
  have fa := fa_fri fa o1 o2 fc50 (by decide) (by decide)
  have wh := wh_fri wh o1 o2 fc50 (by decide) (by decide) (by decide)
  have hI := hJ
  have l3 := (gr_len g49 o3).trans l3
  have o1 := gr_ob g49 o1
  have o2 := gr_ob g49 o2
  have o3 := gr_ob g49 o3
  intro _
  unfold P_L_law_2342
  intro x51 ex51
  have back := hb x51 ex51
  exact back _ _ _ hI o1 o2 o3 l3 tp fa wh ⟨AA, GG, wr, gb⟩ lgx (by omega) (by omega)
set_option maxHeartbeats 4000000 in
set_option maxRecDepth 20000 in
theorem a_L_law_327 {scL : Nat} {scx : Nat → Int32} {Q : Int32 → HS → Prop} {X23 : Nat → Nat → Nat → Int32 → Nat → Nat → HS → Prop} {v1 v2 v3 : Nat} {v4 : Int32} {kk nn : Nat} {S : HS} {c : Nat} (hL : scL ≤ 4096) (hc : 8 * c + 8 ≤ scL) (hb : ∀ x : Int32, x = v4 + (8 : Int32) → ∀ (kk nn : Nat) (T : HS), IV T → ob T v1 9 → ob T v2 11 → ob T v3 14 → hN T v3 = 1 → TT v1 v2 T → fI T v1 7 = fI T v2 13 → WH v1 v2 T → WRy v1 v2 T → LGx v1 T → kk ≤ 200 + 35 * (c + 1) → nn ≤ 13000 + 8200 * (c + 1) → X23 v1 v2 v3 x kk nn T) (h : LI v1 v2 v3 v4 kk nn S c) : P_L_law_327 scL scx Q X23 v1 v2 v3 v4 kk nn S := by
  obtain ⟨hI, o1, o2, o3, l3, tp, fa, wh, wr, lgx, hv, hk, hn⟩ := h
  obtain ⟨AA, GG, wr, gb⟩ := wr
  unfold P_L_law_327
  refine ⟨o1, ?_⟩
  refine ⟨by show _ ≤ 601024; omega, by show _ ≤ 7293034; omega, ?_⟩
  refine mv_X9_where hI o1 (fun x53 S52 hJ g54 pp Kg54 vv1 => ?_)
  subst pp
  intro _
  refine ⟨o2, ?_⟩
  refine ⟨by show _ ≤ 601024; omega, by show _ ≤ 7293034; omega, ?_⟩
  refine mz_X11_where hI o2 (fun x57 S56 hJ g58 fc59 Kg58 vv2 kz => ?_)
  have wr := wr_keep hI o2 wr kz.1 kz.2 fc59 (by decide) (by decide) (by decide)
  have lgx := lg_keep o1 lgx g58 fc59 (by decide) (by decide) (by decide)
  have fe := wh_eq wh vv1 vv2
  have tp := tt_fri tp o1 o2 Kg58 fc59 (by decide) (by decide) (by decide) (by decide)
  have fa := fa_fri fa o1 o2 fc59 (by decide) (by decide)
  have wh := wh_fri wh o1 o2 fc59 (by decide) (by decide) (by decide)
  have hI := hJ
  have l3 := (gr_len g58 o3).trans l3
  have o1 := gr_ob g58 o1
  have o2 := gr_ob g58 o2
  have o3 := gr_ob g58 o3
  intro _
  unfold P_L_law_2342
  intro x60 ex60
  have back := hb x60 ex60
  exact back _ _ _ hI o1 o2 o3 l3 tp fa wh ⟨AA, GG, wr, gb⟩ lgx (by omega) (by omega)
set_option maxHeartbeats 4000000 in
set_option maxRecDepth 20000 in
theorem a_L_law_340 {scL : Nat} {scx : Nat → Int32} {Q : Int32 → HS → Prop} {X23 : Nat → Nat → Nat → Int32 → Nat → Nat → HS → Prop} {v1 v2 v3 : Nat} {v4 : Int32} {kk nn : Nat} {S : HS} {c : Nat} (hL : scL ≤ 4096) (hc : 8 * c + 8 ≤ scL) (hb : ∀ x : Int32, x = v4 + (8 : Int32) → ∀ (kk nn : Nat) (T : HS), IV T → ob T v1 9 → ob T v2 11 → ob T v3 14 → hN T v3 = 1 → TT v1 v2 T → fI T v1 7 = fI T v2 13 → WH v1 v2 T → WRy v1 v2 T → LGx v1 T → kk ≤ 200 + 35 * (c + 1) → nn ≤ 13000 + 8200 * (c + 1) → X23 v1 v2 v3 x kk nn T) (h : LI v1 v2 v3 v4 kk nn S c) : P_L_law_340 scL scx Q X23 v1 v2 v3 v4 kk nn S := by
  obtain ⟨hI, o1, o2, o3, l3, tp, fa, wh, wr, lgx, hv, hk, hn⟩ := h
  obtain ⟨AA, GG, wr, gb⟩ := wr
  unfold P_L_law_340
  intro x61 ex61
  refine ⟨sc_in (j := 1) hv hc hL ex61 (by omega) (by decide), ?_⟩
  intro x62 ex62
  intro x63 ex63
  refine ⟨sc_in (j := 2) hv hc hL ex63 (by omega) (by decide), ?_⟩
  intro x64 ex64
  intro x65 ex65
  refine ⟨sc_in (j := 3) hv hc hL ex65 (by omega) (by decide), ?_⟩
  intro x66 ex66
  intro x67 ex67
  refine ⟨sc_in (j := 4) hv hc hL ex67 (by omega) (by decide), ?_⟩
  intro x68 ex68
  intro x69 ex69
  refine ⟨sc_in (j := 5) hv hc hL ex69 (by omega) (by decide), ?_⟩
  intro x70 ex70
  intro x71 ex71
  refine ⟨sc_in (j := 6) hv hc hL ex71 (by omega) (by decide), ?_⟩
  intro x72 ex72
  intro x73 ex73
  refine ⟨sc_in (j := 7) hv hc hL ex73 (by omega) (by decide), ?_⟩
  intro x74 ex74
  refine ⟨fun c75 => ?_, fun c75 => ?_⟩
  · unfold P_L_law_393
    refine ⟨o1, ?_⟩
    refine ⟨by show _ ≤ 601024; omega, by show _ ≤ 7293034; omega, ?_⟩
    refine mz_X9_face hI o1 (fun x77 S76 hJ g78 fc79 Kg78 nf1 kz => ?_)
    have wr := wr_keep hI o2 wr kz.1 kz.2 fc79 (by decide) (by decide) (by decide)
    have lgx := lg_keep o1 lgx g78 fc79 (by decide) (by decide) (by decide)
    have tp := tt_fri tp o1 o2 Kg78 fc79 (by decide) (by decide) (by decide) (by decide)
    have fa := fa_fri fa o1 o2 fc79 (by decide) (by decide)
    have hI := hJ
    have l3 := (gr_len g78 o3).trans l3
    have o1 := gr_ob g78 o1
    have o2 := gr_ob g78 o2
    have o3 := gr_ob g78 o3
    intro _
    intro x80 ex80
    refine ⟨sc_in (j := 1) hv hc hL ex80 (by omega) (by decide), ?_⟩
    intro x81 ex81
    intro x82 ex82
    refine ⟨sc_in (j := 2) hv hc hL ex82 (by omega) (by decide), ?_⟩
    intro x83 ex83
    intro x84 ex84
    refine ⟨sc_in (j := 3) hv hc hL ex84 (by omega) (by decide), ?_⟩
    intro x85 ex85
    intro x86 ex86
    refine ⟨sc_in (j := 4) hv hc hL ex86 (by omega) (by decide), ?_⟩
    intro x87 ex87
    intro x88 ex88
    refine ⟨sc_in (j := 5) hv hc hL ex88 (by omega) (by decide), ?_⟩
    intro x89 ex89
    intro x90 ex90
    refine ⟨sc_in (j := 6) hv hc hL ex90 (by omega) (by decide), ?_⟩
    intro x91 ex91
    intro x92 ex92
    refine ⟨sc_in (j := 7) hv hc hL ex92 (by omega) (by decide), ?_⟩
    intro x93 ex93
    have xy95 : x93 = x74 := by rw [ex93, ex92, ex74, ex73]
    refine ⟨fun c94 => ?_, fun c94 => absurd (xy95.trans c75) c94⟩
    unfold P_L_law_450
    refine ⟨o2, ?_⟩
    refine ⟨by show _ ≤ 601024; omega, by show _ ≤ 7293034; omega, ?_⟩
    refine mz_X11_face hI o2 (fun x97 S96 hJ g98 fc99 Kg98 nf2 kz => ?_)
    have wr := wr_keep hI o2 wr kz.1 kz.2 fc99 (by decide) (by decide) (by decide)
    have lgx := lg_keep o1 lgx g98 fc99 (by decide) (by decide) (by decide)
    have tp := tt_fri tp o1 o2 Kg98 fc99 (by decide) (by decide) (by decide) (by decide)
    have fa := fa_fri fa o1 o2 fc99 (by decide) (by decide)
    have wh := wh_set nf1 fc99 (by decide) nf2
    have hI := hJ
    have l3 := (gr_len g98 o3).trans l3
    have o1 := gr_ob g98 o1
    have o2 := gr_ob g98 o2
    have o3 := gr_ob g98 o3
    intro _
    unfold P_L_law_2342
    intro x100 ex100
    have back := hb x100 ex100
    exact back _ _ _ hI o1 o2 o3 l3 tp fa wh ⟨AA, GG, wr, gb⟩ lgx (by omega) (by omega)
  · unfold P_L_law_393
    refine ⟨o1, ?_⟩
    refine ⟨by show _ ≤ 601024; omega, by show _ ≤ 7293034; omega, ?_⟩
    refine mz_X9_face hI o1 (fun x102 S101 hJ g103 fc104 Kg103 nf1 kz => ?_)
    have wr := wr_keep hI o2 wr kz.1 kz.2 fc104 (by decide) (by decide) (by decide)
    have lgx := lg_keep o1 lgx g103 fc104 (by decide) (by decide) (by decide)
    have tp := tt_fri tp o1 o2 Kg103 fc104 (by decide) (by decide) (by decide) (by decide)
    have fa := fa_fri fa o1 o2 fc104 (by decide) (by decide)
    have hI := hJ
    have l3 := (gr_len g103 o3).trans l3
    have o1 := gr_ob g103 o1
    have o2 := gr_ob g103 o2
    have o3 := gr_ob g103 o3
    intro _
    intro x105 ex105
    refine ⟨sc_in (j := 1) hv hc hL ex105 (by omega) (by decide), ?_⟩
    intro x106 ex106
    intro x107 ex107
    refine ⟨sc_in (j := 2) hv hc hL ex107 (by omega) (by decide), ?_⟩
    intro x108 ex108
    intro x109 ex109
    refine ⟨sc_in (j := 3) hv hc hL ex109 (by omega) (by decide), ?_⟩
    intro x110 ex110
    intro x111 ex111
    refine ⟨sc_in (j := 4) hv hc hL ex111 (by omega) (by decide), ?_⟩
    intro x112 ex112
    intro x113 ex113
    refine ⟨sc_in (j := 5) hv hc hL ex113 (by omega) (by decide), ?_⟩
    intro x114 ex114
    intro x115 ex115
    refine ⟨sc_in (j := 6) hv hc hL ex115 (by omega) (by decide), ?_⟩
    intro x116 ex116
    intro x117 ex117
    refine ⟨sc_in (j := 7) hv hc hL ex117 (by omega) (by decide), ?_⟩
    intro x118 ex118
    have xy120 : x118 = x74 := by rw [ex118, ex117, ex74, ex73]
    refine ⟨fun c119 => absurd (xy120.symm.trans c119) c75, fun c119 => ?_⟩
    unfold P_L_law_450
    refine ⟨o2, ?_⟩
    refine ⟨by show _ ≤ 601024; omega, by show _ ≤ 7293034; omega, ?_⟩
    refine mz_X11_face hI o2 (fun x122 S121 hJ g123 fc124 Kg123 nf2 kz => ?_)
    have wr := wr_keep hI o2 wr kz.1 kz.2 fc124 (by decide) (by decide) (by decide)
    have lgx := lg_keep o1 lgx g123 fc124 (by decide) (by decide) (by decide)
    have tp := tt_fri tp o1 o2 Kg123 fc124 (by decide) (by decide) (by decide) (by decide)
    have fa := fa_fri fa o1 o2 fc124 (by decide) (by decide)
    have wh := wh_set nf1 fc124 (by decide) nf2
    have hI := hJ
    have l3 := (gr_len g123 o3).trans l3
    have o1 := gr_ob g123 o1
    have o2 := gr_ob g123 o2
    have o3 := gr_ob g123 o3
    intro _
    unfold P_L_law_2342
    intro x125 ex125
    have back := hb x125 ex125
    exact back _ _ _ hI o1 o2 o3 l3 tp fa wh ⟨AA, GG, wr, gb⟩ lgx (by omega) (by omega)
set_option maxHeartbeats 4000000 in
set_option maxRecDepth 20000 in
theorem a_L_law_457 {scL : Nat} {scx : Nat → Int32} {Q : Int32 → HS → Prop} {X23 : Nat → Nat → Nat → Int32 → Nat → Nat → HS → Prop} {v1 v2 v3 : Nat} {v4 : Int32} {kk nn : Nat} {S : HS} {c : Nat} (hL : scL ≤ 4096) (hc : 8 * c + 8 ≤ scL) (hb : ∀ x : Int32, x = v4 + (8 : Int32) → ∀ (kk nn : Nat) (T : HS), IV T → ob T v1 9 → ob T v2 11 → ob T v3 14 → hN T v3 = 1 → TT v1 v2 T → fI T v1 7 = fI T v2 13 → WH v1 v2 T → WRy v1 v2 T → LGx v1 T → kk ≤ 200 + 35 * (c + 1) → nn ≤ 13000 + 8200 * (c + 1) → X23 v1 v2 v3 x kk nn T) (h : LI v1 v2 v3 v4 kk nn S c) : P_L_law_457 scL scx Q X23 v1 v2 v3 v4 kk nn S := by
  obtain ⟨hI, o1, o2, o3, l3, tp, fa, wh, wr, lgx, hv, hk, hn⟩ := h
  obtain ⟨AA, GG, wr, gb⟩ := wr
  unfold P_L_law_457
  intro x126 ex126
  refine ⟨sc_in (j := 1) hv hc hL ex126 (by omega) (by decide), ?_⟩
  intro x127 ex127
  intro x128 ex128
  refine ⟨sc_in (j := 2) hv hc hL ex128 (by omega) (by decide), ?_⟩
  intro x129 ex129
  intro x130 ex130
  refine ⟨sc_in (j := 3) hv hc hL ex130 (by omega) (by decide), ?_⟩
  intro x131 ex131
  intro x132 ex132
  refine ⟨sc_in (j := 4) hv hc hL ex132 (by omega) (by decide), ?_⟩
  intro x133 ex133
  intro x134 ex134
  refine ⟨sc_in (j := 5) hv hc hL ex134 (by omega) (by decide), ?_⟩
  intro x135 ex135
  intro x136 ex136
  refine ⟨sc_in (j := 6) hv hc hL ex136 (by omega) (by decide), ?_⟩
  intro x137 ex137
  refine ⟨fun c138 => ?_, fun c138 => ?_⟩
  · unfold P_L_law_503
    refine ⟨o1, ?_⟩
    refine ⟨by show _ ≤ 601024; omega, by show _ ≤ 7293034; omega, ?_⟩
    refine mz_X9_wet hI o1 (fun x140 S139 hJ g141 fc142 Kg141 nf1 kz => ?_)
    have wr := wr_keep hI o2 wr kz.1 kz.2 fc142 (by decide) (by decide) (by decide)
    have lgx := lg_keep o1 lgx g141 fc142 (by decide) (by decide) (by decide)
    have tp := tt_fri tp o1 o2 Kg141 fc142 (by decide) (by decide) (by decide) (by decide)
    have fa := fa_fri fa o1 o2 fc142 (by decide) (by decide)
    have hI := hJ
    have l3 := (gr_len g141 o3).trans l3
    have o1 := gr_ob g141 o1
    have o2 := gr_ob g141 o2
    have o3 := gr_ob g141 o3
    intro _
    intro x143 ex143
    refine ⟨sc_in (j := 1) hv hc hL ex143 (by omega) (by decide), ?_⟩
    intro x144 ex144
    intro x145 ex145
    refine ⟨sc_in (j := 2) hv hc hL ex145 (by omega) (by decide), ?_⟩
    intro x146 ex146
    intro x147 ex147
    refine ⟨sc_in (j := 3) hv hc hL ex147 (by omega) (by decide), ?_⟩
    intro x148 ex148
    intro x149 ex149
    refine ⟨sc_in (j := 4) hv hc hL ex149 (by omega) (by decide), ?_⟩
    intro x150 ex150
    intro x151 ex151
    refine ⟨sc_in (j := 5) hv hc hL ex151 (by omega) (by decide), ?_⟩
    intro x152 ex152
    intro x153 ex153
    refine ⟨sc_in (j := 6) hv hc hL ex153 (by omega) (by decide), ?_⟩
    intro x154 ex154
    have xy156 : x154 = x137 := by rw [ex154, ex153, ex137, ex136]
    refine ⟨fun c155 => ?_, fun c155 => absurd (xy156.trans c138) c155⟩
    unfold P_L_law_553
    refine ⟨o2, ?_⟩
    refine ⟨by show _ ≤ 601024; omega, by show _ ≤ 7293034; omega, ?_⟩
    refine mz_X11_wet hI o2 (fun x158 S157 hJ g159 fc160 Kg159 nf2 kz => ?_)
    have wr := wr_keep hI o2 wr kz.1 kz.2 fc160 (by decide) (by decide) (by decide)
    have lgx := lg_keep o1 lgx g159 fc160 (by decide) (by decide) (by decide)
    have tp := tt_fri tp o1 o2 Kg159 fc160 (by decide) (by decide) (by decide) (by decide)
    have fa := fa_fri fa o1 o2 fc160 (by decide) (by decide)
    have wh := wh_set nf1 fc160 (by decide) nf2
    have hI := hJ
    have l3 := (gr_len g159 o3).trans l3
    have o1 := gr_ob g159 o1
    have o2 := gr_ob g159 o2
    have o3 := gr_ob g159 o3
    intro _
    unfold P_L_law_2342
    intro x161 ex161
    have back := hb x161 ex161
    exact back _ _ _ hI o1 o2 o3 l3 tp fa wh ⟨AA, GG, wr, gb⟩ lgx (by omega) (by omega)
  · unfold P_L_law_503
    refine ⟨o1, ?_⟩
    refine ⟨by show _ ≤ 601024; omega, by show _ ≤ 7293034; omega, ?_⟩
    refine mz_X9_wet hI o1 (fun x163 S162 hJ g164 fc165 Kg164 nf1 kz => ?_)
    have wr := wr_keep hI o2 wr kz.1 kz.2 fc165 (by decide) (by decide) (by decide)
    have lgx := lg_keep o1 lgx g164 fc165 (by decide) (by decide) (by decide)
    have tp := tt_fri tp o1 o2 Kg164 fc165 (by decide) (by decide) (by decide) (by decide)
    have fa := fa_fri fa o1 o2 fc165 (by decide) (by decide)
    have hI := hJ
    have l3 := (gr_len g164 o3).trans l3
    have o1 := gr_ob g164 o1
    have o2 := gr_ob g164 o2
    have o3 := gr_ob g164 o3
    intro _
    intro x166 ex166
    refine ⟨sc_in (j := 1) hv hc hL ex166 (by omega) (by decide), ?_⟩
    intro x167 ex167
    intro x168 ex168
    refine ⟨sc_in (j := 2) hv hc hL ex168 (by omega) (by decide), ?_⟩
    intro x169 ex169
    intro x170 ex170
    refine ⟨sc_in (j := 3) hv hc hL ex170 (by omega) (by decide), ?_⟩
    intro x171 ex171
    intro x172 ex172
    refine ⟨sc_in (j := 4) hv hc hL ex172 (by omega) (by decide), ?_⟩
    intro x173 ex173
    intro x174 ex174
    refine ⟨sc_in (j := 5) hv hc hL ex174 (by omega) (by decide), ?_⟩
    intro x175 ex175
    intro x176 ex176
    refine ⟨sc_in (j := 6) hv hc hL ex176 (by omega) (by decide), ?_⟩
    intro x177 ex177
    have xy179 : x177 = x137 := by rw [ex177, ex176, ex137, ex136]
    refine ⟨fun c178 => absurd (xy179.symm.trans c178) c138, fun c178 => ?_⟩
    unfold P_L_law_553
    refine ⟨o2, ?_⟩
    refine ⟨by show _ ≤ 601024; omega, by show _ ≤ 7293034; omega, ?_⟩
    refine mz_X11_wet hI o2 (fun x181 S180 hJ g182 fc183 Kg182 nf2 kz => ?_)
    have wr := wr_keep hI o2 wr kz.1 kz.2 fc183 (by decide) (by decide) (by decide)
    have lgx := lg_keep o1 lgx g182 fc183 (by decide) (by decide) (by decide)
    have tp := tt_fri tp o1 o2 Kg182 fc183 (by decide) (by decide) (by decide) (by decide)
    have fa := fa_fri fa o1 o2 fc183 (by decide) (by decide)
    have wh := wh_set nf1 fc183 (by decide) nf2
    have hI := hJ
    have l3 := (gr_len g182 o3).trans l3
    have o1 := gr_ob g182 o1
    have o2 := gr_ob g182 o2
    have o3 := gr_ob g182 o3
    intro _
    unfold P_L_law_2342
    intro x184 ex184
    have back := hb x184 ex184
    exact back _ _ _ hI o1 o2 o3 l3 tp fa wh ⟨AA, GG, wr, gb⟩ lgx (by omega) (by omega)
set_option maxHeartbeats 4000000 in
set_option maxRecDepth 20000 in
theorem a_L_law_560 {scL : Nat} {scx : Nat → Int32} {Q : Int32 → HS → Prop} {X23 : Nat → Nat → Nat → Int32 → Nat → Nat → HS → Prop} {v1 v2 v3 : Nat} {v4 : Int32} {kk nn : Nat} {S : HS} {c : Nat} (hL : scL ≤ 4096) (hc : 8 * c + 8 ≤ scL) (hb : ∀ x : Int32, x = v4 + (8 : Int32) → ∀ (kk nn : Nat) (T : HS), IV T → ob T v1 9 → ob T v2 11 → ob T v3 14 → hN T v3 = 1 → TT v1 v2 T → fI T v1 7 = fI T v2 13 → WH v1 v2 T → WRy v1 v2 T → LGx v1 T → kk ≤ 200 + 35 * (c + 1) → nn ≤ 13000 + 8200 * (c + 1) → X23 v1 v2 v3 x kk nn T) (h : LI v1 v2 v3 v4 kk nn S c) : P_L_law_560 scL scx Q X23 v1 v2 v3 v4 kk nn S := by
  obtain ⟨hI, o1, o2, o3, l3, tp, fa, wh, wr, lgx, hv, hk, hn⟩ := h
  obtain ⟨AA, GG, wr, gb⟩ := wr
  unfold P_L_law_560
  intro x185 ex185
  refine ⟨sc_in (j := 1) hv hc hL ex185 (by omega) (by decide), ?_⟩
  intro x186 ex186
  intro x187 ex187
  refine ⟨sc_in (j := 2) hv hc hL ex187 (by omega) (by decide), ?_⟩
  intro x188 ex188
  intro x189 ex189
  refine ⟨sc_in (j := 3) hv hc hL ex189 (by omega) (by decide), ?_⟩
  intro x190 ex190
  intro x191 ex191
  refine ⟨sc_in (j := 4) hv hc hL ex191 (by omega) (by decide), ?_⟩
  intro x192 ex192
  intro x193 ex193
  refine ⟨sc_in (j := 5) hv hc hL ex193 (by omega) (by decide), ?_⟩
  intro x194 ex194
  intro x195 ex195
  refine ⟨sc_in (j := 6) hv hc hL ex195 (by omega) (by decide), ?_⟩
  intro x196 ex196
  refine ⟨fun c197 => ?_, fun c197 => ?_⟩
  · unfold P_L_law_606
    refine ⟨o1, ?_⟩
    refine ⟨by show _ ≤ 601024; omega, by show _ ≤ 7293034; omega, ?_⟩
    have wr0 := wr
    obtain ⟨r9, w9, u9, J9, h91, h92, h93, h94⟩ := wr0
    have lg0 := lgx
    obtain ⟨l9, p9, q9, lg9⟩ := lg0
    refine mt_X9_mean hI o1 J9 h91 h92 h93 gb lg9 (fun x199 S198 hJ g200 fc201 Kg200 nf1 tz1 => ?_)
    have kz := tz1.1
    have wr := wr_keep hI o2 wr kz.1 kz.2 fc201 (by decide) (by decide) (by decide)
    have lgx := lg_keep o1 lgx g200 fc201 (by decide) (by decide) (by decide)
    have tp := tt_fri tp o1 o2 Kg200 fc201 (by decide) (by decide) (by decide) (by decide)
    have fa := fa_fri fa o1 o2 fc201 (by decide) (by decide)
    have hI := hJ
    have l3 := (gr_len g200 o3).trans l3
    have o1 := gr_ob g200 o1
    have o2 := gr_ob g200 o2
    have o3 := gr_ob g200 o3
    intro _
    intro x202 ex202
    refine ⟨sc_in (j := 1) hv hc hL ex202 (by omega) (by decide), ?_⟩
    intro x203 ex203
    intro x204 ex204
    refine ⟨sc_in (j := 2) hv hc hL ex204 (by omega) (by decide), ?_⟩
    intro x205 ex205
    intro x206 ex206
    refine ⟨sc_in (j := 3) hv hc hL ex206 (by omega) (by decide), ?_⟩
    intro x207 ex207
    intro x208 ex208
    refine ⟨sc_in (j := 4) hv hc hL ex208 (by omega) (by decide), ?_⟩
    intro x209 ex209
    intro x210 ex210
    refine ⟨sc_in (j := 5) hv hc hL ex210 (by omega) (by decide), ?_⟩
    intro x211 ex211
    intro x212 ex212
    refine ⟨sc_in (j := 6) hv hc hL ex212 (by omega) (by decide), ?_⟩
    intro x213 ex213
    have xy215 : x213 = x196 := by rw [ex213, ex212, ex196, ex195]
    refine ⟨fun c214 => ?_, fun c214 => absurd (xy215.trans c197) c214⟩
    unfold P_L_law_655
    refine ⟨o2, ?_⟩
    refine ⟨by show _ ≤ 601024; omega, by show _ ≤ 7293034; omega, ?_⟩
    have wr0 := wr
    obtain ⟨-, -, -, -, -, -, ab9, hm9⟩ := wr0
    refine mt_X11_mean hI o2 hm9 ab9 gb (fun x217 S216 hJ g218 fc219 Kg218 nf2 tz2 => ?_)
    have kz := tz2.1
    have fe := tz1.2.trans (Eq.symm (by subst_vars; exact tz2.2))
    have wr := wr_keep hI o2 wr kz.1 kz.2 fc219 (by decide) (by decide) (by decide)
    have lgx := lg_keep o1 lgx g218 fc219 (by decide) (by decide) (by decide)
    have tp := tt_fri tp o1 o2 Kg218 fc219 (by decide) (by decide) (by decide) (by decide)
    have fa := fa_fri fa o1 o2 fc219 (by decide) (by decide)
    have wh := wh_set nf1 fc219 (by decide) nf2
    have hI := hJ
    have l3 := (gr_len g218 o3).trans l3
    have o1 := gr_ob g218 o1
    have o2 := gr_ob g218 o2
    have o3 := gr_ob g218 o3
    intro _
    refine ⟨fun c220 => ?_, fun c220 => absurd (lgc_eq.mpr fe) c220⟩
    unfold P_L_law_2342
    intro x221 ex221
    have back := hb x221 ex221
    exact back _ _ _ hI o1 o2 o3 l3 tp fa wh ⟨AA, GG, wr, gb⟩ lgx (by omega) (by omega)
  · unfold P_L_law_606
    refine ⟨o1, ?_⟩
    refine ⟨by show _ ≤ 601024; omega, by show _ ≤ 7293034; omega, ?_⟩
    have wr0 := wr
    obtain ⟨r9, w9, u9, J9, h91, h92, h93, h94⟩ := wr0
    have lg0 := lgx
    obtain ⟨l9, p9, q9, lg9⟩ := lg0
    refine mt_X9_mean hI o1 J9 h91 h92 h93 gb lg9 (fun x223 S222 hJ g224 fc225 Kg224 nf1 tz1 => ?_)
    have kz := tz1.1
    have wr := wr_keep hI o2 wr kz.1 kz.2 fc225 (by decide) (by decide) (by decide)
    have lgx := lg_keep o1 lgx g224 fc225 (by decide) (by decide) (by decide)
    have tp := tt_fri tp o1 o2 Kg224 fc225 (by decide) (by decide) (by decide) (by decide)
    have fa := fa_fri fa o1 o2 fc225 (by decide) (by decide)
    have hI := hJ
    have l3 := (gr_len g224 o3).trans l3
    have o1 := gr_ob g224 o1
    have o2 := gr_ob g224 o2
    have o3 := gr_ob g224 o3
    intro _
    intro x226 ex226
    refine ⟨sc_in (j := 1) hv hc hL ex226 (by omega) (by decide), ?_⟩
    intro x227 ex227
    intro x228 ex228
    refine ⟨sc_in (j := 2) hv hc hL ex228 (by omega) (by decide), ?_⟩
    intro x229 ex229
    intro x230 ex230
    refine ⟨sc_in (j := 3) hv hc hL ex230 (by omega) (by decide), ?_⟩
    intro x231 ex231
    intro x232 ex232
    refine ⟨sc_in (j := 4) hv hc hL ex232 (by omega) (by decide), ?_⟩
    intro x233 ex233
    intro x234 ex234
    refine ⟨sc_in (j := 5) hv hc hL ex234 (by omega) (by decide), ?_⟩
    intro x235 ex235
    intro x236 ex236
    refine ⟨sc_in (j := 6) hv hc hL ex236 (by omega) (by decide), ?_⟩
    intro x237 ex237
    have xy239 : x237 = x196 := by rw [ex237, ex236, ex196, ex195]
    refine ⟨fun c238 => absurd (xy239.symm.trans c238) c197, fun c238 => ?_⟩
    unfold P_L_law_655
    refine ⟨o2, ?_⟩
    refine ⟨by show _ ≤ 601024; omega, by show _ ≤ 7293034; omega, ?_⟩
    have wr0 := wr
    obtain ⟨-, -, -, -, -, -, ab9, hm9⟩ := wr0
    refine mt_X11_mean hI o2 hm9 ab9 gb (fun x241 S240 hJ g242 fc243 Kg242 nf2 tz2 => ?_)
    have kz := tz2.1
    have fe := tz1.2.trans (Eq.symm (by subst_vars; exact tz2.2))
    have wr := wr_keep hI o2 wr kz.1 kz.2 fc243 (by decide) (by decide) (by decide)
    have lgx := lg_keep o1 lgx g242 fc243 (by decide) (by decide) (by decide)
    have tp := tt_fri tp o1 o2 Kg242 fc243 (by decide) (by decide) (by decide) (by decide)
    have fa := fa_fri fa o1 o2 fc243 (by decide) (by decide)
    have wh := wh_set nf1 fc243 (by decide) nf2
    have hI := hJ
    have l3 := (gr_len g242 o3).trans l3
    have o1 := gr_ob g242 o1
    have o2 := gr_ob g242 o2
    have o3 := gr_ob g242 o3
    intro _
    refine ⟨fun c244 => ?_, fun c244 => absurd (lgc_eq.mpr fe) c244⟩
    unfold P_L_law_2342
    intro x245 ex245
    have back := hb x245 ex245
    exact back _ _ _ hI o1 o2 o3 l3 tp fa wh ⟨AA, GG, wr, gb⟩ lgx (by omega) (by omega)
set_option maxHeartbeats 4000000 in
set_option maxRecDepth 20000 in
theorem a_L_law_664 {scL : Nat} {scx : Nat → Int32} {Q : Int32 → HS → Prop} {X23 : Nat → Nat → Nat → Int32 → Nat → Nat → HS → Prop} {v1 v2 v3 : Nat} {v4 : Int32} {kk nn : Nat} {S : HS} {c : Nat} (hL : scL ≤ 4096) (hc : 8 * c + 8 ≤ scL) (hb : ∀ x : Int32, x = v4 + (8 : Int32) → ∀ (kk nn : Nat) (T : HS), IV T → ob T v1 9 → ob T v2 11 → ob T v3 14 → hN T v3 = 1 → TT v1 v2 T → fI T v1 7 = fI T v2 13 → WH v1 v2 T → WRy v1 v2 T → LGx v1 T → kk ≤ 200 + 35 * (c + 1) → nn ≤ 13000 + 8200 * (c + 1) → X23 v1 v2 v3 x kk nn T) (h : LI v1 v2 v3 v4 kk nn S c) : P_L_law_664 scL scx Q X23 v1 v2 v3 v4 kk nn S := by
  obtain ⟨hI, o1, o2, o3, l3, tp, fa, wh, wr, lgx, hv, hk, hn⟩ := h
  obtain ⟨AA, GG, wr, gb⟩ := wr
  unfold P_L_law_664
  intro x246 ex246
  refine ⟨sc_in (j := 1) hv hc hL ex246 (by omega) (by decide), ?_⟩
  intro x247 ex247
  intro x248 ex248
  refine ⟨sc_in (j := 2) hv hc hL ex248 (by omega) (by decide), ?_⟩
  intro x249 ex249
  intro x250 ex250
  refine ⟨sc_in (j := 3) hv hc hL ex250 (by omega) (by decide), ?_⟩
  intro x251 ex251
  refine ⟨o1, ?_⟩
  refine ⟨by show _ ≤ 601024; omega, by show _ ≤ 7293034; omega, ?_⟩
  refine mz_X9_minutes hI o1 (fun x253 S252 hJ g254 fc255 Kg254 nf1 kz => ?_)
  have wr := wr_keep hI o2 wr kz.1 kz.2 fc255 (by decide) (by decide) (by decide)
  have lgx := lg_keep o1 lgx g254 fc255 (by decide) (by decide) (by decide)
  have tp := tt_fri tp o1 o2 Kg254 fc255 (by decide) (by decide) (by decide) (by decide)
  have fa := fa_fri fa o1 o2 fc255 (by decide) (by decide)
  have hI := hJ
  have l3 := (gr_len g254 o3).trans l3
  have o1 := gr_ob g254 o1
  have o2 := gr_ob g254 o2
  have o3 := gr_ob g254 o3
  intro _
  intro x256 ex256
  refine ⟨sc_in (j := 1) hv hc hL ex256 (by omega) (by decide), ?_⟩
  intro x257 ex257
  intro x258 ex258
  refine ⟨sc_in (j := 2) hv hc hL ex258 (by omega) (by decide), ?_⟩
  intro x259 ex259
  intro x260 ex260
  refine ⟨sc_in (j := 3) hv hc hL ex260 (by omega) (by decide), ?_⟩
  intro x261 ex261
  refine ⟨o2, ?_⟩
  refine ⟨by show _ ≤ 601024; omega, by show _ ≤ 7293034; omega, ?_⟩
  refine mz_X11_minutes hI o2 (fun x263 S262 hJ g264 fc265 Kg264 nf2 kz => ?_)
  have wr := wr_keep hI o2 wr kz.1 kz.2 fc265 (by decide) (by decide) (by decide)
  have lgx := lg_keep o1 lgx g264 fc265 (by decide) (by decide) (by decide)
  have tp := tt_fri tp o1 o2 Kg264 fc265 (by decide) (by decide) (by decide) (by decide)
  have fa := fa_fri fa o1 o2 fc265 (by decide) (by decide)
  have wh := wh_set nf1 fc265 (by decide) nf2
  have hI := hJ
  have l3 := (gr_len g264 o3).trans l3
  have o1 := gr_ob g264 o1
  have o2 := gr_ob g264 o2
  have o3 := gr_ob g264 o3
  intro _
  unfold P_L_law_2342
  intro x266 ex266
  have back := hb x266 ex266
  exact back _ _ _ hI o1 o2 o3 l3 tp fa wh ⟨AA, GG, wr, gb⟩ lgx (by omega) (by omega)
set_option maxHeartbeats 4000000 in
set_option maxRecDepth 20000 in
theorem a_L_law_713 {scL : Nat} {scx : Nat → Int32} {Q : Int32 → HS → Prop} {X23 : Nat → Nat → Nat → Int32 → Nat → Nat → HS → Prop} {v1 v2 v3 : Nat} {v4 : Int32} {kk nn : Nat} {S : HS} {c : Nat} (hL : scL ≤ 4096) (hc : 8 * c + 8 ≤ scL) (hb : ∀ x : Int32, x = v4 + (8 : Int32) → ∀ (kk nn : Nat) (T : HS), IV T → ob T v1 9 → ob T v2 11 → ob T v3 14 → hN T v3 = 1 → TT v1 v2 T → fI T v1 7 = fI T v2 13 → WH v1 v2 T → WRy v1 v2 T → LGx v1 T → kk ≤ 200 + 35 * (c + 1) → nn ≤ 13000 + 8200 * (c + 1) → X23 v1 v2 v3 x kk nn T) (h : LI v1 v2 v3 v4 kk nn S c) : P_L_law_713 scL scx Q X23 v1 v2 v3 v4 kk nn S := by
  obtain ⟨hI, o1, o2, o3, l3, tp, fa, wh, wr, lgx, hv, hk, hn⟩ := h
  obtain ⟨AA, GG, wr, gb⟩ := wr
  unfold P_L_law_713
  intro x267 ex267
  refine ⟨sc_in (j := 1) hv hc hL ex267 (by omega) (by decide), ?_⟩
  intro x268 ex268
  intro x269 ex269
  refine ⟨sc_in (j := 2) hv hc hL ex269 (by omega) (by decide), ?_⟩
  intro x270 ex270
  intro x271 ex271
  refine ⟨sc_in (j := 3) hv hc hL ex271 (by omega) (by decide), ?_⟩
  intro x272 ex272
  refine ⟨o1, ?_⟩
  refine ⟨by show _ ≤ 601024; omega, by show _ ≤ 7293034; omega, ?_⟩
  refine mz_X9_air hI o1 (fun x274 S273 hJ g275 fc276 Kg275 nf1 kz => ?_)
  have wr := wr_keep hI o2 wr kz.1 kz.2 fc276 (by decide) (by decide) (by decide)
  have lgx := lg_keep o1 lgx g275 fc276 (by decide) (by decide) (by decide)
  have tp := tt_fri tp o1 o2 Kg275 fc276 (by decide) (by decide) (by decide) (by decide)
  have fa := fa_fri fa o1 o2 fc276 (by decide) (by decide)
  have hI := hJ
  have l3 := (gr_len g275 o3).trans l3
  have o1 := gr_ob g275 o1
  have o2 := gr_ob g275 o2
  have o3 := gr_ob g275 o3
  intro _
  intro x277 ex277
  refine ⟨sc_in (j := 1) hv hc hL ex277 (by omega) (by decide), ?_⟩
  intro x278 ex278
  intro x279 ex279
  refine ⟨sc_in (j := 2) hv hc hL ex279 (by omega) (by decide), ?_⟩
  intro x280 ex280
  intro x281 ex281
  refine ⟨sc_in (j := 3) hv hc hL ex281 (by omega) (by decide), ?_⟩
  intro x282 ex282
  refine ⟨o2, ?_⟩
  refine ⟨by show _ ≤ 601024; omega, by show _ ≤ 7293034; omega, ?_⟩
  refine mz_X11_air hI o2 (fun x284 S283 hJ g285 fc286 Kg285 nf2 kz => ?_)
  have wr := wr_keep hI o2 wr kz.1 kz.2 fc286 (by decide) (by decide) (by decide)
  have lgx := lg_keep o1 lgx g285 fc286 (by decide) (by decide) (by decide)
  have tp := tt_fri tp o1 o2 Kg285 fc286 (by decide) (by decide) (by decide) (by decide)
  have fa := fa_fri fa o1 o2 fc286 (by decide) (by decide)
  have wh := wh_set nf1 fc286 (by decide) nf2
  have hI := hJ
  have l3 := (gr_len g285 o3).trans l3
  have o1 := gr_ob g285 o1
  have o2 := gr_ob g285 o2
  have o3 := gr_ob g285 o3
  intro _
  unfold P_L_law_2342
  intro x287 ex287
  have back := hb x287 ex287
  exact back _ _ _ hI o1 o2 o3 l3 tp fa wh ⟨AA, GG, wr, gb⟩ lgx (by omega) (by omega)
set_option maxHeartbeats 4000000 in
set_option maxRecDepth 20000 in
theorem a_L_law_762 {scL : Nat} {scx : Nat → Int32} {Q : Int32 → HS → Prop} {X23 : Nat → Nat → Nat → Int32 → Nat → Nat → HS → Prop} {v1 v2 v3 : Nat} {v4 : Int32} {kk nn : Nat} {S : HS} {c : Nat} (hL : scL ≤ 4096) (hc : 8 * c + 8 ≤ scL) (hb : ∀ x : Int32, x = v4 + (8 : Int32) → ∀ (kk nn : Nat) (T : HS), IV T → ob T v1 9 → ob T v2 11 → ob T v3 14 → hN T v3 = 1 → TT v1 v2 T → fI T v1 7 = fI T v2 13 → WH v1 v2 T → WRy v1 v2 T → LGx v1 T → kk ≤ 200 + 35 * (c + 1) → nn ≤ 13000 + 8200 * (c + 1) → X23 v1 v2 v3 x kk nn T) (h : LI v1 v2 v3 v4 kk nn S c) : P_L_law_762 scL scx Q X23 v1 v2 v3 v4 kk nn S := by
  obtain ⟨hI, o1, o2, o3, l3, tp, fa, wh, wr, lgx, hv, hk, hn⟩ := h
  obtain ⟨AA, GG, wr, gb⟩ := wr
  unfold P_L_law_762
  intro x288 ex288
  refine ⟨sc_in (j := 1) hv hc hL ex288 (by omega) (by decide), ?_⟩
  intro x289 ex289
  intro x290 ex290
  refine ⟨sc_in (j := 2) hv hc hL ex290 (by omega) (by decide), ?_⟩
  intro x291 ex291
  intro x292 ex292
  refine ⟨sc_in (j := 3) hv hc hL ex292 (by omega) (by decide), ?_⟩
  intro x293 ex293
  intro x294 ex294
  refine ⟨sc_in (j := 4) hv hc hL ex294 (by omega) (by decide), ?_⟩
  intro x295 ex295
  intro x296 ex296
  refine ⟨sc_in (j := 5) hv hc hL ex296 (by omega) (by decide), ?_⟩
  intro x297 ex297
  refine ⟨o1, ?_⟩
  refine ⟨by show _ ≤ 601024; omega, by show _ ≤ 7293034; omega, ?_⟩
  refine mz_X9_held hI o1 (fun x299 S298 hJ g300 fc301 Kg300 nf1 kz => ?_)
  have wr := wr_keep hI o2 wr kz.1 kz.2 fc301 (by decide) (by decide) (by decide)
  have lgx := lg_keep o1 lgx g300 fc301 (by decide) (by decide) (by decide)
  have tp := tt_fri tp o1 o2 Kg300 fc301 (by decide) (by decide) (by decide) (by decide)
  have fa := fa_fri fa o1 o2 fc301 (by decide) (by decide)
  have hI := hJ
  have l3 := (gr_len g300 o3).trans l3
  have o1 := gr_ob g300 o1
  have o2 := gr_ob g300 o2
  have o3 := gr_ob g300 o3
  intro _
  intro x302 ex302
  refine ⟨sc_in (j := 1) hv hc hL ex302 (by omega) (by decide), ?_⟩
  intro x303 ex303
  intro x304 ex304
  refine ⟨sc_in (j := 2) hv hc hL ex304 (by omega) (by decide), ?_⟩
  intro x305 ex305
  intro x306 ex306
  refine ⟨sc_in (j := 3) hv hc hL ex306 (by omega) (by decide), ?_⟩
  intro x307 ex307
  intro x308 ex308
  refine ⟨sc_in (j := 4) hv hc hL ex308 (by omega) (by decide), ?_⟩
  intro x309 ex309
  intro x310 ex310
  refine ⟨sc_in (j := 5) hv hc hL ex310 (by omega) (by decide), ?_⟩
  intro x311 ex311
  refine ⟨o2, ?_⟩
  refine ⟨by show _ ≤ 601024; omega, by show _ ≤ 7293034; omega, ?_⟩
  refine mz_X11_held hI o2 (fun x313 S312 hJ g314 fc315 Kg314 nf2 kz => ?_)
  have wr := wr_keep hI o2 wr kz.1 kz.2 fc315 (by decide) (by decide) (by decide)
  have lgx := lg_keep o1 lgx g314 fc315 (by decide) (by decide) (by decide)
  have tp := tt_fri tp o1 o2 Kg314 fc315 (by decide) (by decide) (by decide) (by decide)
  have fa := fa_fri fa o1 o2 fc315 (by decide) (by decide)
  have wh := wh_set nf1 fc315 (by decide) nf2
  have hI := hJ
  have l3 := (gr_len g314 o3).trans l3
  have o1 := gr_ob g314 o1
  have o2 := gr_ob g314 o2
  have o3 := gr_ob g314 o3
  intro _
  unfold P_L_law_2342
  intro x316 ex316
  have back := hb x316 ex316
  exact back _ _ _ hI o1 o2 o3 l3 tp fa wh ⟨AA, GG, wr, gb⟩ lgx (by omega) (by omega)
set_option maxHeartbeats 4000000 in
set_option maxRecDepth 20000 in
theorem a_L_law_835 {scL : Nat} {scx : Nat → Int32} {Q : Int32 → HS → Prop} {X23 : Nat → Nat → Nat → Int32 → Nat → Nat → HS → Prop} {v1 v2 v3 : Nat} {v4 : Int32} {kk nn : Nat} {S : HS} {c : Nat} (hL : scL ≤ 4096) (hc : 8 * c + 8 ≤ scL) (hb : ∀ x : Int32, x = v4 + (8 : Int32) → ∀ (kk nn : Nat) (T : HS), IV T → ob T v1 9 → ob T v2 11 → ob T v3 14 → hN T v3 = 1 → TT v1 v2 T → fI T v1 7 = fI T v2 13 → WH v1 v2 T → WRy v1 v2 T → LGx v1 T → kk ≤ 200 + 35 * (c + 1) → nn ≤ 13000 + 8200 * (c + 1) → X23 v1 v2 v3 x kk nn T) (h : LI v1 v2 v3 v4 kk nn S c) : P_L_law_835 scL scx Q X23 v1 v2 v3 v4 kk nn S := by
  obtain ⟨hI, o1, o2, o3, l3, tp, fa, wh, wr, lgx, hv, hk, hn⟩ := h
  obtain ⟨AA, GG, wr, gb⟩ := wr
  unfold P_L_law_835
  intro x317 ex317
  refine ⟨sc_in (j := 1) hv hc hL ex317 (by omega) (by decide), ?_⟩
  intro x318 ex318
  intro x319 ex319
  refine ⟨sc_in (j := 2) hv hc hL ex319 (by omega) (by decide), ?_⟩
  intro x320 ex320
  intro x321 ex321
  refine ⟨sc_in (j := 3) hv hc hL ex321 (by omega) (by decide), ?_⟩
  intro x322 ex322
  intro x323 ex323
  refine ⟨sc_in (j := 4) hv hc hL ex323 (by omega) (by decide), ?_⟩
  intro x324 ex324
  refine ⟨o1, ?_⟩
  refine ⟨by show _ ≤ 601024; omega, by show _ ≤ 7293034; omega, ?_⟩
  refine mz_X9_best hI o1 (fun x326 S325 hJ g327 fc328 Kg327 nf1 kz => ?_)
  have wr := wr_keep hI o2 wr kz.1 kz.2 fc328 (by decide) (by decide) (by decide)
  have lgx := lg_keep o1 lgx g327 fc328 (by decide) (by decide) (by decide)
  have tp := tt_fri tp o1 o2 Kg327 fc328 (by decide) (by decide) (by decide) (by decide)
  have fa := fa_fri fa o1 o2 fc328 (by decide) (by decide)
  have hI := hJ
  have l3 := (gr_len g327 o3).trans l3
  have o1 := gr_ob g327 o1
  have o2 := gr_ob g327 o2
  have o3 := gr_ob g327 o3
  intro _
  intro x329 ex329
  refine ⟨sc_in (j := 1) hv hc hL ex329 (by omega) (by decide), ?_⟩
  intro x330 ex330
  intro x331 ex331
  refine ⟨sc_in (j := 2) hv hc hL ex331 (by omega) (by decide), ?_⟩
  intro x332 ex332
  intro x333 ex333
  refine ⟨sc_in (j := 3) hv hc hL ex333 (by omega) (by decide), ?_⟩
  intro x334 ex334
  intro x335 ex335
  refine ⟨sc_in (j := 4) hv hc hL ex335 (by omega) (by decide), ?_⟩
  intro x336 ex336
  refine ⟨o2, ?_⟩
  refine ⟨by show _ ≤ 601024; omega, by show _ ≤ 7293034; omega, ?_⟩
  refine mz_X11_best hI o2 (fun x338 S337 hJ g339 fc340 Kg339 nf2 kz => ?_)
  have wr := wr_keep hI o2 wr kz.1 kz.2 fc340 (by decide) (by decide) (by decide)
  have lgx := lg_keep o1 lgx g339 fc340 (by decide) (by decide) (by decide)
  have tp := tt_fri tp o1 o2 Kg339 fc340 (by decide) (by decide) (by decide) (by decide)
  have fa := fa_fri fa o1 o2 fc340 (by decide) (by decide)
  have wh := wh_set nf1 fc340 (by decide) nf2
  have hI := hJ
  have l3 := (gr_len g339 o3).trans l3
  have o1 := gr_ob g339 o1
  have o2 := gr_ob g339 o2
  have o3 := gr_ob g339 o3
  intro _
  unfold P_L_law_2342
  intro x341 ex341
  have back := hb x341 ex341
  exact back _ _ _ hI o1 o2 o3 l3 tp fa wh ⟨AA, GG, wr, gb⟩ lgx (by omega) (by omega)
set_option maxHeartbeats 4000000 in
set_option maxRecDepth 20000 in
theorem a_L_law_896 {scL : Nat} {scx : Nat → Int32} {Q : Int32 → HS → Prop} {X23 : Nat → Nat → Nat → Int32 → Nat → Nat → HS → Prop} {v1 v2 v3 : Nat} {v4 : Int32} {kk nn : Nat} {S : HS} {c : Nat} (hL : scL ≤ 4096) (hc : 8 * c + 8 ≤ scL) (hb : ∀ x : Int32, x = v4 + (8 : Int32) → ∀ (kk nn : Nat) (T : HS), IV T → ob T v1 9 → ob T v2 11 → ob T v3 14 → hN T v3 = 1 → TT v1 v2 T → fI T v1 7 = fI T v2 13 → WH v1 v2 T → WRy v1 v2 T → LGx v1 T → kk ≤ 200 + 35 * (c + 1) → nn ≤ 13000 + 8200 * (c + 1) → X23 v1 v2 v3 x kk nn T) (h : LI v1 v2 v3 v4 kk nn S c) : P_L_law_896 scL scx Q X23 v1 v2 v3 v4 kk nn S := by
  obtain ⟨hI, o1, o2, o3, l3, tp, fa, wh, wr, lgx, hv, hk, hn⟩ := h
  obtain ⟨AA, GG, wr, gb⟩ := wr
  unfold P_L_law_896
  intro x342 ex342
  refine ⟨sc_in (j := 1) hv hc hL ex342 (by omega) (by decide), ?_⟩
  intro x343 ex343
  intro x344 ex344
  refine ⟨sc_in (j := 2) hv hc hL ex344 (by omega) (by decide), ?_⟩
  intro x345 ex345
  intro x346 ex346
  refine ⟨sc_in (j := 3) hv hc hL ex346 (by omega) (by decide), ?_⟩
  intro x347 ex347
  intro x348 ex348
  refine ⟨sc_in (j := 4) hv hc hL ex348 (by omega) (by decide), ?_⟩
  intro x349 ex349
  intro x350 ex350
  refine ⟨sc_in (j := 5) hv hc hL ex350 (by omega) (by decide), ?_⟩
  intro x351 ex351
  refine ⟨fun c352 => ?_, fun c352 => ?_⟩
  · unfold P_L_law_935
    refine ⟨o1, ?_⟩
    refine ⟨by show _ ≤ 601024; omega, by show _ ≤ 7293034; omega, ?_⟩
    refine mz_X9_saves hI o1 (fun x354 S353 hJ g355 fc356 Kg355 nf1 kz => ?_)
    have wr := wr_keep hI o2 wr kz.1 kz.2 fc356 (by decide) (by decide) (by decide)
    have lgx := lg_keep o1 lgx g355 fc356 (by decide) (by decide) (by decide)
    have tp := tt_fri tp o1 o2 Kg355 fc356 (by decide) (by decide) (by decide) (by decide)
    have fa := fa_fri fa o1 o2 fc356 (by decide) (by decide)
    have hI := hJ
    have l3 := (gr_len g355 o3).trans l3
    have o1 := gr_ob g355 o1
    have o2 := gr_ob g355 o2
    have o3 := gr_ob g355 o3
    intro _
    intro x357 ex357
    refine ⟨sc_in (j := 1) hv hc hL ex357 (by omega) (by decide), ?_⟩
    intro x358 ex358
    intro x359 ex359
    refine ⟨sc_in (j := 2) hv hc hL ex359 (by omega) (by decide), ?_⟩
    intro x360 ex360
    intro x361 ex361
    refine ⟨sc_in (j := 3) hv hc hL ex361 (by omega) (by decide), ?_⟩
    intro x362 ex362
    intro x363 ex363
    refine ⟨sc_in (j := 4) hv hc hL ex363 (by omega) (by decide), ?_⟩
    intro x364 ex364
    intro x365 ex365
    refine ⟨sc_in (j := 5) hv hc hL ex365 (by omega) (by decide), ?_⟩
    intro x366 ex366
    have xy368 : x366 = x351 := by rw [ex366, ex365, ex351, ex350]
    refine ⟨fun c367 => ?_, fun c367 => absurd (xy368.trans c352) c367⟩
    unfold P_L_law_978
    refine ⟨o2, ?_⟩
    refine ⟨by show _ ≤ 601024; omega, by show _ ≤ 7293034; omega, ?_⟩
    refine mz_X11_saves hI o2 (fun x370 S369 hJ g371 fc372 Kg371 nf2 kz => ?_)
    have wr := wr_keep hI o2 wr kz.1 kz.2 fc372 (by decide) (by decide) (by decide)
    have lgx := lg_keep o1 lgx g371 fc372 (by decide) (by decide) (by decide)
    have tp := tt_fri tp o1 o2 Kg371 fc372 (by decide) (by decide) (by decide) (by decide)
    have fa := fa_fri fa o1 o2 fc372 (by decide) (by decide)
    have wh := wh_set nf1 fc372 (by decide) nf2
    have hI := hJ
    have l3 := (gr_len g371 o3).trans l3
    have o1 := gr_ob g371 o1
    have o2 := gr_ob g371 o2
    have o3 := gr_ob g371 o3
    intro _
    unfold P_L_law_2342
    intro x373 ex373
    have back := hb x373 ex373
    exact back _ _ _ hI o1 o2 o3 l3 tp fa wh ⟨AA, GG, wr, gb⟩ lgx (by omega) (by omega)
  · unfold P_L_law_935
    refine ⟨o1, ?_⟩
    refine ⟨by show _ ≤ 601024; omega, by show _ ≤ 7293034; omega, ?_⟩
    refine mz_X9_saves hI o1 (fun x375 S374 hJ g376 fc377 Kg376 nf1 kz => ?_)
    have wr := wr_keep hI o2 wr kz.1 kz.2 fc377 (by decide) (by decide) (by decide)
    have lgx := lg_keep o1 lgx g376 fc377 (by decide) (by decide) (by decide)
    have tp := tt_fri tp o1 o2 Kg376 fc377 (by decide) (by decide) (by decide) (by decide)
    have fa := fa_fri fa o1 o2 fc377 (by decide) (by decide)
    have hI := hJ
    have l3 := (gr_len g376 o3).trans l3
    have o1 := gr_ob g376 o1
    have o2 := gr_ob g376 o2
    have o3 := gr_ob g376 o3
    intro _
    intro x378 ex378
    refine ⟨sc_in (j := 1) hv hc hL ex378 (by omega) (by decide), ?_⟩
    intro x379 ex379
    intro x380 ex380
    refine ⟨sc_in (j := 2) hv hc hL ex380 (by omega) (by decide), ?_⟩
    intro x381 ex381
    intro x382 ex382
    refine ⟨sc_in (j := 3) hv hc hL ex382 (by omega) (by decide), ?_⟩
    intro x383 ex383
    intro x384 ex384
    refine ⟨sc_in (j := 4) hv hc hL ex384 (by omega) (by decide), ?_⟩
    intro x385 ex385
    intro x386 ex386
    refine ⟨sc_in (j := 5) hv hc hL ex386 (by omega) (by decide), ?_⟩
    intro x387 ex387
    have xy389 : x387 = x351 := by rw [ex387, ex386, ex351, ex350]
    refine ⟨fun c388 => absurd (xy389.symm.trans c388) c352, fun c388 => ?_⟩
    unfold P_L_law_978
    refine ⟨o2, ?_⟩
    refine ⟨by show _ ≤ 601024; omega, by show _ ≤ 7293034; omega, ?_⟩
    refine mz_X11_saves hI o2 (fun x391 S390 hJ g392 fc393 Kg392 nf2 kz => ?_)
    have wr := wr_keep hI o2 wr kz.1 kz.2 fc393 (by decide) (by decide) (by decide)
    have lgx := lg_keep o1 lgx g392 fc393 (by decide) (by decide) (by decide)
    have tp := tt_fri tp o1 o2 Kg392 fc393 (by decide) (by decide) (by decide) (by decide)
    have fa := fa_fri fa o1 o2 fc393 (by decide) (by decide)
    have wh := wh_set nf1 fc393 (by decide) nf2
    have hI := hJ
    have l3 := (gr_len g392 o3).trans l3
    have o1 := gr_ob g392 o1
    have o2 := gr_ob g392 o2
    have o3 := gr_ob g392 o3
    intro _
    unfold P_L_law_2342
    intro x394 ex394
    have back := hb x394 ex394
    exact back _ _ _ hI o1 o2 o3 l3 tp fa wh ⟨AA, GG, wr, gb⟩ lgx (by omega) (by omega)
set_option maxHeartbeats 4000000 in
set_option maxRecDepth 20000 in
theorem a_L_law_985 {scL : Nat} {scx : Nat → Int32} {Q : Int32 → HS → Prop} {X23 : Nat → Nat → Nat → Int32 → Nat → Nat → HS → Prop} {v1 v2 v3 : Nat} {v4 : Int32} {kk nn : Nat} {S : HS} {c : Nat} (hL : scL ≤ 4096) (hc : 8 * c + 8 ≤ scL) (hb : ∀ x : Int32, x = v4 + (8 : Int32) → ∀ (kk nn : Nat) (T : HS), IV T → ob T v1 9 → ob T v2 11 → ob T v3 14 → hN T v3 = 1 → TT v1 v2 T → fI T v1 7 = fI T v2 13 → WH v1 v2 T → WRy v1 v2 T → LGx v1 T → kk ≤ 200 + 35 * (c + 1) → nn ≤ 13000 + 8200 * (c + 1) → X23 v1 v2 v3 x kk nn T) (h : LI v1 v2 v3 v4 kk nn S c) : P_L_law_985 scL scx Q X23 v1 v2 v3 v4 kk nn S := by
  obtain ⟨hI, o1, o2, o3, l3, tp, fa, wh, wr, lgx, hv, hk, hn⟩ := h
  obtain ⟨AA, GG, wr, gb⟩ := wr
  unfold P_L_law_985
  intro x395 ex395
  refine ⟨sc_in (j := 1) hv hc hL ex395 (by omega) (by decide), ?_⟩
  intro x396 ex396
  intro x397 ex397
  refine ⟨sc_in (j := 2) hv hc hL ex397 (by omega) (by decide), ?_⟩
  intro x398 ex398
  intro x399 ex399
  refine ⟨sc_in (j := 3) hv hc hL ex399 (by omega) (by decide), ?_⟩
  intro x400 ex400
  intro x401 ex401
  refine ⟨sc_in (j := 4) hv hc hL ex401 (by omega) (by decide), ?_⟩
  intro x402 ex402
  refine ⟨o1, ?_⟩
  refine ⟨by show _ ≤ 601024; omega, by show _ ≤ 7293034; omega, ?_⟩
  refine mz_X9_worst hI o1 (fun x404 S403 hJ g405 fc406 Kg405 nf1 kz => ?_)
  have wr := wr_keep hI o2 wr kz.1 kz.2 fc406 (by decide) (by decide) (by decide)
  have lgx := lg_keep o1 lgx g405 fc406 (by decide) (by decide) (by decide)
  have tp := tt_fri tp o1 o2 Kg405 fc406 (by decide) (by decide) (by decide) (by decide)
  have fa := fa_fri fa o1 o2 fc406 (by decide) (by decide)
  have hI := hJ
  have l3 := (gr_len g405 o3).trans l3
  have o1 := gr_ob g405 o1
  have o2 := gr_ob g405 o2
  have o3 := gr_ob g405 o3
  intro _
  intro x407 ex407
  refine ⟨sc_in (j := 1) hv hc hL ex407 (by omega) (by decide), ?_⟩
  intro x408 ex408
  intro x409 ex409
  refine ⟨sc_in (j := 2) hv hc hL ex409 (by omega) (by decide), ?_⟩
  intro x410 ex410
  intro x411 ex411
  refine ⟨sc_in (j := 3) hv hc hL ex411 (by omega) (by decide), ?_⟩
  intro x412 ex412
  intro x413 ex413
  refine ⟨sc_in (j := 4) hv hc hL ex413 (by omega) (by decide), ?_⟩
  intro x414 ex414
  refine ⟨o2, ?_⟩
  refine ⟨by show _ ≤ 601024; omega, by show _ ≤ 7293034; omega, ?_⟩
  refine mz_X11_worst hI o2 (fun x416 S415 hJ g417 fc418 Kg417 nf2 kz => ?_)
  have wr := wr_keep hI o2 wr kz.1 kz.2 fc418 (by decide) (by decide) (by decide)
  have lgx := lg_keep o1 lgx g417 fc418 (by decide) (by decide) (by decide)
  have tp := tt_fri tp o1 o2 Kg417 fc418 (by decide) (by decide) (by decide) (by decide)
  have fa := fa_fri fa o1 o2 fc418 (by decide) (by decide)
  have wh := wh_set nf1 fc418 (by decide) nf2
  have hI := hJ
  have l3 := (gr_len g417 o3).trans l3
  have o1 := gr_ob g417 o1
  have o2 := gr_ob g417 o2
  have o3 := gr_ob g417 o3
  intro _
  unfold P_L_law_2342
  intro x419 ex419
  have back := hb x419 ex419
  exact back _ _ _ hI o1 o2 o3 l3 tp fa wh ⟨AA, GG, wr, gb⟩ lgx (by omega) (by omega)
set_option maxHeartbeats 4000000 in
set_option maxRecDepth 20000 in
theorem a_L_law_1046 {scL : Nat} {scx : Nat → Int32} {Q : Int32 → HS → Prop} {X23 : Nat → Nat → Nat → Int32 → Nat → Nat → HS → Prop} {v1 v2 v3 : Nat} {v4 : Int32} {kk nn : Nat} {S : HS} {c : Nat} (hL : scL ≤ 4096) (hc : 8 * c + 8 ≤ scL) (hb : ∀ x : Int32, x = v4 + (8 : Int32) → ∀ (kk nn : Nat) (T : HS), IV T → ob T v1 9 → ob T v2 11 → ob T v3 14 → hN T v3 = 1 → TT v1 v2 T → fI T v1 7 = fI T v2 13 → WH v1 v2 T → WRy v1 v2 T → LGx v1 T → kk ≤ 200 + 35 * (c + 1) → nn ≤ 13000 + 8200 * (c + 1) → X23 v1 v2 v3 x kk nn T) (h : LI v1 v2 v3 v4 kk nn S c) : P_L_law_1046 scL scx Q X23 v1 v2 v3 v4 kk nn S := by
  obtain ⟨hI, o1, o2, o3, l3, tp, fa, wh, wr, lgx, hv, hk, hn⟩ := h
  obtain ⟨AA, GG, wr, gb⟩ := wr
  unfold P_L_law_1046
  intro x420 ex420
  refine ⟨sc_in (j := 1) hv hc hL ex420 (by omega) (by decide), ?_⟩
  intro x421 ex421
  intro x422 ex422
  refine ⟨sc_in (j := 2) hv hc hL ex422 (by omega) (by decide), ?_⟩
  intro x423 ex423
  intro x424 ex424
  refine ⟨sc_in (j := 3) hv hc hL ex424 (by omega) (by decide), ?_⟩
  intro x425 ex425
  intro x426 ex426
  refine ⟨sc_in (j := 4) hv hc hL ex426 (by omega) (by decide), ?_⟩
  intro x427 ex427
  refine ⟨o1, ?_⟩
  refine ⟨by show _ ≤ 601024; omega, by show _ ≤ 7293034; omega, ?_⟩
  refine mz_X9_even hI o1 (fun x429 S428 hJ g430 fc431 Kg430 nf1 kz => ?_)
  have wr := wr_keep hI o2 wr kz.1 kz.2 fc431 (by decide) (by decide) (by decide)
  have lgx := lg_keep o1 lgx g430 fc431 (by decide) (by decide) (by decide)
  have tp := tt_fri tp o1 o2 Kg430 fc431 (by decide) (by decide) (by decide) (by decide)
  have fa := fa_fri fa o1 o2 fc431 (by decide) (by decide)
  have hI := hJ
  have l3 := (gr_len g430 o3).trans l3
  have o1 := gr_ob g430 o1
  have o2 := gr_ob g430 o2
  have o3 := gr_ob g430 o3
  intro _
  intro x432 ex432
  refine ⟨sc_in (j := 1) hv hc hL ex432 (by omega) (by decide), ?_⟩
  intro x433 ex433
  intro x434 ex434
  refine ⟨sc_in (j := 2) hv hc hL ex434 (by omega) (by decide), ?_⟩
  intro x435 ex435
  intro x436 ex436
  refine ⟨sc_in (j := 3) hv hc hL ex436 (by omega) (by decide), ?_⟩
  intro x437 ex437
  intro x438 ex438
  refine ⟨sc_in (j := 4) hv hc hL ex438 (by omega) (by decide), ?_⟩
  intro x439 ex439
  refine ⟨o2, ?_⟩
  refine ⟨by show _ ≤ 601024; omega, by show _ ≤ 7293034; omega, ?_⟩
  refine mz_X11_even hI o2 (fun x441 S440 hJ g442 fc443 Kg442 nf2 kz => ?_)
  have wr := wr_keep hI o2 wr kz.1 kz.2 fc443 (by decide) (by decide) (by decide)
  have lgx := lg_keep o1 lgx g442 fc443 (by decide) (by decide) (by decide)
  have tp := tt_fri tp o1 o2 Kg442 fc443 (by decide) (by decide) (by decide) (by decide)
  have fa := fa_fri fa o1 o2 fc443 (by decide) (by decide)
  have wh := wh_set nf1 fc443 (by decide) nf2
  have hI := hJ
  have l3 := (gr_len g442 o3).trans l3
  have o1 := gr_ob g442 o1
  have o2 := gr_ob g442 o2
  have o3 := gr_ob g442 o3
  intro _
  unfold P_L_law_2342
  intro x444 ex444
  have back := hb x444 ex444
  exact back _ _ _ hI o1 o2 o3 l3 tp fa wh ⟨AA, GG, wr, gb⟩ lgx (by omega) (by omega)
set_option maxHeartbeats 4000000 in
set_option maxRecDepth 20000 in
theorem a_L_law_1107 {scL : Nat} {scx : Nat → Int32} {Q : Int32 → HS → Prop} {X23 : Nat → Nat → Nat → Int32 → Nat → Nat → HS → Prop} {v1 v2 v3 : Nat} {v4 : Int32} {kk nn : Nat} {S : HS} {c : Nat} (hL : scL ≤ 4096) (hc : 8 * c + 8 ≤ scL) (hb : ∀ x : Int32, x = v4 + (8 : Int32) → ∀ (kk nn : Nat) (T : HS), IV T → ob T v1 9 → ob T v2 11 → ob T v3 14 → hN T v3 = 1 → TT v1 v2 T → fI T v1 7 = fI T v2 13 → WH v1 v2 T → WRy v1 v2 T → LGx v1 T → kk ≤ 200 + 35 * (c + 1) → nn ≤ 13000 + 8200 * (c + 1) → X23 v1 v2 v3 x kk nn T) (h : LI v1 v2 v3 v4 kk nn S c) : P_L_law_1107 scL scx Q X23 v1 v2 v3 v4 kk nn S := by
  obtain ⟨hI, o1, o2, o3, l3, tp, fa, wh, wr, lgx, hv, hk, hn⟩ := h
  obtain ⟨AA, GG, wr, gb⟩ := wr
  unfold P_L_law_1107
  intro x445 ex445
  refine ⟨sc_in (j := 1) hv hc hL ex445 (by omega) (by decide), ?_⟩
  intro x446 ex446
  intro x447 ex447
  refine ⟨sc_in (j := 2) hv hc hL ex447 (by omega) (by decide), ?_⟩
  intro x448 ex448
  intro x449 ex449
  refine ⟨sc_in (j := 3) hv hc hL ex449 (by omega) (by decide), ?_⟩
  intro x450 ex450
  intro x451 ex451
  refine ⟨sc_in (j := 4) hv hc hL ex451 (by omega) (by decide), ?_⟩
  intro x452 ex452
  refine ⟨fun c453 => ?_, fun c453 => ?_⟩
  · unfold P_L_law_1140
    refine ⟨o1, ?_⟩
    refine ⟨by show _ ≤ 601024; omega, by show _ ≤ 7293034; omega, ?_⟩
    refine mz_X9_round hI o1 (fun x455 S454 hJ g456 fc457 Kg456 nf1 kz => ?_)
    have wr := wr_keep hI o2 wr kz.1 kz.2 fc457 (by decide) (by decide) (by decide)
    have lgx := lg_keep o1 lgx g456 fc457 (by decide) (by decide) (by decide)
    have tp := tt_fri tp o1 o2 Kg456 fc457 (by decide) (by decide) (by decide) (by decide)
    have fa := fa_fri fa o1 o2 fc457 (by decide) (by decide)
    have hI := hJ
    have l3 := (gr_len g456 o3).trans l3
    have o1 := gr_ob g456 o1
    have o2 := gr_ob g456 o2
    have o3 := gr_ob g456 o3
    intro _
    intro x458 ex458
    refine ⟨sc_in (j := 1) hv hc hL ex458 (by omega) (by decide), ?_⟩
    intro x459 ex459
    intro x460 ex460
    refine ⟨sc_in (j := 2) hv hc hL ex460 (by omega) (by decide), ?_⟩
    intro x461 ex461
    intro x462 ex462
    refine ⟨sc_in (j := 3) hv hc hL ex462 (by omega) (by decide), ?_⟩
    intro x463 ex463
    intro x464 ex464
    refine ⟨sc_in (j := 4) hv hc hL ex464 (by omega) (by decide), ?_⟩
    intro x465 ex465
    have xy467 : x465 = x452 := by rw [ex465, ex464, ex452, ex451]
    refine ⟨fun c466 => ?_, fun c466 => absurd (xy467.trans c453) c466⟩
    unfold P_L_law_1177
    refine ⟨o2, ?_⟩
    refine ⟨by show _ ≤ 601024; omega, by show _ ≤ 7293034; omega, ?_⟩
    refine mz_X11_round hI o2 (fun x469 S468 hJ g470 fc471 Kg470 nf2 kz => ?_)
    have wr := wr_keep hI o2 wr kz.1 kz.2 fc471 (by decide) (by decide) (by decide)
    have lgx := lg_keep o1 lgx g470 fc471 (by decide) (by decide) (by decide)
    have tp := tt_fri tp o1 o2 Kg470 fc471 (by decide) (by decide) (by decide) (by decide)
    have fa := fa_fri fa o1 o2 fc471 (by decide) (by decide)
    have wh := wh_set nf1 fc471 (by decide) nf2
    have hI := hJ
    have l3 := (gr_len g470 o3).trans l3
    have o1 := gr_ob g470 o1
    have o2 := gr_ob g470 o2
    have o3 := gr_ob g470 o3
    intro _
    unfold P_L_law_2342
    intro x472 ex472
    have back := hb x472 ex472
    exact back _ _ _ hI o1 o2 o3 l3 tp fa wh ⟨AA, GG, wr, gb⟩ lgx (by omega) (by omega)
  · unfold P_L_law_1140
    refine ⟨o1, ?_⟩
    refine ⟨by show _ ≤ 601024; omega, by show _ ≤ 7293034; omega, ?_⟩
    refine mz_X9_round hI o1 (fun x474 S473 hJ g475 fc476 Kg475 nf1 kz => ?_)
    have wr := wr_keep hI o2 wr kz.1 kz.2 fc476 (by decide) (by decide) (by decide)
    have lgx := lg_keep o1 lgx g475 fc476 (by decide) (by decide) (by decide)
    have tp := tt_fri tp o1 o2 Kg475 fc476 (by decide) (by decide) (by decide) (by decide)
    have fa := fa_fri fa o1 o2 fc476 (by decide) (by decide)
    have hI := hJ
    have l3 := (gr_len g475 o3).trans l3
    have o1 := gr_ob g475 o1
    have o2 := gr_ob g475 o2
    have o3 := gr_ob g475 o3
    intro _
    intro x477 ex477
    refine ⟨sc_in (j := 1) hv hc hL ex477 (by omega) (by decide), ?_⟩
    intro x478 ex478
    intro x479 ex479
    refine ⟨sc_in (j := 2) hv hc hL ex479 (by omega) (by decide), ?_⟩
    intro x480 ex480
    intro x481 ex481
    refine ⟨sc_in (j := 3) hv hc hL ex481 (by omega) (by decide), ?_⟩
    intro x482 ex482
    intro x483 ex483
    refine ⟨sc_in (j := 4) hv hc hL ex483 (by omega) (by decide), ?_⟩
    intro x484 ex484
    have xy486 : x484 = x452 := by rw [ex484, ex483, ex452, ex451]
    refine ⟨fun c485 => absurd (xy486.symm.trans c485) c453, fun c485 => ?_⟩
    unfold P_L_law_1177
    refine ⟨o2, ?_⟩
    refine ⟨by show _ ≤ 601024; omega, by show _ ≤ 7293034; omega, ?_⟩
    refine mz_X11_round hI o2 (fun x488 S487 hJ g489 fc490 Kg489 nf2 kz => ?_)
    have wr := wr_keep hI o2 wr kz.1 kz.2 fc490 (by decide) (by decide) (by decide)
    have lgx := lg_keep o1 lgx g489 fc490 (by decide) (by decide) (by decide)
    have tp := tt_fri tp o1 o2 Kg489 fc490 (by decide) (by decide) (by decide) (by decide)
    have fa := fa_fri fa o1 o2 fc490 (by decide) (by decide)
    have wh := wh_set nf1 fc490 (by decide) nf2
    have hI := hJ
    have l3 := (gr_len g489 o3).trans l3
    have o1 := gr_ob g489 o1
    have o2 := gr_ob g489 o2
    have o3 := gr_ob g489 o3
    intro _
    unfold P_L_law_2342
    intro x491 ex491
    have back := hb x491 ex491
    exact back _ _ _ hI o1 o2 o3 l3 tp fa wh ⟨AA, GG, wr, gb⟩ lgx (by omega) (by omega)
set_option maxHeartbeats 4000000 in
set_option maxRecDepth 20000 in
theorem a_L_law_1184 {scL : Nat} {scx : Nat → Int32} {Q : Int32 → HS → Prop} {X23 : Nat → Nat → Nat → Int32 → Nat → Nat → HS → Prop} {v1 v2 v3 : Nat} {v4 : Int32} {kk nn : Nat} {S : HS} {c : Nat} (hL : scL ≤ 4096) (hc : 8 * c + 8 ≤ scL) (hb : ∀ x : Int32, x = v4 + (8 : Int32) → ∀ (kk nn : Nat) (T : HS), IV T → ob T v1 9 → ob T v2 11 → ob T v3 14 → hN T v3 = 1 → TT v1 v2 T → fI T v1 7 = fI T v2 13 → WH v1 v2 T → WRy v1 v2 T → LGx v1 T → kk ≤ 200 + 35 * (c + 1) → nn ≤ 13000 + 8200 * (c + 1) → X23 v1 v2 v3 x kk nn T) (h : LI v1 v2 v3 v4 kk nn S c) : P_L_law_1184 scL scx Q X23 v1 v2 v3 v4 kk nn S := by
  obtain ⟨hI, o1, o2, o3, l3, tp, fa, wh, wr, lgx, hv, hk, hn⟩ := h
  obtain ⟨AA, GG, wr, gb⟩ := wr
  unfold P_L_law_1184
  intro x492 ex492
  refine ⟨sc_in (j := 1) hv hc hL ex492 (by omega) (by decide), ?_⟩
  intro x493 ex493
  intro x494 ex494
  refine ⟨sc_in (j := 2) hv hc hL ex494 (by omega) (by decide), ?_⟩
  intro x495 ex495
  intro x496 ex496
  refine ⟨sc_in (j := 3) hv hc hL ex496 (by omega) (by decide), ?_⟩
  intro x497 ex497
  refine ⟨o1, ?_⟩
  refine ⟨by show _ ≤ 601024; omega, by show _ ≤ 7293034; omega, ?_⟩
  refine mz_X9_driest hI o1 (fun x499 S498 hJ g500 fc501 Kg500 nf1 kz => ?_)
  have wr := wr_keep hI o2 wr kz.1 kz.2 fc501 (by decide) (by decide) (by decide)
  have lgx := lg_keep o1 lgx g500 fc501 (by decide) (by decide) (by decide)
  have tp := tt_fri tp o1 o2 Kg500 fc501 (by decide) (by decide) (by decide) (by decide)
  have fa := fa_fri fa o1 o2 fc501 (by decide) (by decide)
  have hI := hJ
  have l3 := (gr_len g500 o3).trans l3
  have o1 := gr_ob g500 o1
  have o2 := gr_ob g500 o2
  have o3 := gr_ob g500 o3
  intro _
  intro x502 ex502
  refine ⟨sc_in (j := 1) hv hc hL ex502 (by omega) (by decide), ?_⟩
  intro x503 ex503
  intro x504 ex504
  refine ⟨sc_in (j := 2) hv hc hL ex504 (by omega) (by decide), ?_⟩
  intro x505 ex505
  intro x506 ex506
  refine ⟨sc_in (j := 3) hv hc hL ex506 (by omega) (by decide), ?_⟩
  intro x507 ex507
  refine ⟨o2, ?_⟩
  refine ⟨by show _ ≤ 601024; omega, by show _ ≤ 7293034; omega, ?_⟩
  refine mz_X11_driest hI o2 (fun x509 S508 hJ g510 fc511 Kg510 nf2 kz => ?_)
  have wr := wr_keep hI o2 wr kz.1 kz.2 fc511 (by decide) (by decide) (by decide)
  have lgx := lg_keep o1 lgx g510 fc511 (by decide) (by decide) (by decide)
  have tp := tt_fri tp o1 o2 Kg510 fc511 (by decide) (by decide) (by decide) (by decide)
  have fa := fa_fri fa o1 o2 fc511 (by decide) (by decide)
  have wh := wh_set nf1 fc511 (by decide) nf2
  have hI := hJ
  have l3 := (gr_len g510 o3).trans l3
  have o1 := gr_ob g510 o1
  have o2 := gr_ob g510 o2
  have o3 := gr_ob g510 o3
  intro _
  unfold P_L_law_2342
  intro x512 ex512
  have back := hb x512 ex512
  exact back _ _ _ hI o1 o2 o3 l3 tp fa wh ⟨AA, GG, wr, gb⟩ lgx (by omega) (by omega)
set_option maxHeartbeats 4000000 in
set_option maxRecDepth 20000 in
theorem a_L_law_1233 {scL : Nat} {scx : Nat → Int32} {Q : Int32 → HS → Prop} {X23 : Nat → Nat → Nat → Int32 → Nat → Nat → HS → Prop} {v1 v2 v3 : Nat} {v4 : Int32} {kk nn : Nat} {S : HS} {c : Nat} (hL : scL ≤ 4096) (hc : 8 * c + 8 ≤ scL) (hb : ∀ x : Int32, x = v4 + (8 : Int32) → ∀ (kk nn : Nat) (T : HS), IV T → ob T v1 9 → ob T v2 11 → ob T v3 14 → hN T v3 = 1 → TT v1 v2 T → fI T v1 7 = fI T v2 13 → WH v1 v2 T → WRy v1 v2 T → LGx v1 T → kk ≤ 200 + 35 * (c + 1) → nn ≤ 13000 + 8200 * (c + 1) → X23 v1 v2 v3 x kk nn T) (h : LI v1 v2 v3 v4 kk nn S c) : P_L_law_1233 scL scx Q X23 v1 v2 v3 v4 kk nn S := by
  obtain ⟨hI, o1, o2, o3, l3, tp, fa, wh, wr, lgx, hv, hk, hn⟩ := h
  obtain ⟨AA, GG, wr, gb⟩ := wr
  unfold P_L_law_1233
  intro x513 ex513
  refine ⟨sc_in (j := 1) hv hc hL ex513 (by omega) (by decide), ?_⟩
  intro x514 ex514
  intro x515 ex515
  refine ⟨sc_in (j := 2) hv hc hL ex515 (by omega) (by decide), ?_⟩
  intro x516 ex516
  intro x517 ex517
  refine ⟨sc_in (j := 3) hv hc hL ex517 (by omega) (by decide), ?_⟩
  intro x518 ex518
  intro x519 ex519
  refine ⟨sc_in (j := 4) hv hc hL ex519 (by omega) (by decide), ?_⟩
  intro x520 ex520
  intro x521 ex521
  refine ⟨sc_in (j := 5) hv hc hL ex521 (by omega) (by decide), ?_⟩
  intro x522 ex522
  intro x523 ex523
  refine ⟨sc_in (j := 6) hv hc hL ex523 (by omega) (by decide), ?_⟩
  intro x524 ex524
  intro x525 ex525
  refine ⟨sc_in (j := 7) hv hc hL ex525 (by omega) (by decide), ?_⟩
  intro x526 ex526
  refine ⟨fun c527 => ?_, fun c527 => ?_⟩
  · unfold P_L_law_1286
    refine ⟨o1, ?_⟩
    refine ⟨by show _ ≤ 601024; omega, by show _ ≤ 7293034; omega, ?_⟩
    refine mz_X9_lee hI o1 (fun x529 S528 hJ g530 fc531 Kg530 nf1 kz => ?_)
    have wr := wr_keep hI o2 wr kz.1 kz.2 fc531 (by decide) (by decide) (by decide)
    have lgx := lg_keep o1 lgx g530 fc531 (by decide) (by decide) (by decide)
    have tp := tt_fri tp o1 o2 Kg530 fc531 (by decide) (by decide) (by decide) (by decide)
    have fa := fa_fri fa o1 o2 fc531 (by decide) (by decide)
    have hI := hJ
    have l3 := (gr_len g530 o3).trans l3
    have o1 := gr_ob g530 o1
    have o2 := gr_ob g530 o2
    have o3 := gr_ob g530 o3
    intro _
    intro x532 ex532
    refine ⟨sc_in (j := 1) hv hc hL ex532 (by omega) (by decide), ?_⟩
    intro x533 ex533
    intro x534 ex534
    refine ⟨sc_in (j := 2) hv hc hL ex534 (by omega) (by decide), ?_⟩
    intro x535 ex535
    intro x536 ex536
    refine ⟨sc_in (j := 3) hv hc hL ex536 (by omega) (by decide), ?_⟩
    intro x537 ex537
    intro x538 ex538
    refine ⟨sc_in (j := 4) hv hc hL ex538 (by omega) (by decide), ?_⟩
    intro x539 ex539
    intro x540 ex540
    refine ⟨sc_in (j := 5) hv hc hL ex540 (by omega) (by decide), ?_⟩
    intro x541 ex541
    intro x542 ex542
    refine ⟨sc_in (j := 6) hv hc hL ex542 (by omega) (by decide), ?_⟩
    intro x543 ex543
    intro x544 ex544
    refine ⟨sc_in (j := 7) hv hc hL ex544 (by omega) (by decide), ?_⟩
    intro x545 ex545
    have xy547 : x545 = x526 := by rw [ex545, ex544, ex526, ex525]
    refine ⟨fun c546 => ?_, fun c546 => absurd (xy547.trans c527) c546⟩
    unfold P_L_law_1343
    refine ⟨o2, ?_⟩
    refine ⟨by show _ ≤ 601024; omega, by show _ ≤ 7293034; omega, ?_⟩
    refine mz_X11_lee hI o2 (fun x549 S548 hJ g550 fc551 Kg550 nf2 kz => ?_)
    have wr := wr_keep hI o2 wr kz.1 kz.2 fc551 (by decide) (by decide) (by decide)
    have lgx := lg_keep o1 lgx g550 fc551 (by decide) (by decide) (by decide)
    have tp := tt_fri tp o1 o2 Kg550 fc551 (by decide) (by decide) (by decide) (by decide)
    have fa := fa_fri fa o1 o2 fc551 (by decide) (by decide)
    have wh := wh_set nf1 fc551 (by decide) nf2
    have hI := hJ
    have l3 := (gr_len g550 o3).trans l3
    have o1 := gr_ob g550 o1
    have o2 := gr_ob g550 o2
    have o3 := gr_ob g550 o3
    intro _
    unfold P_L_law_2342
    intro x552 ex552
    have back := hb x552 ex552
    exact back _ _ _ hI o1 o2 o3 l3 tp fa wh ⟨AA, GG, wr, gb⟩ lgx (by omega) (by omega)
  · unfold P_L_law_1286
    refine ⟨o1, ?_⟩
    refine ⟨by show _ ≤ 601024; omega, by show _ ≤ 7293034; omega, ?_⟩
    refine mz_X9_lee hI o1 (fun x554 S553 hJ g555 fc556 Kg555 nf1 kz => ?_)
    have wr := wr_keep hI o2 wr kz.1 kz.2 fc556 (by decide) (by decide) (by decide)
    have lgx := lg_keep o1 lgx g555 fc556 (by decide) (by decide) (by decide)
    have tp := tt_fri tp o1 o2 Kg555 fc556 (by decide) (by decide) (by decide) (by decide)
    have fa := fa_fri fa o1 o2 fc556 (by decide) (by decide)
    have hI := hJ
    have l3 := (gr_len g555 o3).trans l3
    have o1 := gr_ob g555 o1
    have o2 := gr_ob g555 o2
    have o3 := gr_ob g555 o3
    intro _
    intro x557 ex557
    refine ⟨sc_in (j := 1) hv hc hL ex557 (by omega) (by decide), ?_⟩
    intro x558 ex558
    intro x559 ex559
    refine ⟨sc_in (j := 2) hv hc hL ex559 (by omega) (by decide), ?_⟩
    intro x560 ex560
    intro x561 ex561
    refine ⟨sc_in (j := 3) hv hc hL ex561 (by omega) (by decide), ?_⟩
    intro x562 ex562
    intro x563 ex563
    refine ⟨sc_in (j := 4) hv hc hL ex563 (by omega) (by decide), ?_⟩
    intro x564 ex564
    intro x565 ex565
    refine ⟨sc_in (j := 5) hv hc hL ex565 (by omega) (by decide), ?_⟩
    intro x566 ex566
    intro x567 ex567
    refine ⟨sc_in (j := 6) hv hc hL ex567 (by omega) (by decide), ?_⟩
    intro x568 ex568
    intro x569 ex569
    refine ⟨sc_in (j := 7) hv hc hL ex569 (by omega) (by decide), ?_⟩
    intro x570 ex570
    have xy572 : x570 = x526 := by rw [ex570, ex569, ex526, ex525]
    refine ⟨fun c571 => absurd (xy572.symm.trans c571) c527, fun c571 => ?_⟩
    unfold P_L_law_1343
    refine ⟨o2, ?_⟩
    refine ⟨by show _ ≤ 601024; omega, by show _ ≤ 7293034; omega, ?_⟩
    refine mz_X11_lee hI o2 (fun x574 S573 hJ g575 fc576 Kg575 nf2 kz => ?_)
    have wr := wr_keep hI o2 wr kz.1 kz.2 fc576 (by decide) (by decide) (by decide)
    have lgx := lg_keep o1 lgx g575 fc576 (by decide) (by decide) (by decide)
    have tp := tt_fri tp o1 o2 Kg575 fc576 (by decide) (by decide) (by decide) (by decide)
    have fa := fa_fri fa o1 o2 fc576 (by decide) (by decide)
    have wh := wh_set nf1 fc576 (by decide) nf2
    have hI := hJ
    have l3 := (gr_len g575 o3).trans l3
    have o1 := gr_ob g575 o1
    have o2 := gr_ob g575 o2
    have o3 := gr_ob g575 o3
    intro _
    unfold P_L_law_2342
    intro x577 ex577
    have back := hb x577 ex577
    exact back _ _ _ hI o1 o2 o3 l3 tp fa wh ⟨AA, GG, wr, gb⟩ lgx (by omega) (by omega)
set_option maxHeartbeats 4000000 in
set_option maxRecDepth 20000 in
theorem a_L_law_1350 {scL : Nat} {scx : Nat → Int32} {Q : Int32 → HS → Prop} {X23 : Nat → Nat → Nat → Int32 → Nat → Nat → HS → Prop} {v1 v2 v3 : Nat} {v4 : Int32} {kk nn : Nat} {S : HS} {c : Nat} (hL : scL ≤ 4096) (hc : 8 * c + 8 ≤ scL) (hb : ∀ x : Int32, x = v4 + (8 : Int32) → ∀ (kk nn : Nat) (T : HS), IV T → ob T v1 9 → ob T v2 11 → ob T v3 14 → hN T v3 = 1 → TT v1 v2 T → fI T v1 7 = fI T v2 13 → WH v1 v2 T → WRy v1 v2 T → LGx v1 T → kk ≤ 200 + 35 * (c + 1) → nn ≤ 13000 + 8200 * (c + 1) → X23 v1 v2 v3 x kk nn T) (h : LI v1 v2 v3 v4 kk nn S c) : P_L_law_1350 scL scx Q X23 v1 v2 v3 v4 kk nn S := by
  obtain ⟨hI, o1, o2, o3, l3, tp, fa, wh, wr, lgx, hv, hk, hn⟩ := h
  obtain ⟨AA, GG, wr, gb⟩ := wr
  unfold P_L_law_1350
  intro x578 ex578
  refine ⟨sc_in (j := 1) hv hc hL ex578 (by omega) (by decide), ?_⟩
  intro x579 ex579
  intro x580 ex580
  refine ⟨sc_in (j := 2) hv hc hL ex580 (by omega) (by decide), ?_⟩
  intro x581 ex581
  intro x582 ex582
  refine ⟨sc_in (j := 3) hv hc hL ex582 (by omega) (by decide), ?_⟩
  intro x583 ex583
  intro x584 ex584
  refine ⟨sc_in (j := 4) hv hc hL ex584 (by omega) (by decide), ?_⟩
  intro x585 ex585
  intro x586 ex586
  refine ⟨sc_in (j := 5) hv hc hL ex586 (by omega) (by decide), ?_⟩
  intro x587 ex587
  intro x588 ex588
  refine ⟨sc_in (j := 6) hv hc hL ex588 (by omega) (by decide), ?_⟩
  intro x589 ex589
  refine ⟨o1, ?_⟩
  refine ⟨by show _ ≤ 601024; omega, by show _ ≤ 7293034; omega, ?_⟩
  refine mz_X9_first hI o1 (fun x591 S590 hJ g592 fc593 Kg592 nf1 kz => ?_)
  have wr := wr_keep hI o2 wr kz.1 kz.2 fc593 (by decide) (by decide) (by decide)
  have lgx := lg_keep o1 lgx g592 fc593 (by decide) (by decide) (by decide)
  have tp := tt_fri tp o1 o2 Kg592 fc593 (by decide) (by decide) (by decide) (by decide)
  have fa := fa_fri fa o1 o2 fc593 (by decide) (by decide)
  have hI := hJ
  have l3 := (gr_len g592 o3).trans l3
  have o1 := gr_ob g592 o1
  have o2 := gr_ob g592 o2
  have o3 := gr_ob g592 o3
  intro _
  intro x594 ex594
  refine ⟨sc_in (j := 1) hv hc hL ex594 (by omega) (by decide), ?_⟩
  intro x595 ex595
  intro x596 ex596
  refine ⟨sc_in (j := 2) hv hc hL ex596 (by omega) (by decide), ?_⟩
  intro x597 ex597
  intro x598 ex598
  refine ⟨sc_in (j := 3) hv hc hL ex598 (by omega) (by decide), ?_⟩
  intro x599 ex599
  intro x600 ex600
  refine ⟨sc_in (j := 4) hv hc hL ex600 (by omega) (by decide), ?_⟩
  intro x601 ex601
  intro x602 ex602
  refine ⟨sc_in (j := 5) hv hc hL ex602 (by omega) (by decide), ?_⟩
  intro x603 ex603
  intro x604 ex604
  refine ⟨sc_in (j := 6) hv hc hL ex604 (by omega) (by decide), ?_⟩
  intro x605 ex605
  refine ⟨o2, ?_⟩
  refine ⟨by show _ ≤ 601024; omega, by show _ ≤ 7293034; omega, ?_⟩
  refine mz_X11_first hI o2 (fun x607 S606 hJ g608 fc609 Kg608 nf2 kz => ?_)
  have wr := wr_keep hI o2 wr kz.1 kz.2 fc609 (by decide) (by decide) (by decide)
  have lgx := lg_keep o1 lgx g608 fc609 (by decide) (by decide) (by decide)
  have tp := tt_fri tp o1 o2 Kg608 fc609 (by decide) (by decide) (by decide) (by decide)
  have fa := fa_fri fa o1 o2 fc609 (by decide) (by decide)
  have wh := wh_set nf1 fc609 (by decide) nf2
  have hI := hJ
  have l3 := (gr_len g608 o3).trans l3
  have o1 := gr_ob g608 o1
  have o2 := gr_ob g608 o2
  have o3 := gr_ob g608 o3
  intro _
  unfold P_L_law_2342
  intro x610 ex610
  have back := hb x610 ex610
  exact back _ _ _ hI o1 o2 o3 l3 tp fa wh ⟨AA, GG, wr, gb⟩ lgx (by omega) (by omega)
set_option maxHeartbeats 4000000 in
set_option maxRecDepth 20000 in
theorem a_L_law_1437 {scL : Nat} {scx : Nat → Int32} {Q : Int32 → HS → Prop} {X23 : Nat → Nat → Nat → Int32 → Nat → Nat → HS → Prop} {v1 v2 v3 : Nat} {v4 : Int32} {kk nn : Nat} {S : HS} {c : Nat} (hL : scL ≤ 4096) (hc : 8 * c + 8 ≤ scL) (hb : ∀ x : Int32, x = v4 + (8 : Int32) → ∀ (kk nn : Nat) (T : HS), IV T → ob T v1 9 → ob T v2 11 → ob T v3 14 → hN T v3 = 1 → TT v1 v2 T → fI T v1 7 = fI T v2 13 → WH v1 v2 T → WRy v1 v2 T → LGx v1 T → kk ≤ 200 + 35 * (c + 1) → nn ≤ 13000 + 8200 * (c + 1) → X23 v1 v2 v3 x kk nn T) (h : LI v1 v2 v3 v4 kk nn S c) : P_L_law_1437 scL scx Q X23 v1 v2 v3 v4 kk nn S := by
  obtain ⟨hI, o1, o2, o3, l3, tp, fa, wh, wr, lgx, hv, hk, hn⟩ := h
  obtain ⟨AA, GG, wr, gb⟩ := wr
  unfold P_L_law_1437
  intro x611 ex611
  refine ⟨sc_in (j := 1) hv hc hL ex611 (by omega) (by decide), ?_⟩
  intro x612 ex612
  intro x613 ex613
  refine ⟨sc_in (j := 2) hv hc hL ex613 (by omega) (by decide), ?_⟩
  intro x614 ex614
  intro x615 ex615
  refine ⟨sc_in (j := 3) hv hc hL ex615 (by omega) (by decide), ?_⟩
  intro x616 ex616
  intro x617 ex617
  refine ⟨sc_in (j := 4) hv hc hL ex617 (by omega) (by decide), ?_⟩
  intro x618 ex618
  intro x619 ex619
  refine ⟨sc_in (j := 5) hv hc hL ex619 (by omega) (by decide), ?_⟩
  intro x620 ex620
  intro x621 ex621
  refine ⟨sc_in (j := 6) hv hc hL ex621 (by omega) (by decide), ?_⟩
  intro x622 ex622
  refine ⟨fun c623 => ?_, fun c623 => ?_⟩
  · unfold P_L_law_1483
    refine ⟨o1, ?_⟩
    refine ⟨by show _ ≤ 601024; omega, by show _ ≤ 7293034; omega, ?_⟩
    refine mz_X9_least hI o1 (fun x625 S624 hJ g626 fc627 Kg626 nf1 kz => ?_)
    have wr := wr_keep hI o2 wr kz.1 kz.2 fc627 (by decide) (by decide) (by decide)
    have lgx := lg_keep o1 lgx g626 fc627 (by decide) (by decide) (by decide)
    have tp := tt_fri tp o1 o2 Kg626 fc627 (by decide) (by decide) (by decide) (by decide)
    have fa := fa_fri fa o1 o2 fc627 (by decide) (by decide)
    have hI := hJ
    have l3 := (gr_len g626 o3).trans l3
    have o1 := gr_ob g626 o1
    have o2 := gr_ob g626 o2
    have o3 := gr_ob g626 o3
    intro _
    intro x628 ex628
    refine ⟨sc_in (j := 1) hv hc hL ex628 (by omega) (by decide), ?_⟩
    intro x629 ex629
    intro x630 ex630
    refine ⟨sc_in (j := 2) hv hc hL ex630 (by omega) (by decide), ?_⟩
    intro x631 ex631
    intro x632 ex632
    refine ⟨sc_in (j := 3) hv hc hL ex632 (by omega) (by decide), ?_⟩
    intro x633 ex633
    intro x634 ex634
    refine ⟨sc_in (j := 4) hv hc hL ex634 (by omega) (by decide), ?_⟩
    intro x635 ex635
    intro x636 ex636
    refine ⟨sc_in (j := 5) hv hc hL ex636 (by omega) (by decide), ?_⟩
    intro x637 ex637
    intro x638 ex638
    refine ⟨sc_in (j := 6) hv hc hL ex638 (by omega) (by decide), ?_⟩
    intro x639 ex639
    have xy641 : x639 = x622 := by rw [ex639, ex638, ex622, ex621]
    refine ⟨fun c640 => ?_, fun c640 => absurd (xy641.trans c623) c640⟩
    unfold P_L_law_1533
    refine ⟨o2, ?_⟩
    refine ⟨by show _ ≤ 601024; omega, by show _ ≤ 7293034; omega, ?_⟩
    refine mz_X11_least hI o2 (fun x643 S642 hJ g644 fc645 Kg644 nf2 kz => ?_)
    have wr := wr_keep hI o2 wr kz.1 kz.2 fc645 (by decide) (by decide) (by decide)
    have lgx := lg_keep o1 lgx g644 fc645 (by decide) (by decide) (by decide)
    have tp := tt_fri tp o1 o2 Kg644 fc645 (by decide) (by decide) (by decide) (by decide)
    have fa := fa_fri fa o1 o2 fc645 (by decide) (by decide)
    have wh := wh_set nf1 fc645 (by decide) nf2
    have hI := hJ
    have l3 := (gr_len g644 o3).trans l3
    have o1 := gr_ob g644 o1
    have o2 := gr_ob g644 o2
    have o3 := gr_ob g644 o3
    intro _
    unfold P_L_law_2342
    intro x646 ex646
    have back := hb x646 ex646
    exact back _ _ _ hI o1 o2 o3 l3 tp fa wh ⟨AA, GG, wr, gb⟩ lgx (by omega) (by omega)
  · unfold P_L_law_1483
    refine ⟨o1, ?_⟩
    refine ⟨by show _ ≤ 601024; omega, by show _ ≤ 7293034; omega, ?_⟩
    refine mz_X9_least hI o1 (fun x648 S647 hJ g649 fc650 Kg649 nf1 kz => ?_)
    have wr := wr_keep hI o2 wr kz.1 kz.2 fc650 (by decide) (by decide) (by decide)
    have lgx := lg_keep o1 lgx g649 fc650 (by decide) (by decide) (by decide)
    have tp := tt_fri tp o1 o2 Kg649 fc650 (by decide) (by decide) (by decide) (by decide)
    have fa := fa_fri fa o1 o2 fc650 (by decide) (by decide)
    have hI := hJ
    have l3 := (gr_len g649 o3).trans l3
    have o1 := gr_ob g649 o1
    have o2 := gr_ob g649 o2
    have o3 := gr_ob g649 o3
    intro _
    intro x651 ex651
    refine ⟨sc_in (j := 1) hv hc hL ex651 (by omega) (by decide), ?_⟩
    intro x652 ex652
    intro x653 ex653
    refine ⟨sc_in (j := 2) hv hc hL ex653 (by omega) (by decide), ?_⟩
    intro x654 ex654
    intro x655 ex655
    refine ⟨sc_in (j := 3) hv hc hL ex655 (by omega) (by decide), ?_⟩
    intro x656 ex656
    intro x657 ex657
    refine ⟨sc_in (j := 4) hv hc hL ex657 (by omega) (by decide), ?_⟩
    intro x658 ex658
    intro x659 ex659
    refine ⟨sc_in (j := 5) hv hc hL ex659 (by omega) (by decide), ?_⟩
    intro x660 ex660
    intro x661 ex661
    refine ⟨sc_in (j := 6) hv hc hL ex661 (by omega) (by decide), ?_⟩
    intro x662 ex662
    have xy664 : x662 = x622 := by rw [ex662, ex661, ex622, ex621]
    refine ⟨fun c663 => absurd (xy664.symm.trans c663) c623, fun c663 => ?_⟩
    unfold P_L_law_1533
    refine ⟨o2, ?_⟩
    refine ⟨by show _ ≤ 601024; omega, by show _ ≤ 7293034; omega, ?_⟩
    refine mz_X11_least hI o2 (fun x666 S665 hJ g667 fc668 Kg667 nf2 kz => ?_)
    have wr := wr_keep hI o2 wr kz.1 kz.2 fc668 (by decide) (by decide) (by decide)
    have lgx := lg_keep o1 lgx g667 fc668 (by decide) (by decide) (by decide)
    have tp := tt_fri tp o1 o2 Kg667 fc668 (by decide) (by decide) (by decide) (by decide)
    have fa := fa_fri fa o1 o2 fc668 (by decide) (by decide)
    have wh := wh_set nf1 fc668 (by decide) nf2
    have hI := hJ
    have l3 := (gr_len g667 o3).trans l3
    have o1 := gr_ob g667 o1
    have o2 := gr_ob g667 o2
    have o3 := gr_ob g667 o3
    intro _
    unfold P_L_law_2342
    intro x669 ex669
    have back := hb x669 ex669
    exact back _ _ _ hI o1 o2 o3 l3 tp fa wh ⟨AA, GG, wr, gb⟩ lgx (by omega) (by omega)
set_option maxHeartbeats 4000000 in
set_option maxRecDepth 20000 in
theorem a_L_law_1540 {scL : Nat} {scx : Nat → Int32} {Q : Int32 → HS → Prop} {X23 : Nat → Nat → Nat → Int32 → Nat → Nat → HS → Prop} {v1 v2 v3 : Nat} {v4 : Int32} {kk nn : Nat} {S : HS} {c : Nat} (hL : scL ≤ 4096) (hc : 8 * c + 8 ≤ scL) (hb : ∀ x : Int32, x = v4 + (8 : Int32) → ∀ (kk nn : Nat) (T : HS), IV T → ob T v1 9 → ob T v2 11 → ob T v3 14 → hN T v3 = 1 → TT v1 v2 T → fI T v1 7 = fI T v2 13 → WH v1 v2 T → WRy v1 v2 T → LGx v1 T → kk ≤ 200 + 35 * (c + 1) → nn ≤ 13000 + 8200 * (c + 1) → X23 v1 v2 v3 x kk nn T) (h : LI v1 v2 v3 v4 kk nn S c) : P_L_law_1540 scL scx Q X23 v1 v2 v3 v4 kk nn S := by
  obtain ⟨hI, o1, o2, o3, l3, tp, fa, wh, wr, lgx, hv, hk, hn⟩ := h
  obtain ⟨AA, GG, wr, gb⟩ := wr
  unfold P_L_law_1540
  intro x670 ex670
  refine ⟨sc_in (j := 1) hv hc hL ex670 (by omega) (by decide), ?_⟩
  intro x671 ex671
  intro x672 ex672
  refine ⟨sc_in (j := 2) hv hc hL ex672 (by omega) (by decide), ?_⟩
  intro x673 ex673
  intro x674 ex674
  refine ⟨sc_in (j := 3) hv hc hL ex674 (by omega) (by decide), ?_⟩
  intro x675 ex675
  intro x676 ex676
  refine ⟨sc_in (j := 4) hv hc hL ex676 (by omega) (by decide), ?_⟩
  intro x677 ex677
  intro x678 ex678
  refine ⟨sc_in (j := 5) hv hc hL ex678 (by omega) (by decide), ?_⟩
  intro x679 ex679
  refine ⟨o1, ?_⟩
  refine ⟨by show _ ≤ 601024; omega, by show _ ≤ 7293034; omega, ?_⟩
  refine mz_X9_there hI o1 (fun x681 S680 hJ g682 fc683 Kg682 nf1 kz => ?_)
  have wr := wr_keep hI o2 wr kz.1 kz.2 fc683 (by decide) (by decide) (by decide)
  have lgx := lg_keep o1 lgx g682 fc683 (by decide) (by decide) (by decide)
  have tp := tt_fri tp o1 o2 Kg682 fc683 (by decide) (by decide) (by decide) (by decide)
  have fa := fa_fri fa o1 o2 fc683 (by decide) (by decide)
  have hI := hJ
  have l3 := (gr_len g682 o3).trans l3
  have o1 := gr_ob g682 o1
  have o2 := gr_ob g682 o2
  have o3 := gr_ob g682 o3
  intro _
  intro x684 ex684
  refine ⟨sc_in (j := 1) hv hc hL ex684 (by omega) (by decide), ?_⟩
  intro x685 ex685
  intro x686 ex686
  refine ⟨sc_in (j := 2) hv hc hL ex686 (by omega) (by decide), ?_⟩
  intro x687 ex687
  intro x688 ex688
  refine ⟨sc_in (j := 3) hv hc hL ex688 (by omega) (by decide), ?_⟩
  intro x689 ex689
  intro x690 ex690
  refine ⟨sc_in (j := 4) hv hc hL ex690 (by omega) (by decide), ?_⟩
  intro x691 ex691
  intro x692 ex692
  refine ⟨sc_in (j := 5) hv hc hL ex692 (by omega) (by decide), ?_⟩
  intro x693 ex693
  refine ⟨o2, ?_⟩
  refine ⟨by show _ ≤ 601024; omega, by show _ ≤ 7293034; omega, ?_⟩
  refine mz_X11_there hI o2 (fun x695 S694 hJ g696 fc697 Kg696 nf2 kz => ?_)
  have wr := wr_keep hI o2 wr kz.1 kz.2 fc697 (by decide) (by decide) (by decide)
  have lgx := lg_keep o1 lgx g696 fc697 (by decide) (by decide) (by decide)
  have tp := tt_fri tp o1 o2 Kg696 fc697 (by decide) (by decide) (by decide) (by decide)
  have fa := fa_fri fa o1 o2 fc697 (by decide) (by decide)
  have wh := wh_set nf1 fc697 (by decide) nf2
  have hI := hJ
  have l3 := (gr_len g696 o3).trans l3
  have o1 := gr_ob g696 o1
  have o2 := gr_ob g696 o2
  have o3 := gr_ob g696 o3
  intro _
  unfold P_L_law_2342
  intro x698 ex698
  have back := hb x698 ex698
  exact back _ _ _ hI o1 o2 o3 l3 tp fa wh ⟨AA, GG, wr, gb⟩ lgx (by omega) (by omega)
set_option maxHeartbeats 4000000 in
set_option maxRecDepth 20000 in
theorem a_L_law_1613 {scL : Nat} {scx : Nat → Int32} {Q : Int32 → HS → Prop} {X23 : Nat → Nat → Nat → Int32 → Nat → Nat → HS → Prop} {v1 v2 v3 : Nat} {v4 : Int32} {kk nn : Nat} {S : HS} {c : Nat} (hL : scL ≤ 4096) (hc : 8 * c + 8 ≤ scL) (hb : ∀ x : Int32, x = v4 + (8 : Int32) → ∀ (kk nn : Nat) (T : HS), IV T → ob T v1 9 → ob T v2 11 → ob T v3 14 → hN T v3 = 1 → TT v1 v2 T → fI T v1 7 = fI T v2 13 → WH v1 v2 T → WRy v1 v2 T → LGx v1 T → kk ≤ 200 + 35 * (c + 1) → nn ≤ 13000 + 8200 * (c + 1) → X23 v1 v2 v3 x kk nn T) (h : LI v1 v2 v3 v4 kk nn S c) : P_L_law_1613 scL scx Q X23 v1 v2 v3 v4 kk nn S := by
  obtain ⟨hI, o1, o2, o3, l3, tp, fa, wh, wr, lgx, hv, hk, hn⟩ := h
  obtain ⟨AA, GG, wr, gb⟩ := wr
  unfold P_L_law_1613
  intro x699 ex699
  refine ⟨sc_in (j := 1) hv hc hL ex699 (by omega) (by decide), ?_⟩
  intro x700 ex700
  intro x701 ex701
  refine ⟨sc_in (j := 2) hv hc hL ex701 (by omega) (by decide), ?_⟩
  intro x702 ex702
  intro x703 ex703
  refine ⟨sc_in (j := 3) hv hc hL ex703 (by omega) (by decide), ?_⟩
  intro x704 ex704
  intro x705 ex705
  refine ⟨sc_in (j := 4) hv hc hL ex705 (by omega) (by decide), ?_⟩
  intro x706 ex706
  intro x707 ex707
  refine ⟨sc_in (j := 5) hv hc hL ex707 (by omega) (by decide), ?_⟩
  intro x708 ex708
  refine ⟨o1, ?_⟩
  refine ⟨by show _ ≤ 601024; omega, by show _ ≤ 7293034; omega, ?_⟩
  refine mz_X9_steps hI o1 (fun x710 S709 hJ g711 fc712 Kg711 nf1 kz => ?_)
  have wr := wr_keep hI o2 wr kz.1 kz.2 fc712 (by decide) (by decide) (by decide)
  have lgx := lg_keep o1 lgx g711 fc712 (by decide) (by decide) (by decide)
  have tp := tt_fri tp o1 o2 Kg711 fc712 (by decide) (by decide) (by decide) (by decide)
  have fa := fa_fri fa o1 o2 fc712 (by decide) (by decide)
  have hI := hJ
  have l3 := (gr_len g711 o3).trans l3
  have o1 := gr_ob g711 o1
  have o2 := gr_ob g711 o2
  have o3 := gr_ob g711 o3
  intro _
  intro x713 ex713
  refine ⟨sc_in (j := 1) hv hc hL ex713 (by omega) (by decide), ?_⟩
  intro x714 ex714
  intro x715 ex715
  refine ⟨sc_in (j := 2) hv hc hL ex715 (by omega) (by decide), ?_⟩
  intro x716 ex716
  intro x717 ex717
  refine ⟨sc_in (j := 3) hv hc hL ex717 (by omega) (by decide), ?_⟩
  intro x718 ex718
  intro x719 ex719
  refine ⟨sc_in (j := 4) hv hc hL ex719 (by omega) (by decide), ?_⟩
  intro x720 ex720
  intro x721 ex721
  refine ⟨sc_in (j := 5) hv hc hL ex721 (by omega) (by decide), ?_⟩
  intro x722 ex722
  refine ⟨o2, ?_⟩
  refine ⟨by show _ ≤ 601024; omega, by show _ ≤ 7293034; omega, ?_⟩
  refine mz_X11_steps hI o2 (fun x724 S723 hJ g725 fc726 Kg725 nf2 kz => ?_)
  have wr := wr_keep hI o2 wr kz.1 kz.2 fc726 (by decide) (by decide) (by decide)
  have lgx := lg_keep o1 lgx g725 fc726 (by decide) (by decide) (by decide)
  have tp := tt_fri tp o1 o2 Kg725 fc726 (by decide) (by decide) (by decide) (by decide)
  have fa := fa_fri fa o1 o2 fc726 (by decide) (by decide)
  have wh := wh_set nf1 fc726 (by decide) nf2
  have hI := hJ
  have l3 := (gr_len g725 o3).trans l3
  have o1 := gr_ob g725 o1
  have o2 := gr_ob g725 o2
  have o3 := gr_ob g725 o3
  intro _
  unfold P_L_law_2342
  intro x727 ex727
  have back := hb x727 ex727
  exact back _ _ _ hI o1 o2 o3 l3 tp fa wh ⟨AA, GG, wr, gb⟩ lgx (by omega) (by omega)
set_option maxHeartbeats 4000000 in
set_option maxRecDepth 20000 in
theorem a_L_law_1686 {scL : Nat} {scx : Nat → Int32} {Q : Int32 → HS → Prop} {X23 : Nat → Nat → Nat → Int32 → Nat → Nat → HS → Prop} {v1 v2 v3 : Nat} {v4 : Int32} {kk nn : Nat} {S : HS} {c : Nat} (hL : scL ≤ 4096) (hc : 8 * c + 8 ≤ scL) (hb : ∀ x : Int32, x = v4 + (8 : Int32) → ∀ (kk nn : Nat) (T : HS), IV T → ob T v1 9 → ob T v2 11 → ob T v3 14 → hN T v3 = 1 → TT v1 v2 T → fI T v1 7 = fI T v2 13 → WH v1 v2 T → WRy v1 v2 T → LGx v1 T → kk ≤ 200 + 35 * (c + 1) → nn ≤ 13000 + 8200 * (c + 1) → X23 v1 v2 v3 x kk nn T) (h : LI v1 v2 v3 v4 kk nn S c) : P_L_law_1686 scL scx Q X23 v1 v2 v3 v4 kk nn S := by
  obtain ⟨hI, o1, o2, o3, l3, tp, fa, wh, wr, lgx, hv, hk, hn⟩ := h
  obtain ⟨AA, GG, wr, gb⟩ := wr
  unfold P_L_law_1686
  intro x728 ex728
  refine ⟨sc_in (j := 1) hv hc hL ex728 (by omega) (by decide), ?_⟩
  intro x729 ex729
  intro x730 ex730
  refine ⟨sc_in (j := 2) hv hc hL ex730 (by omega) (by decide), ?_⟩
  intro x731 ex731
  intro x732 ex732
  refine ⟨sc_in (j := 3) hv hc hL ex732 (by omega) (by decide), ?_⟩
  intro x733 ex733
  intro x734 ex734
  refine ⟨sc_in (j := 4) hv hc hL ex734 (by omega) (by decide), ?_⟩
  intro x735 ex735
  intro x736 ex736
  refine ⟨sc_in (j := 5) hv hc hL ex736 (by omega) (by decide), ?_⟩
  intro x737 ex737
  intro x738 ex738
  refine ⟨sc_in (j := 6) hv hc hL ex738 (by omega) (by decide), ?_⟩
  intro x739 ex739
  refine ⟨o1, ?_⟩
  refine ⟨by show _ ≤ 601024; omega, by show _ ≤ 7293034; omega, ?_⟩
  refine mz_X9_step hI o1 (fun x741 S740 hJ g742 fc743 Kg742 nf1 kz => ?_)
  have wr := wr_keep hI o2 wr kz.1 kz.2 fc743 (by decide) (by decide) (by decide)
  have lgx := lg_keep o1 lgx g742 fc743 (by decide) (by decide) (by decide)
  have tp := tt_fri tp o1 o2 Kg742 fc743 (by decide) (by decide) (by decide) (by decide)
  have fa := fa_fri fa o1 o2 fc743 (by decide) (by decide)
  have hI := hJ
  have l3 := (gr_len g742 o3).trans l3
  have o1 := gr_ob g742 o1
  have o2 := gr_ob g742 o2
  have o3 := gr_ob g742 o3
  intro _
  intro x744 ex744
  refine ⟨sc_in (j := 1) hv hc hL ex744 (by omega) (by decide), ?_⟩
  intro x745 ex745
  intro x746 ex746
  refine ⟨sc_in (j := 2) hv hc hL ex746 (by omega) (by decide), ?_⟩
  intro x747 ex747
  intro x748 ex748
  refine ⟨sc_in (j := 3) hv hc hL ex748 (by omega) (by decide), ?_⟩
  intro x749 ex749
  intro x750 ex750
  refine ⟨sc_in (j := 4) hv hc hL ex750 (by omega) (by decide), ?_⟩
  intro x751 ex751
  intro x752 ex752
  refine ⟨sc_in (j := 5) hv hc hL ex752 (by omega) (by decide), ?_⟩
  intro x753 ex753
  intro x754 ex754
  refine ⟨sc_in (j := 6) hv hc hL ex754 (by omega) (by decide), ?_⟩
  intro x755 ex755
  refine ⟨o2, ?_⟩
  refine ⟨by show _ ≤ 601024; omega, by show _ ≤ 7293034; omega, ?_⟩
  refine mz_X11_step hI o2 (fun x757 S756 hJ g758 fc759 Kg758 nf2 kz => ?_)
  have wr := wr_keep hI o2 wr kz.1 kz.2 fc759 (by decide) (by decide) (by decide)
  have lgx := lg_keep o1 lgx g758 fc759 (by decide) (by decide) (by decide)
  have tp := tt_fri tp o1 o2 Kg758 fc759 (by decide) (by decide) (by decide) (by decide)
  have fa := fa_fri fa o1 o2 fc759 (by decide) (by decide)
  have wh := wh_set nf1 fc759 (by decide) nf2
  have hI := hJ
  have l3 := (gr_len g758 o3).trans l3
  have o1 := gr_ob g758 o1
  have o2 := gr_ob g758 o2
  have o3 := gr_ob g758 o3
  intro _
  unfold P_L_law_2342
  intro x760 ex760
  have back := hb x760 ex760
  exact back _ _ _ hI o1 o2 o3 l3 tp fa wh ⟨AA, GG, wr, gb⟩ lgx (by omega) (by omega)
set_option maxHeartbeats 4000000 in
set_option maxRecDepth 20000 in
theorem a_L_law_1773 {scL : Nat} {scx : Nat → Int32} {Q : Int32 → HS → Prop} {X23 : Nat → Nat → Nat → Int32 → Nat → Nat → HS → Prop} {v1 v2 v3 : Nat} {v4 : Int32} {kk nn : Nat} {S : HS} {c : Nat} (hL : scL ≤ 4096) (hc : 8 * c + 8 ≤ scL) (hb : ∀ x : Int32, x = v4 + (8 : Int32) → ∀ (kk nn : Nat) (T : HS), IV T → ob T v1 9 → ob T v2 11 → ob T v3 14 → hN T v3 = 1 → TT v1 v2 T → fI T v1 7 = fI T v2 13 → WH v1 v2 T → WRy v1 v2 T → LGx v1 T → kk ≤ 200 + 35 * (c + 1) → nn ≤ 13000 + 8200 * (c + 1) → X23 v1 v2 v3 x kk nn T) (h : LI v1 v2 v3 v4 kk nn S c) : P_L_law_1773 scL scx Q X23 v1 v2 v3 v4 kk nn S := by
  obtain ⟨hI, o1, o2, o3, l3, tp, fa, wh, wr, lgx, hv, hk, hn⟩ := h
  obtain ⟨AA, GG, wr, gb⟩ := wr
  unfold P_L_law_1773
  intro x761 ex761
  refine ⟨sc_in (j := 1) hv hc hL ex761 (by omega) (by decide), ?_⟩
  intro x762 ex762
  intro x763 ex763
  refine ⟨sc_in (j := 2) hv hc hL ex763 (by omega) (by decide), ?_⟩
  intro x764 ex764
  intro x765 ex765
  refine ⟨sc_in (j := 3) hv hc hL ex765 (by omega) (by decide), ?_⟩
  intro x766 ex766
  intro x767 ex767
  refine ⟨sc_in (j := 4) hv hc hL ex767 (by omega) (by decide), ?_⟩
  intro x768 ex768
  refine ⟨o1, ?_⟩
  refine ⟨by show _ ≤ 601024; omega, by show _ ≤ 7293034; omega, ?_⟩
  refine mz_X9_off hI o1 (fun x770 S769 hJ g771 fc772 Kg771 nf1 kz => ?_)
  have wr := wr_keep hI o2 wr kz.1 kz.2 fc772 (by decide) (by decide) (by decide)
  have lgx := lg_keep o1 lgx g771 fc772 (by decide) (by decide) (by decide)
  have tp := tt_fri tp o1 o2 Kg771 fc772 (by decide) (by decide) (by decide) (by decide)
  have fa := fa_fri fa o1 o2 fc772 (by decide) (by decide)
  have hI := hJ
  have l3 := (gr_len g771 o3).trans l3
  have o1 := gr_ob g771 o1
  have o2 := gr_ob g771 o2
  have o3 := gr_ob g771 o3
  intro _
  intro x773 ex773
  refine ⟨sc_in (j := 1) hv hc hL ex773 (by omega) (by decide), ?_⟩
  intro x774 ex774
  intro x775 ex775
  refine ⟨sc_in (j := 2) hv hc hL ex775 (by omega) (by decide), ?_⟩
  intro x776 ex776
  intro x777 ex777
  refine ⟨sc_in (j := 3) hv hc hL ex777 (by omega) (by decide), ?_⟩
  intro x778 ex778
  intro x779 ex779
  refine ⟨sc_in (j := 4) hv hc hL ex779 (by omega) (by decide), ?_⟩
  intro x780 ex780
  refine ⟨o2, ?_⟩
  refine ⟨by show _ ≤ 601024; omega, by show _ ≤ 7293034; omega, ?_⟩
  refine mz_X11_off hI o2 (fun x782 S781 hJ g783 fc784 Kg783 nf2 kz => ?_)
  have wr := wr_keep hI o2 wr kz.1 kz.2 fc784 (by decide) (by decide) (by decide)
  have lgx := lg_keep o1 lgx g783 fc784 (by decide) (by decide) (by decide)
  have tp := tt_fri tp o1 o2 Kg783 fc784 (by decide) (by decide) (by decide) (by decide)
  have fa := fa_fri fa o1 o2 fc784 (by decide) (by decide)
  have wh := wh_set nf1 fc784 (by decide) nf2
  have hI := hJ
  have l3 := (gr_len g783 o3).trans l3
  have o1 := gr_ob g783 o1
  have o2 := gr_ob g783 o2
  have o3 := gr_ob g783 o3
  intro _
  unfold P_L_law_2342
  intro x785 ex785
  have back := hb x785 ex785
  exact back _ _ _ hI o1 o2 o3 l3 tp fa wh ⟨AA, GG, wr, gb⟩ lgx (by omega) (by omega)
set_option maxHeartbeats 4000000 in
set_option maxRecDepth 20000 in
theorem a_L_law_1834 {scL : Nat} {scx : Nat → Int32} {Q : Int32 → HS → Prop} {X23 : Nat → Nat → Nat → Int32 → Nat → Nat → HS → Prop} {v1 v2 v3 : Nat} {v4 : Int32} {kk nn : Nat} {S : HS} {c : Nat} (hL : scL ≤ 4096) (hc : 8 * c + 8 ≤ scL) (hb : ∀ x : Int32, x = v4 + (8 : Int32) → ∀ (kk nn : Nat) (T : HS), IV T → ob T v1 9 → ob T v2 11 → ob T v3 14 → hN T v3 = 1 → TT v1 v2 T → fI T v1 7 = fI T v2 13 → WH v1 v2 T → WRy v1 v2 T → LGx v1 T → kk ≤ 200 + 35 * (c + 1) → nn ≤ 13000 + 8200 * (c + 1) → X23 v1 v2 v3 x kk nn T) (h : LI v1 v2 v3 v4 kk nn S c) : P_L_law_1834 scL scx Q X23 v1 v2 v3 v4 kk nn S := by
  obtain ⟨hI, o1, o2, o3, l3, tp, fa, wh, wr, lgx, hv, hk, hn⟩ := h
  obtain ⟨AA, GG, wr, gb⟩ := wr
  unfold P_L_law_1834
  intro x786 ex786
  refine ⟨sc_in (j := 1) hv hc hL ex786 (by omega) (by decide), ?_⟩
  intro x787 ex787
  refine ⟨o1, ?_⟩
  refine ⟨by show _ ≤ 601024; omega, by show _ ≤ 7293034; omega, ?_⟩
  refine mz_X9_fits hI o1 (fun x789 S788 hJ g790 fc791 Kg790 nf1 kz => ?_)
  have wr := wr_keep hI o2 wr kz.1 kz.2 fc791 (by decide) (by decide) (by decide)
  have lgx := lg_keep o1 lgx g790 fc791 (by decide) (by decide) (by decide)
  have tp := tt_fri tp o1 o2 Kg790 fc791 (by decide) (by decide) (by decide) (by decide)
  have fa := fa_fri fa o1 o2 fc791 (by decide) (by decide)
  have hI := hJ
  have l3 := (gr_len g790 o3).trans l3
  have o1 := gr_ob g790 o1
  have o2 := gr_ob g790 o2
  have o3 := gr_ob g790 o3
  intro _
  intro x792 ex792
  refine ⟨sc_in (j := 1) hv hc hL ex792 (by omega) (by decide), ?_⟩
  intro x793 ex793
  refine ⟨o2, ?_⟩
  refine ⟨by show _ ≤ 601024; omega, by show _ ≤ 7293034; omega, ?_⟩
  refine mz_X11_fits hI o2 (fun x795 S794 hJ g796 fc797 Kg796 nf2 kz => ?_)
  have wr := wr_keep hI o2 wr kz.1 kz.2 fc797 (by decide) (by decide) (by decide)
  have lgx := lg_keep o1 lgx g796 fc797 (by decide) (by decide) (by decide)
  have tp := tt_fri tp o1 o2 Kg796 fc797 (by decide) (by decide) (by decide) (by decide)
  have fa := fa_fri fa o1 o2 fc797 (by decide) (by decide)
  have wh := wh_set nf1 fc797 (by decide) nf2
  have hI := hJ
  have l3 := (gr_len g796 o3).trans l3
  have o1 := gr_ob g796 o1
  have o2 := gr_ob g796 o2
  have o3 := gr_ob g796 o3
  intro _
  unfold P_L_law_2342
  intro x798 ex798
  have back := hb x798 ex798
  exact back _ _ _ hI o1 o2 o3 l3 tp fa wh ⟨AA, GG, wr, gb⟩ lgx (by omega) (by omega)
set_option maxHeartbeats 4000000 in
set_option maxRecDepth 20000 in
theorem a_L_law_1859 {scL : Nat} {scx : Nat → Int32} {Q : Int32 → HS → Prop} {X23 : Nat → Nat → Nat → Int32 → Nat → Nat → HS → Prop} {v1 v2 v3 : Nat} {v4 : Int32} {kk nn : Nat} {S : HS} {c : Nat} (hL : scL ≤ 4096) (hc : 8 * c + 8 ≤ scL) (hb : ∀ x : Int32, x = v4 + (8 : Int32) → ∀ (kk nn : Nat) (T : HS), IV T → ob T v1 9 → ob T v2 11 → ob T v3 14 → hN T v3 = 1 → TT v1 v2 T → fI T v1 7 = fI T v2 13 → WH v1 v2 T → WRy v1 v2 T → LGx v1 T → kk ≤ 200 + 35 * (c + 1) → nn ≤ 13000 + 8200 * (c + 1) → X23 v1 v2 v3 x kk nn T) (h : LI v1 v2 v3 v4 kk nn S c) : P_L_law_1859 scL scx Q X23 v1 v2 v3 v4 kk nn S := by
  obtain ⟨hI, o1, o2, o3, l3, tp, fa, wh, wr, lgx, hv, hk, hn⟩ := h
  obtain ⟨AA, GG, wr, gb⟩ := wr
  unfold P_L_law_1859
  intro x799 ex799
  refine ⟨sc_in (j := 1) hv hc hL ex799 (by omega) (by decide), ?_⟩
  intro x800 ex800
  intro x801 ex801
  refine ⟨sc_in (j := 2) hv hc hL ex801 (by omega) (by decide), ?_⟩
  intro x802 ex802
  refine ⟨o1, ?_⟩
  refine ⟨by show _ ≤ 601024; omega, by show _ ≤ 7293034; omega, ?_⟩
  refine mz_X9_fit hI o1 (fun x804 S803 hJ g805 fc806 Kg805 nf1 kz => ?_)
  have wr := wr_keep hI o2 wr kz.1 kz.2 fc806 (by decide) (by decide) (by decide)
  have lgx := lg_keep o1 lgx g805 fc806 (by decide) (by decide) (by decide)
  have tp := tt_fri tp o1 o2 Kg805 fc806 (by decide) (by decide) (by decide) (by decide)
  have fa := fa_fri fa o1 o2 fc806 (by decide) (by decide)
  have hI := hJ
  have l3 := (gr_len g805 o3).trans l3
  have o1 := gr_ob g805 o1
  have o2 := gr_ob g805 o2
  have o3 := gr_ob g805 o3
  intro _
  intro x807 ex807
  refine ⟨sc_in (j := 1) hv hc hL ex807 (by omega) (by decide), ?_⟩
  intro x808 ex808
  intro x809 ex809
  refine ⟨sc_in (j := 2) hv hc hL ex809 (by omega) (by decide), ?_⟩
  intro x810 ex810
  refine ⟨o2, ?_⟩
  refine ⟨by show _ ≤ 601024; omega, by show _ ≤ 7293034; omega, ?_⟩
  refine mz_X11_fit hI o2 (fun x812 S811 hJ g813 fc814 Kg813 nf2 kz => ?_)
  have wr := wr_keep hI o2 wr kz.1 kz.2 fc814 (by decide) (by decide) (by decide)
  have lgx := lg_keep o1 lgx g813 fc814 (by decide) (by decide) (by decide)
  have tp := tt_fri tp o1 o2 Kg813 fc814 (by decide) (by decide) (by decide) (by decide)
  have fa := fa_fri fa o1 o2 fc814 (by decide) (by decide)
  have wh := wh_set nf1 fc814 (by decide) nf2
  have hI := hJ
  have l3 := (gr_len g813 o3).trans l3
  have o1 := gr_ob g813 o1
  have o2 := gr_ob g813 o2
  have o3 := gr_ob g813 o3
  intro _
  unfold P_L_law_2342
  intro x815 ex815
  have back := hb x815 ex815
  exact back _ _ _ hI o1 o2 o3 l3 tp fa wh ⟨AA, GG, wr, gb⟩ lgx (by omega) (by omega)
set_option maxHeartbeats 4000000 in
set_option maxRecDepth 20000 in
theorem a_L_law_1896 {scL : Nat} {scx : Nat → Int32} {Q : Int32 → HS → Prop} {X23 : Nat → Nat → Nat → Int32 → Nat → Nat → HS → Prop} {v1 v2 v3 : Nat} {v4 : Int32} {kk nn : Nat} {S : HS} {c : Nat} (hL : scL ≤ 4096) (hc : 8 * c + 8 ≤ scL) (hb : ∀ x : Int32, x = v4 + (8 : Int32) → ∀ (kk nn : Nat) (T : HS), IV T → ob T v1 9 → ob T v2 11 → ob T v3 14 → hN T v3 = 1 → TT v1 v2 T → fI T v1 7 = fI T v2 13 → WH v1 v2 T → WRy v1 v2 T → LGx v1 T → kk ≤ 200 + 35 * (c + 1) → nn ≤ 13000 + 8200 * (c + 1) → X23 v1 v2 v3 x kk nn T) (h : LI v1 v2 v3 v4 kk nn S c) : P_L_law_1896 scL scx Q X23 v1 v2 v3 v4 kk nn S := by
  obtain ⟨hI, o1, o2, o3, l3, tp, fa, wh, wr, lgx, hv, hk, hn⟩ := h
  obtain ⟨AA, GG, wr, gb⟩ := wr
  unfold P_L_law_1896
  refine ⟨o1, ?_⟩
  refine ⟨by show _ ≤ 601024; omega, by show _ ≤ 7293034; omega, ?_⟩
  refine mz_X9_lies hI o1 (fun x817 S816 hJ g818 fc819 Kg818 nf1 kz => ?_)
  have wr := wr_keep hI o2 wr kz.1 kz.2 fc819 (by decide) (by decide) (by decide)
  have lgx := lg_keep o1 lgx g818 fc819 (by decide) (by decide) (by decide)
  have tp := tt_fri tp o1 o2 Kg818 fc819 (by decide) (by decide) (by decide) (by decide)
  have fa := fa_fri fa o1 o2 fc819 (by decide) (by decide)
  have hI := hJ
  have l3 := (gr_len g818 o3).trans l3
  have o1 := gr_ob g818 o1
  have o2 := gr_ob g818 o2
  have o3 := gr_ob g818 o3
  intro _
  refine ⟨o2, ?_⟩
  refine ⟨by show _ ≤ 601024; omega, by show _ ≤ 7293034; omega, ?_⟩
  refine mz_X11_lies hI o2 (fun x821 S820 hJ g822 fc823 Kg822 nf2 kz => ?_)
  have wr := wr_keep hI o2 wr kz.1 kz.2 fc823 (by decide) (by decide) (by decide)
  have lgx := lg_keep o1 lgx g822 fc823 (by decide) (by decide) (by decide)
  have tp := tt_fri tp o1 o2 Kg822 fc823 (by decide) (by decide) (by decide) (by decide)
  have fa := fa_fri fa o1 o2 fc823 (by decide) (by decide)
  have wh := wh_set nf1 fc823 (by decide) nf2
  have hI := hJ
  have l3 := (gr_len g822 o3).trans l3
  have o1 := gr_ob g822 o1
  have o2 := gr_ob g822 o2
  have o3 := gr_ob g822 o3
  intro _
  unfold P_L_law_2342
  intro x824 ex824
  have back := hb x824 ex824
  exact back _ _ _ hI o1 o2 o3 l3 tp fa wh ⟨AA, GG, wr, gb⟩ lgx (by omega) (by omega)
set_option maxHeartbeats 4000000 in
set_option maxRecDepth 20000 in
theorem a_L_law_1909 {scL : Nat} {scx : Nat → Int32} {Q : Int32 → HS → Prop} {X23 : Nat → Nat → Nat → Int32 → Nat → Nat → HS → Prop} {v1 v2 v3 : Nat} {v4 : Int32} {kk nn : Nat} {S : HS} {c : Nat} (hL : scL ≤ 4096) (hc : 8 * c + 8 ≤ scL) (hb : ∀ x : Int32, x = v4 + (8 : Int32) → ∀ (kk nn : Nat) (T : HS), IV T → ob T v1 9 → ob T v2 11 → ob T v3 14 → hN T v3 = 1 → TT v1 v2 T → fI T v1 7 = fI T v2 13 → WH v1 v2 T → WRy v1 v2 T → LGx v1 T → kk ≤ 200 + 35 * (c + 1) → nn ≤ 13000 + 8200 * (c + 1) → X23 v1 v2 v3 x kk nn T) (h : LI v1 v2 v3 v4 kk nn S c) : P_L_law_1909 scL scx Q X23 v1 v2 v3 v4 kk nn S := by
  obtain ⟨hI, o1, o2, o3, l3, tp, fa, wh, wr, lgx, hv, hk, hn⟩ := h
  obtain ⟨AA, GG, wr, gb⟩ := wr
  unfold P_L_law_1909
  intro x825 ex825
  refine ⟨sc_in (j := 1) hv hc hL ex825 (by omega) (by decide), ?_⟩
  intro x826 ex826
  intro x827 ex827
  refine ⟨sc_in (j := 2) hv hc hL ex827 (by omega) (by decide), ?_⟩
  intro x828 ex828
  intro x829 ex829
  refine ⟨sc_in (j := 3) hv hc hL ex829 (by omega) (by decide), ?_⟩
  intro x830 ex830
  intro x831 ex831
  refine ⟨sc_in (j := 4) hv hc hL ex831 (by omega) (by decide), ?_⟩
  intro x832 ex832
  refine ⟨o1, ?_⟩
  refine ⟨by show _ ≤ 601024; omega, by show _ ≤ 7293034; omega, ?_⟩
  refine mz_X9_day hI o1 (fun x834 S833 hJ g835 fc836 Kg835 nf1 kz => ?_)
  have wr := wr_keep hI o2 wr kz.1 kz.2 fc836 (by decide) (by decide) (by decide)
  have lgx := lg_keep o1 lgx g835 fc836 (by decide) (by decide) (by decide)
  have tp := tt_fri tp o1 o2 Kg835 fc836 (by decide) (by decide) (by decide) (by decide)
  have fa := fa_fri fa o1 o2 fc836 (by decide) (by decide)
  have hI := hJ
  have l3 := (gr_len g835 o3).trans l3
  have o1 := gr_ob g835 o1
  have o2 := gr_ob g835 o2
  have o3 := gr_ob g835 o3
  intro _
  intro x837 ex837
  refine ⟨sc_in (j := 1) hv hc hL ex837 (by omega) (by decide), ?_⟩
  intro x838 ex838
  intro x839 ex839
  refine ⟨sc_in (j := 2) hv hc hL ex839 (by omega) (by decide), ?_⟩
  intro x840 ex840
  intro x841 ex841
  refine ⟨sc_in (j := 3) hv hc hL ex841 (by omega) (by decide), ?_⟩
  intro x842 ex842
  intro x843 ex843
  refine ⟨sc_in (j := 4) hv hc hL ex843 (by omega) (by decide), ?_⟩
  intro x844 ex844
  refine ⟨o2, ?_⟩
  refine ⟨by show _ ≤ 601024; omega, by show _ ≤ 7293034; omega, ?_⟩
  refine mz_X11_day hI o2 (fun x846 S845 hJ g847 fc848 Kg847 nf2 kz => ?_)
  have wr := wr_keep hI o2 wr kz.1 kz.2 fc848 (by decide) (by decide) (by decide)
  have lgx := lg_keep o1 lgx g847 fc848 (by decide) (by decide) (by decide)
  have tp := tt_fri tp o1 o2 Kg847 fc848 (by decide) (by decide) (by decide) (by decide)
  have fa := fa_fri fa o1 o2 fc848 (by decide) (by decide)
  have wh := wh_set nf1 fc848 (by decide) nf2
  have hI := hJ
  have l3 := (gr_len g847 o3).trans l3
  have o1 := gr_ob g847 o1
  have o2 := gr_ob g847 o2
  have o3 := gr_ob g847 o3
  intro _
  unfold P_L_law_2342
  intro x849 ex849
  have back := hb x849 ex849
  exact back _ _ _ hI o1 o2 o3 l3 tp fa wh ⟨AA, GG, wr, gb⟩ lgx (by omega) (by omega)
set_option maxHeartbeats 4000000 in
set_option maxRecDepth 20000 in
theorem a_L_law_1970 {scL : Nat} {scx : Nat → Int32} {Q : Int32 → HS → Prop} {X23 : Nat → Nat → Nat → Int32 → Nat → Nat → HS → Prop} {v1 v2 v3 : Nat} {v4 : Int32} {kk nn : Nat} {S : HS} {c : Nat} (hL : scL ≤ 4096) (hc : 8 * c + 8 ≤ scL) (hb : ∀ x : Int32, x = v4 + (8 : Int32) → ∀ (kk nn : Nat) (T : HS), IV T → ob T v1 9 → ob T v2 11 → ob T v3 14 → hN T v3 = 1 → TT v1 v2 T → fI T v1 7 = fI T v2 13 → WH v1 v2 T → WRy v1 v2 T → LGx v1 T → kk ≤ 200 + 35 * (c + 1) → nn ≤ 13000 + 8200 * (c + 1) → X23 v1 v2 v3 x kk nn T) (h : LI v1 v2 v3 v4 kk nn S c) : P_L_law_1970 scL scx Q X23 v1 v2 v3 v4 kk nn S := by
  obtain ⟨hI, o1, o2, o3, l3, tp, fa, wh, wr, lgx, hv, hk, hn⟩ := h
  obtain ⟨AA, GG, wr, gb⟩ := wr
  unfold P_L_law_1970
  intro x850 ex850
  refine ⟨sc_in (j := 1) hv hc hL ex850 (by omega) (by decide), ?_⟩
  intro x851 ex851
  intro x852 ex852
  refine ⟨sc_in (j := 2) hv hc hL ex852 (by omega) (by decide), ?_⟩
  intro x853 ex853
  intro x854 ex854
  refine ⟨sc_in (j := 3) hv hc hL ex854 (by omega) (by decide), ?_⟩
  intro x855 ex855
  refine ⟨o1, ?_⟩
  refine ⟨by show _ ≤ 601024; omega, by show _ ≤ 7293034; omega, ?_⟩
  refine mz_X9_go hI o1 (fun x857 S856 hJ g858 fc859 Kg858 nf1 kz => ?_)
  have wr := wr_keep hI o2 wr kz.1 kz.2 fc859 (by decide) (by decide) (by decide)
  have lgx := lg_keep o1 lgx g858 fc859 (by decide) (by decide) (by decide)
  have tp := tt_fri tp o1 o2 Kg858 fc859 (by decide) (by decide) (by decide) (by decide)
  have fa := fa_fri fa o1 o2 fc859 (by decide) (by decide)
  have hI := hJ
  have l3 := (gr_len g858 o3).trans l3
  have o1 := gr_ob g858 o1
  have o2 := gr_ob g858 o2
  have o3 := gr_ob g858 o3
  intro _
  intro x860 ex860
  refine ⟨sc_in (j := 1) hv hc hL ex860 (by omega) (by decide), ?_⟩
  intro x861 ex861
  intro x862 ex862
  refine ⟨sc_in (j := 2) hv hc hL ex862 (by omega) (by decide), ?_⟩
  intro x863 ex863
  intro x864 ex864
  refine ⟨sc_in (j := 3) hv hc hL ex864 (by omega) (by decide), ?_⟩
  intro x865 ex865
  refine ⟨o2, ?_⟩
  refine ⟨by show _ ≤ 601024; omega, by show _ ≤ 7293034; omega, ?_⟩
  refine mz_X11_go hI o2 (fun x867 S866 hJ g868 fc869 Kg868 nf2 kz => ?_)
  have wr := wr_keep hI o2 wr kz.1 kz.2 fc869 (by decide) (by decide) (by decide)
  have lgx := lg_keep o1 lgx g868 fc869 (by decide) (by decide) (by decide)
  have tp := tt_fri tp o1 o2 Kg868 fc869 (by decide) (by decide) (by decide) (by decide)
  have fa := fa_fri fa o1 o2 fc869 (by decide) (by decide)
  have wh := wh_set nf1 fc869 (by decide) nf2
  have hI := hJ
  have l3 := (gr_len g868 o3).trans l3
  have o1 := gr_ob g868 o1
  have o2 := gr_ob g868 o2
  have o3 := gr_ob g868 o3
  intro _
  unfold P_L_law_2342
  intro x870 ex870
  have back := hb x870 ex870
  exact back _ _ _ hI o1 o2 o3 l3 tp fa wh ⟨AA, GG, wr, gb⟩ lgx (by omega) (by omega)
set_option maxHeartbeats 4000000 in
set_option maxRecDepth 20000 in
theorem a_L_law_2019 {scL : Nat} {scx : Nat → Int32} {Q : Int32 → HS → Prop} {X23 : Nat → Nat → Nat → Int32 → Nat → Nat → HS → Prop} {v1 v2 v3 : Nat} {v4 : Int32} {kk nn : Nat} {S : HS} {c : Nat} (hL : scL ≤ 4096) (hc : 8 * c + 8 ≤ scL) (hb : ∀ x : Int32, x = v4 + (8 : Int32) → ∀ (kk nn : Nat) (T : HS), IV T → ob T v1 9 → ob T v2 11 → ob T v3 14 → hN T v3 = 1 → TT v1 v2 T → fI T v1 7 = fI T v2 13 → WH v1 v2 T → WRy v1 v2 T → LGx v1 T → kk ≤ 200 + 35 * (c + 1) → nn ≤ 13000 + 8200 * (c + 1) → X23 v1 v2 v3 x kk nn T) (h : LI v1 v2 v3 v4 kk nn S c) : P_L_law_2019 scL scx Q X23 v1 v2 v3 v4 kk nn S := by
  obtain ⟨hI, o1, o2, o3, l3, tp, fa, wh, wr, lgx, hv, hk, hn⟩ := h
  obtain ⟨AA, GG, wr, gb⟩ := wr
  unfold P_L_law_2019
  intro x871 ex871
  refine ⟨sc_in (j := 1) hv hc hL ex871 (by omega) (by decide), ?_⟩
  intro x872 ex872
  refine ⟨o1, ?_⟩
  refine ⟨by show _ ≤ 601024; omega, by show _ ≤ 7293034; omega, ?_⟩
  refine mz_X9_stay hI o1 (fun x874 S873 hJ g875 fc876 _ Kg875 nf1 kz => ?_)
  have wr := wr_keep hI o2 wr kz.1 kz.2 fc876 (by decide) (by decide) (by decide)
  have lgx := lg_keep o1 lgx g875 fc876 (by decide) (by decide) (by decide)
  have tp := tt_fri tp o1 o2 Kg875 fc876 (by decide) (by decide) (by decide) (by decide)
  have fa := fa_fri fa o1 o2 fc876 (by decide) (by decide)
  have hI := hJ
  have l3 := (gr_len g875 o3).trans l3
  have o1 := gr_ob g875 o1
  have o2 := gr_ob g875 o2
  have o3 := gr_ob g875 o3
  intro _ _
  intro x877 ex877
  refine ⟨sc_in (j := 1) hv hc hL ex877 (by omega) (by decide), ?_⟩
  intro x878 ex878
  refine ⟨o2, ?_⟩
  refine ⟨by show _ ≤ 601024; omega, by show _ ≤ 7293034; omega, ?_⟩
  refine mz_X11_stay hI o2 (fun x880 S879 hJ g881 fc882 _ Kg881 nf2 kz => ?_)
  have wr := wr_keep hI o2 wr kz.1 kz.2 fc882 (by decide) (by decide) (by decide)
  have lgx := lg_keep o1 lgx g881 fc882 (by decide) (by decide) (by decide)
  have tp := tt_fri tp o1 o2 Kg881 fc882 (by decide) (by decide) (by decide) (by decide)
  have fa := fa_fri fa o1 o2 fc882 (by decide) (by decide)
  have wh := wh_set nf1 fc882 (by decide) nf2
  have hI := hJ
  have l3 := (gr_len g881 o3).trans l3
  have o1 := gr_ob g881 o1
  have o2 := gr_ob g881 o2
  have o3 := gr_ob g881 o3
  intro _ _
  unfold P_L_law_2342
  intro x883 ex883
  have back := hb x883 ex883
  exact back _ _ _ hI o1 o2 o3 l3 tp fa wh ⟨AA, GG, wr, gb⟩ lgx (by omega) (by omega)
set_option maxHeartbeats 4000000 in
set_option maxRecDepth 20000 in
theorem a_L_law_2044 {scL : Nat} {scx : Nat → Int32} {Q : Int32 → HS → Prop} {X23 : Nat → Nat → Nat → Int32 → Nat → Nat → HS → Prop} {v1 v2 v3 : Nat} {v4 : Int32} {kk nn : Nat} {S : HS} {c : Nat} (hL : scL ≤ 4096) (hc : 8 * c + 8 ≤ scL) (hb : ∀ x : Int32, x = v4 + (8 : Int32) → ∀ (kk nn : Nat) (T : HS), IV T → ob T v1 9 → ob T v2 11 → ob T v3 14 → hN T v3 = 1 → TT v1 v2 T → fI T v1 7 = fI T v2 13 → WH v1 v2 T → WRy v1 v2 T → LGx v1 T → kk ≤ 200 + 35 * (c + 1) → nn ≤ 13000 + 8200 * (c + 1) → X23 v1 v2 v3 x kk nn T) (h : LI v1 v2 v3 v4 kk nn S c) : P_L_law_2044 scL scx Q X23 v1 v2 v3 v4 kk nn S := by
  obtain ⟨hI, o1, o2, o3, l3, tp, fa, wh, wr, lgx, hv, hk, hn⟩ := h
  obtain ⟨AA, GG, wr, gb⟩ := wr
  unfold P_L_law_2044
  intro x884 ex884
  refine ⟨sc_in (j := 1) hv hc hL ex884 (by omega) (by decide), ?_⟩
  intro x885 ex885
  intro x886 ex886
  refine ⟨sc_in (j := 2) hv hc hL ex886 (by omega) (by decide), ?_⟩
  intro x887 ex887
  refine ⟨fun c888 => ?_, fun c888 => ?_⟩
  · unfold P_L_law_2065
    refine ⟨o1, ?_⟩
    refine ⟨by show _ ≤ 601024; omega, by show _ ≤ 7293034; omega, ?_⟩
    refine mz_X9_got hI o1 (fun x890 S889 hJ g891 fc892 Kg891 nf1 kz => ?_)
    have wr := wr_keep hI o2 wr kz.1 kz.2 fc892 (by decide) (by decide) (by decide)
    have lgx := lg_keep o1 lgx g891 fc892 (by decide) (by decide) (by decide)
    have tp := tt_fri tp o1 o2 Kg891 fc892 (by decide) (by decide) (by decide) (by decide)
    have fa := fa_fri fa o1 o2 fc892 (by decide) (by decide)
    have hI := hJ
    have l3 := (gr_len g891 o3).trans l3
    have o1 := gr_ob g891 o1
    have o2 := gr_ob g891 o2
    have o3 := gr_ob g891 o3
    intro _
    intro x893 ex893
    refine ⟨sc_in (j := 1) hv hc hL ex893 (by omega) (by decide), ?_⟩
    intro x894 ex894
    intro x895 ex895
    refine ⟨sc_in (j := 2) hv hc hL ex895 (by omega) (by decide), ?_⟩
    intro x896 ex896
    have xy898 : x896 = x887 := by rw [ex896, ex895, ex887, ex886]
    refine ⟨fun c897 => ?_, fun c897 => absurd (xy898.trans c888) c897⟩
    unfold P_L_law_2090
    refine ⟨o2, ?_⟩
    refine ⟨by show _ ≤ 601024; omega, by show _ ≤ 7293034; omega, ?_⟩
    refine mz_X11_got hI o2 (fun x900 S899 hJ g901 fc902 Kg901 nf2 kz => ?_)
    have wr := wr_keep hI o2 wr kz.1 kz.2 fc902 (by decide) (by decide) (by decide)
    have lgx := lg_keep o1 lgx g901 fc902 (by decide) (by decide) (by decide)
    have tp := tt_fri tp o1 o2 Kg901 fc902 (by decide) (by decide) (by decide) (by decide)
    have fa := fa_fri fa o1 o2 fc902 (by decide) (by decide)
    have wh := wh_set nf1 fc902 (by decide) nf2
    have hI := hJ
    have l3 := (gr_len g901 o3).trans l3
    have o1 := gr_ob g901 o1
    have o2 := gr_ob g901 o2
    have o3 := gr_ob g901 o3
    intro _
    unfold P_L_law_2342
    intro x903 ex903
    have back := hb x903 ex903
    exact back _ _ _ hI o1 o2 o3 l3 tp fa wh ⟨AA, GG, wr, gb⟩ lgx (by omega) (by omega)
  · unfold P_L_law_2065
    refine ⟨o1, ?_⟩
    refine ⟨by show _ ≤ 601024; omega, by show _ ≤ 7293034; omega, ?_⟩
    refine mz_X9_got hI o1 (fun x905 S904 hJ g906 fc907 Kg906 nf1 kz => ?_)
    have wr := wr_keep hI o2 wr kz.1 kz.2 fc907 (by decide) (by decide) (by decide)
    have lgx := lg_keep o1 lgx g906 fc907 (by decide) (by decide) (by decide)
    have tp := tt_fri tp o1 o2 Kg906 fc907 (by decide) (by decide) (by decide) (by decide)
    have fa := fa_fri fa o1 o2 fc907 (by decide) (by decide)
    have hI := hJ
    have l3 := (gr_len g906 o3).trans l3
    have o1 := gr_ob g906 o1
    have o2 := gr_ob g906 o2
    have o3 := gr_ob g906 o3
    intro _
    intro x908 ex908
    refine ⟨sc_in (j := 1) hv hc hL ex908 (by omega) (by decide), ?_⟩
    intro x909 ex909
    intro x910 ex910
    refine ⟨sc_in (j := 2) hv hc hL ex910 (by omega) (by decide), ?_⟩
    intro x911 ex911
    have xy913 : x911 = x887 := by rw [ex911, ex910, ex887, ex886]
    refine ⟨fun c912 => absurd (xy913.symm.trans c912) c888, fun c912 => ?_⟩
    unfold P_L_law_2090
    refine ⟨o2, ?_⟩
    refine ⟨by show _ ≤ 601024; omega, by show _ ≤ 7293034; omega, ?_⟩
    refine mz_X11_got hI o2 (fun x915 S914 hJ g916 fc917 Kg916 nf2 kz => ?_)
    have wr := wr_keep hI o2 wr kz.1 kz.2 fc917 (by decide) (by decide) (by decide)
    have lgx := lg_keep o1 lgx g916 fc917 (by decide) (by decide) (by decide)
    have tp := tt_fri tp o1 o2 Kg916 fc917 (by decide) (by decide) (by decide) (by decide)
    have fa := fa_fri fa o1 o2 fc917 (by decide) (by decide)
    have wh := wh_set nf1 fc917 (by decide) nf2
    have hI := hJ
    have l3 := (gr_len g916 o3).trans l3
    have o1 := gr_ob g916 o1
    have o2 := gr_ob g916 o2
    have o3 := gr_ob g916 o3
    intro _
    unfold P_L_law_2342
    intro x918 ex918
    have back := hb x918 ex918
    exact back _ _ _ hI o1 o2 o3 l3 tp fa wh ⟨AA, GG, wr, gb⟩ lgx (by omega) (by omega)
set_option maxHeartbeats 4000000 in
set_option maxRecDepth 20000 in
theorem a_L_law_2097 {scL : Nat} {scx : Nat → Int32} {Q : Int32 → HS → Prop} {X23 : Nat → Nat → Nat → Int32 → Nat → Nat → HS → Prop} {v1 v2 v3 : Nat} {v4 : Int32} {kk nn : Nat} {S : HS} {c : Nat} (hL : scL ≤ 4096) (hc : 8 * c + 8 ≤ scL) (hb : ∀ x : Int32, x = v4 + (8 : Int32) → ∀ (kk nn : Nat) (T : HS), IV T → ob T v1 9 → ob T v2 11 → ob T v3 14 → hN T v3 = 1 → TT v1 v2 T → fI T v1 7 = fI T v2 13 → WH v1 v2 T → WRy v1 v2 T → LGx v1 T → kk ≤ 200 + 35 * (c + 1) → nn ≤ 13000 + 8200 * (c + 1) → X23 v1 v2 v3 x kk nn T) (h : LI v1 v2 v3 v4 kk nn S c) : P_L_law_2097 scL scx Q X23 v1 v2 v3 v4 kk nn S := by
  obtain ⟨hI, o1, o2, o3, l3, tp, fa, wh, wr, lgx, hv, hk, hn⟩ := h
  obtain ⟨AA, GG, wr, gb⟩ := wr
  unfold P_L_law_2097
  intro x919 ex919
  refine ⟨sc_in (j := 1) hv hc hL ex919 (by omega) (by decide), ?_⟩
  intro x920 ex920
  refine ⟨fun c921 => ?_, fun c921 => ?_⟩
  · unfold P_L_law_2112
    refine ⟨o1, ?_⟩
    refine ⟨by show _ ≤ 601024; omega, by show _ ≤ 7293034; omega, ?_⟩
    refine mz_X9_wetness hI o1 (fun x923 S922 hJ g924 fc925 Kg924 nf1 kz => ?_)
    have wr := wr_keep hI o2 wr kz.1 kz.2 fc925 (by decide) (by decide) (by decide)
    have lgx := lg_keep o1 lgx g924 fc925 (by decide) (by decide) (by decide)
    have tp := tt_fri tp o1 o2 Kg924 fc925 (by decide) (by decide) (by decide) (by decide)
    have fa := fa_fri fa o1 o2 fc925 (by decide) (by decide)
    have hI := hJ
    have l3 := (gr_len g924 o3).trans l3
    have o1 := gr_ob g924 o1
    have o2 := gr_ob g924 o2
    have o3 := gr_ob g924 o3
    intro _
    intro x926 ex926
    refine ⟨sc_in (j := 1) hv hc hL ex926 (by omega) (by decide), ?_⟩
    intro x927 ex927
    have xy929 : x927 = x920 := by rw [ex927, ex926, ex920, ex919]
    refine ⟨fun c928 => ?_, fun c928 => absurd (xy929.trans c921) c928⟩
    unfold P_L_law_2131
    refine ⟨o2, ?_⟩
    refine ⟨by show _ ≤ 601024; omega, by show _ ≤ 7293034; omega, ?_⟩
    refine mz_X11_wetness hI o2 (fun x931 S930 hJ g932 fc933 Kg932 nf2 kz => ?_)
    have wr := wr_keep hI o2 wr kz.1 kz.2 fc933 (by decide) (by decide) (by decide)
    have lgx := lg_keep o1 lgx g932 fc933 (by decide) (by decide) (by decide)
    have tp := tt_fri tp o1 o2 Kg932 fc933 (by decide) (by decide) (by decide) (by decide)
    have fa := fa_fri fa o1 o2 fc933 (by decide) (by decide)
    have wh := wh_set nf1 fc933 (by decide) nf2
    have hI := hJ
    have l3 := (gr_len g932 o3).trans l3
    have o1 := gr_ob g932 o1
    have o2 := gr_ob g932 o2
    have o3 := gr_ob g932 o3
    intro _
    unfold P_L_law_2342
    intro x934 ex934
    have back := hb x934 ex934
    exact back _ _ _ hI o1 o2 o3 l3 tp fa wh ⟨AA, GG, wr, gb⟩ lgx (by omega) (by omega)
  · unfold P_L_law_2112
    refine ⟨o1, ?_⟩
    refine ⟨by show _ ≤ 601024; omega, by show _ ≤ 7293034; omega, ?_⟩
    refine mz_X9_wetness hI o1 (fun x936 S935 hJ g937 fc938 Kg937 nf1 kz => ?_)
    have wr := wr_keep hI o2 wr kz.1 kz.2 fc938 (by decide) (by decide) (by decide)
    have lgx := lg_keep o1 lgx g937 fc938 (by decide) (by decide) (by decide)
    have tp := tt_fri tp o1 o2 Kg937 fc938 (by decide) (by decide) (by decide) (by decide)
    have fa := fa_fri fa o1 o2 fc938 (by decide) (by decide)
    have hI := hJ
    have l3 := (gr_len g937 o3).trans l3
    have o1 := gr_ob g937 o1
    have o2 := gr_ob g937 o2
    have o3 := gr_ob g937 o3
    intro _
    intro x939 ex939
    refine ⟨sc_in (j := 1) hv hc hL ex939 (by omega) (by decide), ?_⟩
    intro x940 ex940
    have xy942 : x940 = x920 := by rw [ex940, ex939, ex920, ex919]
    refine ⟨fun c941 => absurd (xy942.symm.trans c941) c921, fun c941 => ?_⟩
    unfold P_L_law_2131
    refine ⟨o2, ?_⟩
    refine ⟨by show _ ≤ 601024; omega, by show _ ≤ 7293034; omega, ?_⟩
    refine mz_X11_wetness hI o2 (fun x944 S943 hJ g945 fc946 Kg945 nf2 kz => ?_)
    have wr := wr_keep hI o2 wr kz.1 kz.2 fc946 (by decide) (by decide) (by decide)
    have lgx := lg_keep o1 lgx g945 fc946 (by decide) (by decide) (by decide)
    have tp := tt_fri tp o1 o2 Kg945 fc946 (by decide) (by decide) (by decide) (by decide)
    have fa := fa_fri fa o1 o2 fc946 (by decide) (by decide)
    have wh := wh_set nf1 fc946 (by decide) nf2
    have hI := hJ
    have l3 := (gr_len g945 o3).trans l3
    have o1 := gr_ob g945 o1
    have o2 := gr_ob g945 o2
    have o3 := gr_ob g945 o3
    intro _
    unfold P_L_law_2342
    intro x947 ex947
    have back := hb x947 ex947
    exact back _ _ _ hI o1 o2 o3 l3 tp fa wh ⟨AA, GG, wr, gb⟩ lgx (by omega) (by omega)
set_option maxHeartbeats 4000000 in
set_option maxRecDepth 20000 in
theorem a_L_law_2138 {scL : Nat} {scx : Nat → Int32} {Q : Int32 → HS → Prop} {X23 : Nat → Nat → Nat → Int32 → Nat → Nat → HS → Prop} {v1 v2 v3 : Nat} {v4 : Int32} {kk nn : Nat} {S : HS} {c : Nat} (hL : scL ≤ 4096) (hc : 8 * c + 8 ≤ scL) (hb : ∀ x : Int32, x = v4 + (8 : Int32) → ∀ (kk nn : Nat) (T : HS), IV T → ob T v1 9 → ob T v2 11 → ob T v3 14 → hN T v3 = 1 → TT v1 v2 T → fI T v1 7 = fI T v2 13 → WH v1 v2 T → WRy v1 v2 T → LGx v1 T → kk ≤ 200 + 35 * (c + 1) → nn ≤ 13000 + 8200 * (c + 1) → X23 v1 v2 v3 x kk nn T) (h : LI v1 v2 v3 v4 kk nn S c) : P_L_law_2138 scL scx Q X23 v1 v2 v3 v4 kk nn S := by
  obtain ⟨hI, o1, o2, o3, l3, tp, fa, wh, wr, lgx, hv, hk, hn⟩ := h
  obtain ⟨AA, GG, wr, gb⟩ := wr
  unfold P_L_law_2138
  refine ⟨o1, ?_⟩
  refine ⟨by show _ ≤ 601024; omega, by show _ ≤ 7293034; omega, ?_⟩
  refine mz_X9_soaked hI o1 (fun x949 S948 hJ g950 fc951 Kg950 nf1 kz => ?_)
  have wr := wr_keep hI o2 wr kz.1 kz.2 fc951 (by decide) (by decide) (by decide)
  have lgx := lg_keep o1 lgx g950 fc951 (by decide) (by decide) (by decide)
  have tp := tt_fri tp o1 o2 Kg950 fc951 (by decide) (by decide) (by decide) (by decide)
  have fa := fa_fri fa o1 o2 fc951 (by decide) (by decide)
  have hI := hJ
  have l3 := (gr_len g950 o3).trans l3
  have o1 := gr_ob g950 o1
  have o2 := gr_ob g950 o2
  have o3 := gr_ob g950 o3
  intro _
  refine ⟨o2, ?_⟩
  refine ⟨by show _ ≤ 601024; omega, by show _ ≤ 7293034; omega, ?_⟩
  refine mz_X11_soaked hI o2 (fun x953 S952 hJ g954 fc955 Kg954 nf2 kz => ?_)
  have wr := wr_keep hI o2 wr kz.1 kz.2 fc955 (by decide) (by decide) (by decide)
  have lgx := lg_keep o1 lgx g954 fc955 (by decide) (by decide) (by decide)
  have tp := tt_fri tp o1 o2 Kg954 fc955 (by decide) (by decide) (by decide) (by decide)
  have fa := fa_fri fa o1 o2 fc955 (by decide) (by decide)
  have wh := wh_set nf1 fc955 (by decide) nf2
  have hI := hJ
  have l3 := (gr_len g954 o3).trans l3
  have o1 := gr_ob g954 o1
  have o2 := gr_ob g954 o2
  have o3 := gr_ob g954 o3
  intro _
  unfold P_L_law_2342
  intro x956 ex956
  have back := hb x956 ex956
  exact back _ _ _ hI o1 o2 o3 l3 tp fa wh ⟨AA, GG, wr, gb⟩ lgx (by omega) (by omega)
set_option maxHeartbeats 4000000 in
set_option maxRecDepth 20000 in
theorem a_L_law_2151 {scL : Nat} {scx : Nat → Int32} {Q : Int32 → HS → Prop} {X23 : Nat → Nat → Nat → Int32 → Nat → Nat → HS → Prop} {v1 v2 v3 : Nat} {v4 : Int32} {kk nn : Nat} {S : HS} {c : Nat} (hL : scL ≤ 4096) (hc : 8 * c + 8 ≤ scL) (hb : ∀ x : Int32, x = v4 + (8 : Int32) → ∀ (kk nn : Nat) (T : HS), IV T → ob T v1 9 → ob T v2 11 → ob T v3 14 → hN T v3 = 1 → TT v1 v2 T → fI T v1 7 = fI T v2 13 → WH v1 v2 T → WRy v1 v2 T → LGx v1 T → kk ≤ 200 + 35 * (c + 1) → nn ≤ 13000 + 8200 * (c + 1) → X23 v1 v2 v3 x kk nn T) (h : LI v1 v2 v3 v4 kk nn S c) : P_L_law_2151 scL scx Q X23 v1 v2 v3 v4 kk nn S := by
  obtain ⟨hI, o1, o2, o3, l3, tp, fa, wh, wr, lgx, hv, hk, hn⟩ := h
  obtain ⟨AA, GG, wr, gb⟩ := wr
  unfold P_L_law_2151
  refine ⟨o1, ?_⟩
  refine ⟨by show _ ≤ 601024; omega, by show _ ≤ 7293034; omega, ?_⟩
  refine mz_X9_undo hI o1 (fun x958 S957 hJ g959 fc960 _ Kg959 nf1 kz => ?_)
  have wr := wr_keep hI o2 wr kz.1 kz.2 fc960 (by decide) (by decide) (by decide)
  have lgx := lg_keep o1 lgx g959 fc960 (by decide) (by decide) (by decide)
  have tp := tt_fri tp o1 o2 Kg959 fc960 (by decide) (by decide) (by decide) (by decide)
  have fa := fa_fri fa o1 o2 fc960 (by decide) (by decide)
  have hI := hJ
  have l3 := (gr_len g959 o3).trans l3
  have o1 := gr_ob g959 o1
  have o2 := gr_ob g959 o2
  have o3 := gr_ob g959 o3
  intro _ _
  refine ⟨o2, ?_⟩
  refine ⟨by show _ ≤ 601024; omega, by show _ ≤ 7293034; omega, ?_⟩
  refine mz_X11_undo hI o2 (fun x962 S961 hJ g963 fc964 _ Kg963 nf2 kz => ?_)
  have wr := wr_keep hI o2 wr kz.1 kz.2 fc964 (by decide) (by decide) (by decide)
  have lgx := lg_keep o1 lgx g963 fc964 (by decide) (by decide) (by decide)
  have tp := tt_fri tp o1 o2 Kg963 fc964 (by decide) (by decide) (by decide) (by decide)
  have fa := fa_fri fa o1 o2 fc964 (by decide) (by decide)
  have wh := wh_set nf1 fc964 (by decide) nf2
  have hI := hJ
  have l3 := (gr_len g963 o3).trans l3
  have o1 := gr_ob g963 o1
  have o2 := gr_ob g963 o2
  have o3 := gr_ob g963 o3
  intro _ _
  unfold P_L_law_2342
  intro x965 ex965
  have back := hb x965 ex965
  exact back _ _ _ hI o1 o2 o3 l3 tp fa wh ⟨AA, GG, wr, gb⟩ lgx (by omega) (by omega)
set_option maxHeartbeats 4000000 in
set_option maxRecDepth 20000 in
theorem a_L_law_2164 {scL : Nat} {scx : Nat → Int32} {Q : Int32 → HS → Prop} {X23 : Nat → Nat → Nat → Int32 → Nat → Nat → HS → Prop} {v1 v2 v3 : Nat} {v4 : Int32} {kk nn : Nat} {S : HS} {c : Nat} (hL : scL ≤ 4096) (hc : 8 * c + 8 ≤ scL) (hb : ∀ x : Int32, x = v4 + (8 : Int32) → ∀ (kk nn : Nat) (T : HS), IV T → ob T v1 9 → ob T v2 11 → ob T v3 14 → hN T v3 = 1 → TT v1 v2 T → fI T v1 7 = fI T v2 13 → WH v1 v2 T → WRy v1 v2 T → LGx v1 T → kk ≤ 200 + 35 * (c + 1) → nn ≤ 13000 + 8200 * (c + 1) → X23 v1 v2 v3 x kk nn T) (h : LI v1 v2 v3 v4 kk nn S c) : P_L_law_2164 scL scx Q X23 v1 v2 v3 v4 kk nn S := by
  obtain ⟨hI, o1, o2, o3, l3, tp, fa, wh, wr, lgx, hv, hk, hn⟩ := h
  obtain ⟨AA, GG, wr, gb⟩ := wr
  unfold P_L_law_2164
  refine ⟨o1, ?_⟩
  refine ⟨by show _ ≤ 601024; omega, by show _ ≤ 7293034; omega, ?_⟩
  refine mz_X9_mark hI o1 (fun x967 S966 hJ g968 fc969 Kg968 nf1 kz => ?_)
  have wr := wr_keep hI o2 wr kz.1 kz.2 fc969 (by decide) (by decide) (by decide)
  have lgx := lg_keep o1 lgx g968 fc969 (by decide) (by decide) (by decide)
  have tp := tt_fri tp o1 o2 Kg968 fc969 (by decide) (by decide) (by decide) (by decide)
  have fa := fa_fri fa o1 o2 fc969 (by decide) (by decide)
  have hI := hJ
  have l3 := (gr_len g968 o3).trans l3
  have o1 := gr_ob g968 o1
  have o2 := gr_ob g968 o2
  have o3 := gr_ob g968 o3
  intro _
  refine ⟨o2, ?_⟩
  refine ⟨by show _ ≤ 601024; omega, by show _ ≤ 7293034; omega, ?_⟩
  refine mz_X11_mark hI o2 (fun x971 S970 hJ g972 fc973 Kg972 nf2 kz => ?_)
  have wr := wr_keep hI o2 wr kz.1 kz.2 fc973 (by decide) (by decide) (by decide)
  have lgx := lg_keep o1 lgx g972 fc973 (by decide) (by decide) (by decide)
  have tp := tt_fri tp o1 o2 Kg972 fc973 (by decide) (by decide) (by decide) (by decide)
  have fa := fa_fri fa o1 o2 fc973 (by decide) (by decide)
  have wh := wh_set nf1 fc973 (by decide) nf2
  have hI := hJ
  have l3 := (gr_len g972 o3).trans l3
  have o1 := gr_ob g972 o1
  have o2 := gr_ob g972 o2
  have o3 := gr_ob g972 o3
  intro _
  unfold P_L_law_2342
  intro x974 ex974
  have back := hb x974 ex974
  exact back _ _ _ hI o1 o2 o3 l3 tp fa wh ⟨AA, GG, wr, gb⟩ lgx (by omega) (by omega)
set_option maxHeartbeats 4000000 in
set_option maxRecDepth 20000 in
theorem a_L_law_2177 {scL : Nat} {scx : Nat → Int32} {Q : Int32 → HS → Prop} {X23 : Nat → Nat → Nat → Int32 → Nat → Nat → HS → Prop} {v1 v2 v3 : Nat} {v4 : Int32} {kk nn : Nat} {S : HS} {c : Nat} (hL : scL ≤ 4096) (hc : 8 * c + 8 ≤ scL) (hb : ∀ x : Int32, x = v4 + (8 : Int32) → ∀ (kk nn : Nat) (T : HS), IV T → ob T v1 9 → ob T v2 11 → ob T v3 14 → hN T v3 = 1 → TT v1 v2 T → fI T v1 7 = fI T v2 13 → WH v1 v2 T → WRy v1 v2 T → LGx v1 T → kk ≤ 200 + 35 * (c + 1) → nn ≤ 13000 + 8200 * (c + 1) → X23 v1 v2 v3 x kk nn T) (h : LI v1 v2 v3 v4 kk nn S c) : P_L_law_2177 scL scx Q X23 v1 v2 v3 v4 kk nn S := by
  obtain ⟨hI, o1, o2, o3, l3, tp, fa, wh, wr, lgx, hv, hk, hn⟩ := h
  obtain ⟨AA, GG, wr, gb⟩ := wr
  unfold P_L_law_2177
  intro x975 ex975
  refine ⟨sc_in (j := 1) hv hc hL ex975 (by omega) (by decide), ?_⟩
  intro x976 ex976
  refine ⟨o1, ?_⟩
  refine ⟨by show _ ≤ 601024; omega, by show _ ≤ 7293034; omega, ?_⟩
  refine mz_X9_back hI o1 (fun x978 S977 hJ g979 fc980 _ Kg979 nf1 kz => ?_)
  have wr := wr_keep hI o2 wr kz.1 kz.2 fc980 (by decide) (by decide) (by decide)
  have lgx := lg_keep o1 lgx g979 fc980 (by decide) (by decide) (by decide)
  have tp := tt_fri tp o1 o2 Kg979 fc980 (by decide) (by decide) (by decide) (by decide)
  have fa := fa_fri fa o1 o2 fc980 (by decide) (by decide)
  have hI := hJ
  have l3 := (gr_len g979 o3).trans l3
  have o1 := gr_ob g979 o1
  have o2 := gr_ob g979 o2
  have o3 := gr_ob g979 o3
  intro _ _
  intro x981 ex981
  refine ⟨sc_in (j := 1) hv hc hL ex981 (by omega) (by decide), ?_⟩
  intro x982 ex982
  refine ⟨o2, ?_⟩
  refine ⟨by show _ ≤ 601024; omega, by show _ ≤ 7293034; omega, ?_⟩
  refine mz_X11_back hI o2 (fun x984 S983 hJ g985 fc986 _ Kg985 nf2 kz => ?_)
  have wr := wr_keep hI o2 wr kz.1 kz.2 fc986 (by decide) (by decide) (by decide)
  have lgx := lg_keep o1 lgx g985 fc986 (by decide) (by decide) (by decide)
  have tp := tt_fri tp o1 o2 Kg985 fc986 (by decide) (by decide) (by decide) (by decide)
  have fa := fa_fri fa o1 o2 fc986 (by decide) (by decide)
  have wh := wh_set nf1 fc986 (by decide) nf2
  have hI := hJ
  have l3 := (gr_len g985 o3).trans l3
  have o1 := gr_ob g985 o1
  have o2 := gr_ob g985 o2
  have o3 := gr_ob g985 o3
  intro _ _
  unfold P_L_law_2342
  intro x987 ex987
  have back := hb x987 ex987
  exact back _ _ _ hI o1 o2 o3 l3 tp fa wh ⟨AA, GG, wr, gb⟩ lgx (by omega) (by omega)
set_option maxHeartbeats 4000000 in
set_option maxRecDepth 20000 in
theorem a_L_law_2202 {scL : Nat} {scx : Nat → Int32} {Q : Int32 → HS → Prop} {X23 : Nat → Nat → Nat → Int32 → Nat → Nat → HS → Prop} {v1 v2 v3 : Nat} {v4 : Int32} {kk nn : Nat} {S : HS} {c : Nat} (hL : scL ≤ 4096) (hc : 8 * c + 8 ≤ scL) (hb : ∀ x : Int32, x = v4 + (8 : Int32) → ∀ (kk nn : Nat) (T : HS), IV T → ob T v1 9 → ob T v2 11 → ob T v3 14 → hN T v3 = 1 → TT v1 v2 T → fI T v1 7 = fI T v2 13 → WH v1 v2 T → WRy v1 v2 T → LGx v1 T → kk ≤ 200 + 35 * (c + 1) → nn ≤ 13000 + 8200 * (c + 1) → X23 v1 v2 v3 x kk nn T) (h : LI v1 v2 v3 v4 kk nn S c) : P_L_law_2202 scL scx Q X23 v1 v2 v3 v4 kk nn S := by
  obtain ⟨hI, o1, o2, o3, l3, tp, fa, wh, wr, lgx, hv, hk, hn⟩ := h
  obtain ⟨AA, GG, wr, gb⟩ := wr
  unfold P_L_law_2202
  intro x988 ex988
  refine ⟨sc_in (j := 1) hv hc hL ex988 (by omega) (by decide), ?_⟩
  intro x989 ex989
  intro x990 ex990
  refine ⟨sc_in (j := 2) hv hc hL ex990 (by omega) (by decide), ?_⟩
  intro x991 ex991
  refine ⟨o1, ?_⟩
  refine ⟨by show _ ≤ 601024; omega, by show _ ≤ 7293034; omega, ?_⟩
  refine mz_X9_walker hI o1 (fun x993 S992 hJ g994 fc995 Kg994 nf1 kz => ?_)
  have wr := wr_keep hI o2 wr kz.1 kz.2 fc995 (by decide) (by decide) (by decide)
  have lgx := lg_keep o1 lgx g994 fc995 (by decide) (by decide) (by decide)
  have tp := tt_fri tp o1 o2 Kg994 fc995 (by decide) (by decide) (by decide) (by decide)
  have fa := fa_fri fa o1 o2 fc995 (by decide) (by decide)
  have hI := hJ
  have l3 := (gr_len g994 o3).trans l3
  have o1 := gr_ob g994 o1
  have o2 := gr_ob g994 o2
  have o3 := gr_ob g994 o3
  intro _
  intro x996 ex996
  refine ⟨sc_in (j := 1) hv hc hL ex996 (by omega) (by decide), ?_⟩
  intro x997 ex997
  intro x998 ex998
  refine ⟨sc_in (j := 2) hv hc hL ex998 (by omega) (by decide), ?_⟩
  intro x999 ex999
  refine ⟨o2, ?_⟩
  refine ⟨by show _ ≤ 601024; omega, by show _ ≤ 7293034; omega, ?_⟩
  refine mz_X11_walker hI o2 (fun x1001 S1000 hJ g1002 fc1003 Kg1002 nf2 kz => ?_)
  have wr := wr_keep hI o2 wr kz.1 kz.2 fc1003 (by decide) (by decide) (by decide)
  have lgx := lg_keep o1 lgx g1002 fc1003 (by decide) (by decide) (by decide)
  have tp := tt_fri tp o1 o2 Kg1002 fc1003 (by decide) (by decide) (by decide) (by decide)
  have fa := fa_fri fa o1 o2 fc1003 (by decide) (by decide)
  have wh := wh_set nf1 fc1003 (by decide) nf2
  have hI := hJ
  have l3 := (gr_len g1002 o3).trans l3
  have o1 := gr_ob g1002 o1
  have o2 := gr_ob g1002 o2
  have o3 := gr_ob g1002 o3
  intro _
  unfold P_L_law_2342
  intro x1004 ex1004
  have back := hb x1004 ex1004
  exact back _ _ _ hI o1 o2 o3 l3 tp fa wh ⟨AA, GG, wr, gb⟩ lgx (by omega) (by omega)
set_option maxHeartbeats 4000000 in
set_option maxRecDepth 20000 in
theorem a_L_law_2239 {scL : Nat} {scx : Nat → Int32} {Q : Int32 → HS → Prop} {X23 : Nat → Nat → Nat → Int32 → Nat → Nat → HS → Prop} {v1 v2 v3 : Nat} {v4 : Int32} {kk nn : Nat} {S : HS} {c : Nat} (hL : scL ≤ 4096) (hc : 8 * c + 8 ≤ scL) (hb : ∀ x : Int32, x = v4 + (8 : Int32) → ∀ (kk nn : Nat) (T : HS), IV T → ob T v1 9 → ob T v2 11 → ob T v3 14 → hN T v3 = 1 → TT v1 v2 T → fI T v1 7 = fI T v2 13 → WH v1 v2 T → WRy v1 v2 T → LGx v1 T → kk ≤ 200 + 35 * (c + 1) → nn ≤ 13000 + 8200 * (c + 1) → X23 v1 v2 v3 x kk nn T) (h : LI v1 v2 v3 v4 kk nn S c) : P_L_law_2239 scL scx Q X23 v1 v2 v3 v4 kk nn S := by
  obtain ⟨hI, o1, o2, o3, l3, tp, fa, wh, wr, lgx, hv, hk, hn⟩ := h
  obtain ⟨AA, GG, wr, gb⟩ := wr
  unfold P_L_law_2239
  intro x1005 ex1005
  refine ⟨sc_in (j := 1) hv hc hL ex1005 (by omega) (by decide), ?_⟩
  intro x1006 ex1006
  intro x1007 ex1007
  refine ⟨sc_in (j := 2) hv hc hL ex1007 (by omega) (by decide), ?_⟩
  intro x1008 ex1008
  refine ⟨o1, ?_⟩
  refine ⟨by show _ ≤ 601024; omega, by show _ ≤ 7293034; omega, ?_⟩
  refine mz_X9_road hI o1 (fun x1010 S1009 hJ g1011 fc1012 Kg1011 nf1 kz => ?_)
  have wr := wr_keep hI o2 wr kz.1 kz.2 fc1012 (by decide) (by decide) (by decide)
  have lgx := lg_keep o1 lgx g1011 fc1012 (by decide) (by decide) (by decide)
  have tp := tt_fri tp o1 o2 Kg1011 fc1012 (by decide) (by decide) (by decide) (by decide)
  have fa := fa_fri fa o1 o2 fc1012 (by decide) (by decide)
  have hI := hJ
  have l3 := (gr_len g1011 o3).trans l3
  have o1 := gr_ob g1011 o1
  have o2 := gr_ob g1011 o2
  have o3 := gr_ob g1011 o3
  intro _
  intro x1013 ex1013
  refine ⟨sc_in (j := 1) hv hc hL ex1013 (by omega) (by decide), ?_⟩
  intro x1014 ex1014
  intro x1015 ex1015
  refine ⟨sc_in (j := 2) hv hc hL ex1015 (by omega) (by decide), ?_⟩
  intro x1016 ex1016
  refine ⟨o2, ?_⟩
  refine ⟨by show _ ≤ 601024; omega, by show _ ≤ 7293034; omega, ?_⟩
  refine mz_X11_road hI o2 (fun x1018 S1017 hJ g1019 fc1020 Kg1019 nf2 kz => ?_)
  have wr := wr_keep hI o2 wr kz.1 kz.2 fc1020 (by decide) (by decide) (by decide)
  have lgx := lg_keep o1 lgx g1019 fc1020 (by decide) (by decide) (by decide)
  have tp := tt_fri tp o1 o2 Kg1019 fc1020 (by decide) (by decide) (by decide) (by decide)
  have fa := fa_fri fa o1 o2 fc1020 (by decide) (by decide)
  have wh := wh_set nf1 fc1020 (by decide) nf2
  have hI := hJ
  have l3 := (gr_len g1019 o3).trans l3
  have o1 := gr_ob g1019 o1
  have o2 := gr_ob g1019 o2
  have o3 := gr_ob g1019 o3
  intro _
  unfold P_L_law_2342
  intro x1021 ex1021
  have back := hb x1021 ex1021
  exact back _ _ _ hI o1 o2 o3 l3 tp fa wh ⟨AA, GG, wr, gb⟩ lgx (by omega) (by omega)
set_option maxHeartbeats 4000000 in
set_option maxRecDepth 20000 in
theorem a_L_law_2276 {scL : Nat} {scx : Nat → Int32} {Q : Int32 → HS → Prop} {X23 : Nat → Nat → Nat → Int32 → Nat → Nat → HS → Prop} {v1 v2 v3 : Nat} {v4 : Int32} {kk nn : Nat} {S : HS} {c : Nat} (hL : scL ≤ 4096) (hc : 8 * c + 8 ≤ scL) (hb : ∀ x : Int32, x = v4 + (8 : Int32) → ∀ (kk nn : Nat) (T : HS), IV T → ob T v1 9 → ob T v2 11 → ob T v3 14 → hN T v3 = 1 → TT v1 v2 T → fI T v1 7 = fI T v2 13 → WH v1 v2 T → WRy v1 v2 T → LGx v1 T → kk ≤ 200 + 35 * (c + 1) → nn ≤ 13000 + 8200 * (c + 1) → X23 v1 v2 v3 x kk nn T) (h : LI v1 v2 v3 v4 kk nn S c) : P_L_law_2276 scL scx Q X23 v1 v2 v3 v4 kk nn S := by
  obtain ⟨hI, o1, o2, o3, l3, tp, fa, wh, wr, lgx, hv, hk, hn⟩ := h
  obtain ⟨AA, GG, wr, gb⟩ := wr
  unfold P_L_law_2276
  intro x1022 ex1022
  refine ⟨sc_in (j := 1) hv hc hL ex1022 (by omega) (by decide), ?_⟩
  intro x1023 ex1023
  refine ⟨by show _ ≤ 601024; omega, by show _ ≤ 7293034; omega, hI, o1, o3, l3, fun x1025 S1024 hJ g1026 fc1027 KL KL7 KL8 _ => ?_⟩
  have wr := wr_keep hI o2 wr KL7 KL8 fc1027 (by decide) (by decide) (by decide)
  have lgx := lg_keep o1 lgx g1026 fc1027 (by decide) (by decide) (by decide)
  have tp := tt_fri tp o1 o2 KL fc1027 (by decide) (by decide) (by decide) (by decide)
  have fa := fa_fri fa o1 o2 fc1027 (by decide) (by decide)
  have wh := wh_fri wh o1 o2 fc1027 (by decide) (by decide) (by decide)
  have hI := hJ
  have l3 := (gr_len g1026 o3).trans l3
  have o1 := gr_ob g1026 o1
  have o2 := gr_ob g1026 o2
  have o3 := gr_ob g1026 o3
  intro x1028 ex1028
  refine ⟨sc_in (j := 1) hv hc hL ex1028 (by omega) (by decide), ?_⟩
  intro x1029 ex1029
  refine ⟨o2, ?_⟩
  refine ⟨by show _ ≤ 601024; omega, by show _ ≤ 7293034; omega, ?_⟩
  refine mz_X11_led hI o2 (fun x1031 S1030 hJ g1032 fc1033 Kg1032 kz => ?_)
  have wr := wr_keep hI o2 wr kz.1 kz.2 fc1033 (by decide) (by decide) (by decide)
  have lgx := lg_keep o1 lgx g1032 fc1033 (by decide) (by decide) (by decide)
  have tp := tt_fri tp o1 o2 Kg1032 fc1033 (by decide) (by decide) (by decide) (by decide)
  have fa := fa_fri fa o1 o2 fc1033 (by decide) (by decide)
  have wh := wh_fri wh o1 o2 fc1033 (by decide) (by decide) (by decide)
  have hI := hJ
  have l3 := (gr_len g1032 o3).trans l3
  have o1 := gr_ob g1032 o1
  have o2 := gr_ob g1032 o2
  have o3 := gr_ob g1032 o3
  intro _
  unfold P_L_law_2342
  intro x1034 ex1034
  have back := hb x1034 ex1034
  exact back _ _ _ hI o1 o2 o3 l3 tp fa wh ⟨AA, GG, wr, gb⟩ lgx (by omega) (by omega)
set_option maxHeartbeats 4000000 in
set_option maxRecDepth 20000 in
theorem a_L_law_2304 {scL : Nat} {scx : Nat → Int32} {Q : Int32 → HS → Prop} {X23 : Nat → Nat → Nat → Int32 → Nat → Nat → HS → Prop} {v1 v2 v3 : Nat} {v4 : Int32} {kk nn : Nat} {S : HS} {c : Nat} (hL : scL ≤ 4096) (hc : 8 * c + 8 ≤ scL) (hb : ∀ x : Int32, x = v4 + (8 : Int32) → ∀ (kk nn : Nat) (T : HS), IV T → ob T v1 9 → ob T v2 11 → ob T v3 14 → hN T v3 = 1 → TT v1 v2 T → fI T v1 7 = fI T v2 13 → WH v1 v2 T → WRy v1 v2 T → LGx v1 T → kk ≤ 200 + 35 * (c + 1) → nn ≤ 13000 + 8200 * (c + 1) → X23 v1 v2 v3 x kk nn T) (h : LI v1 v2 v3 v4 kk nn S c) : P_L_law_2304 scL scx Q X23 v1 v2 v3 v4 kk nn S := by
  obtain ⟨hI, o1, o2, o3, l3, tp, fa, wh, wr, lgx, hv, hk, hn⟩ := h
  obtain ⟨AA, GG, wr, gb⟩ := wr
  unfold P_L_law_2304
  intro x1035 ex1035
  refine ⟨sc_in (j := 1) hv hc hL ex1035 (by omega) (by decide), ?_⟩
  intro x1036 ex1036
  refine ⟨o1, ?_⟩
  refine ⟨by show _ ≤ 601024; omega, by show _ ≤ 7293034; omega, ?_⟩
  refine m_X9_size hI o1 (fun x1038 S1037 hJ g1039 pp => ?_)
  subst pp
  intro _
  intro x1041 ex1041
  refine ⟨sc_in (j := 1) hv hc hL ex1041 (by omega) (by decide), ?_⟩
  intro x1042 ex1042
  refine ⟨o2, ?_⟩
  refine ⟨by show _ ≤ 601024; omega, by show _ ≤ 7293034; omega, ?_⟩
  refine mz_X11_size hI o2 (fun x1044 S1043 hJ g1045 fc1046 Kg1045 kz => ?_)
  have wr := wr_keep hI o2 wr kz.1 kz.2 fc1046 (by decide) (by decide) (by decide)
  have lgx := lg_keep o1 lgx g1045 fc1046 (by decide) (by decide) (by decide)
  have tp := tt_fri tp o1 o2 Kg1045 fc1046 (by decide) (by decide) (by decide) (by decide)
  have fa := fa_fri fa o1 o2 fc1046 (by decide) (by decide)
  have wh := wh_fri wh o1 o2 fc1046 (by decide) (by decide) (by decide)
  have hI := hJ
  have l3 := (gr_len g1045 o3).trans l3
  have o1 := gr_ob g1045 o1
  have o2 := gr_ob g1045 o2
  have o3 := gr_ob g1045 o3
  intro _
  unfold P_L_law_2342
  intro x1047 ex1047
  have back := hb x1047 ex1047
  exact back _ _ _ hI o1 o2 o3 l3 tp fa wh ⟨AA, GG, wr, gb⟩ lgx (by omega) (by omega)
set_option maxHeartbeats 4000000 in
set_option maxRecDepth 20000 in
theorem a_L_law_2329 {scL : Nat} {scx : Nat → Int32} {Q : Int32 → HS → Prop} {X23 : Nat → Nat → Nat → Int32 → Nat → Nat → HS → Prop} {v1 v2 v3 : Nat} {v4 : Int32} {kk nn : Nat} {S : HS} {c : Nat} (hL : scL ≤ 4096) (hc : 8 * c + 8 ≤ scL) (hb : ∀ x : Int32, x = v4 + (8 : Int32) → ∀ (kk nn : Nat) (T : HS), IV T → ob T v1 9 → ob T v2 11 → ob T v3 14 → hN T v3 = 1 → TT v1 v2 T → fI T v1 7 = fI T v2 13 → WH v1 v2 T → WRy v1 v2 T → LGx v1 T → kk ≤ 200 + 35 * (c + 1) → nn ≤ 13000 + 8200 * (c + 1) → X23 v1 v2 v3 x kk nn T) (h : LI v1 v2 v3 v4 kk nn S c) : P_L_law_2329 scL scx Q X23 v1 v2 v3 v4 kk nn S := by
  obtain ⟨hI, o1, o2, o3, l3, tp, fa, wh, wr, lgx, hv, hk, hn⟩ := h
  obtain ⟨AA, GG, wr, gb⟩ := wr
  unfold P_L_law_2329
  refine ⟨o1, ?_⟩
  refine ⟨by show _ ≤ 601024; omega, by show _ ≤ 7293034; omega, ?_⟩
  refine m_X9_trouble hI o1 (fun x1049 S1048 hJ g1050 pp => ?_)
  subst pp
  intro _
  refine ⟨o2, ?_⟩
  refine ⟨by show _ ≤ 601024; omega, by show _ ≤ 7293034; omega, ?_⟩
  refine mz_X11_trouble hI o2 (fun x1053 S1052 hJ g1054 fc1055 Kg1054 kz => ?_)
  have wr := wr_keep hI o2 wr kz.1 kz.2 fc1055 (by decide) (by decide) (by decide)
  have lgx := lg_keep o1 lgx g1054 fc1055 (by decide) (by decide) (by decide)
  have tp := tt_fri tp o1 o2 Kg1054 fc1055 (by decide) (by decide) (by decide) (by decide)
  have fa := fa_fri fa o1 o2 fc1055 (by decide) (by decide)
  have wh := wh_fri wh o1 o2 fc1055 (by decide) (by decide) (by decide)
  have hI := hJ
  have l3 := (gr_len g1054 o3).trans l3
  have o1 := gr_ob g1054 o1
  have o2 := gr_ob g1054 o2
  have o3 := gr_ob g1054 o3
  intro _
  unfold P_L_law_2342
  intro x1056 ex1056
  have back := hb x1056 ex1056
  exact back _ _ _ hI o1 o2 o3 l3 tp fa wh ⟨AA, GG, wr, gb⟩ lgx (by omega) (by omega)
set_option maxHeartbeats 4000000 in
set_option maxRecDepth 20000 in
theorem a_L_law_2342 {scL : Nat} {scx : Nat → Int32} {Q : Int32 → HS → Prop} {X23 : Nat → Nat → Nat → Int32 → Nat → Nat → HS → Prop} {v1 v2 v3 : Nat} {v4 : Int32} {kk nn : Nat} {S : HS} {c : Nat} (hL : scL ≤ 4096) (hc : 8 * c + 8 ≤ scL) (hb : ∀ x : Int32, x = v4 + (8 : Int32) → ∀ (kk nn : Nat) (T : HS), IV T → ob T v1 9 → ob T v2 11 → ob T v3 14 → hN T v3 = 1 → TT v1 v2 T → fI T v1 7 = fI T v2 13 → WH v1 v2 T → WRy v1 v2 T → LGx v1 T → kk ≤ 200 + 35 * (c + 1) → nn ≤ 13000 + 8200 * (c + 1) → X23 v1 v2 v3 x kk nn T) (h : LI v1 v2 v3 v4 kk nn S c) : P_L_law_2342 scL scx Q X23 v1 v2 v3 v4 kk nn S := by
  obtain ⟨hI, o1, o2, o3, l3, tp, fa, wh, wr, lgx, hv, hk, hn⟩ := h
  obtain ⟨AA, GG, wr, gb⟩ := wr
  unfold P_L_law_2342
  intro x1057 ex1057
  have back := hb x1057 ex1057
  exact back _ _ _ hI o1 o2 o3 l3 tp fa wh ⟨AA, GG, wr, gb⟩ lgx (by omega) (by omega)
end
section
theorem uz_1 {S : HS} {a : Nat} (E : S = nW S00 a 9 0) : UZ S := by
  have r : ∀ x j, fR S x j = none := fun x j => by
    rw [E]
    by_cases h : x = a
    · rw [h]
      exact congrFun (va_up_self (fR S00) a (fun _ => none)) j
    · exact congrFun (va_up_ne (fR S00) _ h) j
  refine ⟨⟨fun x j b e => ?_, fun x j x' j' b e => ?_⟩, fun x o => ?_⟩
  · rw [r] at e; cases e
  · rw [r] at e; cases e
  · exfalso
    rw [E] at o
    obtain ⟨o1, o2⟩ := o
    have o1 : x ∈ ([] : List Nat) ++ [a] := o1
    have o1 : x = a := by simpa using o1
    have o2 : va_up (hK S00) a 9 x = 8 := o2
    rw [o1, va_up_self] at o2
    exact absurd o2 (by decide)
theorem iv_arr {S T : HS} {a q n : Nat} (hI : IV S) (ha : a ∉ hL S) (E1 : T = nW S a q n) (hq : 12 ≤ q ∧ q < 16) : IV T := by
  have h := x_arr (E := []) (by rw [ms_nil]; exact hI) ha (by simp) E1 hq
  rw [ms_nil] at h
  exact h
theorem sc_cmp {L c : Nat} {v4 : Int32} (hL : L ≤ 4096) (hv : v4 = nI (8 * c)) (hcc : c ≤ 513) (h : ¬ (nI L - (8 : Int32)) < v4) : 8 * c + 8 ≤ L := by
  have e8 : (8 : Int32).toInt = 8 := by decide
  have eL : (nI L).toInt = (L : Int) := nI_toInt (by omega)
  have ec : (nI (8 * c)).toInt = ((8 * c : Nat) : Int) := nI_toInt (by omega)
  have es : (nI L - (8 : Int32)).toInt = (L : Int) - 8 := by
    rw [Int32.toInt_sub, eL, e8]
    exact Int.bmod_eq_of_le (by omega) (by omega)
  have h1 := Int32.le_iff_toInt_le.mp (Int32.not_lt.mp h)
  rw [hv, ec, es] at h1
  omega
theorem sc_next {v4 x : Int32} {c : Nat} (hv : v4 = nI (8 * c)) (hx : x = v4 + (8 : Int32)) : x = nI (8 * (c + 1)) := by
  have h8 : (8 : Int32) = nI 8 := by decide
  have e : 8 * c + 8 = 8 * (c + 1) := by omega
  rw [hx, hv, h8, nI_add, e]
set_option maxRecDepth 20000 in
set_option maxHeartbeats 4000000 in
theorem lp_L_law {scL : Nat} {scx : Nat → Int32} {Q : Int32 → HS → Prop} {v1 v2 v3 : Nat} (hL : scL ≤ 4096) (hQ : ∀ S, Q 1 S) : ∀ (d c : Nat), c + d = 513 → ∀ (v4 : Int32) (kk nn : Nat) (S : HS), LI v1 v2 v3 v4 kk nn S c → ∀ X23 : Nat → Nat → Nat → Int32 → Nat → Nat → HS → Prop, (∀ (v1 v2 v3 : Nat) (v4 : Int32) (kk nn : Nat) (S : HS), B_L_law_23 scL scx Q X23 v1 v2 v3 v4 kk nn S → X23 v1 v2 v3 v4 kk nn S) → X23 v1 v2 v3 v4 kk nn S := by
  intro d
  induction d with
  | zero =>
    intro c hcd v4 kk nn S h X23 hX
    have h' := h
    obtain ⟨-, -, -, -, -, -, -, -, -, -, hv, hk, hn⟩ := h'
    refine hX _ _ _ _ _ _ _ ⟨fun _ => ⟨by show _ ≤ 601024; omega, by show _ ≤ 7293034; omega, rfl, hQ S⟩, fun hcn => ?_⟩
    have hc := sc_cmp hL hv (by omega) hcn
    omega
  | succ d ih =>
    intro c hcd v4 kk nn S h X23 hX
    have h' := h
    obtain ⟨-, -, -, -, -, -, -, -, -, -, hv, hk, hn⟩ := h'
    refine hX _ _ _ _ _ _ _ ⟨fun _ => ⟨by show _ ≤ 601024; omega, by show _ ≤ 7293034; omega, rfl, hQ S⟩, fun hcn => ?_⟩
    have hc := sc_cmp hL hv (by omega) hcn
    have hb : ∀ x : Int32, x = v4 + (8 : Int32) → ∀ (kk nn : Nat) (T : HS), IV T → ob T v1 9 → ob T v2 11 → ob T v3 14 → hN T v3 = 1 → TT v1 v2 T → fI T v1 7 = fI T v2 13 → WH v1 v2 T → WRy v1 v2 T → LGx v1 T → kk ≤ 200 + 35 * (c + 1) → nn ≤ 13000 + 8200 * (c + 1) → X23 v1 v2 v3 x kk nn T := fun x ex kk nn T i1 i2 i3 i4 i5 i6 i6a i6b i6c i6d i7 i8 => ih (c + 1) (by omega) x kk nn T ⟨i1, i2, i3, i4, i5, i6, i6a, i6b, i6c, i6d, sc_next hv ex, i7, i8⟩ X23 hX
    refine ⟨sc_in0 hv hc hL, fun x ex => ?_⟩
    exact ⟨fun _ => a_L_law_2342 hL hc hb h, fun _ => a_L_law_216 hL hc hb h, fun _ => a_L_law_289 hL hc hb h, fun _ => a_L_law_314 hL hc hb h, fun _ => a_L_law_327 hL hc hb h, fun _ => a_L_law_340 hL hc hb h, fun _ => a_L_law_457 hL hc hb h, fun _ => a_L_law_560 hL hc hb h, fun _ => a_L_law_664 hL hc hb h, fun _ => a_L_law_713 hL hc hb h, fun _ => a_L_law_762 hL hc hb h, fun _ => a_L_law_835 hL hc hb h, fun _ => a_L_law_896 hL hc hb h, fun _ => a_L_law_985 hL hc hb h, fun _ => a_L_law_1046 hL hc hb h, fun _ => a_L_law_1107 hL hc hb h, fun _ => a_L_law_1184 hL hc hb h, fun _ => a_L_law_1233 hL hc hb h, fun _ => a_L_law_1350 hL hc hb h, fun _ => a_L_law_1437 hL hc hb h, fun _ => a_L_law_1540 hL hc hb h, fun _ => a_L_law_1613 hL hc hb h, fun _ => a_L_law_1686 hL hc hb h, fun _ => a_L_law_1773 hL hc hb h, fun _ => a_L_law_1834 hL hc hb h, fun _ => a_L_law_1859 hL hc hb h, fun _ => a_L_law_1896 hL hc hb h, fun _ => a_L_law_1909 hL hc hb h, fun _ => a_L_law_1970 hL hc hb h, fun _ => a_L_law_2019 hL hc hb h, fun _ => a_L_law_2044 hL hc hb h, fun _ => a_L_law_2097 hL hc hb h, fun _ => a_L_law_2138 hL hc hb h, fun _ => a_L_law_2151 hL hc hb h, fun _ => a_L_law_2164 hL hc hb h, fun _ => a_L_law_2177 hL hc hb h, fun _ => a_L_law_2202 hL hc hb h, fun _ => a_L_law_2239 hL hc hb h, fun _ => a_L_law_2276 hL hc hb h, fun _ => a_L_law_2304 hL hc hb h, fun _ => a_L_law_2329 hL hc hb h⟩
theorem p_L_law {scL : Nat} {scx : Nat → Int32} {Q : Int32 → HS → Prop} (hL : scL ≤ 4096) (hQ : ∀ S, Q 1 S) : P_L_law_0 scL scx Q 0 0 S00 := by
  unfold P_L_law_0
  refine ⟨by decide, by decide, fun a1 q1 S1 e1 => ⟨by decide, by decide, ?_⟩⟩
  have hc : P_X9_init a1 (fun T => IV T ∧ ob T a1 9 ∧ fI T a1 1 = 0) S1 := m_X9_new e1 (fun T i o _ t => ⟨i, o, t⟩)
  refine cm_X9_init (kg_X9_init hc) (ku_X9_init hc (uz_1 e1)) (fun S2 h2 hu _ => ?_)
  obtain ⟨⟨i2, o1, t2⟩, K0⟩ := h2
  have uz := hu.2.1
  have ob1 : ob S1 a1 9 := ob_of_new e1
  have z1 : fI S1 a1 = fun _ => 0 := by rw [e1]; exact va_up_self _ _ _
  have f7 : fI S2 a1 7 = 0 := (K0.2 (9, 7) (by decide) a1 ob1).trans (by rw [z1])
  have f9 : fI S2 a1 9 = 0 := (K0.2 (9, 9) (by decide) a1 ob1).trans (by rw [z1])
  refine ⟨by decide, by decide, fun a2 q2 S3 e3 => ⟨by decide, by decide, ?_⟩⟩
  have hm : P_X11_init a2 (fun T => IV T ∧ Gr S2 T ∧ ob T a2 11 ∧ FRI [] [] S2 T) S3 := m_X11_init i2 q2 e3 (fun T i g1 _ f o _ => ⟨i, g1, o, f⟩)
  refine cm_X11_init (sq_X11_init hm e3) hm (fun S4 h4 _ _ => ?_)
  obtain ⟨⟨i4, g4, o2, fc⟩, F, g, bx, h5, h6, h13, hm2, -, h3n⟩ := h4
  refine ⟨by decide, by decide, fun a3 q3 S5 e5 => ?_⟩
  subst e3
  have tt := tt_start i4 q2 o1 i2 t2 bx h5 h6
  have wrs := fun (a3 : Nat) (U : HS) => wr_start (a3 := a3) (U := U) i2 o1 uz q2 bx h3n
  have lgs := fun (a3 : Nat) (U : HS) => lg_start (a3 := a3) (U := U) i2 o1 uz q2 bx
  have f7 := (fc.1 9 7 (by decide) (by decide) a1 o1).trans f7
  have f9 := (fc.1 9 9 (by decide) (by decide) a1 o1).trans f9
  have bm := bx.2.2.2.2.2.2.1
  have o1 := gr_ob g4 o1
  have n1 := (xp_new (v := a3) q3 e5 a1 o1.1).2.2.2 (fun z => q3 (z ▸ o1.1))
  have n2 := (xp_new (v := a3) q3 e5 a2 o2.1).2.2.2 (fun z => q3 (z ▸ o2.1))
  have tt := tt_K tt o1 o2 (k2_W (k2_rf S4) q3 e5) (by rw [n1.2.2]) (by rw [n1.1]) (by rw [n2.2.2]) (by rw [n2.1])
  have fa : fI S5 a1 7 = fI S5 a2 13 := by rw [n1.1, n2.1, f7, bm, h13]
  have wh : WH a1 a2 S5 := by
    unfold WH
    rw [n1.1, n2.1, f9, bm, hm2]
    exact ⟨fun z => absurd z (by decide), fun _ => rfl⟩
  exact fun X23 hX => lp_L_law hL hQ 513 0 rfl _ _ _ _ ⟨iv_arr i4 q3 e5 (by omega), gr_ob (gr_of_new e5 q3) o1, gr_ob (gr_of_new e5 q3) o2, ob_of_new e5, by rw [e5]; exact va_up_self _ _ _, tt, fa, wh, ⟨A00, G00, wrs a3 S5 q3 e5, gb_00⟩, lgs a3 S5 q3 e5, by rw [Nat.mul_zero, nI_0], by omega, by omega⟩ X23 hX
/-- the law's walk, out of what is still open: C, E (the start) and ht (led) -/
theorem whole_open {X : CX} {scb scL : Nat} {scx : Nat → Int32} (C : Cx X cL_law RL 7 rm_L_law) (E : LE X scb scL scx (fun _ _ => True)) (ht : LD X) (hL : scL ≤ 4096) : WS X 7 0 0 0 [(0, .ref scb)] [] S00 := T_L_law_0 C E ht trivial (p_L_law hL (fun _ => trivial))
end
