def P_L_law_2341 (scL : Nat) (scx : Nat → Int32) (Q : Int32 → HS → Prop) (X23 : Nat → Nat → Nat → Int32 → Nat → Nat → HS → Prop) (v1 : Nat) (v2 : Nat) (v3 : Nat) (v4 : Int32) (kk : Nat) (nn : Nat) (S : HS) : Prop := ∀ x1 : Int32, x1 = v4 + (8 : Int32) → (X23 v1 v2 v3 x1 kk nn S)
set_option maxRecDepth 20000 in
set_option maxHeartbeats 4000000 in
theorem T_L_law_2341 {X : CX} {Q : Int32 → HS → Prop} {scb scL : Nat} {scx : Nat → Int32} (C : Cx X cL_law RL 7 rm_L_law) (E : LE X scb scL scx Q) (ht : LD X) (hn : True) {X23 : Nat → Nat → Nat → Int32 → Nat → Nat → HS → Prop} (hX23 : ∀ (v1 : Nat) (v2 : Nat) (v3 : Nat) (v4 : Int32) (kk : Nat) (nn : Nat) (S : HS), X23 v1 v2 v3 v4 kk nn S → WS X 7 kk nn 23 [(0, .ref scb), (1, .ref v1), (2, .ref v2), (3, .ref v3), (4, .int v4)] [] S) {v1 : Nat} {v2 : Nat} {v3 : Nat} {v4 : Int32} {kk : Nat} {nn : Nat} {S : HS} (h : P_L_law_2341 scL scx Q X23 v1 v2 v3 v4 kk nn S) : WS X 7 kk nn 2341 [(0, .ref scb), (1, .ref v1), (2, .ref v2), (3, .ref v3), (4, .int v4)] [] S := by
  obtain ⟨x1, ex1⟩ : ∃ z : Int32, z = v4 + (8 : Int32) := ⟨_, rfl⟩
  have h := h x1 ex1
  refine r_iinc (pc := 2341) C (v := x1) (lv' := [(4, .int x1), (0, .ref scb), (1, .ref v1), (2, .ref v2), (3, .ref v3)]) dL_law_2341 4 rfl ex1.symm (by decide) rfl ?_
  refine r_goto (pc := 2344) C (tgt := 23) dL_law_2344 (by decide) ?_
  exact r_sub [1, 2, 3, 4, 0] rfl (hX23 v1 v2 v3 x1 kk nn S h)
def P_L_law_216 (scL : Nat) (scx : Nat → Int32) (Q : Int32 → HS → Prop) (X23 : Nat → Nat → Nat → Int32 → Nat → Nat → HS → Prop) (v1 : Nat) (v2 : Nat) (v3 : Nat) (v4 : Int32) (kk : Nat) (nn : Nat) (S : HS) : Prop := ∀ x1 : Int32, x1 = v4 + (1 : Int32) → (vp_in x1 scL ∧ ∀ x3 : Int32, x3 = scx x1.toNatClampNeg → (∀ x4 : Int32, x4 = v4 + (2 : Int32) → (vp_in x4 scL ∧ ∀ x6 : Int32, x6 = scx x4.toNatClampNeg → (∀ x7 : Int32, x7 = v4 + (3 : Int32) → (vp_in x7 scL ∧ ∀ x9 : Int32, x9 = scx x7.toNatClampNeg → (∀ x10 : Int32, x10 = v4 + (4 : Int32) → (vp_in x10 scL ∧ ∀ x12 : Int32, x12 = scx x10.toNatClampNeg → (∀ x13 : Int32, x13 = v4 + (5 : Int32) → (vp_in x13 scL ∧ ∀ x15 : Int32, x15 = scx x13.toNatClampNeg → (ob S v1 9 ∧ (kk ≤ rm_L_law.cells ∧ nn ≤ rm_L_law.slots ∧ (P_X9_feed v1 x3 x6 x9 x12 x15 (fun x18 S16 => Gr S S16 → (∀ x19 : Int32, x19 = v4 + (1 : Int32) → (vp_in x19 scL ∧ ∀ x21 : Int32, x21 = scx x19.toNatClampNeg → (∀ x22 : Int32, x22 = v4 + (2 : Int32) → (vp_in x22 scL ∧ ∀ x24 : Int32, x24 = scx x22.toNatClampNeg → (∀ x25 : Int32, x25 = v4 + (3 : Int32) → (vp_in x25 scL ∧ ∀ x27 : Int32, x27 = scx x25.toNatClampNeg → (∀ x28 : Int32, x28 = v4 + (4 : Int32) → (vp_in x28 scL ∧ ∀ x30 : Int32, x30 = scx x28.toNatClampNeg → (∀ x31 : Int32, x31 = v4 + (5 : Int32) → (vp_in x31 scL ∧ ∀ x33 : Int32, x33 = scx x31.toNatClampNeg → (ob S16 v2 11 ∧ (kk ≤ rm_L_law.cells ∧ nn ≤ rm_L_law.slots ∧ (P_X11_feed v2 x21 x24 x27 x30 x33 (fun x36 S34 => Gr S16 S34 → (P_L_law_2341 scL scx Q X23 v1 v2 v3 v4 kk nn S34)) S16)))))))))))))) S))))))))))))
set_option maxRecDepth 20000 in
set_option maxHeartbeats 4000000 in
theorem T_L_law_216 {X : CX} {Q : Int32 → HS → Prop} {scb scL : Nat} {scx : Nat → Int32} (C : Cx X cL_law RL 7 rm_L_law) (E : LE X scb scL scx Q) (ht : LD X) (hn : True) {X23 : Nat → Nat → Nat → Int32 → Nat → Nat → HS → Prop} (hX23 : ∀ (v1 : Nat) (v2 : Nat) (v3 : Nat) (v4 : Int32) (kk : Nat) (nn : Nat) (S : HS), X23 v1 v2 v3 v4 kk nn S → WS X 7 kk nn 23 [(0, .ref scb), (1, .ref v1), (2, .ref v2), (3, .ref v3), (4, .int v4)] [] S) {v1 : Nat} {v2 : Nat} {v3 : Nat} {v4 : Int32} {kk : Nat} {nn : Nat} {S : HS} (h : P_L_law_216 scL scx Q X23 v1 v2 v3 v4 kk nn S) : WS X 7 kk nn 216 [(0, .ref scb), (1, .ref v1), (2, .ref v2), (3, .ref v3), (4, .int v4)] [] S := by
  refine r_aload_n (pc := 216) C dL_law_216 1 rfl ?_
  refine r_aload_n (pc := 217) C dL_law_217 0 rfl ?_
  refine r_iload (pc := 218) C dL_law_218 4 rfl ?_
  refine r_iconst (pc := 220) C (v := (1 : Int32)) dL_law_220 (by decide) ?_
  refine r_iadd (pc := 221) C dL_law_221 ?_
  refine r_topi (fun x1 ex1 => ?_)
  have h := h x1 ex1
  obtain ⟨i2, h⟩ := h
  refine r_scLd (pc := 222) C E i2 dL_law_222 ?_
  refine r_topi (fun x3 ex3 => ?_)
  have h := h x3 ex3
  refine r_aload_n (pc := 223) C dL_law_223 0 rfl ?_
  refine r_iload (pc := 224) C dL_law_224 4 rfl ?_
  refine r_iconst (pc := 226) C (v := (2 : Int32)) dL_law_226 (by decide) ?_
  refine r_iadd (pc := 227) C dL_law_227 ?_
  refine r_topi (fun x4 ex4 => ?_)
  have h := h x4 ex4
  obtain ⟨i5, h⟩ := h
  refine r_scLd (pc := 228) C E i5 dL_law_228 ?_
  refine r_topi (fun x6 ex6 => ?_)
  have h := h x6 ex6
  refine r_aload_n (pc := 229) C dL_law_229 0 rfl ?_
  refine r_iload (pc := 230) C dL_law_230 4 rfl ?_
  refine r_iconst (pc := 232) C (v := (3 : Int32)) dL_law_232 (by decide) ?_
  refine r_iadd (pc := 233) C dL_law_233 ?_
  refine r_topi (fun x7 ex7 => ?_)
  have h := h x7 ex7
  obtain ⟨i8, h⟩ := h
  refine r_scLd (pc := 234) C E i8 dL_law_234 ?_
  refine r_topi (fun x9 ex9 => ?_)
  have h := h x9 ex9
  refine r_aload_n (pc := 235) C dL_law_235 0 rfl ?_
  refine r_iload (pc := 236) C dL_law_236 4 rfl ?_
  refine r_iconst (pc := 238) C (v := (4 : Int32)) dL_law_238 (by decide) ?_
  refine r_iadd (pc := 239) C dL_law_239 ?_
  refine r_topi (fun x10 ex10 => ?_)
  have h := h x10 ex10
  obtain ⟨i11, h⟩ := h
  refine r_scLd (pc := 240) C E i11 dL_law_240 ?_
  refine r_topi (fun x12 ex12 => ?_)
  have h := h x12 ex12
  refine r_aload_n (pc := 241) C dL_law_241 0 rfl ?_
  refine r_iload (pc := 242) C dL_law_242 4 rfl ?_
  refine r_iconst (pc := 244) C (v := (5 : Int32)) dL_law_244 (by decide) ?_
  refine r_iadd (pc := 245) C dL_law_245 ?_
  refine r_topi (fun x13 ex13 => ?_)
  have h := h x13 ex13
  obtain ⟨i14, h⟩ := h
  refine r_scLd (pc := 246) C E i14 dL_law_246 ?_
  refine r_topi (fun x15 ex15 => ?_)
  have h := h x15 ex15
  obtain ⟨o_v1, h⟩ := h
  obtain ⟨hk, hk2, h⟩ := h
  refine r_callVi0 (pc := 247) C (rest := []) (a := v1) o_v1 [.int x3, .int x6, .int x9, .int x12, .int x15] yV_X9_feed g_418 (c_X9_feed h) dL_law_247 rfl rfl (Nat.le_of_ble_eq_true rfl) ⟨by decide, by decide⟩ ⟨hk, hk2⟩ ⟨rfl, rfl⟩ (fun x18 S16 h g17 => ?_)
  have h := h g17
  have o_v1 := gr_ob g17 o_v1
  refine r_pop (pc := 250) C dL_law_250 rfl ?_
  refine r_aload_n (pc := 251) C dL_law_251 2 rfl ?_
  refine r_aload_n (pc := 252) C dL_law_252 0 rfl ?_
  refine r_iload (pc := 253) C dL_law_253 4 rfl ?_
  refine r_iconst (pc := 255) C (v := (1 : Int32)) dL_law_255 (by decide) ?_
  refine r_iadd (pc := 256) C dL_law_256 ?_
  refine r_topi (fun x19 ex19 => ?_)
  have h := h x19 ex19
  obtain ⟨i20, h⟩ := h
  refine r_scLd (pc := 257) C E i20 dL_law_257 ?_
  refine r_topi (fun x21 ex21 => ?_)
  have h := h x21 ex21
  refine r_aload_n (pc := 258) C dL_law_258 0 rfl ?_
  refine r_iload (pc := 259) C dL_law_259 4 rfl ?_
  refine r_iconst (pc := 261) C (v := (2 : Int32)) dL_law_261 (by decide) ?_
  refine r_iadd (pc := 262) C dL_law_262 ?_
  refine r_topi (fun x22 ex22 => ?_)
  have h := h x22 ex22
  obtain ⟨i23, h⟩ := h
  refine r_scLd (pc := 263) C E i23 dL_law_263 ?_
  refine r_topi (fun x24 ex24 => ?_)
  have h := h x24 ex24
  refine r_aload_n (pc := 264) C dL_law_264 0 rfl ?_
  refine r_iload (pc := 265) C dL_law_265 4 rfl ?_
  refine r_iconst (pc := 267) C (v := (3 : Int32)) dL_law_267 (by decide) ?_
  refine r_iadd (pc := 268) C dL_law_268 ?_
  refine r_topi (fun x25 ex25 => ?_)
  have h := h x25 ex25
  obtain ⟨i26, h⟩ := h
  refine r_scLd (pc := 269) C E i26 dL_law_269 ?_
  refine r_topi (fun x27 ex27 => ?_)
  have h := h x27 ex27
  refine r_aload_n (pc := 270) C dL_law_270 0 rfl ?_
  refine r_iload (pc := 271) C dL_law_271 4 rfl ?_
  refine r_iconst (pc := 273) C (v := (4 : Int32)) dL_law_273 (by decide) ?_
  refine r_iadd (pc := 274) C dL_law_274 ?_
  refine r_topi (fun x28 ex28 => ?_)
  have h := h x28 ex28
  obtain ⟨i29, h⟩ := h
  refine r_scLd (pc := 275) C E i29 dL_law_275 ?_
  refine r_topi (fun x30 ex30 => ?_)
  have h := h x30 ex30
  refine r_aload_n (pc := 276) C dL_law_276 0 rfl ?_
  refine r_iload (pc := 277) C dL_law_277 4 rfl ?_
  refine r_iconst (pc := 279) C (v := (5 : Int32)) dL_law_279 (by decide) ?_
  refine r_iadd (pc := 280) C dL_law_280 ?_
  refine r_topi (fun x31 ex31 => ?_)
  have h := h x31 ex31
  obtain ⟨i32, h⟩ := h
  refine r_scLd (pc := 281) C E i32 dL_law_281 ?_
  refine r_topi (fun x33 ex33 => ?_)
  have h := h x33 ex33
  obtain ⟨o_v2, h⟩ := h
  obtain ⟨hk, hk2, h⟩ := h
  refine r_callVi0 (pc := 282) C (rest := []) (a := v2) o_v2 [.int x21, .int x24, .int x27, .int x30, .int x33] yV_X11_feed g_1242 (c_X11_feed h) dL_law_282 rfl rfl (Nat.le_of_ble_eq_true rfl) ⟨by decide, by decide⟩ ⟨hk, hk2⟩ ⟨rfl, rfl⟩ (fun x36 S34 h g35 => ?_)
  have h := h g35
  have o_v1 := gr_ob g35 o_v1
  have o_v2 := gr_ob g35 o_v2
  refine r_pop (pc := 285) C dL_law_285 rfl ?_
  refine r_goto (pc := 286) C (tgt := 2341) dL_law_286 (by decide) ?_
  exact r_sub [0, 1, 2, 3, 4] rfl (T_L_law_2341 C E ht hn hX23 h)
def P_L_law_289 (scL : Nat) (scx : Nat → Int32) (Q : Int32 → HS → Prop) (X23 : Nat → Nat → Nat → Int32 → Nat → Nat → HS → Prop) (v1 : Nat) (v2 : Nat) (v3 : Nat) (v4 : Int32) (kk : Nat) (nn : Nat) (S : HS) : Prop := ∀ x1 : Int32, x1 = v4 + (1 : Int32) → (vp_in x1 scL ∧ ∀ x3 : Int32, x3 = scx x1.toNatClampNeg → (ob S v1 9 ∧ (kk ≤ rm_L_law.cells ∧ nn ≤ rm_L_law.slots ∧ (P_X9_world v1 x3 (fun x6 S4 => Gr S S4 → (∀ x7 : Int32, x7 = v4 + (1 : Int32) → (vp_in x7 scL ∧ ∀ x9 : Int32, x9 = scx x7.toNatClampNeg → (ob S4 v2 11 ∧ (kk + 25 ≤ rm_L_law.cells ∧ nn + 225 ≤ rm_L_law.slots ∧ (P_X11_world v2 x9 (fun x12 S10 => Gr S4 S10 → (P_L_law_2341 scL scx Q X23 v1 v2 v3 v4 (kk + 25) (nn + 225) S10)) S4)))))) S))))
set_option maxRecDepth 20000 in
set_option maxHeartbeats 4000000 in
theorem T_L_law_289 {X : CX} {Q : Int32 → HS → Prop} {scb scL : Nat} {scx : Nat → Int32} (C : Cx X cL_law RL 7 rm_L_law) (E : LE X scb scL scx Q) (ht : LD X) (hn : True) {X23 : Nat → Nat → Nat → Int32 → Nat → Nat → HS → Prop} (hX23 : ∀ (v1 : Nat) (v2 : Nat) (v3 : Nat) (v4 : Int32) (kk : Nat) (nn : Nat) (S : HS), X23 v1 v2 v3 v4 kk nn S → WS X 7 kk nn 23 [(0, .ref scb), (1, .ref v1), (2, .ref v2), (3, .ref v3), (4, .int v4)] [] S) {v1 : Nat} {v2 : Nat} {v3 : Nat} {v4 : Int32} {kk : Nat} {nn : Nat} {S : HS} (h : P_L_law_289 scL scx Q X23 v1 v2 v3 v4 kk nn S) : WS X 7 kk nn 289 [(0, .ref scb), (1, .ref v1), (2, .ref v2), (3, .ref v3), (4, .int v4)] [] S := by
  refine r_aload_n (pc := 289) C dL_law_289 1 rfl ?_
  refine r_aload_n (pc := 290) C dL_law_290 0 rfl ?_
  refine r_iload (pc := 291) C dL_law_291 4 rfl ?_
  refine r_iconst (pc := 293) C (v := (1 : Int32)) dL_law_293 (by decide) ?_
  refine r_iadd (pc := 294) C dL_law_294 ?_
  refine r_topi (fun x1 ex1 => ?_)
  have h := h x1 ex1
  obtain ⟨i2, h⟩ := h
  refine r_scLd (pc := 295) C E i2 dL_law_295 ?_
  refine r_topi (fun x3 ex3 => ?_)
  have h := h x3 ex3
  obtain ⟨o_v1, h⟩ := h
  obtain ⟨hk, hk2, h⟩ := h
  refine r_callVi0 (pc := 296) C (rest := []) (a := v1) o_v1 [.int x3] yV_X9_world g_426 (c_X9_world h) dL_law_296 rfl rfl (Nat.le_of_ble_eq_true rfl) ⟨by decide, by decide⟩ ⟨hk, hk2⟩ ⟨rfl, rfl⟩ (fun x6 S4 h g5 => ?_)
  have h := h g5
  have o_v1 := gr_ob g5 o_v1
  refine r_pop (pc := 299) C dL_law_299 rfl ?_
  refine r_aload_n (pc := 300) C dL_law_300 2 rfl ?_
  refine r_aload_n (pc := 301) C dL_law_301 0 rfl ?_
  refine r_iload (pc := 302) C dL_law_302 4 rfl ?_
  refine r_iconst (pc := 304) C (v := (1 : Int32)) dL_law_304 (by decide) ?_
  refine r_iadd (pc := 305) C dL_law_305 ?_
  refine r_topi (fun x7 ex7 => ?_)
  have h := h x7 ex7
  obtain ⟨i8, h⟩ := h
  refine r_scLd (pc := 306) C E i8 dL_law_306 ?_
  refine r_topi (fun x9 ex9 => ?_)
  have h := h x9 ex9
  obtain ⟨o_v2, h⟩ := h
  obtain ⟨hk, hk2, h⟩ := h
  refine r_callVi (pc := 307) C (rest := []) (a := v2) o_v2 [.int x9] yV_X11_world g_1246 (c_X11_world h) dL_law_307 rfl rfl (Nat.le_of_ble_eq_true rfl) ⟨by decide, by decide⟩ ⟨hk, hk2⟩ (fun x12 S10 h g11 => ?_)
  have h := h g11
  have o_v1 := gr_ob g11 o_v1
  have o_v2 := gr_ob g11 o_v2
  refine r_pop (pc := 310) C dL_law_310 rfl ?_
  refine r_goto (pc := 311) C (tgt := 2341) dL_law_311 (by decide) ?_
  exact r_sub [0, 1, 2, 3, 4] rfl (T_L_law_2341 C E ht hn hX23 h)
def P_L_law_314 (scL : Nat) (scx : Nat → Int32) (Q : Int32 → HS → Prop) (X23 : Nat → Nat → Nat → Int32 → Nat → Nat → HS → Prop) (v1 : Nat) (v2 : Nat) (v3 : Nat) (v4 : Int32) (kk : Nat) (nn : Nat) (S : HS) : Prop := ob S v1 9 ∧ (kk ≤ rm_L_law.cells ∧ nn ≤ rm_L_law.slots ∧ (P_X9_fault v1 (fun x3 S1 => Gr S S1 → (ob S1 v2 11 ∧ (kk ≤ rm_L_law.cells ∧ nn ≤ rm_L_law.slots ∧ (P_X11_fault v2 (fun x6 S4 => Gr S1 S4 → (P_L_law_2341 scL scx Q X23 v1 v2 v3 v4 kk nn S4)) S1)))) S))
set_option maxRecDepth 20000 in
set_option maxHeartbeats 4000000 in
theorem T_L_law_314 {X : CX} {Q : Int32 → HS → Prop} {scb scL : Nat} {scx : Nat → Int32} (C : Cx X cL_law RL 7 rm_L_law) (E : LE X scb scL scx Q) (ht : LD X) (hn : True) {X23 : Nat → Nat → Nat → Int32 → Nat → Nat → HS → Prop} (hX23 : ∀ (v1 : Nat) (v2 : Nat) (v3 : Nat) (v4 : Int32) (kk : Nat) (nn : Nat) (S : HS), X23 v1 v2 v3 v4 kk nn S → WS X 7 kk nn 23 [(0, .ref scb), (1, .ref v1), (2, .ref v2), (3, .ref v3), (4, .int v4)] [] S) {v1 : Nat} {v2 : Nat} {v3 : Nat} {v4 : Int32} {kk : Nat} {nn : Nat} {S : HS} (h : P_L_law_314 scL scx Q X23 v1 v2 v3 v4 kk nn S) : WS X 7 kk nn 314 [(0, .ref scb), (1, .ref v1), (2, .ref v2), (3, .ref v3), (4, .int v4)] [] S := by
  refine r_aload_n (pc := 314) C dL_law_314 1 rfl ?_
  obtain ⟨o_v1, h⟩ := h
  obtain ⟨hk, hk2, h⟩ := h
  refine r_callVi0 (pc := 315) C (rest := []) (a := v1) o_v1 [] yV_X9_fault g_641 (c_X9_fault h) dL_law_315 rfl rfl (Nat.le_of_ble_eq_true rfl) ⟨by decide, by decide⟩ ⟨hk, hk2⟩ ⟨rfl, rfl⟩ (fun x3 S1 h g2 => ?_)
  have h := h g2
  have o_v1 := gr_ob g2 o_v1
  refine r_pop (pc := 318) C dL_law_318 rfl ?_
  refine r_aload_n (pc := 319) C dL_law_319 2 rfl ?_
  obtain ⟨o_v2, h⟩ := h
  obtain ⟨hk, hk2, h⟩ := h
  refine r_callVi0 (pc := 320) C (rest := []) (a := v2) o_v2 [] yV_X11_fault g_1522 (c_X11_fault h) dL_law_320 rfl rfl (Nat.le_of_ble_eq_true rfl) ⟨by decide, by decide⟩ ⟨hk, hk2⟩ ⟨rfl, rfl⟩ (fun x6 S4 h g5 => ?_)
  have h := h g5
  have o_v1 := gr_ob g5 o_v1
  have o_v2 := gr_ob g5 o_v2
  refine r_pop (pc := 323) C dL_law_323 rfl ?_
  refine r_goto (pc := 324) C (tgt := 2341) dL_law_324 (by decide) ?_
  exact r_sub [0, 1, 2, 3, 4] rfl (T_L_law_2341 C E ht hn hX23 h)
def P_L_law_327 (scL : Nat) (scx : Nat → Int32) (Q : Int32 → HS → Prop) (X23 : Nat → Nat → Nat → Int32 → Nat → Nat → HS → Prop) (v1 : Nat) (v2 : Nat) (v3 : Nat) (v4 : Int32) (kk : Nat) (nn : Nat) (S : HS) : Prop := ob S v1 9 ∧ (kk ≤ rm_L_law.cells ∧ nn ≤ rm_L_law.slots ∧ (P_X9_where v1 (fun x3 S1 => Gr S S1 → (ob S1 v2 11 ∧ (kk ≤ rm_L_law.cells ∧ nn ≤ rm_L_law.slots ∧ (P_X11_where v2 (fun x6 S4 => Gr S1 S4 → (P_L_law_2341 scL scx Q X23 v1 v2 v3 v4 kk nn S4)) S1)))) S))
set_option maxRecDepth 20000 in
set_option maxHeartbeats 4000000 in
theorem T_L_law_327 {X : CX} {Q : Int32 → HS → Prop} {scb scL : Nat} {scx : Nat → Int32} (C : Cx X cL_law RL 7 rm_L_law) (E : LE X scb scL scx Q) (ht : LD X) (hn : True) {X23 : Nat → Nat → Nat → Int32 → Nat → Nat → HS → Prop} (hX23 : ∀ (v1 : Nat) (v2 : Nat) (v3 : Nat) (v4 : Int32) (kk : Nat) (nn : Nat) (S : HS), X23 v1 v2 v3 v4 kk nn S → WS X 7 kk nn 23 [(0, .ref scb), (1, .ref v1), (2, .ref v2), (3, .ref v3), (4, .int v4)] [] S) {v1 : Nat} {v2 : Nat} {v3 : Nat} {v4 : Int32} {kk : Nat} {nn : Nat} {S : HS} (h : P_L_law_327 scL scx Q X23 v1 v2 v3 v4 kk nn S) : WS X 7 kk nn 327 [(0, .ref scb), (1, .ref v1), (2, .ref v2), (3, .ref v3), (4, .int v4)] [] S := by
  refine r_aload_n (pc := 327) C dL_law_327 1 rfl ?_
  obtain ⟨o_v1, h⟩ := h
  obtain ⟨hk, hk2, h⟩ := h
  refine r_callVi0 (pc := 328) C (rest := []) (a := v1) o_v1 [] yV_X9_where g_645 (c_X9_where h) dL_law_328 rfl rfl (Nat.le_of_ble_eq_true rfl) ⟨by decide, by decide⟩ ⟨hk, hk2⟩ ⟨rfl, rfl⟩ (fun x3 S1 h g2 => ?_)
  have h := h g2
  have o_v1 := gr_ob g2 o_v1
  refine r_pop (pc := 331) C dL_law_331 rfl ?_
  refine r_aload_n (pc := 332) C dL_law_332 2 rfl ?_
  obtain ⟨o_v2, h⟩ := h
  obtain ⟨hk, hk2, h⟩ := h
  refine r_callVi0 (pc := 333) C (rest := []) (a := v2) o_v2 [] yV_X11_where g_1526 (c_X11_where h) dL_law_333 rfl rfl (Nat.le_of_ble_eq_true rfl) ⟨by decide, by decide⟩ ⟨hk, hk2⟩ ⟨rfl, rfl⟩ (fun x6 S4 h g5 => ?_)
  have h := h g5
  have o_v1 := gr_ob g5 o_v1
  have o_v2 := gr_ob g5 o_v2
  refine r_pop (pc := 336) C dL_law_336 rfl ?_
  refine r_goto (pc := 337) C (tgt := 2341) dL_law_337 (by decide) ?_
  exact r_sub [0, 1, 2, 3, 4] rfl (T_L_law_2341 C E ht hn hX23 h)
def P_L_law_450 (scL : Nat) (scx : Nat → Int32) (Q : Int32 → HS → Prop) (X23 : Nat → Nat → Nat → Int32 → Nat → Nat → HS → Prop) (v1 : Nat) (v2 : Nat) (v3 : Nat) (v4 : Int32) (s0 : Nat) (s1 : Int32) (s2 : Int32) (s3 : Int32) (s4 : Int32) (s5 : Int32) (s6 : Int32) (s7 : Int32) (kk : Nat) (nn : Nat) (S : HS) : Prop := ob S s0 11 ∧ (kk ≤ rm_L_law.cells ∧ nn ≤ rm_L_law.slots ∧ (P_X11_face s0 s1 s2 s3 s4 s5 s6 s7 (fun x3 S1 => Gr S S1 → (P_L_law_2341 scL scx Q X23 v1 v2 v3 v4 kk nn S1)) S))
set_option maxRecDepth 20000 in
set_option maxHeartbeats 4000000 in
theorem T_L_law_450 {X : CX} {Q : Int32 → HS → Prop} {scb scL : Nat} {scx : Nat → Int32} (C : Cx X cL_law RL 7 rm_L_law) (E : LE X scb scL scx Q) (ht : LD X) (hn : True) {X23 : Nat → Nat → Nat → Int32 → Nat → Nat → HS → Prop} (hX23 : ∀ (v1 : Nat) (v2 : Nat) (v3 : Nat) (v4 : Int32) (kk : Nat) (nn : Nat) (S : HS), X23 v1 v2 v3 v4 kk nn S → WS X 7 kk nn 23 [(0, .ref scb), (1, .ref v1), (2, .ref v2), (3, .ref v3), (4, .int v4)] [] S) {v1 : Nat} {v2 : Nat} {v3 : Nat} {v4 : Int32} {s0 : Nat} {s1 : Int32} {s2 : Int32} {s3 : Int32} {s4 : Int32} {s5 : Int32} {s6 : Int32} {s7 : Int32} {kk : Nat} {nn : Nat} {S : HS} (h : P_L_law_450 scL scx Q X23 v1 v2 v3 v4 s0 s1 s2 s3 s4 s5 s6 s7 kk nn S) : WS X 7 kk nn 450 [(0, .ref scb), (1, .ref v1), (2, .ref v2), (3, .ref v3), (4, .int v4)] [.int s7, .int s6, .int s5, .int s4, .int s3, .int s2, .int s1, .ref s0] S := by
  obtain ⟨o_s0, h⟩ := h
  obtain ⟨hk, hk2, h⟩ := h
  refine r_callVl0 (pc := 450) C (rest := []) (a := s0) o_s0 [.int s1, .int s2, .int s3, .int s4, .int s5, .int s6, .int s7] yV_X11_face g_1530 (c_X11_face h) dL_law_450 rfl rfl (Nat.le_of_ble_eq_true rfl) ⟨by decide, by decide⟩ ⟨hk, hk2⟩ ⟨rfl, rfl⟩ (fun x3 S1 h g2 => ?_)
  have h := h g2
  have o_s0 := gr_ob g2 o_s0
  refine r_pop2 (pc := 453) C dL_law_453 rfl ?_
  refine r_goto (pc := 454) C (tgt := 2341) dL_law_454 (by decide) ?_
  exact r_sub [0, 1, 2, 3, 4] rfl (T_L_law_2341 C E ht hn hX23 h)
def P_L_law_393 (scL : Nat) (scx : Nat → Int32) (Q : Int32 → HS → Prop) (X23 : Nat → Nat → Nat → Int32 → Nat → Nat → HS → Prop) (v1 : Nat) (v2 : Nat) (v3 : Nat) (v4 : Int32) (s0 : Nat) (s1 : Int32) (s2 : Int32) (s3 : Int32) (s4 : Int32) (s5 : Int32) (s6 : Int32) (s7 : Int32) (kk : Nat) (nn : Nat) (S : HS) : Prop := ob S s0 9 ∧ (kk ≤ rm_L_law.cells ∧ nn ≤ rm_L_law.slots ∧ (P_X9_face s0 s1 s2 s3 s4 s5 s6 s7 (fun x3 S1 => Gr S S1 → (∀ x4 : Int32, x4 = v4 + (1 : Int32) → (vp_in x4 scL ∧ ∀ x6 : Int32, x6 = scx x4.toNatClampNeg → (∀ x7 : Int32, x7 = v4 + (2 : Int32) → (vp_in x7 scL ∧ ∀ x9 : Int32, x9 = scx x7.toNatClampNeg → (∀ x10 : Int32, x10 = v4 + (3 : Int32) → (vp_in x10 scL ∧ ∀ x12 : Int32, x12 = scx x10.toNatClampNeg → (∀ x13 : Int32, x13 = v4 + (4 : Int32) → (vp_in x13 scL ∧ ∀ x15 : Int32, x15 = scx x13.toNatClampNeg → (∀ x16 : Int32, x16 = v4 + (5 : Int32) → (vp_in x16 scL ∧ ∀ x18 : Int32, x18 = scx x16.toNatClampNeg → (∀ x19 : Int32, x19 = v4 + (6 : Int32) → (vp_in x19 scL ∧ ∀ x21 : Int32, x21 = scx x19.toNatClampNeg → (∀ x22 : Int32, x22 = v4 + (7 : Int32) → (vp_in x22 scL ∧ ∀ x24 : Int32, x24 = scx x22.toNatClampNeg → (((x24 = 0) → (P_L_law_450 scL scx Q X23 v1 v2 v3 v4 v2 x6 x9 x12 x15 x18 x21 (0 : Int32) kk nn S1)) ∧ ((¬ x24 = 0) → (P_L_law_450 scL scx Q X23 v1 v2 v3 v4 v2 x6 x9 x12 x15 x18 x21 (1 : Int32) kk nn S1)))))))))))))))))) S))
set_option maxRecDepth 20000 in
set_option maxHeartbeats 4000000 in
theorem T_L_law_393 {X : CX} {Q : Int32 → HS → Prop} {scb scL : Nat} {scx : Nat → Int32} (C : Cx X cL_law RL 7 rm_L_law) (E : LE X scb scL scx Q) (ht : LD X) (hn : True) {X23 : Nat → Nat → Nat → Int32 → Nat → Nat → HS → Prop} (hX23 : ∀ (v1 : Nat) (v2 : Nat) (v3 : Nat) (v4 : Int32) (kk : Nat) (nn : Nat) (S : HS), X23 v1 v2 v3 v4 kk nn S → WS X 7 kk nn 23 [(0, .ref scb), (1, .ref v1), (2, .ref v2), (3, .ref v3), (4, .int v4)] [] S) {v1 : Nat} {v2 : Nat} {v3 : Nat} {v4 : Int32} {s0 : Nat} {s1 : Int32} {s2 : Int32} {s3 : Int32} {s4 : Int32} {s5 : Int32} {s6 : Int32} {s7 : Int32} {kk : Nat} {nn : Nat} {S : HS} (h : P_L_law_393 scL scx Q X23 v1 v2 v3 v4 s0 s1 s2 s3 s4 s5 s6 s7 kk nn S) : WS X 7 kk nn 393 [(0, .ref scb), (1, .ref v1), (2, .ref v2), (3, .ref v3), (4, .int v4)] [.int s7, .int s6, .int s5, .int s4, .int s3, .int s2, .int s1, .ref s0] S := by
  obtain ⟨o_s0, h⟩ := h
  obtain ⟨hk, hk2, h⟩ := h
  refine r_callVl0 (pc := 393) C (rest := []) (a := s0) o_s0 [.int s1, .int s2, .int s3, .int s4, .int s5, .int s6, .int s7] yV_X9_face g_649 (c_X9_face h) dL_law_393 rfl rfl (Nat.le_of_ble_eq_true rfl) ⟨by decide, by decide⟩ ⟨hk, hk2⟩ ⟨rfl, rfl⟩ (fun x3 S1 h g2 => ?_)
  have h := h g2
  have o_s0 := gr_ob g2 o_s0
  refine r_pop2 (pc := 396) C dL_law_396 rfl ?_
  refine r_aload_n (pc := 397) C dL_law_397 2 rfl ?_
  refine r_aload_n (pc := 398) C dL_law_398 0 rfl ?_
  refine r_iload (pc := 399) C dL_law_399 4 rfl ?_
  refine r_iconst (pc := 401) C (v := (1 : Int32)) dL_law_401 (by decide) ?_
  refine r_iadd (pc := 402) C dL_law_402 ?_
  refine r_topi (fun x4 ex4 => ?_)
  have h := h x4 ex4
  obtain ⟨i5, h⟩ := h
  refine r_scLd (pc := 403) C E i5 dL_law_403 ?_
  refine r_topi (fun x6 ex6 => ?_)
  have h := h x6 ex6
  refine r_aload_n (pc := 404) C dL_law_404 0 rfl ?_
  refine r_iload (pc := 405) C dL_law_405 4 rfl ?_
  refine r_iconst (pc := 407) C (v := (2 : Int32)) dL_law_407 (by decide) ?_
  refine r_iadd (pc := 408) C dL_law_408 ?_
  refine r_topi (fun x7 ex7 => ?_)
  have h := h x7 ex7
  obtain ⟨i8, h⟩ := h
  refine r_scLd (pc := 409) C E i8 dL_law_409 ?_
  refine r_topi (fun x9 ex9 => ?_)
  have h := h x9 ex9
  refine r_aload_n (pc := 410) C dL_law_410 0 rfl ?_
  refine r_iload (pc := 411) C dL_law_411 4 rfl ?_
  refine r_iconst (pc := 413) C (v := (3 : Int32)) dL_law_413 (by decide) ?_
  refine r_iadd (pc := 414) C dL_law_414 ?_
  refine r_topi (fun x10 ex10 => ?_)
  have h := h x10 ex10
  obtain ⟨i11, h⟩ := h
  refine r_scLd (pc := 415) C E i11 dL_law_415 ?_
  refine r_topi (fun x12 ex12 => ?_)
  have h := h x12 ex12
  refine r_aload_n (pc := 416) C dL_law_416 0 rfl ?_
  refine r_iload (pc := 417) C dL_law_417 4 rfl ?_
  refine r_iconst (pc := 419) C (v := (4 : Int32)) dL_law_419 (by decide) ?_
  refine r_iadd (pc := 420) C dL_law_420 ?_
  refine r_topi (fun x13 ex13 => ?_)
  have h := h x13 ex13
  obtain ⟨i14, h⟩ := h
  refine r_scLd (pc := 421) C E i14 dL_law_421 ?_
  refine r_topi (fun x15 ex15 => ?_)
  have h := h x15 ex15
  refine r_aload_n (pc := 422) C dL_law_422 0 rfl ?_
  refine r_iload (pc := 423) C dL_law_423 4 rfl ?_
  refine r_iconst (pc := 425) C (v := (5 : Int32)) dL_law_425 (by decide) ?_
  refine r_iadd (pc := 426) C dL_law_426 ?_
  refine r_topi (fun x16 ex16 => ?_)
  have h := h x16 ex16
  obtain ⟨i17, h⟩ := h
  refine r_scLd (pc := 427) C E i17 dL_law_427 ?_
  refine r_topi (fun x18 ex18 => ?_)
  have h := h x18 ex18
  refine r_aload_n (pc := 428) C dL_law_428 0 rfl ?_
  refine r_iload (pc := 429) C dL_law_429 4 rfl ?_
  refine r_bipush (pc := 431) C (v := (6 : Int32)) dL_law_431 (by decide) ?_
  refine r_iadd (pc := 433) C dL_law_433 ?_
  refine r_topi (fun x19 ex19 => ?_)
  have h := h x19 ex19
  obtain ⟨i20, h⟩ := h
  refine r_scLd (pc := 434) C E i20 dL_law_434 ?_
  refine r_topi (fun x21 ex21 => ?_)
  have h := h x21 ex21
  refine r_aload_n (pc := 435) C dL_law_435 0 rfl ?_
  refine r_iload (pc := 436) C dL_law_436 4 rfl ?_
  refine r_bipush (pc := 438) C (v := (7 : Int32)) dL_law_438 (by decide) ?_
  refine r_iadd (pc := 440) C dL_law_440 ?_
  refine r_topi (fun x22 ex22 => ?_)
  have h := h x22 ex22
  obtain ⟨i23, h⟩ := h
  refine r_scLd (pc := 441) C E i23 dL_law_441 ?_
  refine r_topi (fun x24 ex24 => ?_)
  have h := h x24 ex24
  refine r_if_eq (pc := 442) C (tgt := 449) dL_law_442 (by decide) (fun c25 => ?_) (fun c25 => ?_)
  · have h := h.1 c25
    refine r_iconst (pc := 449) C (v := (0 : Int32)) dL_law_449 (by decide) ?_
    exact r_sub [0, 1, 2, 3, 4] rfl (T_L_law_450 C E ht hn hX23 h)
  · have h := h.2 c25
    refine r_iconst (pc := 445) C (v := (1 : Int32)) dL_law_445 (by decide) ?_
    refine r_goto (pc := 446) C (tgt := 450) dL_law_446 (by decide) ?_
    exact r_sub [0, 1, 2, 3, 4] rfl (T_L_law_450 C E ht hn hX23 h)
def P_L_law_340 (scL : Nat) (scx : Nat → Int32) (Q : Int32 → HS → Prop) (X23 : Nat → Nat → Nat → Int32 → Nat → Nat → HS → Prop) (v1 : Nat) (v2 : Nat) (v3 : Nat) (v4 : Int32) (kk : Nat) (nn : Nat) (S : HS) : Prop := ∀ x1 : Int32, x1 = v4 + (1 : Int32) → (vp_in x1 scL ∧ ∀ x3 : Int32, x3 = scx x1.toNatClampNeg → (∀ x4 : Int32, x4 = v4 + (2 : Int32) → (vp_in x4 scL ∧ ∀ x6 : Int32, x6 = scx x4.toNatClampNeg → (∀ x7 : Int32, x7 = v4 + (3 : Int32) → (vp_in x7 scL ∧ ∀ x9 : Int32, x9 = scx x7.toNatClampNeg → (∀ x10 : Int32, x10 = v4 + (4 : Int32) → (vp_in x10 scL ∧ ∀ x12 : Int32, x12 = scx x10.toNatClampNeg → (∀ x13 : Int32, x13 = v4 + (5 : Int32) → (vp_in x13 scL ∧ ∀ x15 : Int32, x15 = scx x13.toNatClampNeg → (∀ x16 : Int32, x16 = v4 + (6 : Int32) → (vp_in x16 scL ∧ ∀ x18 : Int32, x18 = scx x16.toNatClampNeg → (∀ x19 : Int32, x19 = v4 + (7 : Int32) → (vp_in x19 scL ∧ ∀ x21 : Int32, x21 = scx x19.toNatClampNeg → (((x21 = 0) → (P_L_law_393 scL scx Q X23 v1 v2 v3 v4 v1 x3 x6 x9 x12 x15 x18 (0 : Int32) kk nn S)) ∧ ((¬ x21 = 0) → (P_L_law_393 scL scx Q X23 v1 v2 v3 v4 v1 x3 x6 x9 x12 x15 x18 (1 : Int32) kk nn S))))))))))))))))
set_option maxRecDepth 20000 in
set_option maxHeartbeats 4000000 in
theorem T_L_law_340 {X : CX} {Q : Int32 → HS → Prop} {scb scL : Nat} {scx : Nat → Int32} (C : Cx X cL_law RL 7 rm_L_law) (E : LE X scb scL scx Q) (ht : LD X) (hn : True) {X23 : Nat → Nat → Nat → Int32 → Nat → Nat → HS → Prop} (hX23 : ∀ (v1 : Nat) (v2 : Nat) (v3 : Nat) (v4 : Int32) (kk : Nat) (nn : Nat) (S : HS), X23 v1 v2 v3 v4 kk nn S → WS X 7 kk nn 23 [(0, .ref scb), (1, .ref v1), (2, .ref v2), (3, .ref v3), (4, .int v4)] [] S) {v1 : Nat} {v2 : Nat} {v3 : Nat} {v4 : Int32} {kk : Nat} {nn : Nat} {S : HS} (h : P_L_law_340 scL scx Q X23 v1 v2 v3 v4 kk nn S) : WS X 7 kk nn 340 [(0, .ref scb), (1, .ref v1), (2, .ref v2), (3, .ref v3), (4, .int v4)] [] S := by
  refine r_aload_n (pc := 340) C dL_law_340 1 rfl ?_
  refine r_aload_n (pc := 341) C dL_law_341 0 rfl ?_
  refine r_iload (pc := 342) C dL_law_342 4 rfl ?_
  refine r_iconst (pc := 344) C (v := (1 : Int32)) dL_law_344 (by decide) ?_
  refine r_iadd (pc := 345) C dL_law_345 ?_
  refine r_topi (fun x1 ex1 => ?_)
  have h := h x1 ex1
  obtain ⟨i2, h⟩ := h
  refine r_scLd (pc := 346) C E i2 dL_law_346 ?_
  refine r_topi (fun x3 ex3 => ?_)
  have h := h x3 ex3
  refine r_aload_n (pc := 347) C dL_law_347 0 rfl ?_
  refine r_iload (pc := 348) C dL_law_348 4 rfl ?_
  refine r_iconst (pc := 350) C (v := (2 : Int32)) dL_law_350 (by decide) ?_
  refine r_iadd (pc := 351) C dL_law_351 ?_
  refine r_topi (fun x4 ex4 => ?_)
  have h := h x4 ex4
  obtain ⟨i5, h⟩ := h
  refine r_scLd (pc := 352) C E i5 dL_law_352 ?_
  refine r_topi (fun x6 ex6 => ?_)
  have h := h x6 ex6
  refine r_aload_n (pc := 353) C dL_law_353 0 rfl ?_
  refine r_iload (pc := 354) C dL_law_354 4 rfl ?_
  refine r_iconst (pc := 356) C (v := (3 : Int32)) dL_law_356 (by decide) ?_
  refine r_iadd (pc := 357) C dL_law_357 ?_
  refine r_topi (fun x7 ex7 => ?_)
  have h := h x7 ex7
  obtain ⟨i8, h⟩ := h
  refine r_scLd (pc := 358) C E i8 dL_law_358 ?_
  refine r_topi (fun x9 ex9 => ?_)
  have h := h x9 ex9
  refine r_aload_n (pc := 359) C dL_law_359 0 rfl ?_
  refine r_iload (pc := 360) C dL_law_360 4 rfl ?_
  refine r_iconst (pc := 362) C (v := (4 : Int32)) dL_law_362 (by decide) ?_
  refine r_iadd (pc := 363) C dL_law_363 ?_
  refine r_topi (fun x10 ex10 => ?_)
  have h := h x10 ex10
  obtain ⟨i11, h⟩ := h
  refine r_scLd (pc := 364) C E i11 dL_law_364 ?_
  refine r_topi (fun x12 ex12 => ?_)
  have h := h x12 ex12
  refine r_aload_n (pc := 365) C dL_law_365 0 rfl ?_
  refine r_iload (pc := 366) C dL_law_366 4 rfl ?_
  refine r_iconst (pc := 368) C (v := (5 : Int32)) dL_law_368 (by decide) ?_
  refine r_iadd (pc := 369) C dL_law_369 ?_
  refine r_topi (fun x13 ex13 => ?_)
  have h := h x13 ex13
  obtain ⟨i14, h⟩ := h
  refine r_scLd (pc := 370) C E i14 dL_law_370 ?_
  refine r_topi (fun x15 ex15 => ?_)
  have h := h x15 ex15
  refine r_aload_n (pc := 371) C dL_law_371 0 rfl ?_
  refine r_iload (pc := 372) C dL_law_372 4 rfl ?_
  refine r_bipush (pc := 374) C (v := (6 : Int32)) dL_law_374 (by decide) ?_
  refine r_iadd (pc := 376) C dL_law_376 ?_
  refine r_topi (fun x16 ex16 => ?_)
  have h := h x16 ex16
  obtain ⟨i17, h⟩ := h
  refine r_scLd (pc := 377) C E i17 dL_law_377 ?_
  refine r_topi (fun x18 ex18 => ?_)
  have h := h x18 ex18
  refine r_aload_n (pc := 378) C dL_law_378 0 rfl ?_
  refine r_iload (pc := 379) C dL_law_379 4 rfl ?_
  refine r_bipush (pc := 381) C (v := (7 : Int32)) dL_law_381 (by decide) ?_
  refine r_iadd (pc := 383) C dL_law_383 ?_
  refine r_topi (fun x19 ex19 => ?_)
  have h := h x19 ex19
  obtain ⟨i20, h⟩ := h
  refine r_scLd (pc := 384) C E i20 dL_law_384 ?_
  refine r_topi (fun x21 ex21 => ?_)
  have h := h x21 ex21
  refine r_if_eq (pc := 385) C (tgt := 392) dL_law_385 (by decide) (fun c22 => ?_) (fun c22 => ?_)
  · have h := h.1 c22
    refine r_iconst (pc := 392) C (v := (0 : Int32)) dL_law_392 (by decide) ?_
    exact r_sub [0, 1, 2, 3, 4] rfl (T_L_law_393 C E ht hn hX23 h)
  · have h := h.2 c22
    refine r_iconst (pc := 388) C (v := (1 : Int32)) dL_law_388 (by decide) ?_
    refine r_goto (pc := 389) C (tgt := 393) dL_law_389 (by decide) ?_
    exact r_sub [0, 1, 2, 3, 4] rfl (T_L_law_393 C E ht hn hX23 h)
def P_L_law_553 (scL : Nat) (scx : Nat → Int32) (Q : Int32 → HS → Prop) (X23 : Nat → Nat → Nat → Int32 → Nat → Nat → HS → Prop) (v1 : Nat) (v2 : Nat) (v3 : Nat) (v4 : Int32) (s0 : Nat) (s1 : Int32) (s2 : Int32) (s3 : Int32) (s4 : Int32) (s5 : Int32) (s6 : Int32) (kk : Nat) (nn : Nat) (S : HS) : Prop := ob S s0 11 ∧ (kk ≤ rm_L_law.cells ∧ nn ≤ rm_L_law.slots ∧ (P_X11_wet s0 s1 s2 s3 s4 s5 s6 (fun x3 S1 => Gr S S1 → (P_L_law_2341 scL scx Q X23 v1 v2 v3 v4 kk nn S1)) S))
set_option maxRecDepth 20000 in
set_option maxHeartbeats 4000000 in
theorem T_L_law_553 {X : CX} {Q : Int32 → HS → Prop} {scb scL : Nat} {scx : Nat → Int32} (C : Cx X cL_law RL 7 rm_L_law) (E : LE X scb scL scx Q) (ht : LD X) (hn : True) {X23 : Nat → Nat → Nat → Int32 → Nat → Nat → HS → Prop} (hX23 : ∀ (v1 : Nat) (v2 : Nat) (v3 : Nat) (v4 : Int32) (kk : Nat) (nn : Nat) (S : HS), X23 v1 v2 v3 v4 kk nn S → WS X 7 kk nn 23 [(0, .ref scb), (1, .ref v1), (2, .ref v2), (3, .ref v3), (4, .int v4)] [] S) {v1 : Nat} {v2 : Nat} {v3 : Nat} {v4 : Int32} {s0 : Nat} {s1 : Int32} {s2 : Int32} {s3 : Int32} {s4 : Int32} {s5 : Int32} {s6 : Int32} {kk : Nat} {nn : Nat} {S : HS} (h : P_L_law_553 scL scx Q X23 v1 v2 v3 v4 s0 s1 s2 s3 s4 s5 s6 kk nn S) : WS X 7 kk nn 553 [(0, .ref scb), (1, .ref v1), (2, .ref v2), (3, .ref v3), (4, .int v4)] [.int s6, .int s5, .int s4, .int s3, .int s2, .int s1, .ref s0] S := by
  obtain ⟨o_s0, h⟩ := h
  obtain ⟨hk, hk2, h⟩ := h
  refine r_callVl0 (pc := 553) C (rest := []) (a := s0) o_s0 [.int s1, .int s2, .int s3, .int s4, .int s5, .int s6] yV_X11_wet g_1590 (c_X11_wet h) dL_law_553 rfl rfl (Nat.le_of_ble_eq_true rfl) ⟨by decide, by decide⟩ ⟨hk, hk2⟩ ⟨rfl, rfl⟩ (fun x3 S1 h g2 => ?_)
  have h := h g2
  have o_s0 := gr_ob g2 o_s0
  refine r_pop2 (pc := 556) C dL_law_556 rfl ?_
  refine r_goto (pc := 557) C (tgt := 2341) dL_law_557 (by decide) ?_
  exact r_sub [0, 1, 2, 3, 4] rfl (T_L_law_2341 C E ht hn hX23 h)
def P_L_law_503 (scL : Nat) (scx : Nat → Int32) (Q : Int32 → HS → Prop) (X23 : Nat → Nat → Nat → Int32 → Nat → Nat → HS → Prop) (v1 : Nat) (v2 : Nat) (v3 : Nat) (v4 : Int32) (s0 : Nat) (s1 : Int32) (s2 : Int32) (s3 : Int32) (s4 : Int32) (s5 : Int32) (s6 : Int32) (kk : Nat) (nn : Nat) (S : HS) : Prop := ob S s0 9 ∧ (kk ≤ rm_L_law.cells ∧ nn ≤ rm_L_law.slots ∧ (P_X9_wet s0 s1 s2 s3 s4 s5 s6 (fun x3 S1 => Gr S S1 → (∀ x4 : Int32, x4 = v4 + (1 : Int32) → (vp_in x4 scL ∧ ∀ x6 : Int32, x6 = scx x4.toNatClampNeg → (∀ x7 : Int32, x7 = v4 + (2 : Int32) → (vp_in x7 scL ∧ ∀ x9 : Int32, x9 = scx x7.toNatClampNeg → (∀ x10 : Int32, x10 = v4 + (3 : Int32) → (vp_in x10 scL ∧ ∀ x12 : Int32, x12 = scx x10.toNatClampNeg → (∀ x13 : Int32, x13 = v4 + (4 : Int32) → (vp_in x13 scL ∧ ∀ x15 : Int32, x15 = scx x13.toNatClampNeg → (∀ x16 : Int32, x16 = v4 + (5 : Int32) → (vp_in x16 scL ∧ ∀ x18 : Int32, x18 = scx x16.toNatClampNeg → (∀ x19 : Int32, x19 = v4 + (6 : Int32) → (vp_in x19 scL ∧ ∀ x21 : Int32, x21 = scx x19.toNatClampNeg → (((x21 = 0) → (P_L_law_553 scL scx Q X23 v1 v2 v3 v4 v2 x6 x9 x12 x15 x18 (0 : Int32) kk nn S1)) ∧ ((¬ x21 = 0) → (P_L_law_553 scL scx Q X23 v1 v2 v3 v4 v2 x6 x9 x12 x15 x18 (1 : Int32) kk nn S1)))))))))))))))) S))
set_option maxRecDepth 20000 in
set_option maxHeartbeats 4000000 in
theorem T_L_law_503 {X : CX} {Q : Int32 → HS → Prop} {scb scL : Nat} {scx : Nat → Int32} (C : Cx X cL_law RL 7 rm_L_law) (E : LE X scb scL scx Q) (ht : LD X) (hn : True) {X23 : Nat → Nat → Nat → Int32 → Nat → Nat → HS → Prop} (hX23 : ∀ (v1 : Nat) (v2 : Nat) (v3 : Nat) (v4 : Int32) (kk : Nat) (nn : Nat) (S : HS), X23 v1 v2 v3 v4 kk nn S → WS X 7 kk nn 23 [(0, .ref scb), (1, .ref v1), (2, .ref v2), (3, .ref v3), (4, .int v4)] [] S) {v1 : Nat} {v2 : Nat} {v3 : Nat} {v4 : Int32} {s0 : Nat} {s1 : Int32} {s2 : Int32} {s3 : Int32} {s4 : Int32} {s5 : Int32} {s6 : Int32} {kk : Nat} {nn : Nat} {S : HS} (h : P_L_law_503 scL scx Q X23 v1 v2 v3 v4 s0 s1 s2 s3 s4 s5 s6 kk nn S) : WS X 7 kk nn 503 [(0, .ref scb), (1, .ref v1), (2, .ref v2), (3, .ref v3), (4, .int v4)] [.int s6, .int s5, .int s4, .int s3, .int s2, .int s1, .ref s0] S := by
  obtain ⟨o_s0, h⟩ := h
  obtain ⟨hk, hk2, h⟩ := h
  refine r_callVl0 (pc := 503) C (rest := []) (a := s0) o_s0 [.int s1, .int s2, .int s3, .int s4, .int s5, .int s6] yV_X9_wet g_728 (c_X9_wet h) dL_law_503 rfl rfl (Nat.le_of_ble_eq_true rfl) ⟨by decide, by decide⟩ ⟨hk, hk2⟩ ⟨rfl, rfl⟩ (fun x3 S1 h g2 => ?_)
  have h := h g2
  have o_s0 := gr_ob g2 o_s0
  refine r_pop2 (pc := 506) C dL_law_506 rfl ?_
  refine r_aload_n (pc := 507) C dL_law_507 2 rfl ?_
  refine r_aload_n (pc := 508) C dL_law_508 0 rfl ?_
  refine r_iload (pc := 509) C dL_law_509 4 rfl ?_
  refine r_iconst (pc := 511) C (v := (1 : Int32)) dL_law_511 (by decide) ?_
  refine r_iadd (pc := 512) C dL_law_512 ?_
  refine r_topi (fun x4 ex4 => ?_)
  have h := h x4 ex4
  obtain ⟨i5, h⟩ := h
  refine r_scLd (pc := 513) C E i5 dL_law_513 ?_
  refine r_topi (fun x6 ex6 => ?_)
  have h := h x6 ex6
  refine r_aload_n (pc := 514) C dL_law_514 0 rfl ?_
  refine r_iload (pc := 515) C dL_law_515 4 rfl ?_
  refine r_iconst (pc := 517) C (v := (2 : Int32)) dL_law_517 (by decide) ?_
  refine r_iadd (pc := 518) C dL_law_518 ?_
  refine r_topi (fun x7 ex7 => ?_)
  have h := h x7 ex7
  obtain ⟨i8, h⟩ := h
  refine r_scLd (pc := 519) C E i8 dL_law_519 ?_
  refine r_topi (fun x9 ex9 => ?_)
  have h := h x9 ex9
  refine r_aload_n (pc := 520) C dL_law_520 0 rfl ?_
  refine r_iload (pc := 521) C dL_law_521 4 rfl ?_
  refine r_iconst (pc := 523) C (v := (3 : Int32)) dL_law_523 (by decide) ?_
  refine r_iadd (pc := 524) C dL_law_524 ?_
  refine r_topi (fun x10 ex10 => ?_)
  have h := h x10 ex10
  obtain ⟨i11, h⟩ := h
  refine r_scLd (pc := 525) C E i11 dL_law_525 ?_
  refine r_topi (fun x12 ex12 => ?_)
  have h := h x12 ex12
  refine r_aload_n (pc := 526) C dL_law_526 0 rfl ?_
  refine r_iload (pc := 527) C dL_law_527 4 rfl ?_
  refine r_iconst (pc := 529) C (v := (4 : Int32)) dL_law_529 (by decide) ?_
  refine r_iadd (pc := 530) C dL_law_530 ?_
  refine r_topi (fun x13 ex13 => ?_)
  have h := h x13 ex13
  obtain ⟨i14, h⟩ := h
  refine r_scLd (pc := 531) C E i14 dL_law_531 ?_
  refine r_topi (fun x15 ex15 => ?_)
  have h := h x15 ex15
  refine r_aload_n (pc := 532) C dL_law_532 0 rfl ?_
  refine r_iload (pc := 533) C dL_law_533 4 rfl ?_
  refine r_iconst (pc := 535) C (v := (5 : Int32)) dL_law_535 (by decide) ?_
  refine r_iadd (pc := 536) C dL_law_536 ?_
  refine r_topi (fun x16 ex16 => ?_)
  have h := h x16 ex16
  obtain ⟨i17, h⟩ := h
  refine r_scLd (pc := 537) C E i17 dL_law_537 ?_
  refine r_topi (fun x18 ex18 => ?_)
  have h := h x18 ex18
  refine r_aload_n (pc := 538) C dL_law_538 0 rfl ?_
  refine r_iload (pc := 539) C dL_law_539 4 rfl ?_
  refine r_bipush (pc := 541) C (v := (6 : Int32)) dL_law_541 (by decide) ?_
  refine r_iadd (pc := 543) C dL_law_543 ?_
  refine r_topi (fun x19 ex19 => ?_)
  have h := h x19 ex19
  obtain ⟨i20, h⟩ := h
  refine r_scLd (pc := 544) C E i20 dL_law_544 ?_
  refine r_topi (fun x21 ex21 => ?_)
  have h := h x21 ex21
  refine r_if_eq (pc := 545) C (tgt := 552) dL_law_545 (by decide) (fun c22 => ?_) (fun c22 => ?_)
  · have h := h.1 c22
    refine r_iconst (pc := 552) C (v := (0 : Int32)) dL_law_552 (by decide) ?_
    exact r_sub [0, 1, 2, 3, 4] rfl (T_L_law_553 C E ht hn hX23 h)
  · have h := h.2 c22
    refine r_iconst (pc := 548) C (v := (1 : Int32)) dL_law_548 (by decide) ?_
    refine r_goto (pc := 549) C (tgt := 553) dL_law_549 (by decide) ?_
    exact r_sub [0, 1, 2, 3, 4] rfl (T_L_law_553 C E ht hn hX23 h)
def P_L_law_457 (scL : Nat) (scx : Nat → Int32) (Q : Int32 → HS → Prop) (X23 : Nat → Nat → Nat → Int32 → Nat → Nat → HS → Prop) (v1 : Nat) (v2 : Nat) (v3 : Nat) (v4 : Int32) (kk : Nat) (nn : Nat) (S : HS) : Prop := ∀ x1 : Int32, x1 = v4 + (1 : Int32) → (vp_in x1 scL ∧ ∀ x3 : Int32, x3 = scx x1.toNatClampNeg → (∀ x4 : Int32, x4 = v4 + (2 : Int32) → (vp_in x4 scL ∧ ∀ x6 : Int32, x6 = scx x4.toNatClampNeg → (∀ x7 : Int32, x7 = v4 + (3 : Int32) → (vp_in x7 scL ∧ ∀ x9 : Int32, x9 = scx x7.toNatClampNeg → (∀ x10 : Int32, x10 = v4 + (4 : Int32) → (vp_in x10 scL ∧ ∀ x12 : Int32, x12 = scx x10.toNatClampNeg → (∀ x13 : Int32, x13 = v4 + (5 : Int32) → (vp_in x13 scL ∧ ∀ x15 : Int32, x15 = scx x13.toNatClampNeg → (∀ x16 : Int32, x16 = v4 + (6 : Int32) → (vp_in x16 scL ∧ ∀ x18 : Int32, x18 = scx x16.toNatClampNeg → (((x18 = 0) → (P_L_law_503 scL scx Q X23 v1 v2 v3 v4 v1 x3 x6 x9 x12 x15 (0 : Int32) kk nn S)) ∧ ((¬ x18 = 0) → (P_L_law_503 scL scx Q X23 v1 v2 v3 v4 v1 x3 x6 x9 x12 x15 (1 : Int32) kk nn S))))))))))))))
set_option maxRecDepth 20000 in
set_option maxHeartbeats 4000000 in
theorem T_L_law_457 {X : CX} {Q : Int32 → HS → Prop} {scb scL : Nat} {scx : Nat → Int32} (C : Cx X cL_law RL 7 rm_L_law) (E : LE X scb scL scx Q) (ht : LD X) (hn : True) {X23 : Nat → Nat → Nat → Int32 → Nat → Nat → HS → Prop} (hX23 : ∀ (v1 : Nat) (v2 : Nat) (v3 : Nat) (v4 : Int32) (kk : Nat) (nn : Nat) (S : HS), X23 v1 v2 v3 v4 kk nn S → WS X 7 kk nn 23 [(0, .ref scb), (1, .ref v1), (2, .ref v2), (3, .ref v3), (4, .int v4)] [] S) {v1 : Nat} {v2 : Nat} {v3 : Nat} {v4 : Int32} {kk : Nat} {nn : Nat} {S : HS} (h : P_L_law_457 scL scx Q X23 v1 v2 v3 v4 kk nn S) : WS X 7 kk nn 457 [(0, .ref scb), (1, .ref v1), (2, .ref v2), (3, .ref v3), (4, .int v4)] [] S := by
  refine r_aload_n (pc := 457) C dL_law_457 1 rfl ?_
  refine r_aload_n (pc := 458) C dL_law_458 0 rfl ?_
  refine r_iload (pc := 459) C dL_law_459 4 rfl ?_
  refine r_iconst (pc := 461) C (v := (1 : Int32)) dL_law_461 (by decide) ?_
  refine r_iadd (pc := 462) C dL_law_462 ?_
  refine r_topi (fun x1 ex1 => ?_)
  have h := h x1 ex1
  obtain ⟨i2, h⟩ := h
  refine r_scLd (pc := 463) C E i2 dL_law_463 ?_
  refine r_topi (fun x3 ex3 => ?_)
  have h := h x3 ex3
  refine r_aload_n (pc := 464) C dL_law_464 0 rfl ?_
  refine r_iload (pc := 465) C dL_law_465 4 rfl ?_
  refine r_iconst (pc := 467) C (v := (2 : Int32)) dL_law_467 (by decide) ?_
  refine r_iadd (pc := 468) C dL_law_468 ?_
  refine r_topi (fun x4 ex4 => ?_)
  have h := h x4 ex4
  obtain ⟨i5, h⟩ := h
  refine r_scLd (pc := 469) C E i5 dL_law_469 ?_
  refine r_topi (fun x6 ex6 => ?_)
  have h := h x6 ex6
  refine r_aload_n (pc := 470) C dL_law_470 0 rfl ?_
  refine r_iload (pc := 471) C dL_law_471 4 rfl ?_
  refine r_iconst (pc := 473) C (v := (3 : Int32)) dL_law_473 (by decide) ?_
  refine r_iadd (pc := 474) C dL_law_474 ?_
  refine r_topi (fun x7 ex7 => ?_)
  have h := h x7 ex7
  obtain ⟨i8, h⟩ := h
  refine r_scLd (pc := 475) C E i8 dL_law_475 ?_
  refine r_topi (fun x9 ex9 => ?_)
  have h := h x9 ex9
  refine r_aload_n (pc := 476) C dL_law_476 0 rfl ?_
  refine r_iload (pc := 477) C dL_law_477 4 rfl ?_
  refine r_iconst (pc := 479) C (v := (4 : Int32)) dL_law_479 (by decide) ?_
  refine r_iadd (pc := 480) C dL_law_480 ?_
  refine r_topi (fun x10 ex10 => ?_)
  have h := h x10 ex10
  obtain ⟨i11, h⟩ := h
  refine r_scLd (pc := 481) C E i11 dL_law_481 ?_
  refine r_topi (fun x12 ex12 => ?_)
  have h := h x12 ex12
  refine r_aload_n (pc := 482) C dL_law_482 0 rfl ?_
  refine r_iload (pc := 483) C dL_law_483 4 rfl ?_
  refine r_iconst (pc := 485) C (v := (5 : Int32)) dL_law_485 (by decide) ?_
  refine r_iadd (pc := 486) C dL_law_486 ?_
  refine r_topi (fun x13 ex13 => ?_)
  have h := h x13 ex13
  obtain ⟨i14, h⟩ := h
  refine r_scLd (pc := 487) C E i14 dL_law_487 ?_
  refine r_topi (fun x15 ex15 => ?_)
  have h := h x15 ex15
  refine r_aload_n (pc := 488) C dL_law_488 0 rfl ?_
  refine r_iload (pc := 489) C dL_law_489 4 rfl ?_
  refine r_bipush (pc := 491) C (v := (6 : Int32)) dL_law_491 (by decide) ?_
  refine r_iadd (pc := 493) C dL_law_493 ?_
  refine r_topi (fun x16 ex16 => ?_)
  have h := h x16 ex16
  obtain ⟨i17, h⟩ := h
  refine r_scLd (pc := 494) C E i17 dL_law_494 ?_
  refine r_topi (fun x18 ex18 => ?_)
  have h := h x18 ex18
  refine r_if_eq (pc := 495) C (tgt := 502) dL_law_495 (by decide) (fun c19 => ?_) (fun c19 => ?_)
  · have h := h.1 c19
    refine r_iconst (pc := 502) C (v := (0 : Int32)) dL_law_502 (by decide) ?_
    exact r_sub [0, 1, 2, 3, 4] rfl (T_L_law_503 C E ht hn hX23 h)
  · have h := h.2 c19
    refine r_iconst (pc := 498) C (v := (1 : Int32)) dL_law_498 (by decide) ?_
    refine r_goto (pc := 499) C (tgt := 503) dL_law_499 (by decide) ?_
    exact r_sub [0, 1, 2, 3, 4] rfl (T_L_law_503 C E ht hn hX23 h)
def P_L_law_656 (scL : Nat) (scx : Nat → Int32) (Q : Int32 → HS → Prop) (X23 : Nat → Nat → Nat → Int32 → Nat → Nat → HS → Prop) (v1 : Nat) (v2 : Nat) (v3 : Nat) (v4 : Int32) (s0 : Nat) (s1 : Int32) (s2 : Int32) (s3 : Int32) (s4 : Int32) (s5 : Int32) (s6 : Int32) (kk : Nat) (nn : Nat) (S : HS) : Prop := ob S s0 11 ∧ (kk ≤ rm_L_law.cells ∧ nn ≤ rm_L_law.slots ∧ (P_X11_mean s0 s1 s2 s3 s4 s5 s6 (fun x3 S1 => Gr S S1 → (P_L_law_2341 scL scx Q X23 v1 v2 v3 v4 kk nn S1)) S))
set_option maxRecDepth 20000 in
set_option maxHeartbeats 4000000 in
theorem T_L_law_656 {X : CX} {Q : Int32 → HS → Prop} {scb scL : Nat} {scx : Nat → Int32} (C : Cx X cL_law RL 7 rm_L_law) (E : LE X scb scL scx Q) (ht : LD X) (hn : True) {X23 : Nat → Nat → Nat → Int32 → Nat → Nat → HS → Prop} (hX23 : ∀ (v1 : Nat) (v2 : Nat) (v3 : Nat) (v4 : Int32) (kk : Nat) (nn : Nat) (S : HS), X23 v1 v2 v3 v4 kk nn S → WS X 7 kk nn 23 [(0, .ref scb), (1, .ref v1), (2, .ref v2), (3, .ref v3), (4, .int v4)] [] S) {v1 : Nat} {v2 : Nat} {v3 : Nat} {v4 : Int32} {s0 : Nat} {s1 : Int32} {s2 : Int32} {s3 : Int32} {s4 : Int32} {s5 : Int32} {s6 : Int32} {kk : Nat} {nn : Nat} {S : HS} (h : P_L_law_656 scL scx Q X23 v1 v2 v3 v4 s0 s1 s2 s3 s4 s5 s6 kk nn S) : WS X 7 kk nn 656 [(0, .ref scb), (1, .ref v1), (2, .ref v2), (3, .ref v3), (4, .int v4)] [.int s6, .int s5, .int s4, .int s3, .int s2, .int s1, .ref s0] S := by
  obtain ⟨o_s0, h⟩ := h
  obtain ⟨hk, hk2, h⟩ := h
  refine r_callVl0 (pc := 656) C (rest := []) (a := s0) o_s0 [.int s1, .int s2, .int s3, .int s4, .int s5, .int s6] yV_X11_mean g_1598 (c_X11_mean h) dL_law_656 rfl rfl (Nat.le_of_ble_eq_true rfl) ⟨by decide, by decide⟩ ⟨hk, hk2⟩ ⟨rfl, rfl⟩ (fun x3 S1 h g2 => ?_)
  have h := h g2
  have o_s0 := gr_ob g2 o_s0
  refine r_pop2 (pc := 659) C dL_law_659 rfl ?_
  refine r_goto (pc := 660) C (tgt := 2341) dL_law_660 (by decide) ?_
  exact r_sub [0, 1, 2, 3, 4] rfl (T_L_law_2341 C E ht hn hX23 h)
def P_L_law_606 (scL : Nat) (scx : Nat → Int32) (Q : Int32 → HS → Prop) (X23 : Nat → Nat → Nat → Int32 → Nat → Nat → HS → Prop) (v1 : Nat) (v2 : Nat) (v3 : Nat) (v4 : Int32) (s0 : Nat) (s1 : Int32) (s2 : Int32) (s3 : Int32) (s4 : Int32) (s5 : Int32) (s6 : Int32) (kk : Nat) (nn : Nat) (S : HS) : Prop := ob S s0 9 ∧ (kk ≤ rm_L_law.cells ∧ nn ≤ rm_L_law.slots ∧ (P_X9_mean s0 s1 s2 s3 s4 s5 s6 (fun x3 S1 => Gr S S1 → (∀ x4 : Int32, x4 = v4 + (1 : Int32) → (vp_in x4 scL ∧ ∀ x6 : Int32, x6 = scx x4.toNatClampNeg → (∀ x7 : Int32, x7 = v4 + (2 : Int32) → (vp_in x7 scL ∧ ∀ x9 : Int32, x9 = scx x7.toNatClampNeg → (∀ x10 : Int32, x10 = v4 + (3 : Int32) → (vp_in x10 scL ∧ ∀ x12 : Int32, x12 = scx x10.toNatClampNeg → (∀ x13 : Int32, x13 = v4 + (4 : Int32) → (vp_in x13 scL ∧ ∀ x15 : Int32, x15 = scx x13.toNatClampNeg → (∀ x16 : Int32, x16 = v4 + (5 : Int32) → (vp_in x16 scL ∧ ∀ x18 : Int32, x18 = scx x16.toNatClampNeg → (∀ x19 : Int32, x19 = v4 + (6 : Int32) → (vp_in x19 scL ∧ ∀ x21 : Int32, x21 = scx x19.toNatClampNeg → (((x21 = 0) → (P_L_law_656 scL scx Q X23 v1 v2 v3 v4 v2 x6 x9 x12 x15 x18 (0 : Int32) kk nn S1)) ∧ ((¬ x21 = 0) → (P_L_law_656 scL scx Q X23 v1 v2 v3 v4 v2 x6 x9 x12 x15 x18 (1 : Int32) kk nn S1)))))))))))))))) S))
set_option maxRecDepth 20000 in
set_option maxHeartbeats 4000000 in
theorem T_L_law_606 {X : CX} {Q : Int32 → HS → Prop} {scb scL : Nat} {scx : Nat → Int32} (C : Cx X cL_law RL 7 rm_L_law) (E : LE X scb scL scx Q) (ht : LD X) (hn : True) {X23 : Nat → Nat → Nat → Int32 → Nat → Nat → HS → Prop} (hX23 : ∀ (v1 : Nat) (v2 : Nat) (v3 : Nat) (v4 : Int32) (kk : Nat) (nn : Nat) (S : HS), X23 v1 v2 v3 v4 kk nn S → WS X 7 kk nn 23 [(0, .ref scb), (1, .ref v1), (2, .ref v2), (3, .ref v3), (4, .int v4)] [] S) {v1 : Nat} {v2 : Nat} {v3 : Nat} {v4 : Int32} {s0 : Nat} {s1 : Int32} {s2 : Int32} {s3 : Int32} {s4 : Int32} {s5 : Int32} {s6 : Int32} {kk : Nat} {nn : Nat} {S : HS} (h : P_L_law_606 scL scx Q X23 v1 v2 v3 v4 s0 s1 s2 s3 s4 s5 s6 kk nn S) : WS X 7 kk nn 606 [(0, .ref scb), (1, .ref v1), (2, .ref v2), (3, .ref v3), (4, .int v4)] [.int s6, .int s5, .int s4, .int s3, .int s2, .int s1, .ref s0] S := by
  obtain ⟨o_s0, h⟩ := h
  obtain ⟨hk, hk2, h⟩ := h
  refine r_callVl0 (pc := 606) C (rest := []) (a := s0) o_s0 [.int s1, .int s2, .int s3, .int s4, .int s5, .int s6] yV_X9_mean g_732 (c_X9_mean h) dL_law_606 rfl rfl (Nat.le_of_ble_eq_true rfl) ⟨by decide, by decide⟩ ⟨hk, hk2⟩ ⟨rfl, rfl⟩ (fun x3 S1 h g2 => ?_)
  have h := h g2
  have o_s0 := gr_ob g2 o_s0
  refine r_pop2 (pc := 609) C dL_law_609 rfl ?_
  refine r_aload_n (pc := 610) C dL_law_610 2 rfl ?_
  refine r_aload_n (pc := 611) C dL_law_611 0 rfl ?_
  refine r_iload (pc := 612) C dL_law_612 4 rfl ?_
  refine r_iconst (pc := 614) C (v := (1 : Int32)) dL_law_614 (by decide) ?_
  refine r_iadd (pc := 615) C dL_law_615 ?_
  refine r_topi (fun x4 ex4 => ?_)
  have h := h x4 ex4
  obtain ⟨i5, h⟩ := h
  refine r_scLd (pc := 616) C E i5 dL_law_616 ?_
  refine r_topi (fun x6 ex6 => ?_)
  have h := h x6 ex6
  refine r_aload_n (pc := 617) C dL_law_617 0 rfl ?_
  refine r_iload (pc := 618) C dL_law_618 4 rfl ?_
  refine r_iconst (pc := 620) C (v := (2 : Int32)) dL_law_620 (by decide) ?_
  refine r_iadd (pc := 621) C dL_law_621 ?_
  refine r_topi (fun x7 ex7 => ?_)
  have h := h x7 ex7
  obtain ⟨i8, h⟩ := h
  refine r_scLd (pc := 622) C E i8 dL_law_622 ?_
  refine r_topi (fun x9 ex9 => ?_)
  have h := h x9 ex9
  refine r_aload_n (pc := 623) C dL_law_623 0 rfl ?_
  refine r_iload (pc := 624) C dL_law_624 4 rfl ?_
  refine r_iconst (pc := 626) C (v := (3 : Int32)) dL_law_626 (by decide) ?_
  refine r_iadd (pc := 627) C dL_law_627 ?_
  refine r_topi (fun x10 ex10 => ?_)
  have h := h x10 ex10
  obtain ⟨i11, h⟩ := h
  refine r_scLd (pc := 628) C E i11 dL_law_628 ?_
  refine r_topi (fun x12 ex12 => ?_)
  have h := h x12 ex12
  refine r_aload_n (pc := 629) C dL_law_629 0 rfl ?_
  refine r_iload (pc := 630) C dL_law_630 4 rfl ?_
  refine r_iconst (pc := 632) C (v := (4 : Int32)) dL_law_632 (by decide) ?_
  refine r_iadd (pc := 633) C dL_law_633 ?_
  refine r_topi (fun x13 ex13 => ?_)
  have h := h x13 ex13
  obtain ⟨i14, h⟩ := h
  refine r_scLd (pc := 634) C E i14 dL_law_634 ?_
  refine r_topi (fun x15 ex15 => ?_)
  have h := h x15 ex15
  refine r_aload_n (pc := 635) C dL_law_635 0 rfl ?_
  refine r_iload (pc := 636) C dL_law_636 4 rfl ?_
  refine r_iconst (pc := 638) C (v := (5 : Int32)) dL_law_638 (by decide) ?_
  refine r_iadd (pc := 639) C dL_law_639 ?_
  refine r_topi (fun x16 ex16 => ?_)
  have h := h x16 ex16
  obtain ⟨i17, h⟩ := h
  refine r_scLd (pc := 640) C E i17 dL_law_640 ?_
  refine r_topi (fun x18 ex18 => ?_)
  have h := h x18 ex18
  refine r_aload_n (pc := 641) C dL_law_641 0 rfl ?_
  refine r_iload (pc := 642) C dL_law_642 4 rfl ?_
  refine r_bipush (pc := 644) C (v := (6 : Int32)) dL_law_644 (by decide) ?_
  refine r_iadd (pc := 646) C dL_law_646 ?_
  refine r_topi (fun x19 ex19 => ?_)
  have h := h x19 ex19
  obtain ⟨i20, h⟩ := h
  refine r_scLd (pc := 647) C E i20 dL_law_647 ?_
  refine r_topi (fun x21 ex21 => ?_)
  have h := h x21 ex21
  refine r_if_eq (pc := 648) C (tgt := 655) dL_law_648 (by decide) (fun c22 => ?_) (fun c22 => ?_)
  · have h := h.1 c22
    refine r_iconst (pc := 655) C (v := (0 : Int32)) dL_law_655 (by decide) ?_
    exact r_sub [0, 1, 2, 3, 4] rfl (T_L_law_656 C E ht hn hX23 h)
  · have h := h.2 c22
    refine r_iconst (pc := 651) C (v := (1 : Int32)) dL_law_651 (by decide) ?_
    refine r_goto (pc := 652) C (tgt := 656) dL_law_652 (by decide) ?_
    exact r_sub [0, 1, 2, 3, 4] rfl (T_L_law_656 C E ht hn hX23 h)
def P_L_law_560 (scL : Nat) (scx : Nat → Int32) (Q : Int32 → HS → Prop) (X23 : Nat → Nat → Nat → Int32 → Nat → Nat → HS → Prop) (v1 : Nat) (v2 : Nat) (v3 : Nat) (v4 : Int32) (kk : Nat) (nn : Nat) (S : HS) : Prop := ∀ x1 : Int32, x1 = v4 + (1 : Int32) → (vp_in x1 scL ∧ ∀ x3 : Int32, x3 = scx x1.toNatClampNeg → (∀ x4 : Int32, x4 = v4 + (2 : Int32) → (vp_in x4 scL ∧ ∀ x6 : Int32, x6 = scx x4.toNatClampNeg → (∀ x7 : Int32, x7 = v4 + (3 : Int32) → (vp_in x7 scL ∧ ∀ x9 : Int32, x9 = scx x7.toNatClampNeg → (∀ x10 : Int32, x10 = v4 + (4 : Int32) → (vp_in x10 scL ∧ ∀ x12 : Int32, x12 = scx x10.toNatClampNeg → (∀ x13 : Int32, x13 = v4 + (5 : Int32) → (vp_in x13 scL ∧ ∀ x15 : Int32, x15 = scx x13.toNatClampNeg → (∀ x16 : Int32, x16 = v4 + (6 : Int32) → (vp_in x16 scL ∧ ∀ x18 : Int32, x18 = scx x16.toNatClampNeg → (((x18 = 0) → (P_L_law_606 scL scx Q X23 v1 v2 v3 v4 v1 x3 x6 x9 x12 x15 (0 : Int32) kk nn S)) ∧ ((¬ x18 = 0) → (P_L_law_606 scL scx Q X23 v1 v2 v3 v4 v1 x3 x6 x9 x12 x15 (1 : Int32) kk nn S))))))))))))))
set_option maxRecDepth 20000 in
set_option maxHeartbeats 4000000 in
theorem T_L_law_560 {X : CX} {Q : Int32 → HS → Prop} {scb scL : Nat} {scx : Nat → Int32} (C : Cx X cL_law RL 7 rm_L_law) (E : LE X scb scL scx Q) (ht : LD X) (hn : True) {X23 : Nat → Nat → Nat → Int32 → Nat → Nat → HS → Prop} (hX23 : ∀ (v1 : Nat) (v2 : Nat) (v3 : Nat) (v4 : Int32) (kk : Nat) (nn : Nat) (S : HS), X23 v1 v2 v3 v4 kk nn S → WS X 7 kk nn 23 [(0, .ref scb), (1, .ref v1), (2, .ref v2), (3, .ref v3), (4, .int v4)] [] S) {v1 : Nat} {v2 : Nat} {v3 : Nat} {v4 : Int32} {kk : Nat} {nn : Nat} {S : HS} (h : P_L_law_560 scL scx Q X23 v1 v2 v3 v4 kk nn S) : WS X 7 kk nn 560 [(0, .ref scb), (1, .ref v1), (2, .ref v2), (3, .ref v3), (4, .int v4)] [] S := by
  refine r_aload_n (pc := 560) C dL_law_560 1 rfl ?_
  refine r_aload_n (pc := 561) C dL_law_561 0 rfl ?_
  refine r_iload (pc := 562) C dL_law_562 4 rfl ?_
  refine r_iconst (pc := 564) C (v := (1 : Int32)) dL_law_564 (by decide) ?_
  refine r_iadd (pc := 565) C dL_law_565 ?_
  refine r_topi (fun x1 ex1 => ?_)
  have h := h x1 ex1
  obtain ⟨i2, h⟩ := h
  refine r_scLd (pc := 566) C E i2 dL_law_566 ?_
  refine r_topi (fun x3 ex3 => ?_)
  have h := h x3 ex3
  refine r_aload_n (pc := 567) C dL_law_567 0 rfl ?_
  refine r_iload (pc := 568) C dL_law_568 4 rfl ?_
  refine r_iconst (pc := 570) C (v := (2 : Int32)) dL_law_570 (by decide) ?_
  refine r_iadd (pc := 571) C dL_law_571 ?_
  refine r_topi (fun x4 ex4 => ?_)
  have h := h x4 ex4
  obtain ⟨i5, h⟩ := h
  refine r_scLd (pc := 572) C E i5 dL_law_572 ?_
  refine r_topi (fun x6 ex6 => ?_)
  have h := h x6 ex6
  refine r_aload_n (pc := 573) C dL_law_573 0 rfl ?_
  refine r_iload (pc := 574) C dL_law_574 4 rfl ?_
  refine r_iconst (pc := 576) C (v := (3 : Int32)) dL_law_576 (by decide) ?_
  refine r_iadd (pc := 577) C dL_law_577 ?_
  refine r_topi (fun x7 ex7 => ?_)
  have h := h x7 ex7
  obtain ⟨i8, h⟩ := h
  refine r_scLd (pc := 578) C E i8 dL_law_578 ?_
  refine r_topi (fun x9 ex9 => ?_)
  have h := h x9 ex9
  refine r_aload_n (pc := 579) C dL_law_579 0 rfl ?_
  refine r_iload (pc := 580) C dL_law_580 4 rfl ?_
  refine r_iconst (pc := 582) C (v := (4 : Int32)) dL_law_582 (by decide) ?_
  refine r_iadd (pc := 583) C dL_law_583 ?_
  refine r_topi (fun x10 ex10 => ?_)
  have h := h x10 ex10
  obtain ⟨i11, h⟩ := h
  refine r_scLd (pc := 584) C E i11 dL_law_584 ?_
  refine r_topi (fun x12 ex12 => ?_)
  have h := h x12 ex12
  refine r_aload_n (pc := 585) C dL_law_585 0 rfl ?_
  refine r_iload (pc := 586) C dL_law_586 4 rfl ?_
  refine r_iconst (pc := 588) C (v := (5 : Int32)) dL_law_588 (by decide) ?_
  refine r_iadd (pc := 589) C dL_law_589 ?_
  refine r_topi (fun x13 ex13 => ?_)
  have h := h x13 ex13
  obtain ⟨i14, h⟩ := h
  refine r_scLd (pc := 590) C E i14 dL_law_590 ?_
  refine r_topi (fun x15 ex15 => ?_)
  have h := h x15 ex15
  refine r_aload_n (pc := 591) C dL_law_591 0 rfl ?_
  refine r_iload (pc := 592) C dL_law_592 4 rfl ?_
  refine r_bipush (pc := 594) C (v := (6 : Int32)) dL_law_594 (by decide) ?_
  refine r_iadd (pc := 596) C dL_law_596 ?_
  refine r_topi (fun x16 ex16 => ?_)
  have h := h x16 ex16
  obtain ⟨i17, h⟩ := h
  refine r_scLd (pc := 597) C E i17 dL_law_597 ?_
  refine r_topi (fun x18 ex18 => ?_)
  have h := h x18 ex18
  refine r_if_eq (pc := 598) C (tgt := 605) dL_law_598 (by decide) (fun c19 => ?_) (fun c19 => ?_)
  · have h := h.1 c19
    refine r_iconst (pc := 605) C (v := (0 : Int32)) dL_law_605 (by decide) ?_
    exact r_sub [0, 1, 2, 3, 4] rfl (T_L_law_606 C E ht hn hX23 h)
  · have h := h.2 c19
    refine r_iconst (pc := 601) C (v := (1 : Int32)) dL_law_601 (by decide) ?_
    refine r_goto (pc := 602) C (tgt := 606) dL_law_602 (by decide) ?_
    exact r_sub [0, 1, 2, 3, 4] rfl (T_L_law_606 C E ht hn hX23 h)
def P_L_law_663 (scL : Nat) (scx : Nat → Int32) (Q : Int32 → HS → Prop) (X23 : Nat → Nat → Nat → Int32 → Nat → Nat → HS → Prop) (v1 : Nat) (v2 : Nat) (v3 : Nat) (v4 : Int32) (kk : Nat) (nn : Nat) (S : HS) : Prop := ∀ x1 : Int32, x1 = v4 + (1 : Int32) → (vp_in x1 scL ∧ ∀ x3 : Int32, x3 = scx x1.toNatClampNeg → (∀ x4 : Int32, x4 = v4 + (2 : Int32) → (vp_in x4 scL ∧ ∀ x6 : Int32, x6 = scx x4.toNatClampNeg → (∀ x7 : Int32, x7 = v4 + (3 : Int32) → (vp_in x7 scL ∧ ∀ x9 : Int32, x9 = scx x7.toNatClampNeg → (ob S v1 9 ∧ (kk ≤ rm_L_law.cells ∧ nn ≤ rm_L_law.slots ∧ (P_X9_minutes v1 x3 x6 x9 (fun x12 S10 => Gr S S10 → (∀ x13 : Int32, x13 = v4 + (1 : Int32) → (vp_in x13 scL ∧ ∀ x15 : Int32, x15 = scx x13.toNatClampNeg → (∀ x16 : Int32, x16 = v4 + (2 : Int32) → (vp_in x16 scL ∧ ∀ x18 : Int32, x18 = scx x16.toNatClampNeg → (∀ x19 : Int32, x19 = v4 + (3 : Int32) → (vp_in x19 scL ∧ ∀ x21 : Int32, x21 = scx x19.toNatClampNeg → (ob S10 v2 11 ∧ (kk ≤ rm_L_law.cells ∧ nn ≤ rm_L_law.slots ∧ (P_X11_minutes v2 x15 x18 x21 (fun x24 S22 => Gr S10 S22 → (P_L_law_2341 scL scx Q X23 v1 v2 v3 v4 kk nn S22)) S10)))))))))) S))))))))
set_option maxRecDepth 20000 in
set_option maxHeartbeats 4000000 in
theorem T_L_law_663 {X : CX} {Q : Int32 → HS → Prop} {scb scL : Nat} {scx : Nat → Int32} (C : Cx X cL_law RL 7 rm_L_law) (E : LE X scb scL scx Q) (ht : LD X) (hn : True) {X23 : Nat → Nat → Nat → Int32 → Nat → Nat → HS → Prop} (hX23 : ∀ (v1 : Nat) (v2 : Nat) (v3 : Nat) (v4 : Int32) (kk : Nat) (nn : Nat) (S : HS), X23 v1 v2 v3 v4 kk nn S → WS X 7 kk nn 23 [(0, .ref scb), (1, .ref v1), (2, .ref v2), (3, .ref v3), (4, .int v4)] [] S) {v1 : Nat} {v2 : Nat} {v3 : Nat} {v4 : Int32} {kk : Nat} {nn : Nat} {S : HS} (h : P_L_law_663 scL scx Q X23 v1 v2 v3 v4 kk nn S) : WS X 7 kk nn 663 [(0, .ref scb), (1, .ref v1), (2, .ref v2), (3, .ref v3), (4, .int v4)] [] S := by
  refine r_aload_n (pc := 663) C dL_law_663 1 rfl ?_
  refine r_aload_n (pc := 664) C dL_law_664 0 rfl ?_
  refine r_iload (pc := 665) C dL_law_665 4 rfl ?_
  refine r_iconst (pc := 667) C (v := (1 : Int32)) dL_law_667 (by decide) ?_
  refine r_iadd (pc := 668) C dL_law_668 ?_
  refine r_topi (fun x1 ex1 => ?_)
  have h := h x1 ex1
  obtain ⟨i2, h⟩ := h
  refine r_scLd (pc := 669) C E i2 dL_law_669 ?_
  refine r_topi (fun x3 ex3 => ?_)
  have h := h x3 ex3
  refine r_aload_n (pc := 670) C dL_law_670 0 rfl ?_
  refine r_iload (pc := 671) C dL_law_671 4 rfl ?_
  refine r_iconst (pc := 673) C (v := (2 : Int32)) dL_law_673 (by decide) ?_
  refine r_iadd (pc := 674) C dL_law_674 ?_
  refine r_topi (fun x4 ex4 => ?_)
  have h := h x4 ex4
  obtain ⟨i5, h⟩ := h
  refine r_scLd (pc := 675) C E i5 dL_law_675 ?_
  refine r_topi (fun x6 ex6 => ?_)
  have h := h x6 ex6
  refine r_aload_n (pc := 676) C dL_law_676 0 rfl ?_
  refine r_iload (pc := 677) C dL_law_677 4 rfl ?_
  refine r_iconst (pc := 679) C (v := (3 : Int32)) dL_law_679 (by decide) ?_
  refine r_iadd (pc := 680) C dL_law_680 ?_
  refine r_topi (fun x7 ex7 => ?_)
  have h := h x7 ex7
  obtain ⟨i8, h⟩ := h
  refine r_scLd (pc := 681) C E i8 dL_law_681 ?_
  refine r_topi (fun x9 ex9 => ?_)
  have h := h x9 ex9
  obtain ⟨o_v1, h⟩ := h
  obtain ⟨hk, hk2, h⟩ := h
  refine r_callVi0 (pc := 682) C (rest := []) (a := v1) o_v1 [.int x3, .int x6, .int x9] yV_X9_minutes g_737 (c_X9_minutes h) dL_law_682 rfl rfl (Nat.le_of_ble_eq_true rfl) ⟨by decide, by decide⟩ ⟨hk, hk2⟩ ⟨rfl, rfl⟩ (fun x12 S10 h g11 => ?_)
  have h := h g11
  have o_v1 := gr_ob g11 o_v1
  refine r_pop (pc := 685) C dL_law_685 rfl ?_
  refine r_aload_n (pc := 686) C dL_law_686 2 rfl ?_
  refine r_aload_n (pc := 687) C dL_law_687 0 rfl ?_
  refine r_iload (pc := 688) C dL_law_688 4 rfl ?_
  refine r_iconst (pc := 690) C (v := (1 : Int32)) dL_law_690 (by decide) ?_
  refine r_iadd (pc := 691) C dL_law_691 ?_
  refine r_topi (fun x13 ex13 => ?_)
  have h := h x13 ex13
  obtain ⟨i14, h⟩ := h
  refine r_scLd (pc := 692) C E i14 dL_law_692 ?_
  refine r_topi (fun x15 ex15 => ?_)
  have h := h x15 ex15
  refine r_aload_n (pc := 693) C dL_law_693 0 rfl ?_
  refine r_iload (pc := 694) C dL_law_694 4 rfl ?_
  refine r_iconst (pc := 696) C (v := (2 : Int32)) dL_law_696 (by decide) ?_
  refine r_iadd (pc := 697) C dL_law_697 ?_
  refine r_topi (fun x16 ex16 => ?_)
  have h := h x16 ex16
  obtain ⟨i17, h⟩ := h
  refine r_scLd (pc := 698) C E i17 dL_law_698 ?_
  refine r_topi (fun x18 ex18 => ?_)
  have h := h x18 ex18
  refine r_aload_n (pc := 699) C dL_law_699 0 rfl ?_
  refine r_iload (pc := 700) C dL_law_700 4 rfl ?_
  refine r_iconst (pc := 702) C (v := (3 : Int32)) dL_law_702 (by decide) ?_
  refine r_iadd (pc := 703) C dL_law_703 ?_
  refine r_topi (fun x19 ex19 => ?_)
  have h := h x19 ex19
  obtain ⟨i20, h⟩ := h
  refine r_scLd (pc := 704) C E i20 dL_law_704 ?_
  refine r_topi (fun x21 ex21 => ?_)
  have h := h x21 ex21
  obtain ⟨o_v2, h⟩ := h
  obtain ⟨hk, hk2, h⟩ := h
  refine r_callVi0 (pc := 705) C (rest := []) (a := v2) o_v2 [.int x15, .int x18, .int x21] yV_X11_minutes g_1603 (c_X11_minutes h) dL_law_705 rfl rfl (Nat.le_of_ble_eq_true rfl) ⟨by decide, by decide⟩ ⟨hk, hk2⟩ ⟨rfl, rfl⟩ (fun x24 S22 h g23 => ?_)
  have h := h g23
  have o_v1 := gr_ob g23 o_v1
  have o_v2 := gr_ob g23 o_v2
  refine r_pop (pc := 708) C dL_law_708 rfl ?_
  refine r_goto (pc := 709) C (tgt := 2341) dL_law_709 (by decide) ?_
  exact r_sub [0, 1, 2, 3, 4] rfl (T_L_law_2341 C E ht hn hX23 h)
