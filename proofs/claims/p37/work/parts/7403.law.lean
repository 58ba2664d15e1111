def P_L_law_1833 (scL : Nat) (scx : Nat → Int32) (Q : Int32 → HS → Prop) (X23 : Nat → Nat → Nat → Int32 → Nat → Nat → HS → Prop) (v1 : Nat) (v2 : Nat) (v3 : Nat) (v4 : Int32) (kk : Nat) (nn : Nat) (S : HS) : Prop := ∀ x1 : Int32, x1 = v4 + (1 : Int32) → (vp_in x1 scL ∧ ∀ x3 : Int32, x3 = scx x1.toNatClampNeg → (ob S v1 9 ∧ (kk ≤ rm_L_law.cells ∧ nn ≤ rm_L_law.slots ∧ (P_X9_fits v1 x3 (fun x6 S4 => Gr S S4 → (∀ x7 : Int32, x7 = v4 + (1 : Int32) → (vp_in x7 scL ∧ ∀ x9 : Int32, x9 = scx x7.toNatClampNeg → (ob S4 v2 11 ∧ (kk ≤ rm_L_law.cells ∧ nn ≤ rm_L_law.slots ∧ (P_X11_fits v2 x9 (fun x12 S10 => Gr S4 S10 → (P_L_law_2341 scL scx Q X23 v1 v2 v3 v4 kk nn S10)) S4)))))) S))))
set_option maxRecDepth 20000 in
set_option maxHeartbeats 4000000 in
theorem T_L_law_1833 {X : CX} {Q : Int32 → HS → Prop} {scb scL : Nat} {scx : Nat → Int32} (C : Cx X cL_law RL 7 rm_L_law) (E : LE X scb scL scx Q) (ht : LD X) (hn : True) {X23 : Nat → Nat → Nat → Int32 → Nat → Nat → HS → Prop} (hX23 : ∀ (v1 : Nat) (v2 : Nat) (v3 : Nat) (v4 : Int32) (kk : Nat) (nn : Nat) (S : HS), X23 v1 v2 v3 v4 kk nn S → WS X 7 kk nn 23 [(0, .ref scb), (1, .ref v1), (2, .ref v2), (3, .ref v3), (4, .int v4)] [] S) {v1 : Nat} {v2 : Nat} {v3 : Nat} {v4 : Int32} {kk : Nat} {nn : Nat} {S : HS} (h : P_L_law_1833 scL scx Q X23 v1 v2 v3 v4 kk nn S) : WS X 7 kk nn 1833 [(0, .ref scb), (1, .ref v1), (2, .ref v2), (3, .ref v3), (4, .int v4)] [] S := by
  refine r_aload_n (pc := 1833) C dL_law_1833 1 rfl ?_
  refine r_aload_n (pc := 1834) C dL_law_1834 0 rfl ?_
  refine r_iload (pc := 1835) C dL_law_1835 4 rfl ?_
  refine r_iconst (pc := 1837) C (v := (1 : Int32)) dL_law_1837 (by decide) ?_
  refine r_iadd (pc := 1838) C dL_law_1838 ?_
  refine r_topi (fun x1 ex1 => ?_)
  have h := h x1 ex1
  obtain ⟨i2, h⟩ := h
  refine r_scLd (pc := 1839) C E i2 dL_law_1839 ?_
  refine r_topi (fun x3 ex3 => ?_)
  have h := h x3 ex3
  obtain ⟨o_v1, h⟩ := h
  obtain ⟨hk, hk2, h⟩ := h
  refine r_callVi0 (pc := 1840) C (rest := []) (a := v1) o_v1 [.int x3] yV_X9_fits g_925 (c_X9_fits h) dL_law_1840 rfl rfl (Nat.le_of_ble_eq_true rfl) ⟨by decide, by decide⟩ ⟨hk, hk2⟩ ⟨rfl, rfl⟩ (fun x6 S4 h g5 => ?_)
  have h := h g5
  have o_v1 := gr_ob g5 o_v1
  refine r_pop (pc := 1843) C dL_law_1843 rfl ?_
  refine r_aload_n (pc := 1844) C dL_law_1844 2 rfl ?_
  refine r_aload_n (pc := 1845) C dL_law_1845 0 rfl ?_
  refine r_iload (pc := 1846) C dL_law_1846 4 rfl ?_
  refine r_iconst (pc := 1848) C (v := (1 : Int32)) dL_law_1848 (by decide) ?_
  refine r_iadd (pc := 1849) C dL_law_1849 ?_
  refine r_topi (fun x7 ex7 => ?_)
  have h := h x7 ex7
  obtain ⟨i8, h⟩ := h
  refine r_scLd (pc := 1850) C E i8 dL_law_1850 ?_
  refine r_topi (fun x9 ex9 => ?_)
  have h := h x9 ex9
  obtain ⟨o_v2, h⟩ := h
  obtain ⟨hk, hk2, h⟩ := h
  refine r_callVi0 (pc := 1851) C (rest := []) (a := v2) o_v2 [.int x9] yV_X11_fits g_1747 (c_X11_fits h) dL_law_1851 rfl rfl (Nat.le_of_ble_eq_true rfl) ⟨by decide, by decide⟩ ⟨hk, hk2⟩ ⟨rfl, rfl⟩ (fun x12 S10 h g11 => ?_)
  have h := h g11
  have o_v1 := gr_ob g11 o_v1
  have o_v2 := gr_ob g11 o_v2
  refine r_pop (pc := 1854) C dL_law_1854 rfl ?_
  refine r_goto (pc := 1855) C (tgt := 2341) dL_law_1855 (by decide) ?_
  exact r_sub [0, 1, 2, 3, 4] rfl (T_L_law_2341 C E ht hn hX23 h)
def P_L_law_1858 (scL : Nat) (scx : Nat → Int32) (Q : Int32 → HS → Prop) (X23 : Nat → Nat → Nat → Int32 → Nat → Nat → HS → Prop) (v1 : Nat) (v2 : Nat) (v3 : Nat) (v4 : Int32) (kk : Nat) (nn : Nat) (S : HS) : Prop := ∀ x1 : Int32, x1 = v4 + (1 : Int32) → (vp_in x1 scL ∧ ∀ x3 : Int32, x3 = scx x1.toNatClampNeg → (∀ x4 : Int32, x4 = v4 + (2 : Int32) → (vp_in x4 scL ∧ ∀ x6 : Int32, x6 = scx x4.toNatClampNeg → (ob S v1 9 ∧ (kk ≤ rm_L_law.cells ∧ nn ≤ rm_L_law.slots ∧ (P_X9_fit v1 x3 x6 (fun x9 S7 => Gr S S7 → (∀ x10 : Int32, x10 = v4 + (1 : Int32) → (vp_in x10 scL ∧ ∀ x12 : Int32, x12 = scx x10.toNatClampNeg → (∀ x13 : Int32, x13 = v4 + (2 : Int32) → (vp_in x13 scL ∧ ∀ x15 : Int32, x15 = scx x13.toNatClampNeg → (ob S7 v2 11 ∧ (kk ≤ rm_L_law.cells ∧ nn ≤ rm_L_law.slots ∧ (P_X11_fit v2 x12 x15 (fun x18 S16 => Gr S7 S16 → (P_L_law_2341 scL scx Q X23 v1 v2 v3 v4 kk nn S16)) S7)))))))) S))))))
set_option maxRecDepth 20000 in
set_option maxHeartbeats 4000000 in
theorem T_L_law_1858 {X : CX} {Q : Int32 → HS → Prop} {scb scL : Nat} {scx : Nat → Int32} (C : Cx X cL_law RL 7 rm_L_law) (E : LE X scb scL scx Q) (ht : LD X) (hn : True) {X23 : Nat → Nat → Nat → Int32 → Nat → Nat → HS → Prop} (hX23 : ∀ (v1 : Nat) (v2 : Nat) (v3 : Nat) (v4 : Int32) (kk : Nat) (nn : Nat) (S : HS), X23 v1 v2 v3 v4 kk nn S → WS X 7 kk nn 23 [(0, .ref scb), (1, .ref v1), (2, .ref v2), (3, .ref v3), (4, .int v4)] [] S) {v1 : Nat} {v2 : Nat} {v3 : Nat} {v4 : Int32} {kk : Nat} {nn : Nat} {S : HS} (h : P_L_law_1858 scL scx Q X23 v1 v2 v3 v4 kk nn S) : WS X 7 kk nn 1858 [(0, .ref scb), (1, .ref v1), (2, .ref v2), (3, .ref v3), (4, .int v4)] [] S := by
  refine r_aload_n (pc := 1858) C dL_law_1858 1 rfl ?_
  refine r_aload_n (pc := 1859) C dL_law_1859 0 rfl ?_
  refine r_iload (pc := 1860) C dL_law_1860 4 rfl ?_
  refine r_iconst (pc := 1862) C (v := (1 : Int32)) dL_law_1862 (by decide) ?_
  refine r_iadd (pc := 1863) C dL_law_1863 ?_
  refine r_topi (fun x1 ex1 => ?_)
  have h := h x1 ex1
  obtain ⟨i2, h⟩ := h
  refine r_scLd (pc := 1864) C E i2 dL_law_1864 ?_
  refine r_topi (fun x3 ex3 => ?_)
  have h := h x3 ex3
  refine r_aload_n (pc := 1865) C dL_law_1865 0 rfl ?_
  refine r_iload (pc := 1866) C dL_law_1866 4 rfl ?_
  refine r_iconst (pc := 1868) C (v := (2 : Int32)) dL_law_1868 (by decide) ?_
  refine r_iadd (pc := 1869) C dL_law_1869 ?_
  refine r_topi (fun x4 ex4 => ?_)
  have h := h x4 ex4
  obtain ⟨i5, h⟩ := h
  refine r_scLd (pc := 1870) C E i5 dL_law_1870 ?_
  refine r_topi (fun x6 ex6 => ?_)
  have h := h x6 ex6
  obtain ⟨o_v1, h⟩ := h
  obtain ⟨hk, hk2, h⟩ := h
  refine r_callVi0 (pc := 1871) C (rest := []) (a := v1) o_v1 [.int x3, .int x6] yV_X9_fit g_949 (c_X9_fit h) dL_law_1871 rfl rfl (Nat.le_of_ble_eq_true rfl) ⟨by decide, by decide⟩ ⟨hk, hk2⟩ ⟨rfl, rfl⟩ (fun x9 S7 h g8 => ?_)
  have h := h g8
  have o_v1 := gr_ob g8 o_v1
  refine r_pop (pc := 1874) C dL_law_1874 rfl ?_
  refine r_aload_n (pc := 1875) C dL_law_1875 2 rfl ?_
  refine r_aload_n (pc := 1876) C dL_law_1876 0 rfl ?_
  refine r_iload (pc := 1877) C dL_law_1877 4 rfl ?_
  refine r_iconst (pc := 1879) C (v := (1 : Int32)) dL_law_1879 (by decide) ?_
  refine r_iadd (pc := 1880) C dL_law_1880 ?_
  refine r_topi (fun x10 ex10 => ?_)
  have h := h x10 ex10
  obtain ⟨i11, h⟩ := h
  refine r_scLd (pc := 1881) C E i11 dL_law_1881 ?_
  refine r_topi (fun x12 ex12 => ?_)
  have h := h x12 ex12
  refine r_aload_n (pc := 1882) C dL_law_1882 0 rfl ?_
  refine r_iload (pc := 1883) C dL_law_1883 4 rfl ?_
  refine r_iconst (pc := 1885) C (v := (2 : Int32)) dL_law_1885 (by decide) ?_
  refine r_iadd (pc := 1886) C dL_law_1886 ?_
  refine r_topi (fun x13 ex13 => ?_)
  have h := h x13 ex13
  obtain ⟨i14, h⟩ := h
  refine r_scLd (pc := 1887) C E i14 dL_law_1887 ?_
  refine r_topi (fun x15 ex15 => ?_)
  have h := h x15 ex15
  obtain ⟨o_v2, h⟩ := h
  obtain ⟨hk, hk2, h⟩ := h
  refine r_callVi0 (pc := 1888) C (rest := []) (a := v2) o_v2 [.int x12, .int x15] yV_X11_fit g_1759 (c_X11_fit h) dL_law_1888 rfl rfl (Nat.le_of_ble_eq_true rfl) ⟨by decide, by decide⟩ ⟨hk, hk2⟩ ⟨rfl, rfl⟩ (fun x18 S16 h g17 => ?_)
  have h := h g17
  have o_v1 := gr_ob g17 o_v1
  have o_v2 := gr_ob g17 o_v2
  refine r_pop (pc := 1891) C dL_law_1891 rfl ?_
  refine r_goto (pc := 1892) C (tgt := 2341) dL_law_1892 (by decide) ?_
  exact r_sub [0, 1, 2, 3, 4] rfl (T_L_law_2341 C E ht hn hX23 h)
def P_L_law_1895 (scL : Nat) (scx : Nat → Int32) (Q : Int32 → HS → Prop) (X23 : Nat → Nat → Nat → Int32 → Nat → Nat → HS → Prop) (v1 : Nat) (v2 : Nat) (v3 : Nat) (v4 : Int32) (kk : Nat) (nn : Nat) (S : HS) : Prop := ob S v1 9 ∧ (kk ≤ rm_L_law.cells ∧ nn ≤ rm_L_law.slots ∧ (P_X9_lies v1 (fun x3 S1 => Gr S S1 → (ob S1 v2 11 ∧ (kk ≤ rm_L_law.cells ∧ nn ≤ rm_L_law.slots ∧ (P_X11_lies v2 (fun x6 S4 => Gr S1 S4 → (P_L_law_2341 scL scx Q X23 v1 v2 v3 v4 kk nn S4)) S1)))) S))
set_option maxRecDepth 20000 in
set_option maxHeartbeats 4000000 in
theorem T_L_law_1895 {X : CX} {Q : Int32 → HS → Prop} {scb scL : Nat} {scx : Nat → Int32} (C : Cx X cL_law RL 7 rm_L_law) (E : LE X scb scL scx Q) (ht : LD X) (hn : True) {X23 : Nat → Nat → Nat → Int32 → Nat → Nat → HS → Prop} (hX23 : ∀ (v1 : Nat) (v2 : Nat) (v3 : Nat) (v4 : Int32) (kk : Nat) (nn : Nat) (S : HS), X23 v1 v2 v3 v4 kk nn S → WS X 7 kk nn 23 [(0, .ref scb), (1, .ref v1), (2, .ref v2), (3, .ref v3), (4, .int v4)] [] S) {v1 : Nat} {v2 : Nat} {v3 : Nat} {v4 : Int32} {kk : Nat} {nn : Nat} {S : HS} (h : P_L_law_1895 scL scx Q X23 v1 v2 v3 v4 kk nn S) : WS X 7 kk nn 1895 [(0, .ref scb), (1, .ref v1), (2, .ref v2), (3, .ref v3), (4, .int v4)] [] S := by
  refine r_aload_n (pc := 1895) C dL_law_1895 1 rfl ?_
  obtain ⟨o_v1, h⟩ := h
  obtain ⟨hk, hk2, h⟩ := h
  refine r_callVi0 (pc := 1896) C (rest := []) (a := v1) o_v1 [] yV_X9_lies g_957 (c_X9_lies h) dL_law_1896 rfl rfl (Nat.le_of_ble_eq_true rfl) ⟨by decide, by decide⟩ ⟨hk, hk2⟩ ⟨rfl, rfl⟩ (fun x3 S1 h g2 => ?_)
  have h := h g2
  have o_v1 := gr_ob g2 o_v1
  refine r_pop (pc := 1899) C dL_law_1899 rfl ?_
  refine r_aload_n (pc := 1900) C dL_law_1900 2 rfl ?_
  obtain ⟨o_v2, h⟩ := h
  obtain ⟨hk, hk2, h⟩ := h
  refine r_callVi0 (pc := 1901) C (rest := []) (a := v2) o_v2 [] yV_X11_lies g_1763 (c_X11_lies h) dL_law_1901 rfl rfl (Nat.le_of_ble_eq_true rfl) ⟨by decide, by decide⟩ ⟨hk, hk2⟩ ⟨rfl, rfl⟩ (fun x6 S4 h g5 => ?_)
  have h := h g5
  have o_v1 := gr_ob g5 o_v1
  have o_v2 := gr_ob g5 o_v2
  refine r_pop (pc := 1904) C dL_law_1904 rfl ?_
  refine r_goto (pc := 1905) C (tgt := 2341) dL_law_1905 (by decide) ?_
  exact r_sub [0, 1, 2, 3, 4] rfl (T_L_law_2341 C E ht hn hX23 h)
def P_L_law_1908 (scL : Nat) (scx : Nat → Int32) (Q : Int32 → HS → Prop) (X23 : Nat → Nat → Nat → Int32 → Nat → Nat → HS → Prop) (v1 : Nat) (v2 : Nat) (v3 : Nat) (v4 : Int32) (kk : Nat) (nn : Nat) (S : HS) : Prop := ∀ x1 : Int32, x1 = v4 + (1 : Int32) → (vp_in x1 scL ∧ ∀ x3 : Int32, x3 = scx x1.toNatClampNeg → (∀ x4 : Int32, x4 = v4 + (2 : Int32) → (vp_in x4 scL ∧ ∀ x6 : Int32, x6 = scx x4.toNatClampNeg → (∀ x7 : Int32, x7 = v4 + (3 : Int32) → (vp_in x7 scL ∧ ∀ x9 : Int32, x9 = scx x7.toNatClampNeg → (∀ x10 : Int32, x10 = v4 + (4 : Int32) → (vp_in x10 scL ∧ ∀ x12 : Int32, x12 = scx x10.toNatClampNeg → (ob S v1 9 ∧ (kk ≤ rm_L_law.cells ∧ nn ≤ rm_L_law.slots ∧ (P_X9_day v1 x3 x6 x9 x12 (fun x15 S13 => Gr S S13 → (∀ x16 : Int32, x16 = v4 + (1 : Int32) → (vp_in x16 scL ∧ ∀ x18 : Int32, x18 = scx x16.toNatClampNeg → (∀ x19 : Int32, x19 = v4 + (2 : Int32) → (vp_in x19 scL ∧ ∀ x21 : Int32, x21 = scx x19.toNatClampNeg → (∀ x22 : Int32, x22 = v4 + (3 : Int32) → (vp_in x22 scL ∧ ∀ x24 : Int32, x24 = scx x22.toNatClampNeg → (∀ x25 : Int32, x25 = v4 + (4 : Int32) → (vp_in x25 scL ∧ ∀ x27 : Int32, x27 = scx x25.toNatClampNeg → (ob S13 v2 11 ∧ (kk ≤ rm_L_law.cells ∧ nn ≤ rm_L_law.slots ∧ (P_X11_day v2 x18 x21 x24 x27 (fun x30 S28 => Gr S13 S28 → (P_L_law_2341 scL scx Q X23 v1 v2 v3 v4 kk nn S28)) S13)))))))))))) S))))))))))
set_option maxRecDepth 20000 in
set_option maxHeartbeats 4000000 in
theorem T_L_law_1908 {X : CX} {Q : Int32 → HS → Prop} {scb scL : Nat} {scx : Nat → Int32} (C : Cx X cL_law RL 7 rm_L_law) (E : LE X scb scL scx Q) (ht : LD X) (hn : True) {X23 : Nat → Nat → Nat → Int32 → Nat → Nat → HS → Prop} (hX23 : ∀ (v1 : Nat) (v2 : Nat) (v3 : Nat) (v4 : Int32) (kk : Nat) (nn : Nat) (S : HS), X23 v1 v2 v3 v4 kk nn S → WS X 7 kk nn 23 [(0, .ref scb), (1, .ref v1), (2, .ref v2), (3, .ref v3), (4, .int v4)] [] S) {v1 : Nat} {v2 : Nat} {v3 : Nat} {v4 : Int32} {kk : Nat} {nn : Nat} {S : HS} (h : P_L_law_1908 scL scx Q X23 v1 v2 v3 v4 kk nn S) : WS X 7 kk nn 1908 [(0, .ref scb), (1, .ref v1), (2, .ref v2), (3, .ref v3), (4, .int v4)] [] S := by
  refine r_aload_n (pc := 1908) C dL_law_1908 1 rfl ?_
  refine r_aload_n (pc := 1909) C dL_law_1909 0 rfl ?_
  refine r_iload (pc := 1910) C dL_law_1910 4 rfl ?_
  refine r_iconst (pc := 1912) C (v := (1 : Int32)) dL_law_1912 (by decide) ?_
  refine r_iadd (pc := 1913) C dL_law_1913 ?_
  refine r_topi (fun x1 ex1 => ?_)
  have h := h x1 ex1
  obtain ⟨i2, h⟩ := h
  refine r_scLd (pc := 1914) C E i2 dL_law_1914 ?_
  refine r_topi (fun x3 ex3 => ?_)
  have h := h x3 ex3
  refine r_aload_n (pc := 1915) C dL_law_1915 0 rfl ?_
  refine r_iload (pc := 1916) C dL_law_1916 4 rfl ?_
  refine r_iconst (pc := 1918) C (v := (2 : Int32)) dL_law_1918 (by decide) ?_
  refine r_iadd (pc := 1919) C dL_law_1919 ?_
  refine r_topi (fun x4 ex4 => ?_)
  have h := h x4 ex4
  obtain ⟨i5, h⟩ := h
  refine r_scLd (pc := 1920) C E i5 dL_law_1920 ?_
  refine r_topi (fun x6 ex6 => ?_)
  have h := h x6 ex6
  refine r_aload_n (pc := 1921) C dL_law_1921 0 rfl ?_
  refine r_iload (pc := 1922) C dL_law_1922 4 rfl ?_
  refine r_iconst (pc := 1924) C (v := (3 : Int32)) dL_law_1924 (by decide) ?_
  refine r_iadd (pc := 1925) C dL_law_1925 ?_
  refine r_topi (fun x7 ex7 => ?_)
  have h := h x7 ex7
  obtain ⟨i8, h⟩ := h
  refine r_scLd (pc := 1926) C E i8 dL_law_1926 ?_
  refine r_topi (fun x9 ex9 => ?_)
  have h := h x9 ex9
  refine r_aload_n (pc := 1927) C dL_law_1927 0 rfl ?_
  refine r_iload (pc := 1928) C dL_law_1928 4 rfl ?_
  refine r_iconst (pc := 1930) C (v := (4 : Int32)) dL_law_1930 (by decide) ?_
  refine r_iadd (pc := 1931) C dL_law_1931 ?_
  refine r_topi (fun x10 ex10 => ?_)
  have h := h x10 ex10
  obtain ⟨i11, h⟩ := h
  refine r_scLd (pc := 1932) C E i11 dL_law_1932 ?_
  refine r_topi (fun x12 ex12 => ?_)
  have h := h x12 ex12
  obtain ⟨o_v1, h⟩ := h
  obtain ⟨hk, hk2, h⟩ := h
  refine r_callVi0 (pc := 1933) C (rest := []) (a := v1) o_v1 [.int x3, .int x6, .int x9, .int x12] yV_X9_day g_962 (c_X9_day h) dL_law_1933 rfl rfl (Nat.le_of_ble_eq_true rfl) ⟨by decide, by decide⟩ ⟨hk, hk2⟩ ⟨rfl, rfl⟩ (fun x15 S13 h g14 => ?_)
  have h := h g14
  have o_v1 := gr_ob g14 o_v1
  refine r_pop (pc := 1936) C dL_law_1936 rfl ?_
  refine r_aload_n (pc := 1937) C dL_law_1937 2 rfl ?_
  refine r_aload_n (pc := 1938) C dL_law_1938 0 rfl ?_
  refine r_iload (pc := 1939) C dL_law_1939 4 rfl ?_
  refine r_iconst (pc := 1941) C (v := (1 : Int32)) dL_law_1941 (by decide) ?_
  refine r_iadd (pc := 1942) C dL_law_1942 ?_
  refine r_topi (fun x16 ex16 => ?_)
  have h := h x16 ex16
  obtain ⟨i17, h⟩ := h
  refine r_scLd (pc := 1943) C E i17 dL_law_1943 ?_
  refine r_topi (fun x18 ex18 => ?_)
  have h := h x18 ex18
  refine r_aload_n (pc := 1944) C dL_law_1944 0 rfl ?_
  refine r_iload (pc := 1945) C dL_law_1945 4 rfl ?_
  refine r_iconst (pc := 1947) C (v := (2 : Int32)) dL_law_1947 (by decide) ?_
  refine r_iadd (pc := 1948) C dL_law_1948 ?_
  refine r_topi (fun x19 ex19 => ?_)
  have h := h x19 ex19
  obtain ⟨i20, h⟩ := h
  refine r_scLd (pc := 1949) C E i20 dL_law_1949 ?_
  refine r_topi (fun x21 ex21 => ?_)
  have h := h x21 ex21
  refine r_aload_n (pc := 1950) C dL_law_1950 0 rfl ?_
  refine r_iload (pc := 1951) C dL_law_1951 4 rfl ?_
  refine r_iconst (pc := 1953) C (v := (3 : Int32)) dL_law_1953 (by decide) ?_
  refine r_iadd (pc := 1954) C dL_law_1954 ?_
  refine r_topi (fun x22 ex22 => ?_)
  have h := h x22 ex22
  obtain ⟨i23, h⟩ := h
  refine r_scLd (pc := 1955) C E i23 dL_law_1955 ?_
  refine r_topi (fun x24 ex24 => ?_)
  have h := h x24 ex24
  refine r_aload_n (pc := 1956) C dL_law_1956 0 rfl ?_
  refine r_iload (pc := 1957) C dL_law_1957 4 rfl ?_
  refine r_iconst (pc := 1959) C (v := (4 : Int32)) dL_law_1959 (by decide) ?_
  refine r_iadd (pc := 1960) C dL_law_1960 ?_
  refine r_topi (fun x25 ex25 => ?_)
  have h := h x25 ex25
  obtain ⟨i26, h⟩ := h
  refine r_scLd (pc := 1961) C E i26 dL_law_1961 ?_
  refine r_topi (fun x27 ex27 => ?_)
  have h := h x27 ex27
  obtain ⟨o_v2, h⟩ := h
  obtain ⟨hk, hk2, h⟩ := h
  refine r_callVi0 (pc := 1962) C (rest := []) (a := v2) o_v2 [.int x18, .int x21, .int x24, .int x27] yV_X11_day g_1767 (c_X11_day h) dL_law_1962 rfl rfl (Nat.le_of_ble_eq_true rfl) ⟨by decide, by decide⟩ ⟨hk, hk2⟩ ⟨rfl, rfl⟩ (fun x30 S28 h g29 => ?_)
  have h := h g29
  have o_v1 := gr_ob g29 o_v1
  have o_v2 := gr_ob g29 o_v2
  refine r_pop (pc := 1965) C dL_law_1965 rfl ?_
  refine r_goto (pc := 1966) C (tgt := 2341) dL_law_1966 (by decide) ?_
  exact r_sub [0, 1, 2, 3, 4] rfl (T_L_law_2341 C E ht hn hX23 h)
def P_L_law_1969 (scL : Nat) (scx : Nat → Int32) (Q : Int32 → HS → Prop) (X23 : Nat → Nat → Nat → Int32 → Nat → Nat → HS → Prop) (v1 : Nat) (v2 : Nat) (v3 : Nat) (v4 : Int32) (kk : Nat) (nn : Nat) (S : HS) : Prop := ∀ x1 : Int32, x1 = v4 + (1 : Int32) → (vp_in x1 scL ∧ ∀ x3 : Int32, x3 = scx x1.toNatClampNeg → (∀ x4 : Int32, x4 = v4 + (2 : Int32) → (vp_in x4 scL ∧ ∀ x6 : Int32, x6 = scx x4.toNatClampNeg → (∀ x7 : Int32, x7 = v4 + (3 : Int32) → (vp_in x7 scL ∧ ∀ x9 : Int32, x9 = scx x7.toNatClampNeg → (ob S v1 9 ∧ (kk ≤ rm_L_law.cells ∧ nn ≤ rm_L_law.slots ∧ (P_X9_go v1 x3 x6 x9 (fun x12 S10 => Gr S S10 → (∀ x13 : Int32, x13 = v4 + (1 : Int32) → (vp_in x13 scL ∧ ∀ x15 : Int32, x15 = scx x13.toNatClampNeg → (∀ x16 : Int32, x16 = v4 + (2 : Int32) → (vp_in x16 scL ∧ ∀ x18 : Int32, x18 = scx x16.toNatClampNeg → (∀ x19 : Int32, x19 = v4 + (3 : Int32) → (vp_in x19 scL ∧ ∀ x21 : Int32, x21 = scx x19.toNatClampNeg → (ob S10 v2 11 ∧ (kk ≤ rm_L_law.cells ∧ nn ≤ rm_L_law.slots ∧ (P_X11_go v2 x15 x18 x21 (fun x24 S22 => Gr S10 S22 → (P_L_law_2341 scL scx Q X23 v1 v2 v3 v4 kk nn S22)) S10)))))))))) S))))))))
set_option maxRecDepth 20000 in
set_option maxHeartbeats 4000000 in
theorem T_L_law_1969 {X : CX} {Q : Int32 → HS → Prop} {scb scL : Nat} {scx : Nat → Int32} (C : Cx X cL_law RL 7 rm_L_law) (E : LE X scb scL scx Q) (ht : LD X) (hn : True) {X23 : Nat → Nat → Nat → Int32 → Nat → Nat → HS → Prop} (hX23 : ∀ (v1 : Nat) (v2 : Nat) (v3 : Nat) (v4 : Int32) (kk : Nat) (nn : Nat) (S : HS), X23 v1 v2 v3 v4 kk nn S → WS X 7 kk nn 23 [(0, .ref scb), (1, .ref v1), (2, .ref v2), (3, .ref v3), (4, .int v4)] [] S) {v1 : Nat} {v2 : Nat} {v3 : Nat} {v4 : Int32} {kk : Nat} {nn : Nat} {S : HS} (h : P_L_law_1969 scL scx Q X23 v1 v2 v3 v4 kk nn S) : WS X 7 kk nn 1969 [(0, .ref scb), (1, .ref v1), (2, .ref v2), (3, .ref v3), (4, .int v4)] [] S := by
  refine r_aload_n (pc := 1969) C dL_law_1969 1 rfl ?_
  refine r_aload_n (pc := 1970) C dL_law_1970 0 rfl ?_
  refine r_iload (pc := 1971) C dL_law_1971 4 rfl ?_
  refine r_iconst (pc := 1973) C (v := (1 : Int32)) dL_law_1973 (by decide) ?_
  refine r_iadd (pc := 1974) C dL_law_1974 ?_
  refine r_topi (fun x1 ex1 => ?_)
  have h := h x1 ex1
  obtain ⟨i2, h⟩ := h
  refine r_scLd (pc := 1975) C E i2 dL_law_1975 ?_
  refine r_topi (fun x3 ex3 => ?_)
  have h := h x3 ex3
  refine r_aload_n (pc := 1976) C dL_law_1976 0 rfl ?_
  refine r_iload (pc := 1977) C dL_law_1977 4 rfl ?_
  refine r_iconst (pc := 1979) C (v := (2 : Int32)) dL_law_1979 (by decide) ?_
  refine r_iadd (pc := 1980) C dL_law_1980 ?_
  refine r_topi (fun x4 ex4 => ?_)
  have h := h x4 ex4
  obtain ⟨i5, h⟩ := h
  refine r_scLd (pc := 1981) C E i5 dL_law_1981 ?_
  refine r_topi (fun x6 ex6 => ?_)
  have h := h x6 ex6
  refine r_aload_n (pc := 1982) C dL_law_1982 0 rfl ?_
  refine r_iload (pc := 1983) C dL_law_1983 4 rfl ?_
  refine r_iconst (pc := 1985) C (v := (3 : Int32)) dL_law_1985 (by decide) ?_
  refine r_iadd (pc := 1986) C dL_law_1986 ?_
  refine r_topi (fun x7 ex7 => ?_)
  have h := h x7 ex7
  obtain ⟨i8, h⟩ := h
  refine r_scLd (pc := 1987) C E i8 dL_law_1987 ?_
  refine r_topi (fun x9 ex9 => ?_)
  have h := h x9 ex9
  obtain ⟨o_v1, h⟩ := h
  obtain ⟨hk, hk2, h⟩ := h
  refine r_callVi0 (pc := 1988) C (rest := []) (a := v1) o_v1 [.int x3, .int x6, .int x9] yV_X9_go g_977 (c_X9_go h) dL_law_1988 rfl rfl (Nat.le_of_ble_eq_true rfl) ⟨by decide, by decide⟩ ⟨hk, hk2⟩ ⟨rfl, rfl⟩ (fun x12 S10 h g11 => ?_)
  have h := h g11
  have o_v1 := gr_ob g11 o_v1
  refine r_pop (pc := 1991) C dL_law_1991 rfl ?_
  refine r_aload_n (pc := 1992) C dL_law_1992 2 rfl ?_
  refine r_aload_n (pc := 1993) C dL_law_1993 0 rfl ?_
  refine r_iload (pc := 1994) C dL_law_1994 4 rfl ?_
  refine r_iconst (pc := 1996) C (v := (1 : Int32)) dL_law_1996 (by decide) ?_
  refine r_iadd (pc := 1997) C dL_law_1997 ?_
  refine r_topi (fun x13 ex13 => ?_)
  have h := h x13 ex13
  obtain ⟨i14, h⟩ := h
  refine r_scLd (pc := 1998) C E i14 dL_law_1998 ?_
  refine r_topi (fun x15 ex15 => ?_)
  have h := h x15 ex15
  refine r_aload_n (pc := 1999) C dL_law_1999 0 rfl ?_
  refine r_iload (pc := 2000) C dL_law_2000 4 rfl ?_
  refine r_iconst (pc := 2002) C (v := (2 : Int32)) dL_law_2002 (by decide) ?_
  refine r_iadd (pc := 2003) C dL_law_2003 ?_
  refine r_topi (fun x16 ex16 => ?_)
  have h := h x16 ex16
  obtain ⟨i17, h⟩ := h
  refine r_scLd (pc := 2004) C E i17 dL_law_2004 ?_
  refine r_topi (fun x18 ex18 => ?_)
  have h := h x18 ex18
  refine r_aload_n (pc := 2005) C dL_law_2005 0 rfl ?_
  refine r_iload (pc := 2006) C dL_law_2006 4 rfl ?_
  refine r_iconst (pc := 2008) C (v := (3 : Int32)) dL_law_2008 (by decide) ?_
  refine r_iadd (pc := 2009) C dL_law_2009 ?_
  refine r_topi (fun x19 ex19 => ?_)
  have h := h x19 ex19
  obtain ⟨i20, h⟩ := h
  refine r_scLd (pc := 2010) C E i20 dL_law_2010 ?_
  refine r_topi (fun x21 ex21 => ?_)
  have h := h x21 ex21
  obtain ⟨o_v2, h⟩ := h
  obtain ⟨hk, hk2, h⟩ := h
  refine r_callVi0 (pc := 2011) C (rest := []) (a := v2) o_v2 [.int x15, .int x18, .int x21] yV_X11_go g_1775 (c_X11_go h) dL_law_2011 rfl rfl (Nat.le_of_ble_eq_true rfl) ⟨by decide, by decide⟩ ⟨hk, hk2⟩ ⟨rfl, rfl⟩ (fun x24 S22 h g23 => ?_)
  have h := h g23
  have o_v1 := gr_ob g23 o_v1
  have o_v2 := gr_ob g23 o_v2
  refine r_pop (pc := 2014) C dL_law_2014 rfl ?_
  refine r_goto (pc := 2015) C (tgt := 2341) dL_law_2015 (by decide) ?_
  exact r_sub [0, 1, 2, 3, 4] rfl (T_L_law_2341 C E ht hn hX23 h)
def P_L_law_2018 (scL : Nat) (scx : Nat → Int32) (Q : Int32 → HS → Prop) (X23 : Nat → Nat → Nat → Int32 → Nat → Nat → HS → Prop) (v1 : Nat) (v2 : Nat) (v3 : Nat) (v4 : Int32) (kk : Nat) (nn : Nat) (S : HS) : Prop := ∀ x1 : Int32, x1 = v4 + (1 : Int32) → (vp_in x1 scL ∧ ∀ x3 : Int32, x3 = scx x1.toNatClampNeg → (ob S v1 9 ∧ (kk ≤ rm_L_law.cells ∧ nn ≤ rm_L_law.slots ∧ (P_X9_stay v1 x3 (fun x6 S4 => Gr S S4 → bl x6 → (∀ x7 : Int32, x7 = v4 + (1 : Int32) → (vp_in x7 scL ∧ ∀ x9 : Int32, x9 = scx x7.toNatClampNeg → (ob S4 v2 11 ∧ (kk ≤ rm_L_law.cells ∧ nn ≤ rm_L_law.slots ∧ (P_X11_stay v2 x9 (fun x12 S10 => Gr S4 S10 → bl x12 → (P_L_law_2341 scL scx Q X23 v1 v2 v3 v4 kk nn S10)) S4)))))) S))))
set_option maxRecDepth 20000 in
set_option maxHeartbeats 4000000 in
theorem T_L_law_2018 {X : CX} {Q : Int32 → HS → Prop} {scb scL : Nat} {scx : Nat → Int32} (C : Cx X cL_law RL 7 rm_L_law) (E : LE X scb scL scx Q) (ht : LD X) (hn : True) {X23 : Nat → Nat → Nat → Int32 → Nat → Nat → HS → Prop} (hX23 : ∀ (v1 : Nat) (v2 : Nat) (v3 : Nat) (v4 : Int32) (kk : Nat) (nn : Nat) (S : HS), X23 v1 v2 v3 v4 kk nn S → WS X 7 kk nn 23 [(0, .ref scb), (1, .ref v1), (2, .ref v2), (3, .ref v3), (4, .int v4)] [] S) {v1 : Nat} {v2 : Nat} {v3 : Nat} {v4 : Int32} {kk : Nat} {nn : Nat} {S : HS} (h : P_L_law_2018 scL scx Q X23 v1 v2 v3 v4 kk nn S) : WS X 7 kk nn 2018 [(0, .ref scb), (1, .ref v1), (2, .ref v2), (3, .ref v3), (4, .int v4)] [] S := by
  refine r_aload_n (pc := 2018) C dL_law_2018 1 rfl ?_
  refine r_aload_n (pc := 2019) C dL_law_2019 0 rfl ?_
  refine r_iload (pc := 2020) C dL_law_2020 4 rfl ?_
  refine r_iconst (pc := 2022) C (v := (1 : Int32)) dL_law_2022 (by decide) ?_
  refine r_iadd (pc := 2023) C dL_law_2023 ?_
  refine r_topi (fun x1 ex1 => ?_)
  have h := h x1 ex1
  obtain ⟨i2, h⟩ := h
  refine r_scLd (pc := 2024) C E i2 dL_law_2024 ?_
  refine r_topi (fun x3 ex3 => ?_)
  have h := h x3 ex3
  obtain ⟨o_v1, h⟩ := h
  obtain ⟨hk, hk2, h⟩ := h
  refine r_callVi0 (pc := 2025) C (rest := []) (a := v1) o_v1 [.int x3] yV_X9_stay g_1004 (c_X9_stay h) dL_law_2025 rfl rfl (Nat.le_of_ble_eq_true rfl) ⟨by decide, by decide⟩ ⟨hk, hk2⟩ ⟨rfl, rfl⟩ (fun x6 S4 h g5 => ?_)
  have bx6 := h.1
  have h := h.2 g5 bx6
  have o_v1 := gr_ob g5 o_v1
  refine r_pop (pc := 2028) C dL_law_2028 rfl ?_
  refine r_aload_n (pc := 2029) C dL_law_2029 2 rfl ?_
  refine r_aload_n (pc := 2030) C dL_law_2030 0 rfl ?_
  refine r_iload (pc := 2031) C dL_law_2031 4 rfl ?_
  refine r_iconst (pc := 2033) C (v := (1 : Int32)) dL_law_2033 (by decide) ?_
  refine r_iadd (pc := 2034) C dL_law_2034 ?_
  refine r_topi (fun x7 ex7 => ?_)
  have h := h x7 ex7
  obtain ⟨i8, h⟩ := h
  refine r_scLd (pc := 2035) C E i8 dL_law_2035 ?_
  refine r_topi (fun x9 ex9 => ?_)
  have h := h x9 ex9
  obtain ⟨o_v2, h⟩ := h
  obtain ⟨hk, hk2, h⟩ := h
  refine r_callVi0 (pc := 2036) C (rest := []) (a := v2) o_v2 [.int x9] yV_X11_stay g_1791 (c_X11_stay h) dL_law_2036 rfl rfl (Nat.le_of_ble_eq_true rfl) ⟨by decide, by decide⟩ ⟨hk, hk2⟩ ⟨rfl, rfl⟩ (fun x12 S10 h g11 => ?_)
  have bx12 := h.1
  have h := h.2 g11 bx12
  have o_v1 := gr_ob g11 o_v1
  have o_v2 := gr_ob g11 o_v2
  refine r_pop (pc := 2039) C dL_law_2039 rfl ?_
  refine r_goto (pc := 2040) C (tgt := 2341) dL_law_2040 (by decide) ?_
  exact r_sub [0, 1, 2, 3, 4] rfl (T_L_law_2341 C E ht hn hX23 h)
def P_L_law_2089 (scL : Nat) (scx : Nat → Int32) (Q : Int32 → HS → Prop) (X23 : Nat → Nat → Nat → Int32 → Nat → Nat → HS → Prop) (v1 : Nat) (v2 : Nat) (v3 : Nat) (v4 : Int32) (s0 : Nat) (s1 : Int32) (s2 : Int32) (kk : Nat) (nn : Nat) (S : HS) : Prop := ob S s0 11 ∧ (kk ≤ rm_L_law.cells ∧ nn ≤ rm_L_law.slots ∧ (P_X11_got s0 s1 s2 (fun x3 S1 => Gr S S1 → (P_L_law_2341 scL scx Q X23 v1 v2 v3 v4 kk nn S1)) S))
set_option maxRecDepth 20000 in
set_option maxHeartbeats 4000000 in
theorem T_L_law_2089 {X : CX} {Q : Int32 → HS → Prop} {scb scL : Nat} {scx : Nat → Int32} (C : Cx X cL_law RL 7 rm_L_law) (E : LE X scb scL scx Q) (ht : LD X) (hn : True) {X23 : Nat → Nat → Nat → Int32 → Nat → Nat → HS → Prop} (hX23 : ∀ (v1 : Nat) (v2 : Nat) (v3 : Nat) (v4 : Int32) (kk : Nat) (nn : Nat) (S : HS), X23 v1 v2 v3 v4 kk nn S → WS X 7 kk nn 23 [(0, .ref scb), (1, .ref v1), (2, .ref v2), (3, .ref v3), (4, .int v4)] [] S) {v1 : Nat} {v2 : Nat} {v3 : Nat} {v4 : Int32} {s0 : Nat} {s1 : Int32} {s2 : Int32} {kk : Nat} {nn : Nat} {S : HS} (h : P_L_law_2089 scL scx Q X23 v1 v2 v3 v4 s0 s1 s2 kk nn S) : WS X 7 kk nn 2089 [(0, .ref scb), (1, .ref v1), (2, .ref v2), (3, .ref v3), (4, .int v4)] [.int s2, .int s1, .ref s0] S := by
  obtain ⟨o_s0, h⟩ := h
  obtain ⟨hk, hk2, h⟩ := h
  refine r_callVl0 (pc := 2089) C (rest := []) (a := s0) o_s0 [.int s1, .int s2] yV_X11_got g_1804 (c_X11_got h) dL_law_2089 rfl rfl (Nat.le_of_ble_eq_true rfl) ⟨by decide, by decide⟩ ⟨hk, hk2⟩ ⟨rfl, rfl⟩ (fun x3 S1 h g2 => ?_)
  have h := h g2
  have o_s0 := gr_ob g2 o_s0
  refine r_pop2 (pc := 2092) C dL_law_2092 rfl ?_
  refine r_goto (pc := 2093) C (tgt := 2341) dL_law_2093 (by decide) ?_
  exact r_sub [0, 1, 2, 3, 4] rfl (T_L_law_2341 C E ht hn hX23 h)
def P_L_law_2064 (scL : Nat) (scx : Nat → Int32) (Q : Int32 → HS → Prop) (X23 : Nat → Nat → Nat → Int32 → Nat → Nat → HS → Prop) (v1 : Nat) (v2 : Nat) (v3 : Nat) (v4 : Int32) (s0 : Nat) (s1 : Int32) (s2 : Int32) (kk : Nat) (nn : Nat) (S : HS) : Prop := ob S s0 9 ∧ (kk ≤ rm_L_law.cells ∧ nn ≤ rm_L_law.slots ∧ (P_X9_got s0 s1 s2 (fun x3 S1 => Gr S S1 → (∀ x4 : Int32, x4 = v4 + (1 : Int32) → (vp_in x4 scL ∧ ∀ x6 : Int32, x6 = scx x4.toNatClampNeg → (∀ x7 : Int32, x7 = v4 + (2 : Int32) → (vp_in x7 scL ∧ ∀ x9 : Int32, x9 = scx x7.toNatClampNeg → (((x9 = 0) → (P_L_law_2089 scL scx Q X23 v1 v2 v3 v4 v2 x6 (0 : Int32) kk nn S1)) ∧ ((¬ x9 = 0) → (P_L_law_2089 scL scx Q X23 v1 v2 v3 v4 v2 x6 (1 : Int32) kk nn S1)))))))) S))
set_option maxRecDepth 20000 in
set_option maxHeartbeats 4000000 in
theorem T_L_law_2064 {X : CX} {Q : Int32 → HS → Prop} {scb scL : Nat} {scx : Nat → Int32} (C : Cx X cL_law RL 7 rm_L_law) (E : LE X scb scL scx Q) (ht : LD X) (hn : True) {X23 : Nat → Nat → Nat → Int32 → Nat → Nat → HS → Prop} (hX23 : ∀ (v1 : Nat) (v2 : Nat) (v3 : Nat) (v4 : Int32) (kk : Nat) (nn : Nat) (S : HS), X23 v1 v2 v3 v4 kk nn S → WS X 7 kk nn 23 [(0, .ref scb), (1, .ref v1), (2, .ref v2), (3, .ref v3), (4, .int v4)] [] S) {v1 : Nat} {v2 : Nat} {v3 : Nat} {v4 : Int32} {s0 : Nat} {s1 : Int32} {s2 : Int32} {kk : Nat} {nn : Nat} {S : HS} (h : P_L_law_2064 scL scx Q X23 v1 v2 v3 v4 s0 s1 s2 kk nn S) : WS X 7 kk nn 2064 [(0, .ref scb), (1, .ref v1), (2, .ref v2), (3, .ref v3), (4, .int v4)] [.int s2, .int s1, .ref s0] S := by
  obtain ⟨o_s0, h⟩ := h
  obtain ⟨hk, hk2, h⟩ := h
  refine r_callVl0 (pc := 2064) C (rest := []) (a := s0) o_s0 [.int s1, .int s2] yV_X9_got g_1014 (c_X9_got h) dL_law_2064 rfl rfl (Nat.le_of_ble_eq_true rfl) ⟨by decide, by decide⟩ ⟨hk, hk2⟩ ⟨rfl, rfl⟩ (fun x3 S1 h g2 => ?_)
  have h := h g2
  have o_s0 := gr_ob g2 o_s0
  refine r_pop2 (pc := 2067) C dL_law_2067 rfl ?_
  refine r_aload_n (pc := 2068) C dL_law_2068 2 rfl ?_
  refine r_aload_n (pc := 2069) C dL_law_2069 0 rfl ?_
  refine r_iload (pc := 2070) C dL_law_2070 4 rfl ?_
  refine r_iconst (pc := 2072) C (v := (1 : Int32)) dL_law_2072 (by decide) ?_
  refine r_iadd (pc := 2073) C dL_law_2073 ?_
  refine r_topi (fun x4 ex4 => ?_)
  have h := h x4 ex4
  obtain ⟨i5, h⟩ := h
  refine r_scLd (pc := 2074) C E i5 dL_law_2074 ?_
  refine r_topi (fun x6 ex6 => ?_)
  have h := h x6 ex6
  refine r_aload_n (pc := 2075) C dL_law_2075 0 rfl ?_
  refine r_iload (pc := 2076) C dL_law_2076 4 rfl ?_
  refine r_iconst (pc := 2078) C (v := (2 : Int32)) dL_law_2078 (by decide) ?_
  refine r_iadd (pc := 2079) C dL_law_2079 ?_
  refine r_topi (fun x7 ex7 => ?_)
  have h := h x7 ex7
  obtain ⟨i8, h⟩ := h
  refine r_scLd (pc := 2080) C E i8 dL_law_2080 ?_
  refine r_topi (fun x9 ex9 => ?_)
  have h := h x9 ex9
  refine r_if_eq (pc := 2081) C (tgt := 2088) dL_law_2081 (by decide) (fun c10 => ?_) (fun c10 => ?_)
  · have h := h.1 c10
    refine r_iconst (pc := 2088) C (v := (0 : Int32)) dL_law_2088 (by decide) ?_
    exact r_sub [0, 1, 2, 3, 4] rfl (T_L_law_2089 C E ht hn hX23 h)
  · have h := h.2 c10
    refine r_iconst (pc := 2084) C (v := (1 : Int32)) dL_law_2084 (by decide) ?_
    refine r_goto (pc := 2085) C (tgt := 2089) dL_law_2085 (by decide) ?_
    exact r_sub [0, 1, 2, 3, 4] rfl (T_L_law_2089 C E ht hn hX23 h)
def P_L_law_2043 (scL : Nat) (scx : Nat → Int32) (Q : Int32 → HS → Prop) (X23 : Nat → Nat → Nat → Int32 → Nat → Nat → HS → Prop) (v1 : Nat) (v2 : Nat) (v3 : Nat) (v4 : Int32) (kk : Nat) (nn : Nat) (S : HS) : Prop := ∀ x1 : Int32, x1 = v4 + (1 : Int32) → (vp_in x1 scL ∧ ∀ x3 : Int32, x3 = scx x1.toNatClampNeg → (∀ x4 : Int32, x4 = v4 + (2 : Int32) → (vp_in x4 scL ∧ ∀ x6 : Int32, x6 = scx x4.toNatClampNeg → (((x6 = 0) → (P_L_law_2064 scL scx Q X23 v1 v2 v3 v4 v1 x3 (0 : Int32) kk nn S)) ∧ ((¬ x6 = 0) → (P_L_law_2064 scL scx Q X23 v1 v2 v3 v4 v1 x3 (1 : Int32) kk nn S))))))
set_option maxRecDepth 20000 in
set_option maxHeartbeats 4000000 in
theorem T_L_law_2043 {X : CX} {Q : Int32 → HS → Prop} {scb scL : Nat} {scx : Nat → Int32} (C : Cx X cL_law RL 7 rm_L_law) (E : LE X scb scL scx Q) (ht : LD X) (hn : True) {X23 : Nat → Nat → Nat → Int32 → Nat → Nat → HS → Prop} (hX23 : ∀ (v1 : Nat) (v2 : Nat) (v3 : Nat) (v4 : Int32) (kk : Nat) (nn : Nat) (S : HS), X23 v1 v2 v3 v4 kk nn S → WS X 7 kk nn 23 [(0, .ref scb), (1, .ref v1), (2, .ref v2), (3, .ref v3), (4, .int v4)] [] S) {v1 : Nat} {v2 : Nat} {v3 : Nat} {v4 : Int32} {kk : Nat} {nn : Nat} {S : HS} (h : P_L_law_2043 scL scx Q X23 v1 v2 v3 v4 kk nn S) : WS X 7 kk nn 2043 [(0, .ref scb), (1, .ref v1), (2, .ref v2), (3, .ref v3), (4, .int v4)] [] S := by
  refine r_aload_n (pc := 2043) C dL_law_2043 1 rfl ?_
  refine r_aload_n (pc := 2044) C dL_law_2044 0 rfl ?_
  refine r_iload (pc := 2045) C dL_law_2045 4 rfl ?_
  refine r_iconst (pc := 2047) C (v := (1 : Int32)) dL_law_2047 (by decide) ?_
  refine r_iadd (pc := 2048) C dL_law_2048 ?_
  refine r_topi (fun x1 ex1 => ?_)
  have h := h x1 ex1
  obtain ⟨i2, h⟩ := h
  refine r_scLd (pc := 2049) C E i2 dL_law_2049 ?_
  refine r_topi (fun x3 ex3 => ?_)
  have h := h x3 ex3
  refine r_aload_n (pc := 2050) C dL_law_2050 0 rfl ?_
  refine r_iload (pc := 2051) C dL_law_2051 4 rfl ?_
  refine r_iconst (pc := 2053) C (v := (2 : Int32)) dL_law_2053 (by decide) ?_
  refine r_iadd (pc := 2054) C dL_law_2054 ?_
  refine r_topi (fun x4 ex4 => ?_)
  have h := h x4 ex4
  obtain ⟨i5, h⟩ := h
  refine r_scLd (pc := 2055) C E i5 dL_law_2055 ?_
  refine r_topi (fun x6 ex6 => ?_)
  have h := h x6 ex6
  refine r_if_eq (pc := 2056) C (tgt := 2063) dL_law_2056 (by decide) (fun c7 => ?_) (fun c7 => ?_)
  · have h := h.1 c7
    refine r_iconst (pc := 2063) C (v := (0 : Int32)) dL_law_2063 (by decide) ?_
    exact r_sub [0, 1, 2, 3, 4] rfl (T_L_law_2064 C E ht hn hX23 h)
  · have h := h.2 c7
    refine r_iconst (pc := 2059) C (v := (1 : Int32)) dL_law_2059 (by decide) ?_
    refine r_goto (pc := 2060) C (tgt := 2064) dL_law_2060 (by decide) ?_
    exact r_sub [0, 1, 2, 3, 4] rfl (T_L_law_2064 C E ht hn hX23 h)
def P_L_law_2130 (scL : Nat) (scx : Nat → Int32) (Q : Int32 → HS → Prop) (X23 : Nat → Nat → Nat → Int32 → Nat → Nat → HS → Prop) (v1 : Nat) (v2 : Nat) (v3 : Nat) (v4 : Int32) (s0 : Nat) (s1 : Int32) (kk : Nat) (nn : Nat) (S : HS) : Prop := ob S s0 11 ∧ (kk ≤ rm_L_law.cells ∧ nn ≤ rm_L_law.slots ∧ (P_X11_wetness s0 s1 (fun x3 S1 => Gr S S1 → (P_L_law_2341 scL scx Q X23 v1 v2 v3 v4 kk nn S1)) S))
set_option maxRecDepth 20000 in
set_option maxHeartbeats 4000000 in
theorem T_L_law_2130 {X : CX} {Q : Int32 → HS → Prop} {scb scL : Nat} {scx : Nat → Int32} (C : Cx X cL_law RL 7 rm_L_law) (E : LE X scb scL scx Q) (ht : LD X) (hn : True) {X23 : Nat → Nat → Nat → Int32 → Nat → Nat → HS → Prop} (hX23 : ∀ (v1 : Nat) (v2 : Nat) (v3 : Nat) (v4 : Int32) (kk : Nat) (nn : Nat) (S : HS), X23 v1 v2 v3 v4 kk nn S → WS X 7 kk nn 23 [(0, .ref scb), (1, .ref v1), (2, .ref v2), (3, .ref v3), (4, .int v4)] [] S) {v1 : Nat} {v2 : Nat} {v3 : Nat} {v4 : Int32} {s0 : Nat} {s1 : Int32} {kk : Nat} {nn : Nat} {S : HS} (h : P_L_law_2130 scL scx Q X23 v1 v2 v3 v4 s0 s1 kk nn S) : WS X 7 kk nn 2130 [(0, .ref scb), (1, .ref v1), (2, .ref v2), (3, .ref v3), (4, .int v4)] [.int s1, .ref s0] S := by
  obtain ⟨o_s0, h⟩ := h
  obtain ⟨hk, hk2, h⟩ := h
  refine r_callVl0 (pc := 2130) C (rest := []) (a := s0) o_s0 [.int s1] yV_X11_wetness g_1808 (c_X11_wetness h) dL_law_2130 rfl rfl (Nat.le_of_ble_eq_true rfl) ⟨by decide, by decide⟩ ⟨hk, hk2⟩ ⟨rfl, rfl⟩ (fun x3 S1 h g2 => ?_)
  have h := h g2
  have o_s0 := gr_ob g2 o_s0
  refine r_pop2 (pc := 2133) C dL_law_2133 rfl ?_
  refine r_goto (pc := 2134) C (tgt := 2341) dL_law_2134 (by decide) ?_
  exact r_sub [0, 1, 2, 3, 4] rfl (T_L_law_2341 C E ht hn hX23 h)
def P_L_law_2111 (scL : Nat) (scx : Nat → Int32) (Q : Int32 → HS → Prop) (X23 : Nat → Nat → Nat → Int32 → Nat → Nat → HS → Prop) (v1 : Nat) (v2 : Nat) (v3 : Nat) (v4 : Int32) (s0 : Nat) (s1 : Int32) (kk : Nat) (nn : Nat) (S : HS) : Prop := ob S s0 9 ∧ (kk ≤ rm_L_law.cells ∧ nn ≤ rm_L_law.slots ∧ (P_X9_wetness s0 s1 (fun x3 S1 => Gr S S1 → (∀ x4 : Int32, x4 = v4 + (1 : Int32) → (vp_in x4 scL ∧ ∀ x6 : Int32, x6 = scx x4.toNatClampNeg → (((x6 = 0) → (P_L_law_2130 scL scx Q X23 v1 v2 v3 v4 v2 (0 : Int32) kk nn S1)) ∧ ((¬ x6 = 0) → (P_L_law_2130 scL scx Q X23 v1 v2 v3 v4 v2 (1 : Int32) kk nn S1)))))) S))
set_option maxRecDepth 20000 in
set_option maxHeartbeats 4000000 in
theorem T_L_law_2111 {X : CX} {Q : Int32 → HS → Prop} {scb scL : Nat} {scx : Nat → Int32} (C : Cx X cL_law RL 7 rm_L_law) (E : LE X scb scL scx Q) (ht : LD X) (hn : True) {X23 : Nat → Nat → Nat → Int32 → Nat → Nat → HS → Prop} (hX23 : ∀ (v1 : Nat) (v2 : Nat) (v3 : Nat) (v4 : Int32) (kk : Nat) (nn : Nat) (S : HS), X23 v1 v2 v3 v4 kk nn S → WS X 7 kk nn 23 [(0, .ref scb), (1, .ref v1), (2, .ref v2), (3, .ref v3), (4, .int v4)] [] S) {v1 : Nat} {v2 : Nat} {v3 : Nat} {v4 : Int32} {s0 : Nat} {s1 : Int32} {kk : Nat} {nn : Nat} {S : HS} (h : P_L_law_2111 scL scx Q X23 v1 v2 v3 v4 s0 s1 kk nn S) : WS X 7 kk nn 2111 [(0, .ref scb), (1, .ref v1), (2, .ref v2), (3, .ref v3), (4, .int v4)] [.int s1, .ref s0] S := by
  obtain ⟨o_s0, h⟩ := h
  obtain ⟨hk, hk2, h⟩ := h
  refine r_callVl0 (pc := 2111) C (rest := []) (a := s0) o_s0 [.int s1] yV_X9_wetness g_1018 (c_X9_wetness h) dL_law_2111 rfl rfl (Nat.le_of_ble_eq_true rfl) ⟨by decide, by decide⟩ ⟨hk, hk2⟩ ⟨rfl, rfl⟩ (fun x3 S1 h g2 => ?_)
  have h := h g2
  have o_s0 := gr_ob g2 o_s0
  refine r_pop2 (pc := 2114) C dL_law_2114 rfl ?_
  refine r_aload_n (pc := 2115) C dL_law_2115 2 rfl ?_
  refine r_aload_n (pc := 2116) C dL_law_2116 0 rfl ?_
  refine r_iload (pc := 2117) C dL_law_2117 4 rfl ?_
  refine r_iconst (pc := 2119) C (v := (1 : Int32)) dL_law_2119 (by decide) ?_
  refine r_iadd (pc := 2120) C dL_law_2120 ?_
  refine r_topi (fun x4 ex4 => ?_)
  have h := h x4 ex4
  obtain ⟨i5, h⟩ := h
  refine r_scLd (pc := 2121) C E i5 dL_law_2121 ?_
  refine r_topi (fun x6 ex6 => ?_)
  have h := h x6 ex6
  refine r_if_eq (pc := 2122) C (tgt := 2129) dL_law_2122 (by decide) (fun c7 => ?_) (fun c7 => ?_)
  · have h := h.1 c7
    refine r_iconst (pc := 2129) C (v := (0 : Int32)) dL_law_2129 (by decide) ?_
    exact r_sub [0, 1, 2, 3, 4] rfl (T_L_law_2130 C E ht hn hX23 h)
  · have h := h.2 c7
    refine r_iconst (pc := 2125) C (v := (1 : Int32)) dL_law_2125 (by decide) ?_
    refine r_goto (pc := 2126) C (tgt := 2130) dL_law_2126 (by decide) ?_
    exact r_sub [0, 1, 2, 3, 4] rfl (T_L_law_2130 C E ht hn hX23 h)
def P_L_law_2096 (scL : Nat) (scx : Nat → Int32) (Q : Int32 → HS → Prop) (X23 : Nat → Nat → Nat → Int32 → Nat → Nat → HS → Prop) (v1 : Nat) (v2 : Nat) (v3 : Nat) (v4 : Int32) (kk : Nat) (nn : Nat) (S : HS) : Prop := ∀ x1 : Int32, x1 = v4 + (1 : Int32) → (vp_in x1 scL ∧ ∀ x3 : Int32, x3 = scx x1.toNatClampNeg → (((x3 = 0) → (P_L_law_2111 scL scx Q X23 v1 v2 v3 v4 v1 (0 : Int32) kk nn S)) ∧ ((¬ x3 = 0) → (P_L_law_2111 scL scx Q X23 v1 v2 v3 v4 v1 (1 : Int32) kk nn S))))
set_option maxRecDepth 20000 in
set_option maxHeartbeats 4000000 in
theorem T_L_law_2096 {X : CX} {Q : Int32 → HS → Prop} {scb scL : Nat} {scx : Nat → Int32} (C : Cx X cL_law RL 7 rm_L_law) (E : LE X scb scL scx Q) (ht : LD X) (hn : True) {X23 : Nat → Nat → Nat → Int32 → Nat → Nat → HS → Prop} (hX23 : ∀ (v1 : Nat) (v2 : Nat) (v3 : Nat) (v4 : Int32) (kk : Nat) (nn : Nat) (S : HS), X23 v1 v2 v3 v4 kk nn S → WS X 7 kk nn 23 [(0, .ref scb), (1, .ref v1), (2, .ref v2), (3, .ref v3), (4, .int v4)] [] S) {v1 : Nat} {v2 : Nat} {v3 : Nat} {v4 : Int32} {kk : Nat} {nn : Nat} {S : HS} (h : P_L_law_2096 scL scx Q X23 v1 v2 v3 v4 kk nn S) : WS X 7 kk nn 2096 [(0, .ref scb), (1, .ref v1), (2, .ref v2), (3, .ref v3), (4, .int v4)] [] S := by
  refine r_aload_n (pc := 2096) C dL_law_2096 1 rfl ?_
  refine r_aload_n (pc := 2097) C dL_law_2097 0 rfl ?_
  refine r_iload (pc := 2098) C dL_law_2098 4 rfl ?_
  refine r_iconst (pc := 2100) C (v := (1 : Int32)) dL_law_2100 (by decide) ?_
  refine r_iadd (pc := 2101) C dL_law_2101 ?_
  refine r_topi (fun x1 ex1 => ?_)
  have h := h x1 ex1
  obtain ⟨i2, h⟩ := h
  refine r_scLd (pc := 2102) C E i2 dL_law_2102 ?_
  refine r_topi (fun x3 ex3 => ?_)
  have h := h x3 ex3
  refine r_if_eq (pc := 2103) C (tgt := 2110) dL_law_2103 (by decide) (fun c4 => ?_) (fun c4 => ?_)
  · have h := h.1 c4
    refine r_iconst (pc := 2110) C (v := (0 : Int32)) dL_law_2110 (by decide) ?_
    exact r_sub [0, 1, 2, 3, 4] rfl (T_L_law_2111 C E ht hn hX23 h)
  · have h := h.2 c4
    refine r_iconst (pc := 2106) C (v := (1 : Int32)) dL_law_2106 (by decide) ?_
    refine r_goto (pc := 2107) C (tgt := 2111) dL_law_2107 (by decide) ?_
    exact r_sub [0, 1, 2, 3, 4] rfl (T_L_law_2111 C E ht hn hX23 h)
def P_L_law_2137 (scL : Nat) (scx : Nat → Int32) (Q : Int32 → HS → Prop) (X23 : Nat → Nat → Nat → Int32 → Nat → Nat → HS → Prop) (v1 : Nat) (v2 : Nat) (v3 : Nat) (v4 : Int32) (kk : Nat) (nn : Nat) (S : HS) : Prop := ob S v1 9 ∧ (kk ≤ rm_L_law.cells ∧ nn ≤ rm_L_law.slots ∧ (P_X9_soaked v1 (fun x3 S1 => Gr S S1 → (ob S1 v2 11 ∧ (kk ≤ rm_L_law.cells ∧ nn ≤ rm_L_law.slots ∧ (P_X11_soaked v2 (fun x6 S4 => Gr S1 S4 → (P_L_law_2341 scL scx Q X23 v1 v2 v3 v4 kk nn S4)) S1)))) S))
set_option maxRecDepth 20000 in
set_option maxHeartbeats 4000000 in
theorem T_L_law_2137 {X : CX} {Q : Int32 → HS → Prop} {scb scL : Nat} {scx : Nat → Int32} (C : Cx X cL_law RL 7 rm_L_law) (E : LE X scb scL scx Q) (ht : LD X) (hn : True) {X23 : Nat → Nat → Nat → Int32 → Nat → Nat → HS → Prop} (hX23 : ∀ (v1 : Nat) (v2 : Nat) (v3 : Nat) (v4 : Int32) (kk : Nat) (nn : Nat) (S : HS), X23 v1 v2 v3 v4 kk nn S → WS X 7 kk nn 23 [(0, .ref scb), (1, .ref v1), (2, .ref v2), (3, .ref v3), (4, .int v4)] [] S) {v1 : Nat} {v2 : Nat} {v3 : Nat} {v4 : Int32} {kk : Nat} {nn : Nat} {S : HS} (h : P_L_law_2137 scL scx Q X23 v1 v2 v3 v4 kk nn S) : WS X 7 kk nn 2137 [(0, .ref scb), (1, .ref v1), (2, .ref v2), (3, .ref v3), (4, .int v4)] [] S := by
  refine r_aload_n (pc := 2137) C dL_law_2137 1 rfl ?_
  obtain ⟨o_v1, h⟩ := h
  obtain ⟨hk, hk2, h⟩ := h
  refine r_callVi0 (pc := 2138) C (rest := []) (a := v1) o_v1 [] yV_X9_soaked g_1032 (c_X9_soaked h) dL_law_2138 rfl rfl (Nat.le_of_ble_eq_true rfl) ⟨by decide, by decide⟩ ⟨hk, hk2⟩ ⟨rfl, rfl⟩ (fun x3 S1 h g2 => ?_)
  have h := h g2
  have o_v1 := gr_ob g2 o_v1
  refine r_pop (pc := 2141) C dL_law_2141 rfl ?_
  refine r_aload_n (pc := 2142) C dL_law_2142 2 rfl ?_
  obtain ⟨o_v2, h⟩ := h
  obtain ⟨hk, hk2, h⟩ := h
  refine r_callVi0 (pc := 2143) C (rest := []) (a := v2) o_v2 [] yV_X11_soaked g_1820 (c_X11_soaked h) dL_law_2143 rfl rfl (Nat.le_of_ble_eq_true rfl) ⟨by decide, by decide⟩ ⟨hk, hk2⟩ ⟨rfl, rfl⟩ (fun x6 S4 h g5 => ?_)
  have h := h g5
  have o_v1 := gr_ob g5 o_v1
  have o_v2 := gr_ob g5 o_v2
  refine r_pop (pc := 2146) C dL_law_2146 rfl ?_
  refine r_goto (pc := 2147) C (tgt := 2341) dL_law_2147 (by decide) ?_
  exact r_sub [0, 1, 2, 3, 4] rfl (T_L_law_2341 C E ht hn hX23 h)
def P_L_law_2150 (scL : Nat) (scx : Nat → Int32) (Q : Int32 → HS → Prop) (X23 : Nat → Nat → Nat → Int32 → Nat → Nat → HS → Prop) (v1 : Nat) (v2 : Nat) (v3 : Nat) (v4 : Int32) (kk : Nat) (nn : Nat) (S : HS) : Prop := ob S v1 9 ∧ (kk ≤ rm_L_law.cells ∧ nn ≤ rm_L_law.slots ∧ (P_X9_undo v1 (fun x3 S1 => Gr S S1 → bl x3 → (ob S1 v2 11 ∧ (kk ≤ rm_L_law.cells ∧ nn ≤ rm_L_law.slots ∧ (P_X11_undo v2 (fun x6 S4 => Gr S1 S4 → bl x6 → (P_L_law_2341 scL scx Q X23 v1 v2 v3 v4 kk nn S4)) S1)))) S))
set_option maxRecDepth 20000 in
set_option maxHeartbeats 4000000 in
theorem T_L_law_2150 {X : CX} {Q : Int32 → HS → Prop} {scb scL : Nat} {scx : Nat → Int32} (C : Cx X cL_law RL 7 rm_L_law) (E : LE X scb scL scx Q) (ht : LD X) (hn : True) {X23 : Nat → Nat → Nat → Int32 → Nat → Nat → HS → Prop} (hX23 : ∀ (v1 : Nat) (v2 : Nat) (v3 : Nat) (v4 : Int32) (kk : Nat) (nn : Nat) (S : HS), X23 v1 v2 v3 v4 kk nn S → WS X 7 kk nn 23 [(0, .ref scb), (1, .ref v1), (2, .ref v2), (3, .ref v3), (4, .int v4)] [] S) {v1 : Nat} {v2 : Nat} {v3 : Nat} {v4 : Int32} {kk : Nat} {nn : Nat} {S : HS} (h : P_L_law_2150 scL scx Q X23 v1 v2 v3 v4 kk nn S) : WS X 7 kk nn 2150 [(0, .ref scb), (1, .ref v1), (2, .ref v2), (3, .ref v3), (4, .int v4)] [] S := by
  refine r_aload_n (pc := 2150) C dL_law_2150 1 rfl ?_
  obtain ⟨o_v1, h⟩ := h
  obtain ⟨hk, hk2, h⟩ := h
  refine r_callVi0 (pc := 2151) C (rest := []) (a := v1) o_v1 [] yV_X9_undo g_1036 (c_X9_undo h) dL_law_2151 rfl rfl (Nat.le_of_ble_eq_true rfl) ⟨by decide, by decide⟩ ⟨hk, hk2⟩ ⟨rfl, rfl⟩ (fun x3 S1 h g2 => ?_)
  have bx3 := h.1
  have h := h.2 g2 bx3
  have o_v1 := gr_ob g2 o_v1
  refine r_pop (pc := 2154) C dL_law_2154 rfl ?_
  refine r_aload_n (pc := 2155) C dL_law_2155 2 rfl ?_
  obtain ⟨o_v2, h⟩ := h
  obtain ⟨hk, hk2, h⟩ := h
  refine r_callVi0 (pc := 2156) C (rest := []) (a := v2) o_v2 [] yV_X11_undo g_1824 (c_X11_undo h) dL_law_2156 rfl rfl (Nat.le_of_ble_eq_true rfl) ⟨by decide, by decide⟩ ⟨hk, hk2⟩ ⟨rfl, rfl⟩ (fun x6 S4 h g5 => ?_)
  have bx6 := h.1
  have h := h.2 g5 bx6
  have o_v1 := gr_ob g5 o_v1
  have o_v2 := gr_ob g5 o_v2
  refine r_pop (pc := 2159) C dL_law_2159 rfl ?_
  refine r_goto (pc := 2160) C (tgt := 2341) dL_law_2160 (by decide) ?_
  exact r_sub [0, 1, 2, 3, 4] rfl (T_L_law_2341 C E ht hn hX23 h)
def P_L_law_2163 (scL : Nat) (scx : Nat → Int32) (Q : Int32 → HS → Prop) (X23 : Nat → Nat → Nat → Int32 → Nat → Nat → HS → Prop) (v1 : Nat) (v2 : Nat) (v3 : Nat) (v4 : Int32) (kk : Nat) (nn : Nat) (S : HS) : Prop := ob S v1 9 ∧ (kk ≤ rm_L_law.cells ∧ nn ≤ rm_L_law.slots ∧ (P_X9_mark v1 (fun x3 S1 => Gr S S1 → (ob S1 v2 11 ∧ (kk ≤ rm_L_law.cells ∧ nn ≤ rm_L_law.slots ∧ (P_X11_mark v2 (fun x6 S4 => Gr S1 S4 → (P_L_law_2341 scL scx Q X23 v1 v2 v3 v4 kk nn S4)) S1)))) S))
set_option maxRecDepth 20000 in
set_option maxHeartbeats 4000000 in
theorem T_L_law_2163 {X : CX} {Q : Int32 → HS → Prop} {scb scL : Nat} {scx : Nat → Int32} (C : Cx X cL_law RL 7 rm_L_law) (E : LE X scb scL scx Q) (ht : LD X) (hn : True) {X23 : Nat → Nat → Nat → Int32 → Nat → Nat → HS → Prop} (hX23 : ∀ (v1 : Nat) (v2 : Nat) (v3 : Nat) (v4 : Int32) (kk : Nat) (nn : Nat) (S : HS), X23 v1 v2 v3 v4 kk nn S → WS X 7 kk nn 23 [(0, .ref scb), (1, .ref v1), (2, .ref v2), (3, .ref v3), (4, .int v4)] [] S) {v1 : Nat} {v2 : Nat} {v3 : Nat} {v4 : Int32} {kk : Nat} {nn : Nat} {S : HS} (h : P_L_law_2163 scL scx Q X23 v1 v2 v3 v4 kk nn S) : WS X 7 kk nn 2163 [(0, .ref scb), (1, .ref v1), (2, .ref v2), (3, .ref v3), (4, .int v4)] [] S := by
  refine r_aload_n (pc := 2163) C dL_law_2163 1 rfl ?_
  obtain ⟨o_v1, h⟩ := h
  obtain ⟨hk, hk2, h⟩ := h
  refine r_callVi0 (pc := 2164) C (rest := []) (a := v1) o_v1 [] yV_X9_mark g_1044 (c_X9_mark h) dL_law_2164 rfl rfl (Nat.le_of_ble_eq_true rfl) ⟨by decide, by decide⟩ ⟨hk, hk2⟩ ⟨rfl, rfl⟩ (fun x3 S1 h g2 => ?_)
  have h := h g2
  have o_v1 := gr_ob g2 o_v1
  refine r_pop (pc := 2167) C dL_law_2167 rfl ?_
  refine r_aload_n (pc := 2168) C dL_law_2168 2 rfl ?_
  obtain ⟨o_v2, h⟩ := h
  obtain ⟨hk, hk2, h⟩ := h
  refine r_callVi0 (pc := 2169) C (rest := []) (a := v2) o_v2 [] yV_X11_mark g_1828 (c_X11_mark h) dL_law_2169 rfl rfl (Nat.le_of_ble_eq_true rfl) ⟨by decide, by decide⟩ ⟨hk, hk2⟩ ⟨rfl, rfl⟩ (fun x6 S4 h g5 => ?_)
  have h := h g5
  have o_v1 := gr_ob g5 o_v1
  have o_v2 := gr_ob g5 o_v2
  refine r_pop (pc := 2172) C dL_law_2172 rfl ?_
  refine r_goto (pc := 2173) C (tgt := 2341) dL_law_2173 (by decide) ?_
  exact r_sub [0, 1, 2, 3, 4] rfl (T_L_law_2341 C E ht hn hX23 h)
def P_L_law_2176 (scL : Nat) (scx : Nat → Int32) (Q : Int32 → HS → Prop) (X23 : Nat → Nat → Nat → Int32 → Nat → Nat → HS → Prop) (v1 : Nat) (v2 : Nat) (v3 : Nat) (v4 : Int32) (kk : Nat) (nn : Nat) (S : HS) : Prop := ∀ x1 : Int32, x1 = v4 + (1 : Int32) → (vp_in x1 scL ∧ ∀ x3 : Int32, x3 = scx x1.toNatClampNeg → (ob S v1 9 ∧ (kk ≤ rm_L_law.cells ∧ nn ≤ rm_L_law.slots ∧ (P_X9_back v1 x3 (fun x6 S4 => Gr S S4 → bl x6 → (∀ x7 : Int32, x7 = v4 + (1 : Int32) → (vp_in x7 scL ∧ ∀ x9 : Int32, x9 = scx x7.toNatClampNeg → (ob S4 v2 11 ∧ (kk ≤ rm_L_law.cells ∧ nn ≤ rm_L_law.slots ∧ (P_X11_back v2 x9 (fun x12 S10 => Gr S4 S10 → bl x12 → (P_L_law_2341 scL scx Q X23 v1 v2 v3 v4 kk nn S10)) S4)))))) S))))
set_option maxRecDepth 20000 in
set_option maxHeartbeats 4000000 in
theorem T_L_law_2176 {X : CX} {Q : Int32 → HS → Prop} {scb scL : Nat} {scx : Nat → Int32} (C : Cx X cL_law RL 7 rm_L_law) (E : LE X scb scL scx Q) (ht : LD X) (hn : True) {X23 : Nat → Nat → Nat → Int32 → Nat → Nat → HS → Prop} (hX23 : ∀ (v1 : Nat) (v2 : Nat) (v3 : Nat) (v4 : Int32) (kk : Nat) (nn : Nat) (S : HS), X23 v1 v2 v3 v4 kk nn S → WS X 7 kk nn 23 [(0, .ref scb), (1, .ref v1), (2, .ref v2), (3, .ref v3), (4, .int v4)] [] S) {v1 : Nat} {v2 : Nat} {v3 : Nat} {v4 : Int32} {kk : Nat} {nn : Nat} {S : HS} (h : P_L_law_2176 scL scx Q X23 v1 v2 v3 v4 kk nn S) : WS X 7 kk nn 2176 [(0, .ref scb), (1, .ref v1), (2, .ref v2), (3, .ref v3), (4, .int v4)] [] S := by
  refine r_aload_n (pc := 2176) C dL_law_2176 1 rfl ?_
  refine r_aload_n (pc := 2177) C dL_law_2177 0 rfl ?_
  refine r_iload (pc := 2178) C dL_law_2178 4 rfl ?_
  refine r_iconst (pc := 2180) C (v := (1 : Int32)) dL_law_2180 (by decide) ?_
  refine r_iadd (pc := 2181) C dL_law_2181 ?_
  refine r_topi (fun x1 ex1 => ?_)
  have h := h x1 ex1
  obtain ⟨i2, h⟩ := h
  refine r_scLd (pc := 2182) C E i2 dL_law_2182 ?_
  refine r_topi (fun x3 ex3 => ?_)
  have h := h x3 ex3
  obtain ⟨o_v1, h⟩ := h
  obtain ⟨hk, hk2, h⟩ := h
  refine r_callVi0 (pc := 2183) C (rest := []) (a := v1) o_v1 [.int x3] yV_X9_back g_1052 (c_X9_back h) dL_law_2183 rfl rfl (Nat.le_of_ble_eq_true rfl) ⟨by decide, by decide⟩ ⟨hk, hk2⟩ ⟨rfl, rfl⟩ (fun x6 S4 h g5 => ?_)
  have bx6 := h.1
  have h := h.2 g5 bx6
  have o_v1 := gr_ob g5 o_v1
  refine r_pop (pc := 2186) C dL_law_2186 rfl ?_
  refine r_aload_n (pc := 2187) C dL_law_2187 2 rfl ?_
  refine r_aload_n (pc := 2188) C dL_law_2188 0 rfl ?_
  refine r_iload (pc := 2189) C dL_law_2189 4 rfl ?_
  refine r_iconst (pc := 2191) C (v := (1 : Int32)) dL_law_2191 (by decide) ?_
  refine r_iadd (pc := 2192) C dL_law_2192 ?_
  refine r_topi (fun x7 ex7 => ?_)
  have h := h x7 ex7
  obtain ⟨i8, h⟩ := h
  refine r_scLd (pc := 2193) C E i8 dL_law_2193 ?_
  refine r_topi (fun x9 ex9 => ?_)
  have h := h x9 ex9
  obtain ⟨o_v2, h⟩ := h
  obtain ⟨hk, hk2, h⟩ := h
  refine r_callVi0 (pc := 2194) C (rest := []) (a := v2) o_v2 [.int x9] yV_X11_back g_1832 (c_X11_back h) dL_law_2194 rfl rfl (Nat.le_of_ble_eq_true rfl) ⟨by decide, by decide⟩ ⟨hk, hk2⟩ ⟨rfl, rfl⟩ (fun x12 S10 h g11 => ?_)
  have bx12 := h.1
  have h := h.2 g11 bx12
  have o_v1 := gr_ob g11 o_v1
  have o_v2 := gr_ob g11 o_v2
  refine r_pop (pc := 2197) C dL_law_2197 rfl ?_
  refine r_goto (pc := 2198) C (tgt := 2341) dL_law_2198 (by decide) ?_
  exact r_sub [0, 1, 2, 3, 4] rfl (T_L_law_2341 C E ht hn hX23 h)
def P_L_law_2201 (scL : Nat) (scx : Nat → Int32) (Q : Int32 → HS → Prop) (X23 : Nat → Nat → Nat → Int32 → Nat → Nat → HS → Prop) (v1 : Nat) (v2 : Nat) (v3 : Nat) (v4 : Int32) (kk : Nat) (nn : Nat) (S : HS) : Prop := ∀ x1 : Int32, x1 = v4 + (1 : Int32) → (vp_in x1 scL ∧ ∀ x3 : Int32, x3 = scx x1.toNatClampNeg → (∀ x4 : Int32, x4 = v4 + (2 : Int32) → (vp_in x4 scL ∧ ∀ x6 : Int32, x6 = scx x4.toNatClampNeg → (ob S v1 9 ∧ (kk ≤ rm_L_law.cells ∧ nn ≤ rm_L_law.slots ∧ (P_X9_walker v1 x3 x6 (fun x9 S7 => Gr S S7 → (∀ x10 : Int32, x10 = v4 + (1 : Int32) → (vp_in x10 scL ∧ ∀ x12 : Int32, x12 = scx x10.toNatClampNeg → (∀ x13 : Int32, x13 = v4 + (2 : Int32) → (vp_in x13 scL ∧ ∀ x15 : Int32, x15 = scx x13.toNatClampNeg → (ob S7 v2 11 ∧ (kk ≤ rm_L_law.cells ∧ nn ≤ rm_L_law.slots ∧ (P_X11_walker v2 x12 x15 (fun x18 S16 => Gr S7 S16 → (((x9 = x18) → (P_L_law_2341 scL scx Q X23 v1 v2 v3 v4 kk nn S16)) ∧ ((¬ x9 = x18) → (kk ≤ rm_L_law.cells ∧ nn ≤ rm_L_law.slots ∧ (0 : Int32) = 1 ∧ Q (0 : Int32) S16)))) S7)))))))) S))))))
set_option maxRecDepth 20000 in
set_option maxHeartbeats 4000000 in
theorem T_L_law_2201 {X : CX} {Q : Int32 → HS → Prop} {scb scL : Nat} {scx : Nat → Int32} (C : Cx X cL_law RL 7 rm_L_law) (E : LE X scb scL scx Q) (ht : LD X) (hn : True) {X23 : Nat → Nat → Nat → Int32 → Nat → Nat → HS → Prop} (hX23 : ∀ (v1 : Nat) (v2 : Nat) (v3 : Nat) (v4 : Int32) (kk : Nat) (nn : Nat) (S : HS), X23 v1 v2 v3 v4 kk nn S → WS X 7 kk nn 23 [(0, .ref scb), (1, .ref v1), (2, .ref v2), (3, .ref v3), (4, .int v4)] [] S) {v1 : Nat} {v2 : Nat} {v3 : Nat} {v4 : Int32} {kk : Nat} {nn : Nat} {S : HS} (h : P_L_law_2201 scL scx Q X23 v1 v2 v3 v4 kk nn S) : WS X 7 kk nn 2201 [(0, .ref scb), (1, .ref v1), (2, .ref v2), (3, .ref v3), (4, .int v4)] [] S := by
  refine r_aload_n (pc := 2201) C dL_law_2201 1 rfl ?_
  refine r_aload_n (pc := 2202) C dL_law_2202 0 rfl ?_
  refine r_iload (pc := 2203) C dL_law_2203 4 rfl ?_
  refine r_iconst (pc := 2205) C (v := (1 : Int32)) dL_law_2205 (by decide) ?_
  refine r_iadd (pc := 2206) C dL_law_2206 ?_
  refine r_topi (fun x1 ex1 => ?_)
  have h := h x1 ex1
  obtain ⟨i2, h⟩ := h
  refine r_scLd (pc := 2207) C E i2 dL_law_2207 ?_
  refine r_topi (fun x3 ex3 => ?_)
  have h := h x3 ex3
  refine r_aload_n (pc := 2208) C dL_law_2208 0 rfl ?_
  refine r_iload (pc := 2209) C dL_law_2209 4 rfl ?_
  refine r_iconst (pc := 2211) C (v := (2 : Int32)) dL_law_2211 (by decide) ?_
  refine r_iadd (pc := 2212) C dL_law_2212 ?_
  refine r_topi (fun x4 ex4 => ?_)
  have h := h x4 ex4
  obtain ⟨i5, h⟩ := h
  refine r_scLd (pc := 2213) C E i5 dL_law_2213 ?_
  refine r_topi (fun x6 ex6 => ?_)
  have h := h x6 ex6
  obtain ⟨o_v1, h⟩ := h
  obtain ⟨hk, hk2, h⟩ := h
  refine r_callVi0 (pc := 2214) C (rest := []) (a := v1) o_v1 [.int x3, .int x6] yV_X9_walker g_1060 (c_X9_walker h) dL_law_2214 rfl rfl (Nat.le_of_ble_eq_true rfl) ⟨by decide, by decide⟩ ⟨hk, hk2⟩ ⟨rfl, rfl⟩ (fun x9 S7 h g8 => ?_)
  have h := h g8
  have o_v1 := gr_ob g8 o_v1
  refine r_aload_n (pc := 2217) C dL_law_2217 2 rfl ?_
  refine r_aload_n (pc := 2218) C dL_law_2218 0 rfl ?_
  refine r_iload (pc := 2219) C dL_law_2219 4 rfl ?_
  refine r_iconst (pc := 2221) C (v := (1 : Int32)) dL_law_2221 (by decide) ?_
  refine r_iadd (pc := 2222) C dL_law_2222 ?_
  refine r_topi (fun x10 ex10 => ?_)
  have h := h x10 ex10
  obtain ⟨i11, h⟩ := h
  refine r_scLd (pc := 2223) C E i11 dL_law_2223 ?_
  refine r_topi (fun x12 ex12 => ?_)
  have h := h x12 ex12
  refine r_aload_n (pc := 2224) C dL_law_2224 0 rfl ?_
  refine r_iload (pc := 2225) C dL_law_2225 4 rfl ?_
  refine r_iconst (pc := 2227) C (v := (2 : Int32)) dL_law_2227 (by decide) ?_
  refine r_iadd (pc := 2228) C dL_law_2228 ?_
  refine r_topi (fun x13 ex13 => ?_)
  have h := h x13 ex13
  obtain ⟨i14, h⟩ := h
  refine r_scLd (pc := 2229) C E i14 dL_law_2229 ?_
  refine r_topi (fun x15 ex15 => ?_)
  have h := h x15 ex15
  obtain ⟨o_v2, h⟩ := h
  obtain ⟨hk, hk2, h⟩ := h
  refine r_callVi0 (pc := 2230) C (rest := [.int x9]) (a := v2) o_v2 [.int x12, .int x15] yV_X11_walker g_1836 (c_X11_walker h) dL_law_2230 rfl rfl (Nat.le_of_ble_eq_true rfl) ⟨by decide, by decide⟩ ⟨hk, hk2⟩ ⟨rfl, rfl⟩ (fun x18 S16 h g17 => ?_)
  have h := h g17
  have o_v1 := gr_ob g17 o_v1
  have o_v2 := gr_ob g17 o_v2
  refine r_icmp_eq (pc := 2233) C (tgt := 2341) dL_law_2233 (by decide) (fun c19 => ?_) (fun c19 => ?_)
  · have h := h.1 c19
    exact r_sub [0, 1, 2, 3, 4] rfl (T_L_law_2341 C E ht hn hX23 h)
  · have h := h.2 c19
    refine r_iconst (pc := 2236) C (v := (0 : Int32)) dL_law_2236 (by decide) ?_
    obtain ⟨hk, hk2, he, h⟩ := h
    exact r_lawret (pc := 2237) C E dL_law_2237 hk hk2 he
def P_L_law_2238 (scL : Nat) (scx : Nat → Int32) (Q : Int32 → HS → Prop) (X23 : Nat → Nat → Nat → Int32 → Nat → Nat → HS → Prop) (v1 : Nat) (v2 : Nat) (v3 : Nat) (v4 : Int32) (kk : Nat) (nn : Nat) (S : HS) : Prop := ∀ x1 : Int32, x1 = v4 + (1 : Int32) → (vp_in x1 scL ∧ ∀ x3 : Int32, x3 = scx x1.toNatClampNeg → (∀ x4 : Int32, x4 = v4 + (2 : Int32) → (vp_in x4 scL ∧ ∀ x6 : Int32, x6 = scx x4.toNatClampNeg → (ob S v1 9 ∧ (kk ≤ rm_L_law.cells ∧ nn ≤ rm_L_law.slots ∧ (P_X9_road v1 x3 x6 (fun x9 S7 => Gr S S7 → (∀ x10 : Int32, x10 = v4 + (1 : Int32) → (vp_in x10 scL ∧ ∀ x12 : Int32, x12 = scx x10.toNatClampNeg → (∀ x13 : Int32, x13 = v4 + (2 : Int32) → (vp_in x13 scL ∧ ∀ x15 : Int32, x15 = scx x13.toNatClampNeg → (ob S7 v2 11 ∧ (kk ≤ rm_L_law.cells ∧ nn ≤ rm_L_law.slots ∧ (P_X11_road v2 x12 x15 (fun x18 S16 => Gr S7 S16 → (P_L_law_2341 scL scx Q X23 v1 v2 v3 v4 kk nn S16)) S7)))))))) S))))))
set_option maxRecDepth 20000 in
set_option maxHeartbeats 4000000 in
theorem T_L_law_2238 {X : CX} {Q : Int32 → HS → Prop} {scb scL : Nat} {scx : Nat → Int32} (C : Cx X cL_law RL 7 rm_L_law) (E : LE X scb scL scx Q) (ht : LD X) (hn : True) {X23 : Nat → Nat → Nat → Int32 → Nat → Nat → HS → Prop} (hX23 : ∀ (v1 : Nat) (v2 : Nat) (v3 : Nat) (v4 : Int32) (kk : Nat) (nn : Nat) (S : HS), X23 v1 v2 v3 v4 kk nn S → WS X 7 kk nn 23 [(0, .ref scb), (1, .ref v1), (2, .ref v2), (3, .ref v3), (4, .int v4)] [] S) {v1 : Nat} {v2 : Nat} {v3 : Nat} {v4 : Int32} {kk : Nat} {nn : Nat} {S : HS} (h : P_L_law_2238 scL scx Q X23 v1 v2 v3 v4 kk nn S) : WS X 7 kk nn 2238 [(0, .ref scb), (1, .ref v1), (2, .ref v2), (3, .ref v3), (4, .int v4)] [] S := by
  refine r_aload_n (pc := 2238) C dL_law_2238 1 rfl ?_
  refine r_aload_n (pc := 2239) C dL_law_2239 0 rfl ?_
  refine r_iload (pc := 2240) C dL_law_2240 4 rfl ?_
  refine r_iconst (pc := 2242) C (v := (1 : Int32)) dL_law_2242 (by decide) ?_
  refine r_iadd (pc := 2243) C dL_law_2243 ?_
  refine r_topi (fun x1 ex1 => ?_)
  have h := h x1 ex1
  obtain ⟨i2, h⟩ := h
  refine r_scLd (pc := 2244) C E i2 dL_law_2244 ?_
  refine r_topi (fun x3 ex3 => ?_)
  have h := h x3 ex3
  refine r_aload_n (pc := 2245) C dL_law_2245 0 rfl ?_
  refine r_iload (pc := 2246) C dL_law_2246 4 rfl ?_
  refine r_iconst (pc := 2248) C (v := (2 : Int32)) dL_law_2248 (by decide) ?_
  refine r_iadd (pc := 2249) C dL_law_2249 ?_
  refine r_topi (fun x4 ex4 => ?_)
  have h := h x4 ex4
  obtain ⟨i5, h⟩ := h
  refine r_scLd (pc := 2250) C E i5 dL_law_2250 ?_
  refine r_topi (fun x6 ex6 => ?_)
  have h := h x6 ex6
  obtain ⟨o_v1, h⟩ := h
  obtain ⟨hk, hk2, h⟩ := h
  refine r_callVi0 (pc := 2251) C (rest := []) (a := v1) o_v1 [.int x3, .int x6] yV_X9_road g_1068 (c_X9_road h) dL_law_2251 rfl rfl (Nat.le_of_ble_eq_true rfl) ⟨by decide, by decide⟩ ⟨hk, hk2⟩ ⟨rfl, rfl⟩ (fun x9 S7 h g8 => ?_)
  have h := h g8
  have o_v1 := gr_ob g8 o_v1
  refine r_pop (pc := 2254) C dL_law_2254 rfl ?_
  refine r_aload_n (pc := 2255) C dL_law_2255 2 rfl ?_
  refine r_aload_n (pc := 2256) C dL_law_2256 0 rfl ?_
  refine r_iload (pc := 2257) C dL_law_2257 4 rfl ?_
  refine r_iconst (pc := 2259) C (v := (1 : Int32)) dL_law_2259 (by decide) ?_
  refine r_iadd (pc := 2260) C dL_law_2260 ?_
  refine r_topi (fun x10 ex10 => ?_)
  have h := h x10 ex10
  obtain ⟨i11, h⟩ := h
  refine r_scLd (pc := 2261) C E i11 dL_law_2261 ?_
  refine r_topi (fun x12 ex12 => ?_)
  have h := h x12 ex12
  refine r_aload_n (pc := 2262) C dL_law_2262 0 rfl ?_
  refine r_iload (pc := 2263) C dL_law_2263 4 rfl ?_
  refine r_iconst (pc := 2265) C (v := (2 : Int32)) dL_law_2265 (by decide) ?_
  refine r_iadd (pc := 2266) C dL_law_2266 ?_
  refine r_topi (fun x13 ex13 => ?_)
  have h := h x13 ex13
  obtain ⟨i14, h⟩ := h
  refine r_scLd (pc := 2267) C E i14 dL_law_2267 ?_
  refine r_topi (fun x15 ex15 => ?_)
  have h := h x15 ex15
  obtain ⟨o_v2, h⟩ := h
  obtain ⟨hk, hk2, h⟩ := h
  refine r_callVi0 (pc := 2268) C (rest := []) (a := v2) o_v2 [.int x12, .int x15] yV_X11_road g_1840 (c_X11_road h) dL_law_2268 rfl rfl (Nat.le_of_ble_eq_true rfl) ⟨by decide, by decide⟩ ⟨hk, hk2⟩ ⟨rfl, rfl⟩ (fun x18 S16 h g17 => ?_)
  have h := h g17
  have o_v1 := gr_ob g17 o_v1
  have o_v2 := gr_ob g17 o_v2
  refine r_pop (pc := 2271) C dL_law_2271 rfl ?_
  refine r_goto (pc := 2272) C (tgt := 2341) dL_law_2272 (by decide) ?_
  exact r_sub [0, 1, 2, 3, 4] rfl (T_L_law_2341 C E ht hn hX23 h)
def P_L_law_2275 (scL : Nat) (scx : Nat → Int32) (Q : Int32 → HS → Prop) (X23 : Nat → Nat → Nat → Int32 → Nat → Nat → HS → Prop) (v1 : Nat) (v2 : Nat) (v3 : Nat) (v4 : Int32) (kk : Nat) (nn : Nat) (S : HS) : Prop := ∀ x1 : Int32, x1 = v4 + (1 : Int32) → (vp_in x1 scL ∧ ∀ x3 : Int32, x3 = scx x1.toNatClampNeg → (kk + 2 ≤ rm_L_law.cells ∧ nn + 32 ≤ rm_L_law.slots ∧ P_L_led v1 x3 v3 (fun x5 S4 => Gr S S4 → (∀ x7 : Int32, x7 = v4 + (1 : Int32) → (vp_in x7 scL ∧ ∀ x9 : Int32, x9 = scx x7.toNatClampNeg → (ob S4 v2 11 ∧ (kk + 2 ≤ rm_L_law.cells ∧ nn + 32 ≤ rm_L_law.slots ∧ (P_X11_led v2 x9 (fun x12 S10 => Gr S4 S10 → (P_L_law_2341 scL scx Q X23 v1 v2 v3 v4 (kk + 2) (nn + 32) S10)) S4)))))) S))
set_option maxRecDepth 20000 in
set_option maxHeartbeats 4000000 in
theorem T_L_law_2275 {X : CX} {Q : Int32 → HS → Prop} {scb scL : Nat} {scx : Nat → Int32} (C : Cx X cL_law RL 7 rm_L_law) (E : LE X scb scL scx Q) (ht : LD X) (hn : True) {X23 : Nat → Nat → Nat → Int32 → Nat → Nat → HS → Prop} (hX23 : ∀ (v1 : Nat) (v2 : Nat) (v3 : Nat) (v4 : Int32) (kk : Nat) (nn : Nat) (S : HS), X23 v1 v2 v3 v4 kk nn S → WS X 7 kk nn 23 [(0, .ref scb), (1, .ref v1), (2, .ref v2), (3, .ref v3), (4, .int v4)] [] S) {v1 : Nat} {v2 : Nat} {v3 : Nat} {v4 : Int32} {kk : Nat} {nn : Nat} {S : HS} (h : P_L_law_2275 scL scx Q X23 v1 v2 v3 v4 kk nn S) : WS X 7 kk nn 2275 [(0, .ref scb), (1, .ref v1), (2, .ref v2), (3, .ref v3), (4, .int v4)] [] S := by
  refine r_aload_n (pc := 2275) C dL_law_2275 1 rfl ?_
  refine r_aload_n (pc := 2276) C dL_law_2276 0 rfl ?_
  refine r_iload (pc := 2277) C dL_law_2277 4 rfl ?_
  refine r_iconst (pc := 2279) C (v := (1 : Int32)) dL_law_2279 (by decide) ?_
  refine r_iadd (pc := 2280) C dL_law_2280 ?_
  refine r_topi (fun x1 ex1 => ?_)
  have h := h x1 ex1
  obtain ⟨i2, h⟩ := h
  refine r_scLd (pc := 2281) C E i2 dL_law_2281 ?_
  refine r_topi (fun x3 ex3 => ?_)
  have h := h x3 ex3
  refine r_aload_n (pc := 2282) C dL_law_2282 3 rfl ?_
  obtain ⟨hk, hk2, h⟩ := h
  refine ht _ _ 2283 _ [] _ _ _ _ _ _ hk hk2 dL_law_2283 g_1084 (Nat.le_of_ble_eq_true rfl) h (fun x5 S4 h g6 => ?_)
  have h := h g6
  refine r_istore (pc := 2286) C dL_law_2286 (by decide) (lv' := [(5, .int x5), (0, .ref scb), (1, .ref v1), (2, .ref v2), (3, .ref v3), (4, .int v4)]) rfl ?_
  refine r_aload_n (pc := 2288) C dL_law_2288 3 rfl ?_
  refine r_aload_n (pc := 2289) C dL_law_2289 1 rfl ?_
  refine r_iload (pc := 2290) C dL_law_2290 5 rfl ?_
  refine r_iconst (pc := 2292) C (v := (1 : Int32)) dL_law_2292 (by decide) ?_
  refine r_iadd (pc := 2293) C dL_law_2293 ?_
  refine r_topi (fun x7 ex7 => ?_)
  have h := h x7 ex7
  obtain ⟨i8, h⟩ := h
  refine r_scLd (pc := 2294) C E i8 dL_law_2294 ?_
  refine r_topi (fun x9 ex9 => ?_)
  have h := h x9 ex9
  obtain ⟨o_v2, h⟩ := h
  obtain ⟨hk, hk2, h⟩ := h
  refine r_callVi0 (pc := 2295) C (rest := []) (a := v2) o_v2 [.int x9] yV_X11_led g_1844 (c_X11_led h) dL_law_2295 rfl rfl (Nat.le_of_ble_eq_true rfl) ⟨by decide, by decide⟩ ⟨hk, hk2⟩ ⟨rfl, rfl⟩ (fun x12 S10 h g11 => ?_)
  have h := h g11
  have o_v2 := gr_ob g11 o_v2
  refine r_istore (pc := 2298) C dL_law_2298 (by decide) (lv' := [(6, .int x12), (5, .int x5), (0, .ref scb), (1, .ref v1), (2, .ref v2), (3, .ref v3), (4, .int v4)]) rfl ?_
  refine r_goto (pc := 2300) C (tgt := 2341) dL_law_2300 (by decide) ?_
  exact r_sub [2, 3, 4, 5, 6] rfl (T_L_law_2341 C E ht hn hX23 h)
