abbrev rm_L_law : Room := room_1
/-- led of the law: it answers, or catches what the class throws; the day and all else stay -/
def P_L_led (v0 : Nat) (v1 : Int32) (v2 : Nat) (Q : Int32 → HS → Prop) (S : HS) : Prop := IV S ∧ ob S v0 9 ∧ ob S v2 14 ∧ hN S v2 = 1 ∧ ∀ (r : Int32) (T : HS), IV T → Gr S T → FRI [] [] S T → K2 S T → K7 S T → K8 S T → Q r T
/-- what is still open: the call of led out of the law -/
def LD (X : CX) : Prop := ∀ (k n pc : Nat) (lv : List (Nat × Value)) (rest : List Value) (S : HS) (v0 : Nat) (v1 : Int32) (v2 i : Nat) (Q : Int32 → HS → Prop), k + 2 ≤ rm_L_law.cells → n + 32 ≤ rm_L_law.slots → decode cL_law pc = .ok (.invokestatic i, 3) → Cond.methodLink RL i yL_led ∈ G → (rest.map fun v => v.category).sum ≤ 8 → P_L_led v0 v1 v2 Q S → (∀ (r : Int32) (T : HS), Q r T → Gr S T → WS X 7 (k + 2) (n + 32) (pc + 3) lv (.int r :: rest) T) → WS X 7 k n pc lv (.ref v2 :: .int v1 :: .ref v0 :: rest) S
def LE (X : CX) (scb scL : Nat) (scx : Nat → Int32) (_ : Int32 → HS → Prop) : Prop := xQ X = lw_Z (xb X) (xa X) (xs X) ∧ xa X = #[Value.ref scb] ∧ (xh X).sig.returnType = ret ∧ (xh X).locks = false ∧ va_X scb scL scx (xs X) (xs X).heap ∧ scb < (xs X).heap.size ∧ ¬ xA X scb ∧ (∀ q, xA X q → (xs X).heap.size ≤ q)
section LawRows
variable {X : CX} {nL k n pc scb scL : Nat} {scx : Nat → Int32} {lv : List (Nat × Value)} {st : List Value} {S : HS} {Q : Int32 → HS → Prop}
theorem r_scLen (C : Cx X cL_law RL 7 rm_L_law) (E : LE X scb scL scx Q) (hd : decode cL_law pc = .ok (.arraylength, 1)) (h : WS X 7 k n (pc + 1) lv (.int (nI scL) :: st) S) : WS X 7 k n pc lv (.ref scb :: st) S := fun H locs ls hP hD hS hG hv => va_slen C.1 C.2.1 E.2.2.2.2.1 E.2.2.2.2.2.1 E.2.2.2.2.2.2.1 hS hd (h H locs ls hP hD hS hG hv)
theorem r_scLd (C : Cx X cL_law RL 7 rm_L_law) (E : LE X scb scL scx Q) {i : Int32} (hi : vp_in i scL) (hd : decode cL_law pc = .ok (.iaload, 1)) (h : WS X 7 k n (pc + 1) lv (.int (scx i.toNatClampNeg) :: st) S) : WS X 7 k n pc lv (.int i :: .ref scb :: st) S := fun H locs ls hP hD hS hG hv => va_sld C.1 C.2.1 E.2.2.2.2.1 E.2.2.2.2.2.1 E.2.2.2.2.2.2.1 hS hi hd (h H locs ls hP hD hS hG hv)
theorem r_lawret (C : Cx X cL_law RL 7 rm_L_law) (E : LE X scb scL scx Q) {v : Int32} (hd : decode cL_law pc = .ok (.ireturn, 1)) (h1 : k ≤ rm_L_law.cells) (h2 : n ≤ rm_L_law.slots) (he : v = 1) : WS X 7 k n pc lv [.int v] S := fun H locs ls hP hD hS hG hv => by
  subst he
  obtain ⟨e1, e2, e3, e4, -, -, -, e8⟩ := E
  rw [e1, e2, C.2.2.2.2.2.2.2]
  refine va_forget (fun q hq => e8 _ (hS.2.2 q hq)) ?_
  refine W.widen h1 h2 ?_
  exact lw_ret C.1 C.2.1 e3 e4 hd
end LawRows
theorem nc_L_16 : NC RL 16 11 26 := ⟨_, _, tyX11, rfl, by decide, g_1157, g_1158, g_11, tyX11_ok, by decide +kernel⟩
theorem nc_L_8 : NC RL 8 9 10 := ⟨_, _, tyX9, rfl, by decide, g_22, g_23, g_1, tyX9_ok, by decide +kernel⟩
theorem yI_X11_init : YI yX11_init cX11_init 1 0 := ⟨g_1160, g_11, g_1161, rfl, by decide, by decide, by decide +kernel⟩
theorem yI_X9_init : YI yX9_init cX9_init 1 0 := ⟨g_25, g_1, g_26, rfl, by decide, by decide, by decide +kernel⟩
theorem yV_X11_air : YV yX11_air cX11_air 4 (some .int) 11 3 := ⟨⟨_, rfl, rfl⟩, by decide, g_1612, g_1613, g_11, g_1614, by decide, by decide, by decide +kernel⟩
theorem yV_X11_back : YV yX11_back cX11_back 3 (some .boolean) 11 1 := ⟨⟨_, rfl, rfl⟩, by decide, g_1833, g_1834, g_11, g_1835, by decide, by decide, by decide +kernel⟩
theorem yV_X11_best : YV yX11_best cX11_best 5 (some .int) 11 4 := ⟨⟨_, rfl, rfl⟩, by decide, g_1624, g_1625, g_11, g_1626, by decide, by decide, by decide +kernel⟩
theorem yV_X11_day : YV yX11_day cX11_day 7 (some .int) 11 4 := ⟨⟨_, rfl, rfl⟩, by decide, g_1768, g_1769, g_11, g_1770, by decide, by decide, by decide +kernel⟩
theorem yV_X11_driest : YV yX11_driest cX11_driest 10 (some .int) 11 3 := ⟨⟨_, rfl, rfl⟩, by decide, g_1652, g_1653, g_11, g_1654, by decide, by decide, by decide +kernel⟩
theorem yV_X11_even : YV yX11_even cX11_even 7 (some .int) 11 4 := ⟨⟨_, rfl, rfl⟩, by decide, g_1640, g_1641, g_11, g_1642, by decide, by decide, by decide +kernel⟩
theorem yV_X11_face : YV yX11_face cX11_face 9 (some .long) 11 7 := ⟨⟨_, rfl, rfl⟩, by decide, g_1531, g_1532, g_11, g_1533, by decide, by decide, by decide +kernel⟩
theorem yV_X11_fault : YV yX11_fault cX11_fault 1 (some .int) 11 0 := ⟨⟨_, rfl, rfl⟩, by decide, g_1523, g_1524, g_11, g_1525, by decide, by decide, by decide +kernel⟩
theorem yV_X11_feed : YV yX11_feed cX11_feed 8 (some .int) 11 5 := ⟨⟨_, rfl, rfl⟩, by decide, g_1243, g_1244, g_11, g_1245, by decide, by decide, by decide +kernel⟩
theorem yV_X11_first : YV yX11_first cX11_first 12 (some .int) 11 6 := ⟨⟨_, rfl, rfl⟩, by decide, g_1668, g_1669, g_11, g_1670, by decide, by decide, by decide +kernel⟩
theorem yV_X11_fit : YV yX11_fit cX11_fit 4 (some .int) 11 2 := ⟨⟨_, rfl, rfl⟩, by decide, g_1760, g_1761, g_11, g_1762, by decide, by decide, by decide +kernel⟩
theorem yV_X11_fits : YV yX11_fits cX11_fits 2 (some .int) 11 1 := ⟨⟨_, rfl, rfl⟩, by decide, g_1748, g_1749, g_11, g_1750, by decide, by decide, by decide +kernel⟩
theorem yV_X11_go : YV yX11_go cX11_go 6 (some .int) 11 3 := ⟨⟨_, rfl, rfl⟩, by decide, g_1776, g_1777, g_11, g_1778, by decide, by decide, by decide +kernel⟩
theorem yV_X11_got : YV yX11_got cX11_got 3 (some .long) 11 2 := ⟨⟨_, rfl, rfl⟩, by decide, g_1805, g_1806, g_11, g_1807, by decide, by decide, by decide +kernel⟩
theorem yV_X11_held : YV yX11_held cX11_held 7 (some .int) 11 5 := ⟨⟨_, rfl, rfl⟩, by decide, g_1620, g_1621, g_11, g_1622, by decide, by decide, by decide +kernel⟩
theorem yV_X11_least : YV yX11_least cX11_least 8 (some .long) 11 6 := ⟨⟨_, rfl, rfl⟩, by decide, g_1672, g_1673, g_11, g_1674, by decide, by decide, by decide +kernel⟩
theorem yV_X11_led : YV yX11_led cX11_led 4 (some .int) 11 1 := ⟨⟨_, rfl, rfl⟩, by decide, g_1845, g_1846, g_11, g_1847, by decide, by decide, by decide +kernel⟩
theorem yV_X11_lee : YV yX11_lee cX11_lee 9 (some .long) 11 7 := ⟨⟨_, rfl, rfl⟩, by decide, g_1656, g_1657, g_11, g_1658, by decide, by decide, by decide +kernel⟩
theorem yV_X11_lies : YV yX11_lies cX11_lies 3 (some .int) 11 0 := ⟨⟨_, rfl, rfl⟩, by decide, g_1764, g_1765, g_11, g_1766, by decide, by decide, by decide +kernel⟩
theorem yV_X11_mark : YV yX11_mark cX11_mark 2 (some .int) 11 0 := ⟨⟨_, rfl, rfl⟩, by decide, g_1829, g_1830, g_11, g_1831, by decide, by decide, by decide +kernel⟩
theorem yV_X11_mean : YV yX11_mean cX11_mean 8 (some .long) 11 6 := ⟨⟨_, rfl, rfl⟩, by decide, g_1599, g_1600, g_11, g_1601, by decide, by decide, by decide +kernel⟩
theorem yV_X11_minutes : YV yX11_minutes cX11_minutes 4 (some .int) 11 3 := ⟨⟨_, rfl, rfl⟩, by decide, g_1604, g_1605, g_11, g_1606, by decide, by decide, by decide +kernel⟩
theorem yV_X11_off : YV yX11_off cX11_off 7 (some .int) 11 4 := ⟨⟨_, rfl, rfl⟩, by decide, g_1744, g_1745, g_11, g_1746, by decide, by decide, by decide +kernel⟩
theorem yV_X11_road : YV yX11_road cX11_road 3 (some .int) 11 2 := ⟨⟨_, rfl, rfl⟩, by decide, g_1841, g_1842, g_11, g_1843, by decide, by decide, by decide +kernel⟩
theorem yV_X11_round : YV yX11_round cX11_round 5 (some .long) 11 4 := ⟨⟨_, rfl, rfl⟩, by decide, g_1644, g_1645, g_11, g_1646, by decide, by decide, by decide +kernel⟩
theorem yV_X11_saves : YV yX11_saves cX11_saves 6 (some .long) 11 5 := ⟨⟨_, rfl, rfl⟩, by decide, g_1632, g_1633, g_11, g_1634, by decide, by decide, by decide +kernel⟩
theorem yV_X11_size : YV yX11_size cX11_size 2 (some .int) 11 1 := ⟨⟨_, rfl, rfl⟩, by decide, g_1849, g_1850, g_11, g_1851, by decide, by decide, by decide +kernel⟩
theorem yV_X11_soaked : YV yX11_soaked cX11_soaked 1 (some .int) 11 0 := ⟨⟨_, rfl, rfl⟩, by decide, g_1821, g_1822, g_11, g_1823, by decide, by decide, by decide +kernel⟩
theorem yV_X11_stay : YV yX11_stay cX11_stay 4 (some .boolean) 11 1 := ⟨⟨_, rfl, rfl⟩, by decide, g_1792, g_1793, g_11, g_1794, by decide, by decide, by decide +kernel⟩
theorem yV_X11_step : YV yX11_step cX11_step 9 (some .int) 11 6 := ⟨⟨_, rfl, rfl⟩, by decide, g_1740, g_1741, g_11, g_1742, by decide, by decide, by decide +kernel⟩
theorem yV_X11_steps : YV yX11_steps cX11_steps 7 (some .int) 11 5 := ⟨⟨_, rfl, rfl⟩, by decide, g_1732, g_1733, g_11, g_1734, by decide, by decide, by decide +kernel⟩
theorem yV_X11_there : YV yX11_there cX11_there 7 (some .int) 11 5 := ⟨⟨_, rfl, rfl⟩, by decide, g_1728, g_1729, g_11, g_1730, by decide, by decide, by decide +kernel⟩
theorem yV_X11_trouble : YV yX11_trouble cX11_trouble 1 (some .int) 11 0 := ⟨⟨_, rfl, rfl⟩, by decide, g_1853, g_1854, g_11, g_1855, by decide, by decide, by decide +kernel⟩
theorem yV_X11_undo : YV yX11_undo cX11_undo 2 (some .boolean) 11 0 := ⟨⟨_, rfl, rfl⟩, by decide, g_1825, g_1826, g_11, g_1827, by decide, by decide, by decide +kernel⟩
theorem yV_X11_walker : YV yX11_walker cX11_walker 3 (some .int) 11 2 := ⟨⟨_, rfl, rfl⟩, by decide, g_1837, g_1838, g_11, g_1839, by decide, by decide, by decide +kernel⟩
theorem yV_X11_wet : YV yX11_wet cX11_wet 8 (some .long) 11 6 := ⟨⟨_, rfl, rfl⟩, by decide, g_1591, g_1592, g_11, g_1593, by decide, by decide, by decide +kernel⟩
theorem yV_X11_wetness : YV yX11_wetness cX11_wetness 4 (some .long) 11 1 := ⟨⟨_, rfl, rfl⟩, by decide, g_1809, g_1810, g_11, g_1811, by decide, by decide, by decide +kernel⟩
theorem yV_X11_where : YV yX11_where cX11_where 1 (some .int) 11 0 := ⟨⟨_, rfl, rfl⟩, by decide, g_1527, g_1528, g_11, g_1529, by decide, by decide, by decide +kernel⟩
theorem yV_X11_world : YV yX11_world cX11_world 2 (some .int) 11 1 := ⟨⟨_, rfl, rfl⟩, by decide, g_1247, g_1248, g_11, g_1249, by decide, by decide, by decide +kernel⟩
theorem yV_X11_worst : YV yX11_worst cX11_worst 7 (some .int) 11 4 := ⟨⟨_, rfl, rfl⟩, by decide, g_1636, g_1637, g_11, g_1638, by decide, by decide, by decide +kernel⟩
theorem yV_X9_air : YV yX9_air cX9_air 4 (some .int) 9 3 := ⟨⟨_, rfl, rfl⟩, by decide, g_746, g_747, g_1, g_748, by decide, by decide, by decide +kernel⟩
theorem yV_X9_back : YV yX9_back cX9_back 2 (some .boolean) 9 1 := ⟨⟨_, rfl, rfl⟩, by decide, g_1053, g_1054, g_1, g_1055, by decide, by decide, by decide +kernel⟩
theorem yV_X9_best : YV yX9_best cX9_best 5 (some .int) 9 4 := ⟨⟨_, rfl, rfl⟩, by decide, g_757, g_758, g_1, g_759, by decide, by decide, by decide +kernel⟩
theorem yV_X9_day : YV yX9_day cX9_day 5 (some .int) 9 4 := ⟨⟨_, rfl, rfl⟩, by decide, g_963, g_964, g_1, g_965, by decide, by decide, by decide +kernel⟩
theorem yV_X9_driest : YV yX9_driest cX9_driest 11 (some .int) 9 3 := ⟨⟨_, rfl, rfl⟩, by decide, g_793, g_794, g_1, g_795, by decide, by decide, by decide +kernel⟩
theorem yV_X9_even : YV yX9_even cX9_even 9 (some .int) 9 4 := ⟨⟨_, rfl, rfl⟩, by decide, g_785, g_786, g_1, g_787, by decide, by decide, by decide +kernel⟩
theorem yV_X9_face : YV yX9_face cX9_face 9 (some .long) 9 7 := ⟨⟨_, rfl, rfl⟩, by decide, g_650, g_651, g_1, g_652, by decide, by decide, by decide +kernel⟩
theorem yV_X9_fault : YV yX9_fault cX9_fault 1 (some .int) 9 0 := ⟨⟨_, rfl, rfl⟩, by decide, g_642, g_643, g_1, g_644, by decide, by decide, by decide +kernel⟩
theorem yV_X9_feed : YV yX9_feed cX9_feed 6 (some .int) 9 5 := ⟨⟨_, rfl, rfl⟩, by decide, g_419, g_420, g_1, g_421, by decide, by decide, by decide +kernel⟩
theorem yV_X9_first : YV yX9_first cX9_first 11 (some .int) 9 6 := ⟨⟨_, rfl, rfl⟩, by decide, g_810, g_811, g_1, g_812, by decide, by decide, by decide +kernel⟩
theorem yV_X9_fit : YV yX9_fit cX9_fit 4 (some .int) 9 2 := ⟨⟨_, rfl, rfl⟩, by decide, g_950, g_951, g_1, g_952, by decide, by decide, by decide +kernel⟩
theorem yV_X9_fits : YV yX9_fits cX9_fits 2 (some .int) 9 1 := ⟨⟨_, rfl, rfl⟩, by decide, g_926, g_927, g_1, g_928, by decide, by decide, by decide +kernel⟩
theorem yV_X9_go : YV yX9_go cX9_go 8 (some .int) 9 3 := ⟨⟨_, rfl, rfl⟩, by decide, g_978, g_979, g_1, g_980, by decide, by decide, by decide +kernel⟩
theorem yV_X9_got : YV yX9_got cX9_got 3 (some .long) 9 2 := ⟨⟨_, rfl, rfl⟩, by decide, g_1015, g_1016, g_1, g_1017, by decide, by decide, by decide +kernel⟩
theorem yV_X9_held : YV yX9_held cX9_held 6 (some .int) 9 5 := ⟨⟨_, rfl, rfl⟩, by decide, g_751, g_752, g_1, g_753, by decide, by decide, by decide +kernel⟩
theorem yV_X9_least : YV yX9_least cX9_least 7 (some .long) 9 6 := ⟨⟨_, rfl, rfl⟩, by decide, g_814, g_815, g_1, g_816, by decide, by decide, by decide +kernel⟩
theorem yV_X9_lee : YV yX9_lee cX9_lee 8 (some .long) 9 7 := ⟨⟨_, rfl, rfl⟩, by decide, g_798, g_799, g_1, g_800, by decide, by decide, by decide +kernel⟩
theorem yV_X9_lies : YV yX9_lies cX9_lies 3 (some .int) 9 0 := ⟨⟨_, rfl, rfl⟩, by decide, g_958, g_959, g_1, g_960, by decide, by decide, by decide +kernel⟩
theorem yV_X9_mark : YV yX9_mark cX9_mark 2 (some .int) 9 0 := ⟨⟨_, rfl, rfl⟩, by decide, g_1045, g_1046, g_1, g_1047, by decide, by decide, by decide +kernel⟩
theorem yV_X9_mean : YV yX9_mean cX9_mean 9 (some .long) 9 6 := ⟨⟨_, rfl, rfl⟩, by decide, g_733, g_734, g_1, g_735, by decide, by decide, by decide +kernel⟩
theorem yV_X9_minutes : YV yX9_minutes cX9_minutes 4 (some .int) 9 3 := ⟨⟨_, rfl, rfl⟩, by decide, g_738, g_739, g_1, g_740, by decide, by decide, by decide +kernel⟩
theorem yV_X9_off : YV yX9_off cX9_off 9 (some .int) 9 4 := ⟨⟨_, rfl, rfl⟩, by decide, g_922, g_923, g_1, g_924, by decide, by decide, by decide +kernel⟩
theorem yV_X9_road : YV yX9_road cX9_road 3 (some .int) 9 2 := ⟨⟨_, rfl, rfl⟩, by decide, g_1069, g_1070, g_1, g_1071, by decide, by decide, by decide +kernel⟩
theorem yV_X9_round : YV yX9_round cX9_round 9 (some .long) 9 4 := ⟨⟨_, rfl, rfl⟩, by decide, g_789, g_790, g_1, g_791, by decide, by decide, by decide +kernel⟩
theorem yV_X9_saves : YV yX9_saves cX9_saves 9 (some .long) 9 5 := ⟨⟨_, rfl, rfl⟩, by decide, g_767, g_768, g_1, g_769, by decide, by decide, by decide +kernel⟩
theorem yV_X9_size : YV yX9_size cX9_size 2 (some .int) 9 1 := ⟨⟨_, rfl, rfl⟩, by decide, g_1077, g_1078, g_1, g_1079, by decide, by decide, by decide +kernel⟩
theorem yV_X9_soaked : YV yX9_soaked cX9_soaked 2 (some .int) 9 0 := ⟨⟨_, rfl, rfl⟩, by decide, g_1033, g_1034, g_1, g_1035, by decide, by decide, by decide +kernel⟩
theorem yV_X9_stay : YV yX9_stay cX9_stay 5 (some .boolean) 9 1 := ⟨⟨_, rfl, rfl⟩, by decide, g_1005, g_1006, g_1, g_1007, by decide, by decide, by decide +kernel⟩
theorem yV_X9_step : YV yX9_step cX9_step 8 (some .int) 9 6 := ⟨⟨_, rfl, rfl⟩, by decide, g_918, g_919, g_1, g_920, by decide, by decide, by decide +kernel⟩
theorem yV_X9_steps : YV yX9_steps cX9_steps 6 (some .int) 9 5 := ⟨⟨_, rfl, rfl⟩, by decide, g_909, g_910, g_1, g_911, by decide, by decide, by decide +kernel⟩
theorem yV_X9_there : YV yX9_there cX9_there 6 (some .int) 9 5 := ⟨⟨_, rfl, rfl⟩, by decide, g_901, g_902, g_1, g_903, by decide, by decide, by decide +kernel⟩
theorem yV_X9_trouble : YV yX9_trouble cX9_trouble 1 (some .int) 9 0 := ⟨⟨_, rfl, rfl⟩, by decide, g_1081, g_1082, g_1, g_1083, by decide, by decide, by decide +kernel⟩
theorem yV_X9_undo : YV yX9_undo cX9_undo 1 (some .boolean) 9 0 := ⟨⟨_, rfl, rfl⟩, by decide, g_1037, g_1038, g_1, g_1039, by decide, by decide, by decide +kernel⟩
theorem yV_X9_walker : YV yX9_walker cX9_walker 3 (some .int) 9 2 := ⟨⟨_, rfl, rfl⟩, by decide, g_1061, g_1062, g_1, g_1063, by decide, by decide, by decide +kernel⟩
theorem yV_X9_wet : YV yX9_wet cX9_wet 7 (some .long) 9 6 := ⟨⟨_, rfl, rfl⟩, by decide, g_729, g_730, g_1, g_731, by decide, by decide, by decide +kernel⟩
theorem yV_X9_wetness : YV yX9_wetness cX9_wetness 4 (some .long) 9 1 := ⟨⟨_, rfl, rfl⟩, by decide, g_1019, g_1020, g_1, g_1021, by decide, by decide, by decide +kernel⟩
theorem yV_X9_where : YV yX9_where cX9_where 1 (some .int) 9 0 := ⟨⟨_, rfl, rfl⟩, by decide, g_646, g_647, g_1, g_648, by decide, by decide, by decide +kernel⟩
theorem yV_X9_world : YV yX9_world cX9_world 3 (some .int) 9 1 := ⟨⟨_, rfl, rfl⟩, by decide, g_427, g_428, g_1, g_429, by decide, by decide, by decide +kernel⟩
theorem yV_X9_worst : YV yX9_worst cX9_worst 5 (some .int) 9 4 := ⟨⟨_, rfl, rfl⟩, by decide, g_776, g_777, g_1, g_778, by decide, by decide, by decide +kernel⟩
