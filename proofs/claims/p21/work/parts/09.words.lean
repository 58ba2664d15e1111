/-! the tables' words that keep: each by its place -/
def G : List Cond := lw_tbl.filter goodWord
theorem G_good : ∀ w ∈ G, w ∈ G ∧ ((w.onTables && w.keeps) = true ∨ ∃ ty, w = .arrayClass ty) := fun w h => ⟨h, good_of_word (List.mem_filter.mp h).2⟩
theorem inT1 {w : Cond} (h : w ∈ tables_1_1) : w ∈ lw_tbl := List.mem_append_right _ (List.mem_append_left _ h)
theorem gT1 {w : Cond} (i : Nat) (h : tables_1_1[i]? = some w) (hg : goodWord w = true) : w ∈ G := List.mem_filter.mpr ⟨inT1 (List.mem_of_getElem? h), hg⟩
theorem inT2 {w : Cond} (h : w ∈ tables_1_2) : w ∈ lw_tbl := List.mem_append_right _ (List.mem_append_right _ (List.mem_append_left _ h))
theorem gT2 {w : Cond} (i : Nat) (h : tables_1_2[i]? = some w) (hg : goodWord w = true) : w ∈ G := List.mem_filter.mpr ⟨inT2 (List.mem_of_getElem? h), hg⟩
theorem inT3 {w : Cond} (h : w ∈ tables_1_3) : w ∈ lw_tbl := List.mem_append_right _ (List.mem_append_right _ (List.mem_append_right _ (List.mem_append_left _ h)))
theorem gT3 {w : Cond} (i : Nat) (h : tables_1_3[i]? = some w) (hg : goodWord w = true) : w ∈ G := List.mem_filter.mpr ⟨inT3 (List.mem_of_getElem? h), hg⟩
theorem inT4 {w : Cond} (h : w ∈ tables_1_4) : w ∈ lw_tbl := List.mem_append_right _ (List.mem_append_right _ (List.mem_append_right _ (List.mem_append_right _ (List.mem_append_left _ h))))
theorem gT4 {w : Cond} (i : Nat) (h : tables_1_4[i]? = some w) (hg : goodWord w = true) : w ∈ G := List.mem_filter.mpr ⟨inT4 (List.mem_of_getElem? h), hg⟩
theorem inT5 {w : Cond} (h : w ∈ tables_1_5) : w ∈ lw_tbl := List.mem_append_right _ (List.mem_append_right _ (List.mem_append_right _ (List.mem_append_right _ (List.mem_append_right _ (List.mem_append_left _ h)))))
theorem gT5 {w : Cond} (i : Nat) (h : tables_1_5[i]? = some w) (hg : goodWord w = true) : w ∈ G := List.mem_filter.mpr ⟨inT5 (List.mem_of_getElem? h), hg⟩
theorem inT6 {w : Cond} (h : w ∈ tables_1_6) : w ∈ lw_tbl := List.mem_append_right _ (List.mem_append_right _ (List.mem_append_right _ (List.mem_append_right _ (List.mem_append_right _ (List.mem_append_right _ (List.mem_append_left _ h))))))
theorem gT6 {w : Cond} (i : Nat) (h : tables_1_6[i]? = some w) (hg : goodWord w = true) : w ∈ G := List.mem_filter.mpr ⟨inT6 (List.mem_of_getElem? h), hg⟩
theorem inT7 {w : Cond} (h : w ∈ tables_1_7) : w ∈ lw_tbl := List.mem_append_right _ (List.mem_append_right _ (List.mem_append_right _ (List.mem_append_right _ (List.mem_append_right _ (List.mem_append_right _ (List.mem_append_right _ (List.mem_append_left _ h)))))))
theorem gT7 {w : Cond} (i : Nat) (h : tables_1_7[i]? = some w) (hg : goodWord w = true) : w ∈ G := List.mem_filter.mpr ⟨inT7 (List.mem_of_getElem? h), hg⟩
theorem inT8 {w : Cond} (h : w ∈ tables_1_8) : w ∈ lw_tbl := List.mem_append_right _ (List.mem_append_right _ (List.mem_append_right _ (List.mem_append_right _ (List.mem_append_right _ (List.mem_append_right _ (List.mem_append_right _ (List.mem_append_right _ (h))))))))
theorem gT8 {w : Cond} (i : Nat) (h : tables_1_8[i]? = some w) (hg : goodWord w = true) : w ∈ G := List.mem_filter.mpr ⟨inT8 (List.mem_of_getElem? h), hg⟩
theorem gP {w : Cond} (i : Nat) (h : (k2_sels lw_privs)[i]? = some w) (hg : goodWord w = true) : w ∈ G := List.mem_filter.mpr ⟨List.mem_append_left _ (List.mem_of_getElem? h), hg⟩
theorem g_0 : Jvm.Cond.initialized "RainWalkLaw" ∈ G := gT1 0 rfl rfl
theorem g_1 : Jvm.Cond.initialized "RainWalk" ∈ G := gT1 1 rfl rfl
theorem g_2 : Jvm.Cond.initialized "RainWalk$World" ∈ G := gT1 2 rfl rfl
theorem g_3 : Jvm.Cond.initialized "RainWalk$Rain" ∈ G := gT1 3 rfl rfl
theorem g_4 : Jvm.Cond.initialized "RainWalk$Road" ∈ G := gT1 4 rfl rfl
theorem g_5 : Jvm.Cond.initialized "RainWalk$Walker" ∈ G := gT1 5 rfl rfl
theorem g_6 : Jvm.Cond.initialized "RainWalk$Reader" ∈ G := gT1 6 rfl rfl
theorem g_7 : Jvm.Cond.initialized "RainWalk$Leg" ∈ G := gT1 7 rfl rfl
theorem g_8 : Jvm.Cond.initialized "RainWalk$Ways" ∈ G := gT1 8 rfl rfl
theorem g_9 : Jvm.Cond.initialized "RainWalk$Day" ∈ G := gT1 9 rfl rfl
theorem g_10 : Jvm.Cond.initialized "RainWalk$Moment" ∈ G := gT1 10 rfl rfl
theorem g_11 : Jvm.Cond.initialized "RainWalkModel" ∈ G := gT1 11 rfl rfl
theorem g_12 : Jvm.Cond.initialized "java/lang/Math" ∈ G := gT1 12 rfl rfl
theorem g_13 : Jvm.Cond.initialized "java/lang/String" ∈ G := gT1 13 rfl rfl
theorem g_14 : Jvm.Cond.initialized "java/lang/StringLatin1" ∈ G := gT1 14 rfl rfl
theorem g_15 : Jvm.Cond.initialized "jdk/internal/util/Preconditions" ∈ G := gT1 15 rfl rfl
theorem g_16 : Jvm.Cond.initialized "java/lang/StringUTF16" ∈ G := gT1 16 rfl rfl
theorem g_17 : Jvm.Cond.initialized "RainWalkModel$World" ∈ G := gT1 17 rfl rfl
theorem g_18 : Jvm.Cond.initialized "java/lang/Throwable" ∈ G := gT1 18 rfl rfl
theorem g_19 : Jvm.Cond.initialized "java/lang/Exception" ∈ G := gT1 19 rfl rfl
theorem g_20 : Jvm.Cond.initialized "java/lang/RuntimeException" ∈ G := gT1 20 rfl rfl
theorem g_21 : Jvm.Cond.initialized "java/util/NoSuchElementException" ∈ G := gT1 21 rfl rfl
theorem g_22 : Jvm.Cond.classLink "RainWalkLaw" (8 : Nat) "RainWalk" ∈ G := gT1 22 rfl rfl
theorem g_23 : Jvm.Cond.instantiable "RainWalk" (10 : Nat) ∈ G := gT1 23 rfl rfl
theorem g_24 : Jvm.Cond.methodLink "RainWalkLaw" (15 : Nat) ({ cls := "RainWalk", name := "<init>", desc := "()V" } : Jvm.MethodName) ∈ G := gT1 24 rfl rfl
theorem g_25 : Jvm.Cond.instanceMethod ({ cls := "RainWalk", name := "<init>", desc := "()V" } : Jvm.MethodName) ∈ G := gT1 25 rfl rfl
theorem g_26 : Jvm.Cond.code ({ cls := "RainWalk", name := "<init>", desc := "()V" } : Jvm.MethodName) prog_1_method_1_code (1 : Nat) (Option.none : Option Jvm.ClassFile.FieldType) ∈ G := gT1 26 rfl rfl
theorem g_27 : Jvm.Cond.methodLink "RainWalk" (1 : Nat) ({ cls := "java/lang/Object", name := "<init>", desc := "()V" } : Jvm.MethodName) ∈ G := gT1 27 rfl rfl
theorem g_28 : Jvm.Cond.instanceMethod ({ cls := "java/lang/Object", name := "<init>", desc := "()V" } : Jvm.MethodName) ∈ G := gT1 28 rfl rfl
theorem g_29 : Jvm.Cond.code ({ cls := "java/lang/Object", name := "<init>", desc := "()V" } : Jvm.MethodName) object_method_1_code (1 : Nat) (Option.none : Option Jvm.ClassFile.FieldType) ∈ G := gT1 29 rfl rfl
theorem g_30 : Jvm.Cond.classLink "RainWalk" (13 : Nat) "RainWalk$World" ∈ G := gT1 30 rfl rfl
theorem g_31 : Jvm.Cond.instantiable "RainWalk$World" (12 : Nat) ∈ G := gT1 31 rfl rfl
theorem g_32 : Jvm.Cond.methodLink "RainWalk" (15 : Nat) ({ cls := "RainWalk$World", name := "<init>", desc := "()V" } : Jvm.MethodName) ∈ G := gT1 32 rfl rfl
theorem g_33 : Jvm.Cond.instanceMethod ({ cls := "RainWalk$World", name := "<init>", desc := "()V" } : Jvm.MethodName) ∈ G := gT1 33 rfl rfl
theorem g_34 : Jvm.Cond.code ({ cls := "RainWalk$World", name := "<init>", desc := "()V" } : Jvm.MethodName) prog_10_method_1_code (2 : Nat) (Option.none : Option Jvm.ClassFile.FieldType) ∈ G := gT1 34 rfl rfl
theorem g_35 : Jvm.Cond.methodLink "RainWalk$World" (3 : Nat) ({ cls := "java/lang/Object", name := "<init>", desc := "()V" } : Jvm.MethodName) ∈ G := gT1 35 rfl rfl
theorem g_36 : Jvm.Cond.classLink "RainWalk$World" (9 : Nat) "RainWalk$Rain" ∈ G := gT1 36 rfl rfl
theorem g_38 : Jvm.Cond.classLink "RainWalk$World" (21 : Nat) "RainWalk$Road" ∈ G := gT1 38 rfl rfl
theorem g_40 : Jvm.Cond.classLink "RainWalk$World" (27 : Nat) "RainWalk$Walker" ∈ G := gT1 40 rfl rfl
theorem g_42 : Jvm.Cond.instantiable "RainWalk$Rain" (5 : Nat) ∈ G := gT1 42 rfl rfl
theorem g_44 : Jvm.Cond.instanceMethod ({ cls := "RainWalk$Rain", name := "<init>", desc := "()V" } : Jvm.MethodName) ∈ G := gT1 44 rfl rfl
theorem g_45 : Jvm.Cond.code ({ cls := "RainWalk$Rain", name := "<init>", desc := "()V" } : Jvm.MethodName) prog_5_method_1_code (1 : Nat) (Option.none : Option Jvm.ClassFile.FieldType) ∈ G := gT1 45 rfl rfl
theorem g_46 : Jvm.Cond.methodLink "RainWalk$Rain" (1 : Nat) ({ cls := "java/lang/Object", name := "<init>", desc := "()V" } : Jvm.MethodName) ∈ G := gT1 46 rfl rfl
theorem g_47 : Jvm.Cond.fieldLink "RainWalk$Leg" (27 : Nat) "RainWalk$Rain" "drops" "I" ∈ G := gT1 47 rfl rfl
theorem g_48 : Jvm.Cond.fieldLink "RainWalk$Reader" (193 : Nat) "RainWalk$Rain" "drops" "I" ∈ G := gT1 48 rfl rfl
theorem g_49 : Jvm.Cond.fieldLink "RainWalk$Leg" (39 : Nat) "RainWalk$Rain" "down" "I" ∈ G := gT1 49 rfl rfl
theorem g_50 : Jvm.Cond.fieldLink "RainWalk$Reader" (199 : Nat) "RainWalk$Rain" "down" "I" ∈ G := gT1 50 rfl rfl
theorem g_51 : Jvm.Cond.fieldLink "RainWalk$Road" (22 : Nat) "RainWalk$Rain" "windSide" "I" ∈ G := gT1 51 rfl rfl
theorem g_52 : Jvm.Cond.fieldLink "RainWalk$Reader" (206 : Nat) "RainWalk$Rain" "windSide" "I" ∈ G := gT1 52 rfl rfl
theorem g_53 : Jvm.Cond.fieldLink "RainWalk$Leg" (48 : Nat) "RainWalk$Rain" "wind" "I" ∈ G := gT1 53 rfl rfl
theorem g_54 : Jvm.Cond.fieldLink "RainWalk$Road" (31 : Nat) "RainWalk$Rain" "wind" "I" ∈ G := gT1 54 rfl rfl
theorem g_55 : Jvm.Cond.fieldLink "RainWalk$Reader" (209 : Nat) "RainWalk$Rain" "wind" "I" ∈ G := gT1 55 rfl rfl
theorem g_56 : Jvm.Cond.fieldLink "RainWalk$Day" (61 : Nat) "RainWalk$Rain" "chance" "I" ∈ G := gT1 56 rfl rfl
theorem g_57 : Jvm.Cond.fieldLink "RainWalk$Ways" (120 : Nat) "RainWalk$Rain" "chance" "I" ∈ G := gT1 57 rfl rfl
theorem g_58 : Jvm.Cond.fieldLink "RainWalk" (134 : Nat) "RainWalk$Rain" "chance" "I" ∈ G := gT1 58 rfl rfl
theorem g_59 : Jvm.Cond.fieldLink "RainWalk$Reader" (213 : Nat) "RainWalk$Rain" "chance" "I" ∈ G := gT1 59 rfl rfl
theorem g_60 : Jvm.Cond.lays "RainWalk$Rain" "RainWalk$Rain" "drops" "I" ∈ G := gT1 60 rfl rfl
theorem g_62 : Jvm.Cond.lays "RainWalk$Rain" "RainWalk$Rain" "down" "I" ∈ G := gT1 62 rfl rfl
theorem g_64 : Jvm.Cond.lays "RainWalk$Rain" "RainWalk$Rain" "windSide" "I" ∈ G := gT1 64 rfl rfl
theorem g_66 : Jvm.Cond.lays "RainWalk$Rain" "RainWalk$Rain" "wind" "I" ∈ G := gT1 66 rfl rfl
theorem g_68 : Jvm.Cond.lays "RainWalk$Rain" "RainWalk$Rain" "chance" "I" ∈ G := gT1 68 rfl rfl
theorem g_71 : Jvm.Cond.arrayClass Jvm.ClassFile.FieldType.byte ∈ G := gT1 71 rfl rfl
theorem g_72 : Jvm.Cond.arrayClass Jvm.ClassFile.FieldType.int ∈ G := gT1 72 rfl rfl
theorem g_73 : Jvm.Cond.instantiable "RainWalk$Road" (5 : Nat) ∈ G := gT1 73 rfl rfl
theorem g_75 : Jvm.Cond.instanceMethod ({ cls := "RainWalk$Road", name := "<init>", desc := "()V" } : Jvm.MethodName) ∈ G := gT1 75 rfl rfl
theorem g_76 : Jvm.Cond.code ({ cls := "RainWalk$Road", name := "<init>", desc := "()V" } : Jvm.MethodName) prog_7_method_1_code (1 : Nat) (Option.none : Option Jvm.ClassFile.FieldType) ∈ G := gT1 76 rfl rfl
theorem g_77 : Jvm.Cond.methodLink "RainWalk$Road" (1 : Nat) ({ cls := "java/lang/Object", name := "<init>", desc := "()V" } : Jvm.MethodName) ∈ G := gT1 77 rfl rfl
theorem g_78 : Jvm.Cond.fieldLink "RainWalk$Road" (7 : Nat) "RainWalk$Road" "begin" "I" ∈ G := gT1 78 rfl rfl
theorem g_79 : Jvm.Cond.fieldLink "RainWalk$Reader" (227 : Nat) "RainWalk$Road" "begin" "I" ∈ G := gT1 79 rfl rfl
theorem g_80 : Jvm.Cond.fieldLink "RainWalk$Road" (13 : Nat) "RainWalk$Road" "end" "I" ∈ G := gT1 80 rfl rfl
theorem g_81 : Jvm.Cond.fieldLink "RainWalk$Reader" (235 : Nat) "RainWalk$Road" "end" "I" ∈ G := gT1 81 rfl rfl
theorem g_82 : Jvm.Cond.fieldLink "RainWalk$Road" (19 : Nat) "RainWalk$Road" "side" "I" ∈ G := gT1 82 rfl rfl
theorem g_83 : Jvm.Cond.fieldLink "RainWalk$Reader" (232 : Nat) "RainWalk$Road" "side" "I" ∈ G := gT1 83 rfl rfl
theorem g_84 : Jvm.Cond.fieldLink "RainWalk$Leg" (18 : Nat) "RainWalk$Road" "length" "I" ∈ G := gT1 84 rfl rfl
theorem g_85 : Jvm.Cond.fieldLink "RainWalk$Road" (16 : Nat) "RainWalk$Road" "length" "I" ∈ G := gT1 85 rfl rfl
theorem g_86 : Jvm.Cond.fieldLink "RainWalk$Reader" (234 : Nat) "RainWalk$Road" "length" "I" ∈ G := gT1 86 rfl rfl
theorem g_87 : Jvm.Cond.fieldLink "RainWalk$Leg" (24 : Nat) "RainWalk$Road" "awning" "I" ∈ G := gT1 87 rfl rfl
theorem g_88 : Jvm.Cond.fieldLink "RainWalk$Road" (34 : Nat) "RainWalk$Road" "awning" "I" ∈ G := gT1 88 rfl rfl
theorem g_89 : Jvm.Cond.fieldLink "RainWalk$Reader" (238 : Nat) "RainWalk$Road" "awning" "I" ∈ G := gT1 89 rfl rfl
theorem g_90 : Jvm.Cond.lays "RainWalk$Road" "RainWalk$Road" "begin" "I" ∈ G := gT1 90 rfl rfl
theorem g_92 : Jvm.Cond.lays "RainWalk$Road" "RainWalk$Road" "end" "I" ∈ G := gT1 92 rfl rfl
theorem g_94 : Jvm.Cond.lays "RainWalk$Road" "RainWalk$Road" "side" "I" ∈ G := gT1 94 rfl rfl
theorem g_96 : Jvm.Cond.lays "RainWalk$Road" "RainWalk$Road" "length" "I" ∈ G := gT1 96 rfl rfl
theorem g_98 : Jvm.Cond.lays "RainWalk$Road" "RainWalk$Road" "awning" "I" ∈ G := gT1 98 rfl rfl
theorem g_101 : Jvm.Cond.instantiable "RainWalk$Walker" (7 : Nat) ∈ G := gT1 101 rfl rfl
theorem g_103 : Jvm.Cond.instanceMethod ({ cls := "RainWalk$Walker", name := "<init>", desc := "()V" } : Jvm.MethodName) ∈ G := gT1 103 rfl rfl
theorem g_104 : Jvm.Cond.code ({ cls := "RainWalk$Walker", name := "<init>", desc := "()V" } : Jvm.MethodName) prog_8_method_1_code (1 : Nat) (Option.none : Option Jvm.ClassFile.FieldType) ∈ G := gT1 104 rfl rfl
theorem g_105 : Jvm.Cond.methodLink "RainWalk$Walker" (3 : Nat) ({ cls := "java/lang/Object", name := "<init>", desc := "()V" } : Jvm.MethodName) ∈ G := gT1 105 rfl rfl
theorem g_106 : Jvm.Cond.fieldLink "RainWalk$Walker" (9 : Nat) "RainWalk$Walker" "kind" "I" ∈ G := gT1 106 rfl rfl
theorem g_107 : Jvm.Cond.fieldLink "RainWalk" (167 : Nat) "RainWalk$Walker" "kind" "I" ∈ G := gT1 107 rfl rfl
theorem g_108 : Jvm.Cond.fieldLink "RainWalk$Reader" (264 : Nat) "RainWalk$Walker" "kind" "I" ∈ G := gT1 108 rfl rfl
theorem g_109 : Jvm.Cond.fieldLink "RainWalk$Walker" (15 : Nat) "RainWalk$Walker" "amount" "I" ∈ G := gT1 109 rfl rfl
theorem g_110 : Jvm.Cond.fieldLink "RainWalk$Reader" (273 : Nat) "RainWalk$Walker" "amount" "I" ∈ G := gT1 110 rfl rfl
theorem g_111 : Jvm.Cond.fieldLink "RainWalk" (341 : Nat) "RainWalk$Walker" "amount" "I" ∈ G := gT1 111 rfl rfl
theorem g_112 : Jvm.Cond.fieldLink "RainWalk$Walker" (18 : Nat) "RainWalk$Walker" "top" "I" ∈ G := gT1 112 rfl rfl
theorem g_113 : Jvm.Cond.fieldLink "RainWalk$Leg" (57 : Nat) "RainWalk$Walker" "top" "I" ∈ G := gT1 113 rfl rfl
theorem g_114 : Jvm.Cond.fieldLink "RainWalk$World" (68 : Nat) "RainWalk$Walker" "top" "I" ∈ G := gT1 114 rfl rfl
theorem g_115 : Jvm.Cond.fieldLink "RainWalk$Walker" (21 : Nat) "RainWalk$Walker" "front" "I" ∈ G := gT1 115 rfl rfl
theorem g_116 : Jvm.Cond.fieldLink "RainWalk$Leg" (63 : Nat) "RainWalk$Walker" "front" "I" ∈ G := gT1 116 rfl rfl
theorem g_117 : Jvm.Cond.fieldLink "RainWalk$Walker" (24 : Nat) "RainWalk$Walker" "side" "I" ∈ G := gT1 117 rfl rfl
theorem g_118 : Jvm.Cond.fieldLink "RainWalk$Leg" (78 : Nat) "RainWalk$Walker" "side" "I" ∈ G := gT1 118 rfl rfl
theorem g_119 : Jvm.Cond.fieldLink "RainWalk$Walker" (27 : Nat) "RainWalk$Walker" "slowest" "I" ∈ G := gT1 119 rfl rfl
theorem g_120 : Jvm.Cond.fieldLink "RainWalk$Ways" (102 : Nat) "RainWalk$Walker" "slowest" "I" ∈ G := gT1 120 rfl rfl
theorem g_121 : Jvm.Cond.fieldLink "RainWalk$Leg" (81 : Nat) "RainWalk$Walker" "slowest" "I" ∈ G := gT1 121 rfl rfl
theorem g_122 : Jvm.Cond.fieldLink "RainWalk" (186 : Nat) "RainWalk$Walker" "slowest" "I" ∈ G := gT1 122 rfl rfl
theorem g_123 : Jvm.Cond.fieldLink "RainWalk$Reader" (252 : Nat) "RainWalk$Walker" "slowest" "I" ∈ G := gT1 123 rfl rfl
theorem g_124 : Jvm.Cond.fieldLink "RainWalk$Walker" (30 : Nat) "RainWalk$Walker" "fastest" "I" ∈ G := gT1 124 rfl rfl
theorem g_125 : Jvm.Cond.fieldLink "RainWalk$Ways" (107 : Nat) "RainWalk$Walker" "fastest" "I" ∈ G := gT1 125 rfl rfl
theorem g_126 : Jvm.Cond.fieldLink "RainWalk$Leg" (86 : Nat) "RainWalk$Walker" "fastest" "I" ∈ G := gT1 126 rfl rfl
theorem g_127 : Jvm.Cond.fieldLink "RainWalk$Reader" (259 : Nat) "RainWalk$Walker" "fastest" "I" ∈ G := gT1 127 rfl rfl
theorem g_128 : Jvm.Cond.lays "RainWalk$Walker" "RainWalk$Walker" "kind" "I" ∈ G := gT1 128 rfl rfl
theorem g_130 : Jvm.Cond.lays "RainWalk$Walker" "RainWalk$Walker" "amount" "I" ∈ G := gT1 130 rfl rfl
theorem g_132 : Jvm.Cond.lays "RainWalk$Walker" "RainWalk$Walker" "top" "I" ∈ G := gT1 132 rfl rfl
theorem g_134 : Jvm.Cond.lays "RainWalk$Walker" "RainWalk$Walker" "front" "I" ∈ G := gT1 134 rfl rfl
theorem g_136 : Jvm.Cond.lays "RainWalk$Walker" "RainWalk$Walker" "side" "I" ∈ G := gT1 136 rfl rfl
theorem g_138 : Jvm.Cond.lays "RainWalk$Walker" "RainWalk$Walker" "slowest" "I" ∈ G := gT1 138 rfl rfl
theorem g_140 : Jvm.Cond.lays "RainWalk$Walker" "RainWalk$Walker" "fastest" "I" ∈ G := gT1 140 rfl rfl
theorem g_143 : Jvm.Cond.fieldLink "RainWalk$World" (42 : Nat) "RainWalk$World" "hourMinutes" "I" ∈ G := gT1 143 rfl rfl
theorem g_144 : Jvm.Cond.fieldLink "RainWalk$Reader" (185 : Nat) "RainWalk$World" "hourMinutes" "I" ∈ G := gT1 144 rfl rfl
theorem g_145 : Jvm.Cond.fieldLink "RainWalk" (367 : Nat) "RainWalk$World" "hourMinutes" "I" ∈ G := gT1 145 rfl rfl
theorem g_146 : Jvm.Cond.fieldLink "RainWalk$World" (46 : Nat) "RainWalk$World" "hours" "I" ∈ G := gT1 146 rfl rfl
theorem g_147 : Jvm.Cond.fieldLink "RainWalk$Reader" (45 : Nat) "RainWalk$World" "hours" "I" ∈ G := gT1 147 rfl rfl
theorem g_148 : Jvm.Cond.fieldLink "RainWalk$Ways" (62 : Nat) "RainWalk$World" "hours" "I" ∈ G := gT1 148 rfl rfl
theorem g_149 : Jvm.Cond.fieldLink "RainWalk$Day" (51 : Nat) "RainWalk$World" "hours" "I" ∈ G := gT1 149 rfl rfl
theorem g_150 : Jvm.Cond.fieldLink "RainWalk$Leg" (112 : Nat) "RainWalk$World" "hours" "I" ∈ G := gT1 150 rfl rfl
theorem g_151 : Jvm.Cond.fieldLink "RainWalk" (196 : Nat) "RainWalk$World" "hours" "I" ∈ G := gT1 151 rfl rfl
theorem g_152 : Jvm.Cond.fieldLink "RainWalk$World" (49 : Nat) "RainWalk$World" "places" "I" ∈ G := gT1 152 rfl rfl
theorem g_153 : Jvm.Cond.fieldLink "RainWalk$Reader" (58 : Nat) "RainWalk$World" "places" "I" ∈ G := gT1 153 rfl rfl
theorem g_154 : Jvm.Cond.fieldLink "RainWalk$Ways" (75 : Nat) "RainWalk$World" "places" "I" ∈ G := gT1 154 rfl rfl
theorem g_155 : Jvm.Cond.fieldLink "RainWalk" (370 : Nat) "RainWalk$World" "places" "I" ∈ G := gT1 155 rfl rfl
theorem g_156 : Jvm.Cond.fieldLink "RainWalk$World" (52 : Nat) "RainWalk$World" "roads" "I" ∈ G := gT1 156 rfl rfl
theorem g_157 : Jvm.Cond.fieldLink "RainWalk$Reader" (66 : Nat) "RainWalk$World" "roads" "I" ∈ G := gT1 157 rfl rfl
theorem g_158 : Jvm.Cond.fieldLink "RainWalk$Ways" (95 : Nat) "RainWalk$World" "roads" "I" ∈ G := gT1 158 rfl rfl
theorem g_159 : Jvm.Cond.fieldLink "RainWalk$Leg" (107 : Nat) "RainWalk$World" "roads" "I" ∈ G := gT1 159 rfl rfl
theorem g_160 : Jvm.Cond.fieldLink "RainWalk" (358 : Nat) "RainWalk$World" "roads" "I" ∈ G := gT1 160 rfl rfl
theorem g_161 : Jvm.Cond.fieldLink "RainWalk$World" (55 : Nat) "RainWalk$World" "walkers" "I" ∈ G := gT1 161 rfl rfl
theorem g_162 : Jvm.Cond.fieldLink "RainWalk$Reader" (74 : Nat) "RainWalk$World" "walkers" "I" ∈ G := gT1 162 rfl rfl
theorem g_163 : Jvm.Cond.fieldLink "RainWalk" (86 : Nat) "RainWalk$World" "walkers" "I" ∈ G := gT1 163 rfl rfl
theorem g_164 : Jvm.Cond.fieldLink "RainWalk$World" (58 : Nat) "RainWalk$World" "seens" "I" ∈ G := gT1 164 rfl rfl
theorem g_165 : Jvm.Cond.fieldLink "RainWalk$Reader" (82 : Nat) "RainWalk$World" "seens" "I" ∈ G := gT1 165 rfl rfl
theorem g_166 : Jvm.Cond.fieldLink "RainWalk" (264 : Nat) "RainWalk$World" "seens" "I" ∈ G := gT1 166 rfl rfl
theorem g_167 : Jvm.Cond.fieldLink "RainWalk$World" (11 : Nat) "RainWalk$World" "rain" "[LRainWalk$Rain;" ∈ G := gT1 167 rfl rfl
theorem g_168 : Jvm.Cond.fieldLink "RainWalk$Day" (57 : Nat) "RainWalk$World" "rain" "[LRainWalk$Rain;" ∈ G := gT1 168 rfl rfl
theorem g_169 : Jvm.Cond.fieldLink "RainWalk$Ways" (110 : Nat) "RainWalk$World" "rain" "[LRainWalk$Rain;" ∈ G := gT1 169 rfl rfl
theorem g_170 : Jvm.Cond.fieldLink "RainWalk" (116 : Nat) "RainWalk$World" "rain" "[LRainWalk$Rain;" ∈ G := gT1 170 rfl rfl
theorem g_171 : Jvm.Cond.fieldLink "RainWalk$Leg" (140 : Nat) "RainWalk$World" "rain" "[LRainWalk$Rain;" ∈ G := gT1 171 rfl rfl
theorem g_172 : Jvm.Cond.fieldLink "RainWalk$Reader" (188 : Nat) "RainWalk$World" "rain" "[LRainWalk$Rain;" ∈ G := gT1 172 rfl rfl
theorem g_173 : Jvm.Cond.fieldLink "RainWalk$World" (17 : Nat) "RainWalk$World" "drip" "[I" ∈ G := gT1 173 rfl rfl
theorem g_174 : Jvm.Cond.fieldLink "RainWalk$Reader" (218 : Nat) "RainWalk$World" "drip" "[I" ∈ G := gT1 174 rfl rfl
theorem g_175 : Jvm.Cond.fieldLink "RainWalk$World" (23 : Nat) "RainWalk$World" "road" "[LRainWalk$Road;" ∈ G := gT1 175 rfl rfl
theorem g_176 : Jvm.Cond.fieldLink "RainWalk$Ways" (98 : Nat) "RainWalk$World" "road" "[LRainWalk$Road;" ∈ G := gT1 176 rfl rfl
theorem g_177 : Jvm.Cond.fieldLink "RainWalk" (112 : Nat) "RainWalk$World" "road" "[LRainWalk$Road;" ∈ G := gT1 177 rfl rfl
theorem g_178 : Jvm.Cond.fieldLink "RainWalk$Leg" (136 : Nat) "RainWalk$World" "road" "[LRainWalk$Road;" ∈ G := gT1 178 rfl rfl
theorem g_179 : Jvm.Cond.fieldLink "RainWalk$Reader" (221 : Nat) "RainWalk$World" "road" "[LRainWalk$Road;" ∈ G := gT1 179 rfl rfl
theorem g_180 : Jvm.Cond.fieldLink "RainWalk$World" (29 : Nat) "RainWalk$World" "walker" "[LRainWalk$Walker;" ∈ G := gT1 180 rfl rfl
theorem g_181 : Jvm.Cond.fieldLink "RainWalk$Ways" (89 : Nat) "RainWalk$World" "walker" "[LRainWalk$Walker;" ∈ G := gT1 181 rfl rfl
theorem g_182 : Jvm.Cond.fieldLink "RainWalk" (108 : Nat) "RainWalk$World" "walker" "[LRainWalk$Walker;" ∈ G := gT1 182 rfl rfl
theorem g_183 : Jvm.Cond.fieldLink "RainWalk$Leg" (129 : Nat) "RainWalk$World" "walker" "[LRainWalk$Walker;" ∈ G := gT1 183 rfl rfl
theorem g_184 : Jvm.Cond.fieldLink "RainWalk$Reader" (240 : Nat) "RainWalk$World" "walker" "[LRainWalk$Walker;" ∈ G := gT1 184 rfl rfl
theorem g_185 : Jvm.Cond.fieldLink "RainWalk$World" (33 : Nat) "RainWalk$World" "seenWalker" "[I" ∈ G := gT1 185 rfl rfl
theorem g_186 : Jvm.Cond.fieldLink "RainWalk$Leg" (119 : Nat) "RainWalk$World" "seenWalker" "[I" ∈ G := gT1 186 rfl rfl
theorem g_187 : Jvm.Cond.fieldLink "RainWalk$Reader" (289 : Nat) "RainWalk$World" "seenWalker" "[I" ∈ G := gT1 187 rfl rfl
theorem g_188 : Jvm.Cond.fieldLink "RainWalk$World" (36 : Nat) "RainWalk$World" "seenFaces" "[I" ∈ G := gT1 188 rfl rfl
theorem g_189 : Jvm.Cond.fieldLink "RainWalk$Leg" (144 : Nat) "RainWalk$World" "seenFaces" "[I" ∈ G := gT1 189 rfl rfl
theorem g_190 : Jvm.Cond.fieldLink "RainWalk$Reader" (292 : Nat) "RainWalk$World" "seenFaces" "[I" ∈ G := gT1 190 rfl rfl
theorem g_191 : Jvm.Cond.lays "RainWalk$World" "RainWalk$World" "hourMinutes" "I" ∈ G := gT1 191 rfl rfl
theorem g_193 : Jvm.Cond.lays "RainWalk$World" "RainWalk$World" "hours" "I" ∈ G := gT1 193 rfl rfl
theorem g_195 : Jvm.Cond.lays "RainWalk$World" "RainWalk$World" "places" "I" ∈ G := gT1 195 rfl rfl
theorem g_197 : Jvm.Cond.lays "RainWalk$World" "RainWalk$World" "roads" "I" ∈ G := gT1 197 rfl rfl
theorem g_199 : Jvm.Cond.lays "RainWalk$World" "RainWalk$World" "walkers" "I" ∈ G := gT1 199 rfl rfl
theorem g_201 : Jvm.Cond.lays "RainWalk$World" "RainWalk$World" "seens" "I" ∈ G := gT1 201 rfl rfl
theorem g_203 : Jvm.Cond.laysFinal "RainWalk$World" "RainWalk$World" "rain" "[LRainWalk$Rain;" ∈ G := gT1 203 rfl rfl
theorem g_205 : Jvm.Cond.laysFinal "RainWalk$World" "RainWalk$World" "drip" "[I" ∈ G := gT1 205 rfl rfl
theorem g_207 : Jvm.Cond.laysFinal "RainWalk$World" "RainWalk$World" "road" "[LRainWalk$Road;" ∈ G := gT1 207 rfl rfl
theorem g_209 : Jvm.Cond.laysFinal "RainWalk$World" "RainWalk$World" "walker" "[LRainWalk$Walker;" ∈ G := gT1 209 rfl rfl
theorem g_211 : Jvm.Cond.laysFinal "RainWalk$World" "RainWalk$World" "seenWalker" "[I" ∈ G := gT1 211 rfl rfl
theorem g_213 : Jvm.Cond.laysFinal "RainWalk$World" "RainWalk$World" "seenFaces" "[I" ∈ G := gT1 213 rfl rfl
theorem g_216 : Jvm.Cond.classLink "RainWalk" (20 : Nat) "RainWalk$Reader" ∈ G := gT1 216 rfl rfl
theorem g_217 : Jvm.Cond.instantiable "RainWalk$Reader" (13 : Nat) ∈ G := gT1 217 rfl rfl
theorem g_219 : Jvm.Cond.instanceMethod ({ cls := "RainWalk$Reader", name := "<init>", desc := "()V" } : Jvm.MethodName) ∈ G := gT1 219 rfl rfl
theorem g_220 : Jvm.Cond.code ({ cls := "RainWalk$Reader", name := "<init>", desc := "()V" } : Jvm.MethodName) prog_6_method_1_code (1 : Nat) (Option.none : Option Jvm.ClassFile.FieldType) ∈ G := gT1 220 rfl rfl
theorem g_221 : Jvm.Cond.methodLink "RainWalk$Reader" (3 : Nat) ({ cls := "java/lang/Object", name := "<init>", desc := "()V" } : Jvm.MethodName) ∈ G := gT1 221 rfl rfl
theorem g_222 : Jvm.Cond.classLink "RainWalk$Reader" (15 : Nat) "RainWalk$World" ∈ G := gT1 222 rfl rfl
theorem g_223 : Jvm.Cond.methodLink "RainWalk$Reader" (17 : Nat) ({ cls := "RainWalk$World", name := "<init>", desc := "()V" } : Jvm.MethodName) ∈ G := gT1 223 rfl rfl
theorem g_224 : Jvm.Cond.fieldLink "RainWalk$Reader" (110 : Nat) "RainWalk$Reader" "fault" "I" ∈ G := gT1 224 rfl rfl
theorem g_225 : Jvm.Cond.fieldLink "RainWalk" (64 : Nat) "RainWalk$Reader" "fault" "I" ∈ G := gT1 225 rfl rfl
theorem g_226 : Jvm.Cond.fieldLink "RainWalk$Reader" (113 : Nat) "RainWalk$Reader" "faultAt" "I" ∈ G := gT1 226 rfl rfl
theorem g_227 : Jvm.Cond.fieldLink "RainWalk" (70 : Nat) "RainWalk$Reader" "faultAt" "I" ∈ G := gT1 227 rfl rfl
theorem g_228 : Jvm.Cond.fieldLink "RainWalk$Reader" (9 : Nat) "RainWalk$Reader" "text" "[B" ∈ G := gT1 228 rfl rfl
theorem g_229 : Jvm.Cond.fieldLink "RainWalk$Reader" (104 : Nat) "RainWalk$Reader" "length" "I" ∈ G := gT1 229 rfl rfl
theorem g_230 : Jvm.Cond.fieldLink "RainWalk$Reader" (107 : Nat) "RainWalk$Reader" "at" "I" ∈ G := gT1 230 rfl rfl
theorem g_231 : Jvm.Cond.fieldLink "RainWalk$Reader" (18 : Nat) "RainWalk$Reader" "world" "LRainWalk$World;" ∈ G := gT1 231 rfl rfl
theorem g_232 : Jvm.Cond.fieldLink "RainWalk$Reader" (92 : Nat) "RainWalk$Reader" "sort" "I" ∈ G := gT1 232 rfl rfl
theorem g_233 : Jvm.Cond.fieldLink "RainWalk$Reader" (125 : Nat) "RainWalk$Reader" "start" "I" ∈ G := gT1 233 rfl rfl
theorem g_234 : Jvm.Cond.fieldLink "RainWalk$Reader" (132 : Nat) "RainWalk$Reader" "token" "J" ∈ G := gT1 234 rfl rfl
theorem g_235 : Jvm.Cond.fieldLink "RainWalk$Reader" (147 : Nat) "RainWalk$Reader" "value" "I" ∈ G := gT1 235 rfl rfl
theorem g_236 : Jvm.Cond.fieldLink "RainWalk$Reader" (116 : Nat) "RainWalk$Reader" "names" "I" ∈ G := gT1 236 rfl rfl
theorem g_237 : Jvm.Cond.fieldLink "RainWalk$Reader" (22 : Nat) "RainWalk$Reader" "name" "[J" ∈ G := gT1 237 rfl rfl
theorem g_238 : Jvm.Cond.fieldLink "RainWalk$Reader" (26 : Nat) "RainWalk$Reader" "named" "[I" ∈ G := gT1 238 rfl rfl
theorem g_239 : Jvm.Cond.lays "RainWalk$Reader" "RainWalk$Reader" "fault" "I" ∈ G := gT1 239 rfl rfl
theorem g_241 : Jvm.Cond.lays "RainWalk$Reader" "RainWalk$Reader" "faultAt" "I" ∈ G := gT2 1 rfl rfl
theorem g_243 : Jvm.Cond.lays "RainWalk$Reader" "RainWalk$Reader" "text" "[B" ∈ G := gT2 3 rfl rfl
theorem g_245 : Jvm.Cond.lays "RainWalk$Reader" "RainWalk$Reader" "length" "I" ∈ G := gT2 5 rfl rfl
theorem g_247 : Jvm.Cond.lays "RainWalk$Reader" "RainWalk$Reader" "at" "I" ∈ G := gT2 7 rfl rfl
theorem g_249 : Jvm.Cond.lays "RainWalk$Reader" "RainWalk$Reader" "world" "LRainWalk$World;" ∈ G := gT2 9 rfl rfl
theorem g_251 : Jvm.Cond.lays "RainWalk$Reader" "RainWalk$Reader" "sort" "I" ∈ G := gT2 11 rfl rfl
theorem g_253 : Jvm.Cond.lays "RainWalk$Reader" "RainWalk$Reader" "start" "I" ∈ G := gT2 13 rfl rfl
theorem g_255 : Jvm.Cond.lays "RainWalk$Reader" "RainWalk$Reader" "token" "J" ∈ G := gT2 15 rfl rfl
theorem g_257 : Jvm.Cond.lays "RainWalk$Reader" "RainWalk$Reader" "value" "I" ∈ G := gT2 17 rfl rfl
theorem g_259 : Jvm.Cond.lays "RainWalk$Reader" "RainWalk$Reader" "names" "I" ∈ G := gT2 19 rfl rfl
theorem g_261 : Jvm.Cond.laysFinal "RainWalk$Reader" "RainWalk$Reader" "name" "[J" ∈ G := gT2 21 rfl rfl
theorem g_263 : Jvm.Cond.laysFinal "RainWalk$Reader" "RainWalk$Reader" "named" "[I" ∈ G := gT2 23 rfl rfl
theorem g_266 : Jvm.Cond.arrayClass Jvm.ClassFile.FieldType.long ∈ G := gT2 26 rfl rfl
theorem g_267 : Jvm.Cond.classLink "RainWalk" (27 : Nat) "RainWalk$Leg" ∈ G := gT2 27 rfl rfl
theorem g_268 : Jvm.Cond.instantiable "RainWalk$Leg" (2 : Nat) ∈ G := gT2 28 rfl rfl
theorem g_270 : Jvm.Cond.instanceMethod ({ cls := "RainWalk$Leg", name := "<init>", desc := "()V" } : Jvm.MethodName) ∈ G := gT2 30 rfl rfl
theorem g_271 : Jvm.Cond.code ({ cls := "RainWalk$Leg", name := "<init>", desc := "()V" } : Jvm.MethodName) prog_3_method_1_code (1 : Nat) (Option.none : Option Jvm.ClassFile.FieldType) ∈ G := gT2 31 rfl rfl
theorem g_272 : Jvm.Cond.methodLink "RainWalk$Leg" (3 : Nat) ({ cls := "java/lang/Object", name := "<init>", desc := "()V" } : Jvm.MethodName) ∈ G := gT2 32 rfl rfl
theorem g_273 : Jvm.Cond.fieldLink "RainWalk$Leg" (9 : Nat) "RainWalk$Leg" "faces" "[J" ∈ G := gT2 33 rfl rfl
theorem g_274 : Jvm.Cond.fieldLink "RainWalk" (124 : Nat) "RainWalk$Leg" "faces" "[J" ∈ G := gT2 34 rfl rfl
theorem g_275 : Jvm.Cond.fieldLink "RainWalk$Leg" (15 : Nat) "RainWalk$Leg" "strength" "[J" ∈ G := gT2 35 rfl rfl
theorem g_276 : Jvm.Cond.laysFinal "RainWalk$Leg" "RainWalk$Leg" "faces" "[J" ∈ G := gT2 36 rfl rfl
theorem g_278 : Jvm.Cond.laysFinal "RainWalk$Leg" "RainWalk$Leg" "strength" "[J" ∈ G := gT2 38 rfl rfl
theorem g_281 : Jvm.Cond.classLink "RainWalk" (34 : Nat) "RainWalk$Ways" ∈ G := gT2 41 rfl rfl
theorem g_282 : Jvm.Cond.instantiable "RainWalk$Ways" (14 : Nat) ∈ G := gT2 42 rfl rfl
theorem g_284 : Jvm.Cond.instanceMethod ({ cls := "RainWalk$Ways", name := "<init>", desc := "()V" } : Jvm.MethodName) ∈ G := gT2 44 rfl rfl
theorem g_285 : Jvm.Cond.code ({ cls := "RainWalk$Ways", name := "<init>", desc := "()V" } : Jvm.MethodName) prog_9_method_1_code (1 : Nat) (Option.none : Option Jvm.ClassFile.FieldType) ∈ G := gT2 45 rfl rfl
theorem g_286 : Jvm.Cond.methodLink "RainWalk$Ways" (3 : Nat) ({ cls := "java/lang/Object", name := "<init>", desc := "()V" } : Jvm.MethodName) ∈ G := gT2 46 rfl rfl
theorem g_287 : Jvm.Cond.fieldLink "RainWalk$Ways" (9 : Nat) "RainWalk$Ways" "route" "[I" ∈ G := gT2 47 rfl rfl
theorem g_288 : Jvm.Cond.fieldLink "RainWalk" (228 : Nat) "RainWalk$Ways" "route" "[I" ∈ G := gT2 48 rfl rfl
theorem g_289 : Jvm.Cond.fieldLink "RainWalk$Ways" (15 : Nat) "RainWalk$Ways" "key" "[J" ∈ G := gT2 49 rfl rfl
theorem g_290 : Jvm.Cond.fieldLink "RainWalk$Ways" (19 : Nat) "RainWalk$Ways" "choice" "[I" ∈ G := gT2 50 rfl rfl
theorem g_291 : Jvm.Cond.fieldLink "RainWalk$Ways" (82 : Nat) "RainWalk$Ways" "moves" "I" ∈ G := gT2 51 rfl rfl
theorem g_292 : Jvm.Cond.fieldLink "RainWalk$Ways" (22 : Nat) "RainWalk$Ways" "moveFrom" "[I" ∈ G := gT2 52 rfl rfl
theorem g_293 : Jvm.Cond.fieldLink "RainWalk$Ways" (25 : Nat) "RainWalk$Ways" "moveTo" "[I" ∈ G := gT2 53 rfl rfl
theorem g_294 : Jvm.Cond.fieldLink "RainWalk$Ways" (28 : Nat) "RainWalk$Ways" "moveMinutes" "[I" ∈ G := gT2 54 rfl rfl
theorem g_295 : Jvm.Cond.fieldLink "RainWalk$Ways" (31 : Nat) "RainWalk$Ways" "moveCost" "[J" ∈ G := gT2 55 rfl rfl
theorem g_296 : Jvm.Cond.fieldLink "RainWalk$Ways" (34 : Nat) "RainWalk$Ways" "moveCode" "[I" ∈ G := gT2 56 rfl rfl
theorem g_297 : Jvm.Cond.fieldLink "RainWalk$Ways" (37 : Nat) "RainWalk$Ways" "pricedHour" "I" ∈ G := gT2 57 rfl rfl
theorem g_298 : Jvm.Cond.fieldLink "RainWalk$Ways" (41 : Nat) "RainWalk$Ways" "walker" "I" ∈ G := gT2 58 rfl rfl
theorem g_299 : Jvm.Cond.fieldLink "RainWalk$Ways" (44 : Nat) "RainWalk$Ways" "goal" "I" ∈ G := gT2 59 rfl rfl
theorem g_300 : Jvm.Cond.fieldLink "RainWalk$Ways" (47 : Nat) "RainWalk$Ways" "till" "I" ∈ G := gT2 60 rfl rfl
theorem g_301 : Jvm.Cond.fieldLink "RainWalk$Ways" (53 : Nat) "RainWalk$Ways" "reckoned" "I" ∈ G := gT2 61 rfl rfl
theorem g_302 : Jvm.Cond.lays "RainWalk$Ways" "RainWalk$Ways" "route" "[I" ∈ G := gT2 62 rfl rfl
theorem g_304 : Jvm.Cond.lays "RainWalk$Ways" "RainWalk$Ways" "key" "[J" ∈ G := gT2 64 rfl rfl
theorem g_306 : Jvm.Cond.lays "RainWalk$Ways" "RainWalk$Ways" "choice" "[I" ∈ G := gT2 66 rfl rfl
theorem g_308 : Jvm.Cond.lays "RainWalk$Ways" "RainWalk$Ways" "moves" "I" ∈ G := gT2 68 rfl rfl
theorem g_310 : Jvm.Cond.lays "RainWalk$Ways" "RainWalk$Ways" "moveFrom" "[I" ∈ G := gT2 70 rfl rfl
theorem g_312 : Jvm.Cond.lays "RainWalk$Ways" "RainWalk$Ways" "moveTo" "[I" ∈ G := gT2 72 rfl rfl
theorem g_314 : Jvm.Cond.lays "RainWalk$Ways" "RainWalk$Ways" "moveMinutes" "[I" ∈ G := gT2 74 rfl rfl
theorem g_316 : Jvm.Cond.lays "RainWalk$Ways" "RainWalk$Ways" "moveCost" "[J" ∈ G := gT2 76 rfl rfl
theorem g_318 : Jvm.Cond.lays "RainWalk$Ways" "RainWalk$Ways" "moveCode" "[I" ∈ G := gT2 78 rfl rfl
theorem g_320 : Jvm.Cond.lays "RainWalk$Ways" "RainWalk$Ways" "pricedHour" "I" ∈ G := gT2 80 rfl rfl
theorem g_322 : Jvm.Cond.lays "RainWalk$Ways" "RainWalk$Ways" "walker" "I" ∈ G := gT2 82 rfl rfl
theorem g_324 : Jvm.Cond.lays "RainWalk$Ways" "RainWalk$Ways" "goal" "I" ∈ G := gT2 84 rfl rfl
theorem g_326 : Jvm.Cond.lays "RainWalk$Ways" "RainWalk$Ways" "till" "I" ∈ G := gT2 86 rfl rfl
theorem g_328 : Jvm.Cond.lays "RainWalk$Ways" "RainWalk$Ways" "reckoned" "I" ∈ G := gT2 88 rfl rfl
theorem g_331 : Jvm.Cond.classLink "RainWalk" (41 : Nat) "RainWalk$Day" ∈ G := gT2 91 rfl rfl
theorem g_332 : Jvm.Cond.instantiable "RainWalk$Day" (7 : Nat) ∈ G := gT2 92 rfl rfl
theorem g_333 : Jvm.Cond.methodLink "RainWalk" (43 : Nat) ({ cls := "RainWalk$Day", name := "<init>", desc := "()V" } : Jvm.MethodName) ∈ G := gT2 93 rfl rfl
theorem g_334 : Jvm.Cond.instanceMethod ({ cls := "RainWalk$Day", name := "<init>", desc := "()V" } : Jvm.MethodName) ∈ G := gT2 94 rfl rfl
theorem g_335 : Jvm.Cond.code ({ cls := "RainWalk$Day", name := "<init>", desc := "()V" } : Jvm.MethodName) prog_2_method_1_code (2 : Nat) (Option.none : Option Jvm.ClassFile.FieldType) ∈ G := gT2 95 rfl rfl
theorem g_336 : Jvm.Cond.methodLink "RainWalk$Day" (3 : Nat) ({ cls := "java/lang/Object", name := "<init>", desc := "()V" } : Jvm.MethodName) ∈ G := gT2 96 rfl rfl
theorem g_337 : Jvm.Cond.classLink "RainWalk$Day" (15 : Nat) "RainWalk$Moment" ∈ G := gT2 97 rfl rfl
theorem g_338 : Jvm.Cond.instantiable "RainWalk$Moment" (3 : Nat) ∈ G := gT2 98 rfl rfl
theorem g_340 : Jvm.Cond.instanceMethod ({ cls := "RainWalk$Moment", name := "<init>", desc := "()V" } : Jvm.MethodName) ∈ G := gT2 100 rfl rfl
theorem g_341 : Jvm.Cond.code ({ cls := "RainWalk$Moment", name := "<init>", desc := "()V" } : Jvm.MethodName) prog_4_method_1_code (1 : Nat) (Option.none : Option Jvm.ClassFile.FieldType) ∈ G := gT2 101 rfl rfl
theorem g_342 : Jvm.Cond.methodLink "RainWalk$Moment" (3 : Nat) ({ cls := "java/lang/Object", name := "<init>", desc := "()V" } : Jvm.MethodName) ∈ G := gT2 102 rfl rfl
theorem g_343 : Jvm.Cond.fieldLink "RainWalk$Moment" (15 : Nat) "RainWalk$Moment" "place" "I" ∈ G := gT2 103 rfl rfl
theorem g_344 : Jvm.Cond.fieldLink "RainWalk$Day" (38 : Nat) "RainWalk$Moment" "place" "I" ∈ G := gT2 104 rfl rfl
theorem g_345 : Jvm.Cond.fieldLink "RainWalk" (291 : Nat) "RainWalk$Moment" "place" "I" ∈ G := gT2 105 rfl rfl
theorem g_346 : Jvm.Cond.fieldLink "RainWalk$Moment" (19 : Nat) "RainWalk$Moment" "minute" "I" ∈ G := gT2 106 rfl rfl
theorem g_347 : Jvm.Cond.fieldLink "RainWalk$Day" (41 : Nat) "RainWalk$Moment" "minute" "I" ∈ G := gT2 107 rfl rfl
theorem g_348 : Jvm.Cond.fieldLink "RainWalk" (296 : Nat) "RainWalk$Moment" "minute" "I" ∈ G := gT2 108 rfl rfl
theorem g_349 : Jvm.Cond.fieldLink "RainWalk$Moment" (9 : Nat) "RainWalk$Moment" "got" "[J" ∈ G := gT2 109 rfl rfl
theorem g_350 : Jvm.Cond.fieldLink "RainWalk$Day" (44 : Nat) "RainWalk$Moment" "got" "[J" ∈ G := gT2 110 rfl rfl
theorem g_351 : Jvm.Cond.fieldLink "RainWalk" (322 : Nat) "RainWalk$Moment" "got" "[J" ∈ G := gT2 111 rfl rfl
theorem g_352 : Jvm.Cond.lays "RainWalk$Moment" "RainWalk$Moment" "place" "I" ∈ G := gT2 112 rfl rfl
theorem g_354 : Jvm.Cond.lays "RainWalk$Moment" "RainWalk$Moment" "minute" "I" ∈ G := gT2 114 rfl rfl
theorem g_356 : Jvm.Cond.laysFinal "RainWalk$Moment" "RainWalk$Moment" "got" "[J" ∈ G := gT2 116 rfl rfl
theorem g_360 : Jvm.Cond.fieldLink "RainWalk$Day" (9 : Nat) "RainWalk$Day" "walker" "I" ∈ G := gT2 120 rfl rfl
theorem g_361 : Jvm.Cond.fieldLink "RainWalk" (282 : Nat) "RainWalk$Day" "walker" "I" ∈ G := gT2 121 rfl rfl
theorem g_362 : Jvm.Cond.fieldLink "RainWalk$Day" (48 : Nat) "RainWalk$Day" "rainBits" "I" ∈ G := gT2 122 rfl rfl
theorem g_363 : Jvm.Cond.fieldLink "RainWalk" (276 : Nat) "RainWalk$Day" "rainBits" "I" ∈ G := gT2 123 rfl rfl
theorem g_364 : Jvm.Cond.fieldLink "RainWalk$Day" (29 : Nat) "RainWalk$Day" "undoable" "I" ∈ G := gT2 124 rfl rfl
theorem g_365 : Jvm.Cond.fieldLink "RainWalk" (373 : Nat) "RainWalk$Day" "undoable" "I" ∈ G := gT2 125 rfl rfl
theorem g_366 : Jvm.Cond.fieldLink "RainWalk$Day" (32 : Nat) "RainWalk$Day" "marked" "I" ∈ G := gT2 126 rfl rfl
theorem g_367 : Jvm.Cond.fieldLink "RainWalk" (376 : Nat) "RainWalk$Day" "marked" "I" ∈ G := gT2 127 rfl rfl
theorem g_368 : Jvm.Cond.fieldLink "RainWalk$Day" (18 : Nat) "RainWalk$Day" "now" "LRainWalk$Moment;" ∈ G := gT2 128 rfl rfl
theorem g_369 : Jvm.Cond.fieldLink "RainWalk" (287 : Nat) "RainWalk$Day" "now" "LRainWalk$Moment;" ∈ G := gT2 129 rfl rfl
theorem g_370 : Jvm.Cond.fieldLink "RainWalk$Day" (22 : Nat) "RainWalk$Day" "past" "[LRainWalk$Moment;" ∈ G := gT2 130 rfl rfl
theorem g_371 : Jvm.Cond.fieldLink "RainWalk$Day" (26 : Nat) "RainWalk$Day" "marks" "[LRainWalk$Moment;" ∈ G := gT2 131 rfl rfl
theorem g_372 : Jvm.Cond.lays "RainWalk$Day" "RainWalk$Day" "walker" "I" ∈ G := gT2 132 rfl rfl
theorem g_374 : Jvm.Cond.lays "RainWalk$Day" "RainWalk$Day" "rainBits" "I" ∈ G := gT2 134 rfl rfl
theorem g_376 : Jvm.Cond.lays "RainWalk$Day" "RainWalk$Day" "undoable" "I" ∈ G := gT2 136 rfl rfl
theorem g_378 : Jvm.Cond.lays "RainWalk$Day" "RainWalk$Day" "marked" "I" ∈ G := gT2 138 rfl rfl
theorem g_380 : Jvm.Cond.laysFinal "RainWalk$Day" "RainWalk$Day" "now" "LRainWalk$Moment;" ∈ G := gT2 140 rfl rfl
theorem g_382 : Jvm.Cond.laysFinal "RainWalk$Day" "RainWalk$Day" "past" "[LRainWalk$Moment;" ∈ G := gT2 142 rfl rfl
theorem g_384 : Jvm.Cond.laysFinal "RainWalk$Day" "RainWalk$Day" "marks" "[LRainWalk$Moment;" ∈ G := gT2 144 rfl rfl
theorem g_387 : Jvm.Cond.fieldLink "RainWalk" (9 : Nat) "RainWalk" "tape" "[B" ∈ G := gT2 147 rfl rfl
theorem g_388 : Jvm.Cond.fieldLink "RainWalk" (48 : Nat) "RainWalk" "taped" "I" ∈ G := gT2 148 rfl rfl
theorem g_389 : Jvm.Cond.fieldLink "RainWalk" (16 : Nat) "RainWalk" "told" "LRainWalk$World;" ∈ G := gT2 149 rfl rfl
theorem g_390 : Jvm.Cond.fieldLink "RainWalk" (23 : Nat) "RainWalk" "reader" "LRainWalk$Reader;" ∈ G := gT2 150 rfl rfl
theorem g_391 : Jvm.Cond.fieldLink "RainWalk" (30 : Nat) "RainWalk" "leg" "LRainWalk$Leg;" ∈ G := gT2 151 rfl rfl
theorem g_392 : Jvm.Cond.fieldLink "RainWalk" (37 : Nat) "RainWalk" "ways" "LRainWalk$Ways;" ∈ G := gT2 152 rfl rfl
theorem g_393 : Jvm.Cond.fieldLink "RainWalk" (44 : Nat) "RainWalk" "today" "LRainWalk$Day;" ∈ G := gT2 153 rfl rfl
theorem g_394 : Jvm.Cond.fieldLink "RainWalk" (67 : Nat) "RainWalk" "faultNumber" "I" ∈ G := gT2 154 rfl rfl
theorem g_395 : Jvm.Cond.fieldLink "RainWalk" (73 : Nat) "RainWalk" "faultPlace" "I" ∈ G := gT2 155 rfl rfl
theorem g_396 : Jvm.Cond.fieldLink "RainWalk" (92 : Nat) "RainWalk" "refusal" "I" ∈ G := gT2 156 rfl rfl
theorem g_397 : Jvm.Cond.laysFinal "RainWalk" "RainWalk" "tape" "[B" ∈ G := gT2 157 rfl rfl
theorem g_399 : Jvm.Cond.lays "RainWalk" "RainWalk" "taped" "I" ∈ G := gT2 159 rfl rfl
theorem g_401 : Jvm.Cond.lays "RainWalk" "RainWalk" "told" "LRainWalk$World;" ∈ G := gT2 161 rfl rfl
theorem g_403 : Jvm.Cond.laysFinal "RainWalk" "RainWalk" "reader" "LRainWalk$Reader;" ∈ G := gT2 163 rfl rfl
theorem g_405 : Jvm.Cond.laysFinal "RainWalk" "RainWalk" "leg" "LRainWalk$Leg;" ∈ G := gT2 165 rfl rfl
theorem g_407 : Jvm.Cond.laysFinal "RainWalk" "RainWalk" "ways" "LRainWalk$Ways;" ∈ G := gT2 167 rfl rfl
theorem g_409 : Jvm.Cond.laysFinal "RainWalk" "RainWalk" "today" "LRainWalk$Day;" ∈ G := gT2 169 rfl rfl
theorem g_411 : Jvm.Cond.lays "RainWalk" "RainWalk" "faultNumber" "I" ∈ G := gT2 171 rfl rfl
theorem g_413 : Jvm.Cond.lays "RainWalk" "RainWalk" "faultPlace" "I" ∈ G := gT2 173 rfl rfl
theorem g_415 : Jvm.Cond.lays "RainWalk" "RainWalk" "refusal" "I" ∈ G := gT2 175 rfl rfl
theorem g_418 : Jvm.Cond.methodLink "RainWalkLaw" (19 : Nat) ({ cls := "RainWalk", name := "feed", desc := "(IIIII)I" } : Jvm.MethodName) ∈ G := gT2 178 rfl rfl
theorem g_419 : Jvm.Cond.instanceMethod ({ cls := "RainWalk", name := "feed", desc := "(IIIII)I" } : Jvm.MethodName) ∈ G := gT2 179 rfl rfl
theorem g_420 : Jvm.Cond.selects "RainWalk" ({ cls := "RainWalk", name := "feed", desc := "(IIIII)I" } : Jvm.MethodName) ({ cls := "RainWalk", name := "feed", desc := "(IIIII)I" } : Jvm.MethodName) ∈ G := gT2 180 rfl rfl
theorem g_421 : Jvm.Cond.code ({ cls := "RainWalk", name := "feed", desc := "(IIIII)I" } : Jvm.MethodName) prog_1_method_2_code (6 : Nat) (Option.some Jvm.ClassFile.FieldType.int) ∈ G := gT2 181 rfl rfl
theorem g_422 : Jvm.Cond.methodLink "RainWalk" (52 : Nat) ({ cls := "RainWalk", name := "putBytes", desc := "(I)V" } : Jvm.MethodName) ∈ G := gT2 182 rfl rfl
theorem g_424 : Jvm.Cond.instanceMethod ({ cls := "RainWalk", name := "putBytes", desc := "(I)V" } : Jvm.MethodName) ∈ G := gT2 184 rfl rfl
theorem g_425 : Jvm.Cond.code ({ cls := "RainWalk", name := "putBytes", desc := "(I)V" } : Jvm.MethodName) prog_1_method_3_code (3 : Nat) (Option.none : Option Jvm.ClassFile.FieldType) ∈ G := gT2 185 rfl rfl
theorem g_426 : Jvm.Cond.methodLink "RainWalkLaw" (24 : Nat) ({ cls := "RainWalk", name := "world", desc := "(I)I" } : Jvm.MethodName) ∈ G := gT2 186 rfl rfl
theorem g_427 : Jvm.Cond.instanceMethod ({ cls := "RainWalk", name := "world", desc := "(I)I" } : Jvm.MethodName) ∈ G := gT2 187 rfl rfl
theorem g_428 : Jvm.Cond.selects "RainWalk" ({ cls := "RainWalk", name := "world", desc := "(I)I" } : Jvm.MethodName) ({ cls := "RainWalk", name := "world", desc := "(I)I" } : Jvm.MethodName) ∈ G := gT2 188 rfl rfl
theorem g_429 : Jvm.Cond.code ({ cls := "RainWalk", name := "world", desc := "(I)I" } : Jvm.MethodName) prog_1_method_4_code (3 : Nat) (Option.some Jvm.ClassFile.FieldType.int) ∈ G := gT2 189 rfl rfl
theorem g_430 : Jvm.Cond.methodLink "RainWalk" (56 : Nat) ({ cls := "RainWalk", name := "refuse", desc := "(I)I" } : Jvm.MethodName) ∈ G := gT2 190 rfl rfl
theorem g_432 : Jvm.Cond.instanceMethod ({ cls := "RainWalk", name := "refuse", desc := "(I)I" } : Jvm.MethodName) ∈ G := gT2 192 rfl rfl
theorem g_433 : Jvm.Cond.code ({ cls := "RainWalk", name := "refuse", desc := "(I)I" } : Jvm.MethodName) prog_1_method_7_code (2 : Nat) (Option.some Jvm.ClassFile.FieldType.int) ∈ G := gT2 193 rfl rfl
theorem g_434 : Jvm.Cond.methodLink "RainWalk" (60 : Nat) ({ cls := "RainWalk$Reader", name := "read", desc := "([BI)Z" } : Jvm.MethodName) ∈ G := gT2 194 rfl rfl
theorem g_435 : Jvm.Cond.instanceMethod ({ cls := "RainWalk$Reader", name := "read", desc := "([BI)Z" } : Jvm.MethodName) ∈ G := gT2 195 rfl rfl
theorem g_436 : Jvm.Cond.selects "RainWalk$Reader" ({ cls := "RainWalk$Reader", name := "read", desc := "([BI)Z" } : Jvm.MethodName) ({ cls := "RainWalk$Reader", name := "read", desc := "([BI)Z" } : Jvm.MethodName) ∈ G := gT2 196 rfl rfl
theorem g_437 : Jvm.Cond.code ({ cls := "RainWalk$Reader", name := "read", desc := "([BI)Z" } : Jvm.MethodName) prog_6_method_3_code (5 : Nat) (Option.some Jvm.ClassFile.FieldType.boolean) ∈ G := gT2 197 rfl rfl
theorem g_438 : Jvm.Cond.methodLink "RainWalk$Reader" (30 : Nat) ({ cls := "RainWalk$Reader", name := "open", desc := "([BI)V" } : Jvm.MethodName) ∈ G := gT2 198 rfl rfl
theorem g_440 : Jvm.Cond.instanceMethod ({ cls := "RainWalk$Reader", name := "open", desc := "([BI)V" } : Jvm.MethodName) ∈ G := gT2 200 rfl rfl
theorem g_441 : Jvm.Cond.code ({ cls := "RainWalk$Reader", name := "open", desc := "([BI)V" } : Jvm.MethodName) prog_6_method_4_code (3 : Nat) (Option.none : Option Jvm.ClassFile.FieldType) ∈ G := gT2 201 rfl rfl
theorem g_442 : Jvm.Cond.methodLink "RainWalk$Reader" (98 : Nat) ({ cls := "java/lang/Math", name := "min", desc := "(II)I" } : Jvm.MethodName) ∈ G := gT2 202 rfl rfl
theorem g_443 : Jvm.Cond.static ({ cls := "java/lang/Math", name := "min", desc := "(II)I" } : Jvm.MethodName) ∈ G := gT2 203 rfl rfl
theorem g_444 : Jvm.Cond.code ({ cls := "java/lang/Math", name := "min", desc := "(II)I" } : Jvm.MethodName) prog_18_method_69_code (2 : Nat) (Option.some Jvm.ClassFile.FieldType.int) ∈ G := gT2 204 rfl rfl
theorem g_445 : Jvm.Cond.methodLink "RainWalk$Reader" (119 : Nat) ({ cls := "RainWalk$World", name := "clear", desc := "()V" } : Jvm.MethodName) ∈ G := gT2 205 rfl rfl
theorem g_446 : Jvm.Cond.instanceMethod ({ cls := "RainWalk$World", name := "clear", desc := "()V" } : Jvm.MethodName) ∈ G := gT2 206 rfl rfl
theorem g_447 : Jvm.Cond.selects "RainWalk$World" ({ cls := "RainWalk$World", name := "clear", desc := "()V" } : Jvm.MethodName) ({ cls := "RainWalk$World", name := "clear", desc := "()V" } : Jvm.MethodName) ∈ G := gT2 207 rfl rfl
theorem g_448 : Jvm.Cond.code ({ cls := "RainWalk$World", name := "clear", desc := "()V" } : Jvm.MethodName) prog_10_method_2_code (1 : Nat) (Option.none : Option Jvm.ClassFile.FieldType) ∈ G := gT2 208 rfl rfl
theorem g_449 : Jvm.Cond.methodLink "RainWalk$Reader" (122 : Nat) ({ cls := "RainWalk$Reader", name := "next", desc := "()V" } : Jvm.MethodName) ∈ G := gT2 209 rfl rfl
theorem g_451 : Jvm.Cond.instanceMethod ({ cls := "RainWalk$Reader", name := "next", desc := "()V" } : Jvm.MethodName) ∈ G := gT2 211 rfl rfl
theorem g_452 : Jvm.Cond.code ({ cls := "RainWalk$Reader", name := "next", desc := "()V" } : Jvm.MethodName) prog_6_method_6_code (5 : Nat) (Option.none : Option Jvm.ClassFile.FieldType) ∈ G := gT2 212 rfl rfl
theorem g_453 : Jvm.Cond.methodLink "RainWalk$Reader" (128 : Nat) ({ cls := "RainWalk$Reader", name := "sortAt", desc := "(I)I" } : Jvm.MethodName) ∈ G := gT2 213 rfl rfl
theorem g_455 : Jvm.Cond.instanceMethod ({ cls := "RainWalk$Reader", name := "sortAt", desc := "(I)I" } : Jvm.MethodName) ∈ G := gT2 215 rfl rfl
theorem g_456 : Jvm.Cond.code ({ cls := "RainWalk$Reader", name := "sortAt", desc := "(I)I" } : Jvm.MethodName) prog_6_method_7_code (3 : Nat) (Option.some Jvm.ClassFile.FieldType.int) ∈ G := gT2 216 rfl rfl
theorem g_458 : Jvm.Cond.methodLink "RainWalk$Reader" (35 : Nat) ({ cls := "RainWalk$Reader", name := "is", desc := "(Ljava/lang/String;)Z" } : Jvm.MethodName) ∈ G := gT2 218 rfl rfl
theorem g_460 : Jvm.Cond.instanceMethod ({ cls := "RainWalk$Reader", name := "is", desc := "(Ljava/lang/String;)Z" } : Jvm.MethodName) ∈ G := gT2 220 rfl rfl
theorem g_461 : Jvm.Cond.code ({ cls := "RainWalk$Reader", name := "is", desc := "(Ljava/lang/String;)Z" } : Jvm.MethodName) prog_6_method_8_code (5 : Nat) (Option.some Jvm.ClassFile.FieldType.boolean) ∈ G := gT2 221 rfl rfl
theorem g_462 : Jvm.Cond.methodLink "RainWalk$Reader" (136 : Nat) ({ cls := "java/lang/String", name := "length", desc := "()I" } : Jvm.MethodName) ∈ G := gT2 222 rfl rfl
theorem g_463 : Jvm.Cond.instanceMethod ({ cls := "java/lang/String", name := "length", desc := "()I" } : Jvm.MethodName) ∈ G := gT2 223 rfl rfl
theorem g_464 : Jvm.Cond.selects "java/lang/String" ({ cls := "java/lang/String", name := "length", desc := "()I" } : Jvm.MethodName) ({ cls := "java/lang/String", name := "length", desc := "()I" } : Jvm.MethodName) ∈ G := gT2 224 rfl rfl
theorem g_465 : Jvm.Cond.code ({ cls := "java/lang/String", name := "length", desc := "()I" } : Jvm.MethodName) prog_20_method_54_code (1 : Nat) (Option.some Jvm.ClassFile.FieldType.int) ∈ G := gT2 225 rfl rfl
theorem g_466 : Jvm.Cond.methodLink "java/lang/String" (335 : Nat) ({ cls := "java/lang/String", name := "coder", desc := "()B" } : Jvm.MethodName) ∈ G := gT2 226 rfl rfl
theorem g_467 : Jvm.Cond.instanceMethod ({ cls := "java/lang/String", name := "coder", desc := "()B" } : Jvm.MethodName) ∈ G := gT2 227 rfl rfl
theorem g_468 : Jvm.Cond.selects "java/lang/String" ({ cls := "java/lang/String", name := "coder", desc := "()B" } : Jvm.MethodName) ({ cls := "java/lang/String", name := "coder", desc := "()B" } : Jvm.MethodName) ∈ G := gT2 228 rfl rfl
theorem g_469 : Jvm.Cond.code ({ cls := "java/lang/String", name := "coder", desc := "()B" } : Jvm.MethodName) prog_20_method_152_code (1 : Nat) (Option.some Jvm.ClassFile.FieldType.byte) ∈ G := gT2 229 rfl rfl
theorem g_470 : Jvm.Cond.fieldLink "java/lang/String" (38 : Nat) "java/lang/String" "COMPACT_STRINGS" "Z" ∈ G := gT2 230 rfl rfl
theorem g_472 : Jvm.Cond.constantLong "RainWalk$Reader" (141 : Nat) (32 : Int64) ∈ G := gT2 232 rfl rfl
theorem g_473 : Jvm.Cond.methodLink "RainWalk$Reader" (143 : Nat) ({ cls := "java/lang/String", name := "charAt", desc := "(I)C" } : Jvm.MethodName) ∈ G := gT2 233 rfl rfl
theorem g_474 : Jvm.Cond.instanceMethod ({ cls := "java/lang/String", name := "charAt", desc := "(I)C" } : Jvm.MethodName) ∈ G := gT2 234 rfl rfl
theorem g_475 : Jvm.Cond.selects "java/lang/String" ({ cls := "java/lang/String", name := "charAt", desc := "(I)C" } : Jvm.MethodName) ({ cls := "java/lang/String", name := "charAt", desc := "(I)C" } : Jvm.MethodName) ∈ G := gT2 235 rfl rfl
theorem g_476 : Jvm.Cond.code ({ cls := "java/lang/String", name := "charAt", desc := "(I)C" } : Jvm.MethodName) prog_20_method_56_code (2 : Nat) (Option.some Jvm.ClassFile.FieldType.char) ∈ G := gT2 236 rfl rfl
theorem g_477 : Jvm.Cond.methodLink "java/lang/String" (492 : Nat) ({ cls := "java/lang/String", name := "isLatin1", desc := "()Z" } : Jvm.MethodName) ∈ G := gT2 237 rfl rfl
theorem g_478 : Jvm.Cond.instanceMethod ({ cls := "java/lang/String", name := "isLatin1", desc := "()Z" } : Jvm.MethodName) ∈ G := gT2 238 rfl rfl
theorem g_479 : Jvm.Cond.selects "java/lang/String" ({ cls := "java/lang/String", name := "isLatin1", desc := "()Z" } : Jvm.MethodName) ({ cls := "java/lang/String", name := "isLatin1", desc := "()Z" } : Jvm.MethodName) ∈ G := gT2 239 rfl rfl
theorem g_480 : Jvm.Cond.code ({ cls := "java/lang/String", name := "isLatin1", desc := "()Z" } : Jvm.MethodName) prog_20_method_154_code (1 : Nat) (Option.some Jvm.ClassFile.FieldType.boolean) ∈ G := gT3 0 rfl rfl
theorem g_481 : Jvm.Cond.methodLink "java/lang/String" (495 : Nat) ({ cls := "java/lang/StringLatin1", name := "charAt", desc := "([BI)C" } : Jvm.MethodName) ∈ G := gT3 1 rfl rfl
theorem g_482 : Jvm.Cond.static ({ cls := "java/lang/StringLatin1", name := "charAt", desc := "([BI)C" } : Jvm.MethodName) ∈ G := gT3 2 rfl rfl
theorem g_483 : Jvm.Cond.code ({ cls := "java/lang/StringLatin1", name := "charAt", desc := "([BI)C" } : Jvm.MethodName) prog_21_method_2_code (2 : Nat) (Option.some Jvm.ClassFile.FieldType.char) ∈ G := gT3 3 rfl rfl
theorem g_484 : Jvm.Cond.methodLink "java/lang/StringLatin1" (9 : Nat) ({ cls := "java/lang/String", name := "checkIndex", desc := "(II)V" } : Jvm.MethodName) ∈ G := gT3 4 rfl rfl
theorem g_485 : Jvm.Cond.static ({ cls := "java/lang/String", name := "checkIndex", desc := "(II)V" } : Jvm.MethodName) ∈ G := gT3 5 rfl rfl
theorem g_486 : Jvm.Cond.code ({ cls := "java/lang/String", name := "checkIndex", desc := "(II)V" } : Jvm.MethodName) prog_20_method_155_code (2 : Nat) (Option.none : Option Jvm.ClassFile.FieldType) ∈ G := gT3 6 rfl rfl
theorem g_487 : Jvm.Cond.fieldLink "java/lang/String" (1053 : Nat) "jdk/internal/util/Preconditions" "SIOOBE_FORMATTER" "Ljava/util/function/BiFunction;" ∈ G := gT3 7 rfl rfl
theorem g_489 : Jvm.Cond.methodLink "java/lang/String" (1059 : Nat) ({ cls := "jdk/internal/util/Preconditions", name := "checkIndex", desc := "(IILjava/util/function/BiFunction;)I" } : Jvm.MethodName) ∈ G := gT3 9 rfl rfl
theorem g_490 : Jvm.Cond.static ({ cls := "jdk/internal/util/Preconditions", name := "checkIndex", desc := "(IILjava/util/function/BiFunction;)I" } : Jvm.MethodName) ∈ G := gT3 10 rfl rfl
theorem g_491 : Jvm.Cond.code ({ cls := "jdk/internal/util/Preconditions", name := "checkIndex", desc := "(IILjava/util/function/BiFunction;)I" } : Jvm.MethodName) prog_27_method_11_code (3 : Nat) (Option.some Jvm.ClassFile.FieldType.int) ∈ G := gT3 11 rfl rfl
theorem g_492 : Jvm.Cond.methodLink "java/lang/String" (498 : Nat) ({ cls := "java/lang/StringUTF16", name := "charAt", desc := "([BI)C" } : Jvm.MethodName) ∈ G := gT3 12 rfl rfl
theorem g_493 : Jvm.Cond.static ({ cls := "java/lang/StringUTF16", name := "charAt", desc := "([BI)C" } : Jvm.MethodName) ∈ G := gT3 13 rfl rfl
theorem g_494 : Jvm.Cond.code ({ cls := "java/lang/StringUTF16", name := "charAt", desc := "([BI)C" } : Jvm.MethodName) prog_22_method_83_code (2 : Nat) (Option.some Jvm.ClassFile.FieldType.char) ∈ G := gT3 14 rfl rfl
theorem g_495 : Jvm.Cond.methodLink "java/lang/StringUTF16" (67 : Nat) ({ cls := "java/lang/StringUTF16", name := "checkIndex", desc := "(I[B)V" } : Jvm.MethodName) ∈ G := gT3 15 rfl rfl
theorem g_496 : Jvm.Cond.static ({ cls := "java/lang/StringUTF16", name := "checkIndex", desc := "(I[B)V" } : Jvm.MethodName) ∈ G := gT3 16 rfl rfl
theorem g_497 : Jvm.Cond.code ({ cls := "java/lang/StringUTF16", name := "checkIndex", desc := "(I[B)V" } : Jvm.MethodName) prog_22_method_91_code (2 : Nat) (Option.none : Option Jvm.ClassFile.FieldType) ∈ G := gT3 17 rfl rfl
theorem g_498 : Jvm.Cond.methodLink "java/lang/StringUTF16" (48 : Nat) ({ cls := "java/lang/StringUTF16", name := "length", desc := "([B)I" } : Jvm.MethodName) ∈ G := gT3 18 rfl rfl
theorem g_499 : Jvm.Cond.static ({ cls := "java/lang/StringUTF16", name := "length", desc := "([B)I" } : Jvm.MethodName) ∈ G := gT3 19 rfl rfl
theorem g_500 : Jvm.Cond.code ({ cls := "java/lang/StringUTF16", name := "length", desc := "([B)I" } : Jvm.MethodName) prog_22_method_6_code (1 : Nat) (Option.some Jvm.ClassFile.FieldType.int) ∈ G := gT3 20 rfl rfl
theorem g_501 : Jvm.Cond.methodLink "java/lang/StringUTF16" (414 : Nat) ({ cls := "java/lang/String", name := "checkIndex", desc := "(II)V" } : Jvm.MethodName) ∈ G := gT3 21 rfl rfl
theorem g_502 : Jvm.Cond.methodLink "java/lang/StringUTF16" (71 : Nat) ({ cls := "java/lang/StringUTF16", name := "getChar", desc := "([BI)C" } : Jvm.MethodName) ∈ G := gT3 22 rfl rfl
theorem g_503 : Jvm.Cond.static ({ cls := "java/lang/StringUTF16", name := "getChar", desc := "([BI)C" } : Jvm.MethodName) ∈ G := gT3 23 rfl rfl
theorem g_504 : Jvm.Cond.code ({ cls := "java/lang/StringUTF16", name := "getChar", desc := "([BI)C" } : Jvm.MethodName) prog_22_method_5_code (2 : Nat) (Option.some Jvm.ClassFile.FieldType.char) ∈ G := gT3 24 rfl rfl
theorem g_505 : Jvm.Cond.fieldLink "java/lang/StringUTF16" (44 : Nat) "java/lang/StringUTF16" "$assertionsDisabled" "Z" ∈ G := gT3 25 rfl rfl
theorem g_507 : Jvm.Cond.fieldLink "java/lang/StringUTF16" (59 : Nat) "java/lang/StringUTF16" "HI_BYTE_SHIFT" "I" ∈ G := gT3 27 rfl rfl
theorem g_509 : Jvm.Cond.fieldLink "java/lang/StringUTF16" (63 : Nat) "java/lang/StringUTF16" "LO_BYTE_SHIFT" "I" ∈ G := gT3 29 rfl rfl
theorem g_511 : Jvm.Cond.methodLink "RainWalk$Reader" (39 : Nat) ({ cls := "RainWalk$Reader", name := "worldLine", desc := "()Z" } : Jvm.MethodName) ∈ G := gT3 31 rfl rfl
theorem g_513 : Jvm.Cond.instanceMethod ({ cls := "RainWalk$Reader", name := "worldLine", desc := "()Z" } : Jvm.MethodName) ∈ G := gT3 33 rfl rfl
theorem g_514 : Jvm.Cond.code ({ cls := "RainWalk$Reader", name := "worldLine", desc := "()Z" } : Jvm.MethodName) prog_6_method_20_code (1 : Nat) (Option.some Jvm.ClassFile.FieldType.boolean) ∈ G := gT3 34 rfl rfl
theorem g_515 : Jvm.Cond.methodLink "RainWalk$Reader" (176 : Nat) ({ cls := "RainWalk$World", name := "isTold", desc := "()Z" } : Jvm.MethodName) ∈ G := gT3 35 rfl rfl
theorem g_516 : Jvm.Cond.instanceMethod ({ cls := "RainWalk$World", name := "isTold", desc := "()Z" } : Jvm.MethodName) ∈ G := gT3 36 rfl rfl
theorem g_517 : Jvm.Cond.selects "RainWalk$World" ({ cls := "RainWalk$World", name := "isTold", desc := "()Z" } : Jvm.MethodName) ({ cls := "RainWalk$World", name := "isTold", desc := "()Z" } : Jvm.MethodName) ∈ G := gT3 37 rfl rfl
theorem g_518 : Jvm.Cond.code ({ cls := "RainWalk$World", name := "isTold", desc := "()Z" } : Jvm.MethodName) prog_10_method_3_code (1 : Nat) (Option.some Jvm.ClassFile.FieldType.boolean) ∈ G := gT3 38 rfl rfl
theorem g_519 : Jvm.Cond.methodLink "RainWalk$Reader" (88 : Nat) ({ cls := "RainWalk$Reader", name := "fail", desc := "(I)Z" } : Jvm.MethodName) ∈ G := gT3 39 rfl rfl
theorem g_521 : Jvm.Cond.instanceMethod ({ cls := "RainWalk$Reader", name := "fail", desc := "(I)Z" } : Jvm.MethodName) ∈ G := gT3 41 rfl rfl
theorem g_522 : Jvm.Cond.code ({ cls := "RainWalk$Reader", name := "fail", desc := "(I)Z" } : Jvm.MethodName) prog_6_method_5_code (2 : Nat) (Option.some Jvm.ClassFile.FieldType.boolean) ∈ G := gT3 42 rfl rfl
theorem g_524 : Jvm.Cond.methodLink "RainWalk$Reader" (181 : Nat) ({ cls := "RainWalk$Reader", name := "wordAndWhole", desc := "(Ljava/lang/String;II)Z" } : Jvm.MethodName) ∈ G := gT3 44 rfl rfl
theorem g_526 : Jvm.Cond.instanceMethod ({ cls := "RainWalk$Reader", name := "wordAndWhole", desc := "(Ljava/lang/String;II)Z" } : Jvm.MethodName) ∈ G := gT3 46 rfl rfl
theorem g_527 : Jvm.Cond.code ({ cls := "RainWalk$Reader", name := "wordAndWhole", desc := "(Ljava/lang/String;II)Z" } : Jvm.MethodName) prog_6_method_12_code (4 : Nat) (Option.some Jvm.ClassFile.FieldType.boolean) ∈ G := gT3 47 rfl rfl
theorem g_528 : Jvm.Cond.methodLink "RainWalk$Reader" (150 : Nat) ({ cls := "RainWalk$Reader", name := "word", desc := "(Ljava/lang/String;)Z" } : Jvm.MethodName) ∈ G := gT3 48 rfl rfl
theorem g_530 : Jvm.Cond.instanceMethod ({ cls := "RainWalk$Reader", name := "word", desc := "(Ljava/lang/String;)Z" } : Jvm.MethodName) ∈ G := gT3 50 rfl rfl
theorem g_531 : Jvm.Cond.code ({ cls := "RainWalk$Reader", name := "word", desc := "(Ljava/lang/String;)Z" } : Jvm.MethodName) prog_6_method_9_code (2 : Nat) (Option.some Jvm.ClassFile.FieldType.boolean) ∈ G := gT3 51 rfl rfl
theorem g_532 : Jvm.Cond.methodLink "RainWalk$Reader" (153 : Nat) ({ cls := "RainWalk$Reader", name := "whole", desc := "(II)Z" } : Jvm.MethodName) ∈ G := gT3 52 rfl rfl
theorem g_534 : Jvm.Cond.instanceMethod ({ cls := "RainWalk$Reader", name := "whole", desc := "(II)Z" } : Jvm.MethodName) ∈ G := gT3 54 rfl rfl
theorem g_535 : Jvm.Cond.code ({ cls := "RainWalk$Reader", name := "whole", desc := "(II)Z" } : Jvm.MethodName) prog_6_method_11_code (3 : Nat) (Option.some Jvm.ClassFile.FieldType.boolean) ∈ G := gT3 55 rfl rfl
theorem g_537 : Jvm.Cond.methodLink "RainWalk$Reader" (49 : Nat) ({ cls := "RainWalk$Reader", name := "hasRoom", desc := "(II)Z" } : Jvm.MethodName) ∈ G := gT3 57 rfl rfl
theorem g_539 : Jvm.Cond.instanceMethod ({ cls := "RainWalk$Reader", name := "hasRoom", desc := "(II)Z" } : Jvm.MethodName) ∈ G := gT3 59 rfl rfl
theorem g_540 : Jvm.Cond.code ({ cls := "RainWalk$Reader", name := "hasRoom", desc := "(II)Z" } : Jvm.MethodName) prog_6_method_19_code (3 : Nat) (Option.some Jvm.ClassFile.FieldType.boolean) ∈ G := gT3 60 rfl rfl
theorem g_541 : Jvm.Cond.methodLink "RainWalk$Reader" (53 : Nat) ({ cls := "RainWalk$Reader", name := "rainLine", desc := "()Z" } : Jvm.MethodName) ∈ G := gT3 61 rfl rfl
theorem g_543 : Jvm.Cond.instanceMethod ({ cls := "RainWalk$Reader", name := "rainLine", desc := "()Z" } : Jvm.MethodName) ∈ G := gT3 63 rfl rfl
theorem g_544 : Jvm.Cond.code ({ cls := "RainWalk$Reader", name := "rainLine", desc := "()Z" } : Jvm.MethodName) prog_6_method_21_code (2 : Nat) (Option.some Jvm.ClassFile.FieldType.boolean) ∈ G := gT3 64 rfl rfl
theorem g_548 : Jvm.Cond.methodLink "RainWalk$Reader" (203 : Nat) ({ cls := "RainWalk$Reader", name := "side", desc := "()Z" } : Jvm.MethodName) ∈ G := gT3 68 rfl rfl
theorem g_550 : Jvm.Cond.instanceMethod ({ cls := "RainWalk$Reader", name := "side", desc := "()Z" } : Jvm.MethodName) ∈ G := gT3 70 rfl rfl
theorem g_551 : Jvm.Cond.code ({ cls := "RainWalk$Reader", name := "side", desc := "()Z" } : Jvm.MethodName) prog_6_method_13_code (1 : Nat) (Option.some Jvm.ClassFile.FieldType.boolean) ∈ G := gT3 71 rfl rfl
theorem g_558 : Jvm.Cond.methodLink "RainWalk$Reader" (61 : Nat) ({ cls := "RainWalk$Reader", name := "placeLine", desc := "()Z" } : Jvm.MethodName) ∈ G := gT3 78 rfl rfl
theorem g_560 : Jvm.Cond.instanceMethod ({ cls := "RainWalk$Reader", name := "placeLine", desc := "()Z" } : Jvm.MethodName) ∈ G := gT3 80 rfl rfl
theorem g_561 : Jvm.Cond.code ({ cls := "RainWalk$Reader", name := "placeLine", desc := "()Z" } : Jvm.MethodName) prog_6_method_22_code (2 : Nat) (Option.some Jvm.ClassFile.FieldType.boolean) ∈ G := gT3 81 rfl rfl
theorem g_562 : Jvm.Cond.methodLink "RainWalk$Reader" (215 : Nat) ({ cls := "RainWalk$Reader", name := "newName", desc := "(I)Z" } : Jvm.MethodName) ∈ G := gT3 82 rfl rfl
theorem g_564 : Jvm.Cond.instanceMethod ({ cls := "RainWalk$Reader", name := "newName", desc := "(I)Z" } : Jvm.MethodName) ∈ G := gT3 84 rfl rfl
theorem g_565 : Jvm.Cond.code ({ cls := "RainWalk$Reader", name := "newName", desc := "(I)Z" } : Jvm.MethodName) prog_6_method_16_code (2 : Nat) (Option.some Jvm.ClassFile.FieldType.boolean) ∈ G := gT3 85 rfl rfl
theorem g_566 : Jvm.Cond.methodLink "RainWalk$Reader" (170 : Nat) ({ cls := "RainWalk$Reader", name := "canBeName", desc := "()Z" } : Jvm.MethodName) ∈ G := gT3 86 rfl rfl
theorem g_568 : Jvm.Cond.instanceMethod ({ cls := "RainWalk$Reader", name := "canBeName", desc := "()Z" } : Jvm.MethodName) ∈ G := gT3 88 rfl rfl
theorem g_569 : Jvm.Cond.code ({ cls := "RainWalk$Reader", name := "canBeName", desc := "()Z" } : Jvm.MethodName) prog_6_method_14_code (2 : Nat) (Option.some Jvm.ClassFile.FieldType.boolean) ∈ G := gT3 89 rfl rfl
theorem g_576 : Jvm.Cond.methodLink "RainWalk$Reader" (173 : Nat) ({ cls := "RainWalk$Reader", name := "findName", desc := "()I" } : Jvm.MethodName) ∈ G := gT3 96 rfl rfl
theorem g_578 : Jvm.Cond.instanceMethod ({ cls := "RainWalk$Reader", name := "findName", desc := "()I" } : Jvm.MethodName) ∈ G := gT3 98 rfl rfl
theorem g_579 : Jvm.Cond.code ({ cls := "RainWalk$Reader", name := "findName", desc := "()I" } : Jvm.MethodName) prog_6_method_15_code (2 : Nat) (Option.some Jvm.ClassFile.FieldType.int) ∈ G := gT3 99 rfl rfl
theorem g_580 : Jvm.Cond.methodLink "RainWalk$Reader" (69 : Nat) ({ cls := "RainWalk$Reader", name := "roadLine", desc := "()Z" } : Jvm.MethodName) ∈ G := gT3 100 rfl rfl
theorem g_582 : Jvm.Cond.instanceMethod ({ cls := "RainWalk$Reader", name := "roadLine", desc := "()Z" } : Jvm.MethodName) ∈ G := gT3 102 rfl rfl
theorem g_583 : Jvm.Cond.code ({ cls := "RainWalk$Reader", name := "roadLine", desc := "()Z" } : Jvm.MethodName) prog_6_method_23_code (2 : Nat) (Option.some Jvm.ClassFile.FieldType.boolean) ∈ G := gT3 103 rfl rfl
theorem g_584 : Jvm.Cond.methodLink "RainWalk$Reader" (224 : Nat) ({ cls := "RainWalk$Reader", name := "placeBut", desc := "(I)Z" } : Jvm.MethodName) ∈ G := gT3 104 rfl rfl
theorem g_586 : Jvm.Cond.instanceMethod ({ cls := "RainWalk$Reader", name := "placeBut", desc := "(I)Z" } : Jvm.MethodName) ∈ G := gT3 106 rfl rfl
theorem g_587 : Jvm.Cond.code ({ cls := "RainWalk$Reader", name := "placeBut", desc := "(I)Z" } : Jvm.MethodName) prog_6_method_17_code (3 : Nat) (Option.some Jvm.ClassFile.FieldType.boolean) ∈ G := gT3 107 rfl rfl
theorem g_588 : Jvm.Cond.methodLink "RainWalk$Reader" (77 : Nat) ({ cls := "RainWalk$Reader", name := "walkerLine", desc := "()Z" } : Jvm.MethodName) ∈ G := gT3 108 rfl rfl
theorem g_590 : Jvm.Cond.instanceMethod ({ cls := "RainWalk$Reader", name := "walkerLine", desc := "()Z" } : Jvm.MethodName) ∈ G := gT3 110 rfl rfl
theorem g_591 : Jvm.Cond.code ({ cls := "RainWalk$Reader", name := "walkerLine", desc := "()Z" } : Jvm.MethodName) prog_6_method_24_code (2 : Nat) (Option.some Jvm.ClassFile.FieldType.boolean) ∈ G := gT3 111 rfl rfl
theorem g_592 : Jvm.Cond.methodLink "RainWalk$Reader" (243 : Nat) ({ cls := "RainWalk$Reader", name := "kindOf", desc := "(LRainWalk$Walker;)Z" } : Jvm.MethodName) ∈ G := gT3 112 rfl rfl
theorem g_594 : Jvm.Cond.instanceMethod ({ cls := "RainWalk$Reader", name := "kindOf", desc := "(LRainWalk$Walker;)Z" } : Jvm.MethodName) ∈ G := gT3 114 rfl rfl
theorem g_595 : Jvm.Cond.code ({ cls := "RainWalk$Reader", name := "kindOf", desc := "(LRainWalk$Walker;)Z" } : Jvm.MethodName) prog_6_method_25_code (3 : Nat) (Option.some Jvm.ClassFile.FieldType.boolean) ∈ G := gT3 115 rfl rfl
theorem g_600 : Jvm.Cond.methodLink "RainWalk$Reader" (247 : Nat) ({ cls := "RainWalk$Reader", name := "bodyOf", desc := "(LRainWalk$Walker;)Z" } : Jvm.MethodName) ∈ G := gT3 120 rfl rfl
theorem g_602 : Jvm.Cond.instanceMethod ({ cls := "RainWalk$Reader", name := "bodyOf", desc := "(LRainWalk$Walker;)Z" } : Jvm.MethodName) ∈ G := gT3 122 rfl rfl
theorem g_603 : Jvm.Cond.code ({ cls := "RainWalk$Reader", name := "bodyOf", desc := "(LRainWalk$Walker;)Z" } : Jvm.MethodName) prog_6_method_26_code (5 : Nat) (Option.some Jvm.ClassFile.FieldType.boolean) ∈ G := gT3 123 rfl rfl
theorem g_607 : Jvm.Cond.methodLink "RainWalk$Reader" (282 : Nat) ({ cls := "RainWalk$Walker", name := "shape", desc := "(III)V" } : Jvm.MethodName) ∈ G := gT3 127 rfl rfl
theorem g_608 : Jvm.Cond.instanceMethod ({ cls := "RainWalk$Walker", name := "shape", desc := "(III)V" } : Jvm.MethodName) ∈ G := gT3 128 rfl rfl
theorem g_609 : Jvm.Cond.selects "RainWalk$Walker" ({ cls := "RainWalk$Walker", name := "shape", desc := "(III)V" } : Jvm.MethodName) ({ cls := "RainWalk$Walker", name := "shape", desc := "(III)V" } : Jvm.MethodName) ∈ G := gT3 129 rfl rfl
theorem g_610 : Jvm.Cond.code ({ cls := "RainWalk$Walker", name := "shape", desc := "(III)V" } : Jvm.MethodName) prog_8_method_2_code (5 : Nat) (Option.none : Option Jvm.ClassFile.FieldType) ∈ G := gT3 130 rfl rfl
theorem g_613 : Jvm.Cond.methodLink "RainWalk$Reader" (85 : Nat) ({ cls := "RainWalk$Reader", name := "seenLine", desc := "()Z" } : Jvm.MethodName) ∈ G := gT3 133 rfl rfl
theorem g_615 : Jvm.Cond.instanceMethod ({ cls := "RainWalk$Reader", name := "seenLine", desc := "()Z" } : Jvm.MethodName) ∈ G := gT3 135 rfl rfl
theorem g_616 : Jvm.Cond.code ({ cls := "RainWalk$Reader", name := "seenLine", desc := "()Z" } : Jvm.MethodName) prog_6_method_27_code (2 : Nat) (Option.some Jvm.ClassFile.FieldType.boolean) ∈ G := gT3 136 rfl rfl
theorem g_617 : Jvm.Cond.methodLink "RainWalk$Reader" (286 : Nat) ({ cls := "RainWalk$Reader", name := "someWalker", desc := "()Z" } : Jvm.MethodName) ∈ G := gT3 137 rfl rfl
theorem g_619 : Jvm.Cond.instanceMethod ({ cls := "RainWalk$Reader", name := "someWalker", desc := "()Z" } : Jvm.MethodName) ∈ G := gT3 139 rfl rfl
theorem g_620 : Jvm.Cond.code ({ cls := "RainWalk$Reader", name := "someWalker", desc := "()Z" } : Jvm.MethodName) prog_6_method_18_code (2 : Nat) (Option.some Jvm.ClassFile.FieldType.boolean) ∈ G := gT3 140 rfl rfl
theorem g_621 : Jvm.Cond.methodLink "RainWalk$Reader" (95 : Nat) ({ cls := "RainWalk$Reader", name := "sign", desc := "(I)Z" } : Jvm.MethodName) ∈ G := gT3 141 rfl rfl
theorem g_623 : Jvm.Cond.instanceMethod ({ cls := "RainWalk$Reader", name := "sign", desc := "(I)Z" } : Jvm.MethodName) ∈ G := gT3 143 rfl rfl
theorem g_624 : Jvm.Cond.code ({ cls := "RainWalk$Reader", name := "sign", desc := "(I)Z" } : Jvm.MethodName) prog_6_method_10_code (2 : Nat) (Option.some Jvm.ClassFile.FieldType.boolean) ∈ G := gT3 144 rfl rfl
theorem g_625 : Jvm.Cond.methodLink "RainWalk" (76 : Nat) ({ cls := "RainWalk$Reader", name := "exchange", desc := "(LRainWalk$World;)LRainWalk$World;" } : Jvm.MethodName) ∈ G := gT3 145 rfl rfl
theorem g_626 : Jvm.Cond.instanceMethod ({ cls := "RainWalk$Reader", name := "exchange", desc := "(LRainWalk$World;)LRainWalk$World;" } : Jvm.MethodName) ∈ G := gT3 146 rfl rfl
theorem g_627 : Jvm.Cond.selects "RainWalk$Reader" ({ cls := "RainWalk$Reader", name := "exchange", desc := "(LRainWalk$World;)LRainWalk$World;" } : Jvm.MethodName) ({ cls := "RainWalk$Reader", name := "exchange", desc := "(LRainWalk$World;)LRainWalk$World;" } : Jvm.MethodName) ∈ G := gT3 147 rfl rfl
theorem g_628 : Jvm.Cond.code ({ cls := "RainWalk$Reader", name := "exchange", desc := "(LRainWalk$World;)LRainWalk$World;" } : Jvm.MethodName) prog_6_method_2_code (3 : Nat) (Option.some (Jvm.ClassFile.FieldType.object "RainWalk$World")) ∈ G := gT3 148 rfl rfl
theorem g_629 : Jvm.Cond.methodLink "RainWalk" (80 : Nat) ({ cls := "RainWalk$Ways", name := "forget", desc := "()V" } : Jvm.MethodName) ∈ G := gT3 149 rfl rfl
theorem g_630 : Jvm.Cond.instanceMethod ({ cls := "RainWalk$Ways", name := "forget", desc := "()V" } : Jvm.MethodName) ∈ G := gT3 150 rfl rfl
theorem g_631 : Jvm.Cond.selects "RainWalk$Ways" ({ cls := "RainWalk$Ways", name := "forget", desc := "()V" } : Jvm.MethodName) ({ cls := "RainWalk$Ways", name := "forget", desc := "()V" } : Jvm.MethodName) ∈ G := gT3 151 rfl rfl
theorem g_632 : Jvm.Cond.code ({ cls := "RainWalk$Ways", name := "forget", desc := "()V" } : Jvm.MethodName) prog_9_method_2_code (1 : Nat) (Option.none : Option Jvm.ClassFile.FieldType) ∈ G := gT3 152 rfl rfl
theorem g_633 : Jvm.Cond.methodLink "RainWalk" (83 : Nat) ({ cls := "RainWalk$Day", name := "end", desc := "()V" } : Jvm.MethodName) ∈ G := gT3 153 rfl rfl
theorem g_634 : Jvm.Cond.instanceMethod ({ cls := "RainWalk$Day", name := "end", desc := "()V" } : Jvm.MethodName) ∈ G := gT3 154 rfl rfl
theorem g_635 : Jvm.Cond.selects "RainWalk$Day" ({ cls := "RainWalk$Day", name := "end", desc := "()V" } : Jvm.MethodName) ({ cls := "RainWalk$Day", name := "end", desc := "()V" } : Jvm.MethodName) ∈ G := gT3 155 rfl rfl
theorem g_636 : Jvm.Cond.code ({ cls := "RainWalk$Day", name := "end", desc := "()V" } : Jvm.MethodName) prog_2_method_3_code (1 : Nat) (Option.none : Option Jvm.ClassFile.FieldType) ∈ G := gT3 156 rfl rfl
theorem g_637 : Jvm.Cond.methodLink "RainWalk" (89 : Nat) ({ cls := "RainWalk", name := "grant", desc := "(I)I" } : Jvm.MethodName) ∈ G := gT3 157 rfl rfl
theorem g_639 : Jvm.Cond.instanceMethod ({ cls := "RainWalk", name := "grant", desc := "(I)I" } : Jvm.MethodName) ∈ G := gT3 159 rfl rfl
theorem g_640 : Jvm.Cond.code ({ cls := "RainWalk", name := "grant", desc := "(I)I" } : Jvm.MethodName) prog_1_method_8_code (2 : Nat) (Option.some Jvm.ClassFile.FieldType.int) ∈ G := gT3 160 rfl rfl
theorem g_641 : Jvm.Cond.methodLink "RainWalkLaw" (28 : Nat) ({ cls := "RainWalk", name := "fault", desc := "()I" } : Jvm.MethodName) ∈ G := gT3 161 rfl rfl
theorem g_642 : Jvm.Cond.instanceMethod ({ cls := "RainWalk", name := "fault", desc := "()I" } : Jvm.MethodName) ∈ G := gT3 162 rfl rfl
theorem g_643 : Jvm.Cond.selects "RainWalk" ({ cls := "RainWalk", name := "fault", desc := "()I" } : Jvm.MethodName) ({ cls := "RainWalk", name := "fault", desc := "()I" } : Jvm.MethodName) ∈ G := gT3 163 rfl rfl
theorem g_644 : Jvm.Cond.code ({ cls := "RainWalk", name := "fault", desc := "()I" } : Jvm.MethodName) prog_1_method_5_code (1 : Nat) (Option.some Jvm.ClassFile.FieldType.int) ∈ G := gT3 164 rfl rfl
theorem g_645 : Jvm.Cond.methodLink "RainWalkLaw" (33 : Nat) ({ cls := "RainWalk", name := "where", desc := "()I" } : Jvm.MethodName) ∈ G := gT3 165 rfl rfl
theorem g_646 : Jvm.Cond.instanceMethod ({ cls := "RainWalk", name := "where", desc := "()I" } : Jvm.MethodName) ∈ G := gT3 166 rfl rfl
theorem g_647 : Jvm.Cond.selects "RainWalk" ({ cls := "RainWalk", name := "where", desc := "()I" } : Jvm.MethodName) ({ cls := "RainWalk", name := "where", desc := "()I" } : Jvm.MethodName) ∈ G := gT3 167 rfl rfl
theorem g_648 : Jvm.Cond.code ({ cls := "RainWalk", name := "where", desc := "()I" } : Jvm.MethodName) prog_1_method_6_code (1 : Nat) (Option.some Jvm.ClassFile.FieldType.int) ∈ G := gT3 168 rfl rfl
theorem g_649 : Jvm.Cond.methodLink "RainWalkLaw" (37 : Nat) ({ cls := "RainWalk", name := "face", desc := "(IIIIIIZ)J" } : Jvm.MethodName) ∈ G := gT3 169 rfl rfl
theorem g_650 : Jvm.Cond.instanceMethod ({ cls := "RainWalk", name := "face", desc := "(IIIIIIZ)J" } : Jvm.MethodName) ∈ G := gT3 170 rfl rfl
theorem g_651 : Jvm.Cond.selects "RainWalk" ({ cls := "RainWalk", name := "face", desc := "(IIIIIIZ)J" } : Jvm.MethodName) ({ cls := "RainWalk", name := "face", desc := "(IIIIIIZ)J" } : Jvm.MethodName) ∈ G := gT3 171 rfl rfl
theorem g_652 : Jvm.Cond.code ({ cls := "RainWalk", name := "face", desc := "(IIIIIIZ)J" } : Jvm.MethodName) prog_1_method_10_code (9 : Nat) (Option.some Jvm.ClassFile.FieldType.long) ∈ G := gT3 172 rfl rfl
theorem g_653 : Jvm.Cond.methodLink "RainWalk" (95 : Nat) ({ cls := "RainWalk", name := "isFace", desc := "(I)Z" } : Jvm.MethodName) ∈ G := gT3 173 rfl rfl
theorem g_654 : Jvm.Cond.static ({ cls := "RainWalk", name := "isFace", desc := "(I)Z" } : Jvm.MethodName) ∈ G := gT3 174 rfl rfl
theorem g_655 : Jvm.Cond.code ({ cls := "RainWalk", name := "isFace", desc := "(I)Z" } : Jvm.MethodName) prog_1_method_28_code (1 : Nat) (Option.some Jvm.ClassFile.FieldType.boolean) ∈ G := gT3 175 rfl rfl
theorem g_656 : Jvm.Cond.methodLink "RainWalk" (99 : Nat) ({ cls := "RainWalk", name := "legTrouble", desc := "(IIIII)I" } : Jvm.MethodName) ∈ G := gT3 176 rfl rfl
theorem g_658 : Jvm.Cond.instanceMethod ({ cls := "RainWalk", name := "legTrouble", desc := "(IIIII)I" } : Jvm.MethodName) ∈ G := gT3 178 rfl rfl
theorem g_659 : Jvm.Cond.code ({ cls := "RainWalk", name := "legTrouble", desc := "(IIIII)I" } : Jvm.MethodName) prog_1_method_25_code (7 : Nat) (Option.some Jvm.ClassFile.FieldType.int) ∈ G := gT3 179 rfl rfl
theorem g_660 : Jvm.Cond.methodLink "RainWalk" (178 : Nat) ({ cls := "RainWalk", name := "tripTrouble", desc := "(IIII)I" } : Jvm.MethodName) ∈ G := gT3 180 rfl rfl
theorem g_662 : Jvm.Cond.instanceMethod ({ cls := "RainWalk", name := "tripTrouble", desc := "(IIII)I" } : Jvm.MethodName) ∈ G := gT3 182 rfl rfl
theorem g_663 : Jvm.Cond.code ({ cls := "RainWalk", name := "tripTrouble", desc := "(IIII)I" } : Jvm.MethodName) prog_1_method_24_code (6 : Nat) (Option.some Jvm.ClassFile.FieldType.int) ∈ G := gT3 183 rfl rfl
theorem g_664 : Jvm.Cond.methodLink "RainWalk" (141 : Nat) ({ cls := "RainWalk$World", name := "hasWalker", desc := "(I)Z" } : Jvm.MethodName) ∈ G := gT3 184 rfl rfl
theorem g_665 : Jvm.Cond.instanceMethod ({ cls := "RainWalk$World", name := "hasWalker", desc := "(I)Z" } : Jvm.MethodName) ∈ G := gT3 185 rfl rfl
theorem g_666 : Jvm.Cond.selects "RainWalk$World" ({ cls := "RainWalk$World", name := "hasWalker", desc := "(I)Z" } : Jvm.MethodName) ({ cls := "RainWalk$World", name := "hasWalker", desc := "(I)Z" } : Jvm.MethodName) ∈ G := gT3 186 rfl rfl
theorem g_667 : Jvm.Cond.code ({ cls := "RainWalk$World", name := "hasWalker", desc := "(I)Z" } : Jvm.MethodName) prog_10_method_7_code (2 : Nat) (Option.some Jvm.ClassFile.FieldType.boolean) ∈ G := gT3 187 rfl rfl
theorem g_668 : Jvm.Cond.methodLink "RainWalk" (144 : Nat) ({ cls := "RainWalk$World", name := "hasRoad", desc := "(I)Z" } : Jvm.MethodName) ∈ G := gT3 188 rfl rfl
theorem g_669 : Jvm.Cond.instanceMethod ({ cls := "RainWalk$World", name := "hasRoad", desc := "(I)Z" } : Jvm.MethodName) ∈ G := gT3 189 rfl rfl
theorem g_670 : Jvm.Cond.selects "RainWalk$World" ({ cls := "RainWalk$World", name := "hasRoad", desc := "(I)Z" } : Jvm.MethodName) ({ cls := "RainWalk$World", name := "hasRoad", desc := "(I)Z" } : Jvm.MethodName) ∈ G := gT3 190 rfl rfl
theorem g_671 : Jvm.Cond.code ({ cls := "RainWalk$World", name := "hasRoad", desc := "(I)Z" } : Jvm.MethodName) prog_10_method_6_code (2 : Nat) (Option.some Jvm.ClassFile.FieldType.boolean) ∈ G := gT3 191 rfl rfl
theorem g_672 : Jvm.Cond.methodLink "RainWalk" (157 : Nat) ({ cls := "RainWalk", name := "isWay", desc := "(I)Z" } : Jvm.MethodName) ∈ G := gT3 192 rfl rfl
theorem g_673 : Jvm.Cond.static ({ cls := "RainWalk", name := "isWay", desc := "(I)Z" } : Jvm.MethodName) ∈ G := gT3 193 rfl rfl
theorem g_674 : Jvm.Cond.code ({ cls := "RainWalk", name := "isWay", desc := "(I)Z" } : Jvm.MethodName) prog_1_method_27_code (1 : Nat) (Option.some Jvm.ClassFile.FieldType.boolean) ∈ G := gT3 194 rfl rfl
theorem g_675 : Jvm.Cond.methodLink "RainWalk" (160 : Nat) ({ cls := "RainWalk$World", name := "hasHour", desc := "(I)Z" } : Jvm.MethodName) ∈ G := gT3 195 rfl rfl
theorem g_676 : Jvm.Cond.instanceMethod ({ cls := "RainWalk$World", name := "hasHour", desc := "(I)Z" } : Jvm.MethodName) ∈ G := gT3 196 rfl rfl
theorem g_677 : Jvm.Cond.selects "RainWalk$World" ({ cls := "RainWalk$World", name := "hasHour", desc := "(I)Z" } : Jvm.MethodName) ({ cls := "RainWalk$World", name := "hasHour", desc := "(I)Z" } : Jvm.MethodName) ∈ G := gT3 197 rfl rfl
theorem g_678 : Jvm.Cond.code ({ cls := "RainWalk$World", name := "hasHour", desc := "(I)Z" } : Jvm.MethodName) prog_10_method_4_code (2 : Nat) (Option.some Jvm.ClassFile.FieldType.boolean) ∈ G := gT3 198 rfl rfl
theorem g_679 : Jvm.Cond.methodLink "RainWalk" (147 : Nat) ({ cls := "RainWalk$Walker", name := "canGo", desc := "(I)Z" } : Jvm.MethodName) ∈ G := gT3 199 rfl rfl
theorem g_680 : Jvm.Cond.instanceMethod ({ cls := "RainWalk$Walker", name := "canGo", desc := "(I)Z" } : Jvm.MethodName) ∈ G := gT3 200 rfl rfl
theorem g_681 : Jvm.Cond.selects "RainWalk$Walker" ({ cls := "RainWalk$Walker", name := "canGo", desc := "(I)Z" } : Jvm.MethodName) ({ cls := "RainWalk$Walker", name := "canGo", desc := "(I)Z" } : Jvm.MethodName) ∈ G := gT3 201 rfl rfl
theorem g_682 : Jvm.Cond.code ({ cls := "RainWalk$Walker", name := "canGo", desc := "(I)Z" } : Jvm.MethodName) prog_8_method_3_code (2 : Nat) (Option.some Jvm.ClassFile.FieldType.boolean) ∈ G := gT3 202 rfl rfl
theorem g_683 : Jvm.Cond.methodLink "RainWalk" (103 : Nat) ({ cls := "RainWalk", name := "refusedBy", desc := "(I)Z" } : Jvm.MethodName) ∈ G := gT3 203 rfl rfl
theorem g_685 : Jvm.Cond.instanceMethod ({ cls := "RainWalk", name := "refusedBy", desc := "(I)Z" } : Jvm.MethodName) ∈ G := gT3 205 rfl rfl
theorem g_686 : Jvm.Cond.code ({ cls := "RainWalk", name := "refusedBy", desc := "(I)Z" } : Jvm.MethodName) prog_1_method_9_code (2 : Nat) (Option.some Jvm.ClassFile.FieldType.boolean) ∈ G := gT3 206 rfl rfl
theorem g_687 : Jvm.Cond.constantLong "RainWalk" (106 : Nat) (-1 : Int64) ∈ G := gT3 207 rfl rfl
theorem g_688 : Jvm.Cond.methodLink "RainWalk" (120 : Nat) ({ cls := "RainWalk$Leg", name := "wetOf", desc := "(LRainWalk$Walker;LRainWalk$Road;ILRainWalk$Rain;I)J" } : Jvm.MethodName) ∈ G := gT3 208 rfl rfl
theorem g_689 : Jvm.Cond.instanceMethod ({ cls := "RainWalk$Leg", name := "wetOf", desc := "(LRainWalk$Walker;LRainWalk$Road;ILRainWalk$Rain;I)J" } : Jvm.MethodName) ∈ G := gT3 209 rfl rfl
theorem g_690 : Jvm.Cond.selects "RainWalk$Leg" ({ cls := "RainWalk$Leg", name := "wetOf", desc := "(LRainWalk$Walker;LRainWalk$Road;ILRainWalk$Rain;I)J" } : Jvm.MethodName) ({ cls := "RainWalk$Leg", name := "wetOf", desc := "(LRainWalk$Walker;LRainWalk$Road;ILRainWalk$Rain;I)J" } : Jvm.MethodName) ∈ G := gT3 210 rfl rfl
theorem g_691 : Jvm.Cond.code ({ cls := "RainWalk$Leg", name := "wetOf", desc := "(LRainWalk$Walker;LRainWalk$Road;ILRainWalk$Rain;I)J" } : Jvm.MethodName) prog_3_method_4_code (6 : Nat) (Option.some Jvm.ClassFile.FieldType.long) ∈ G := gT3 211 rfl rfl
theorem g_692 : Jvm.Cond.methodLink "RainWalk$Leg" (66 : Nat) ({ cls := "RainWalk$Leg", name := "lay", desc := "(LRainWalk$Road;ILRainWalk$Rain;I)V" } : Jvm.MethodName) ∈ G := gT3 212 rfl rfl
theorem g_693 : Jvm.Cond.instanceMethod ({ cls := "RainWalk$Leg", name := "lay", desc := "(LRainWalk$Road;ILRainWalk$Rain;I)V" } : Jvm.MethodName) ∈ G := gT3 213 rfl rfl
theorem g_694 : Jvm.Cond.selects "RainWalk$Leg" ({ cls := "RainWalk$Leg", name := "lay", desc := "(LRainWalk$Road;ILRainWalk$Rain;I)V" } : Jvm.MethodName) ({ cls := "RainWalk$Leg", name := "lay", desc := "(LRainWalk$Road;ILRainWalk$Rain;I)V" } : Jvm.MethodName) ∈ G := gT3 214 rfl rfl
theorem g_695 : Jvm.Cond.code ({ cls := "RainWalk$Leg", name := "lay", desc := "(LRainWalk$Road;ILRainWalk$Rain;I)V" } : Jvm.MethodName) prog_3_method_2_code (11 : Nat) (Option.none : Option Jvm.ClassFile.FieldType) ∈ G := gT3 215 rfl rfl
theorem g_696 : Jvm.Cond.methodLink "RainWalk$Leg" (32 : Nat) ({ cls := "RainWalk$Road", name := "turnOf", desc := "(ILRainWalk$Rain;)I" } : Jvm.MethodName) ∈ G := gT3 216 rfl rfl
theorem g_697 : Jvm.Cond.instanceMethod ({ cls := "RainWalk$Road", name := "turnOf", desc := "(ILRainWalk$Rain;)I" } : Jvm.MethodName) ∈ G := gT3 217 rfl rfl
theorem g_698 : Jvm.Cond.selects "RainWalk$Road" ({ cls := "RainWalk$Road", name := "turnOf", desc := "(ILRainWalk$Rain;)I" } : Jvm.MethodName) ({ cls := "RainWalk$Road", name := "turnOf", desc := "(ILRainWalk$Rain;)I" } : Jvm.MethodName) ∈ G := gT3 218 rfl rfl
theorem g_699 : Jvm.Cond.code ({ cls := "RainWalk$Road", name := "turnOf", desc := "(ILRainWalk$Rain;)I" } : Jvm.MethodName) prog_7_method_6_code (4 : Nat) (Option.some Jvm.ClassFile.FieldType.int) ∈ G := gT3 219 rfl rfl
theorem g_700 : Jvm.Cond.methodLink "RainWalk$Leg" (36 : Nat) ({ cls := "RainWalk$Road", name := "airAlong", desc := "(ILRainWalk$Rain;)I" } : Jvm.MethodName) ∈ G := gT3 220 rfl rfl
theorem g_701 : Jvm.Cond.instanceMethod ({ cls := "RainWalk$Road", name := "airAlong", desc := "(ILRainWalk$Rain;)I" } : Jvm.MethodName) ∈ G := gT3 221 rfl rfl
theorem g_702 : Jvm.Cond.selects "RainWalk$Road" ({ cls := "RainWalk$Road", name := "airAlong", desc := "(ILRainWalk$Rain;)I" } : Jvm.MethodName) ({ cls := "RainWalk$Road", name := "airAlong", desc := "(ILRainWalk$Rain;)I" } : Jvm.MethodName) ∈ G := gT3 222 rfl rfl
theorem g_703 : Jvm.Cond.code ({ cls := "RainWalk$Road", name := "airAlong", desc := "(ILRainWalk$Rain;)I" } : Jvm.MethodName) prog_7_method_7_code (4 : Nat) (Option.some Jvm.ClassFile.FieldType.int) ∈ G := gT3 223 rfl rfl
theorem g_704 : Jvm.Cond.methodLink "RainWalk$Road" (27 : Nat) ({ cls := "RainWalk$Road", name := "turnOf", desc := "(ILRainWalk$Rain;)I" } : Jvm.MethodName) ∈ G := gT3 224 rfl rfl
theorem g_705 : Jvm.Cond.methodLink "RainWalk$Leg" (42 : Nat) ({ cls := "java/lang/Math", name := "max", desc := "(II)I" } : Jvm.MethodName) ∈ G := gT3 225 rfl rfl
theorem g_706 : Jvm.Cond.static ({ cls := "java/lang/Math", name := "max", desc := "(II)I" } : Jvm.MethodName) ∈ G := gT3 226 rfl rfl
theorem g_707 : Jvm.Cond.code ({ cls := "java/lang/Math", name := "max", desc := "(II)I" } : Jvm.MethodName) prog_18_method_65_code (2 : Nat) (Option.some Jvm.ClassFile.FieldType.int) ∈ G := gT3 227 rfl rfl
theorem g_708 : Jvm.Cond.methodLink "RainWalk$Leg" (70 : Nat) ({ cls := "RainWalk$Leg", name := "soak", desc := "(LRainWalk$Walker;II)J" } : Jvm.MethodName) ∈ G := gT3 228 rfl rfl
theorem g_710 : Jvm.Cond.instanceMethod ({ cls := "RainWalk$Leg", name := "soak", desc := "(LRainWalk$Walker;II)J" } : Jvm.MethodName) ∈ G := gT3 230 rfl rfl
theorem g_711 : Jvm.Cond.code ({ cls := "RainWalk$Leg", name := "soak", desc := "(LRainWalk$Walker;II)J" } : Jvm.MethodName) prog_3_method_6_code (7 : Nat) (Option.some Jvm.ClassFile.FieldType.long) ∈ G := gT3 231 rfl rfl
theorem g_712 : Jvm.Cond.methodLink "RainWalk$Leg" (74 : Nat) ({ cls := "RainWalk$Leg", name := "isForward", desc := "(LRainWalk$Walker;)Z" } : Jvm.MethodName) ∈ G := gT3 232 rfl rfl
theorem g_713 : Jvm.Cond.instanceMethod ({ cls := "RainWalk$Leg", name := "isForward", desc := "(LRainWalk$Walker;)Z" } : Jvm.MethodName) ∈ G := gT3 233 rfl rfl
theorem g_714 : Jvm.Cond.selects "RainWalk$Leg" ({ cls := "RainWalk$Leg", name := "isForward", desc := "(LRainWalk$Walker;)Z" } : Jvm.MethodName) ({ cls := "RainWalk$Leg", name := "isForward", desc := "(LRainWalk$Walker;)Z" } : Jvm.MethodName) ∈ G := gT3 234 rfl rfl
theorem g_715 : Jvm.Cond.code ({ cls := "RainWalk$Leg", name := "isForward", desc := "(LRainWalk$Walker;)Z" } : Jvm.MethodName) prog_3_method_3_code (6 : Nat) (Option.some Jvm.ClassFile.FieldType.boolean) ∈ G := gT3 235 rfl rfl
theorem g_716 : Jvm.Cond.methodLink "RainWalk$Leg" (51 : Nat) ({ cls := "RainWalk$Walker", name := "shield", desc := "()I" } : Jvm.MethodName) ∈ G := gT3 236 rfl rfl
theorem g_717 : Jvm.Cond.instanceMethod ({ cls := "RainWalk$Walker", name := "shield", desc := "()I" } : Jvm.MethodName) ∈ G := gT3 237 rfl rfl
theorem g_718 : Jvm.Cond.selects "RainWalk$Walker" ({ cls := "RainWalk$Walker", name := "shield", desc := "()I" } : Jvm.MethodName) ({ cls := "RainWalk$Walker", name := "shield", desc := "()I" } : Jvm.MethodName) ∈ G := gT3 238 rfl rfl
theorem g_719 : Jvm.Cond.code ({ cls := "RainWalk$Walker", name := "shield", desc := "()I" } : Jvm.MethodName) prog_8_method_4_code (1 : Nat) (Option.some Jvm.ClassFile.FieldType.int) ∈ G := gT3 239 rfl rfl
theorem g_720 : Jvm.Cond.methodLink "RainWalk$Leg" (60 : Nat) ({ cls := "java/lang/Math", name := "min", desc := "(II)I" } : Jvm.MethodName) ∈ G := gT4 0 rfl rfl
theorem g_721 : Jvm.Cond.constantLong "RainWalk" (128 : Nat) (2520 : Int64) ∈ G := gT4 1 rfl rfl
theorem g_722 : Jvm.Cond.methodLink "RainWalk" (130 : Nat) ({ cls := "RainWalk", name := "fraction", desc := "(JJZ)J" } : Jvm.MethodName) ∈ G := gT4 2 rfl rfl
theorem g_723 : Jvm.Cond.static ({ cls := "RainWalk", name := "fraction", desc := "(JJZ)J" } : Jvm.MethodName) ∈ G := gT4 3 rfl rfl
theorem g_724 : Jvm.Cond.code ({ cls := "RainWalk", name := "fraction", desc := "(JJZ)J" } : Jvm.MethodName) prog_1_method_29_code (7 : Nat) (Option.some Jvm.ClassFile.FieldType.long) ∈ G := gT4 4 rfl rfl
theorem g_725 : Jvm.Cond.methodLink "RainWalk" (209 : Nat) ({ cls := "RainWalk", name := "commonDivisor", desc := "(JJ)J" } : Jvm.MethodName) ∈ G := gT4 5 rfl rfl
theorem g_726 : Jvm.Cond.static ({ cls := "RainWalk", name := "commonDivisor", desc := "(JJ)J" } : Jvm.MethodName) ∈ G := gT4 6 rfl rfl
theorem g_727 : Jvm.Cond.code ({ cls := "RainWalk", name := "commonDivisor", desc := "(JJ)J" } : Jvm.MethodName) prog_1_method_30_code (11 : Nat) (Option.some Jvm.ClassFile.FieldType.long) ∈ G := gT4 7 rfl rfl
theorem g_728 : Jvm.Cond.methodLink "RainWalkLaw" (42 : Nat) ({ cls := "RainWalk", name := "wet", desc := "(IIIIIZ)J" } : Jvm.MethodName) ∈ G := gT4 8 rfl rfl
theorem g_729 : Jvm.Cond.instanceMethod ({ cls := "RainWalk", name := "wet", desc := "(IIIIIZ)J" } : Jvm.MethodName) ∈ G := gT4 9 rfl rfl
theorem g_730 : Jvm.Cond.selects "RainWalk" ({ cls := "RainWalk", name := "wet", desc := "(IIIIIZ)J" } : Jvm.MethodName) ({ cls := "RainWalk", name := "wet", desc := "(IIIIIZ)J" } : Jvm.MethodName) ∈ G := gT4 10 rfl rfl
theorem g_731 : Jvm.Cond.code ({ cls := "RainWalk", name := "wet", desc := "(IIIIIZ)J" } : Jvm.MethodName) prog_1_method_11_code (7 : Nat) (Option.some Jvm.ClassFile.FieldType.long) ∈ G := gT4 11 rfl rfl
theorem g_732 : Jvm.Cond.methodLink "RainWalkLaw" (47 : Nat) ({ cls := "RainWalk", name := "mean", desc := "(IIIIIZ)J" } : Jvm.MethodName) ∈ G := gT4 12 rfl rfl
theorem g_733 : Jvm.Cond.instanceMethod ({ cls := "RainWalk", name := "mean", desc := "(IIIIIZ)J" } : Jvm.MethodName) ∈ G := gT4 13 rfl rfl
theorem g_734 : Jvm.Cond.selects "RainWalk" ({ cls := "RainWalk", name := "mean", desc := "(IIIIIZ)J" } : Jvm.MethodName) ({ cls := "RainWalk", name := "mean", desc := "(IIIIIZ)J" } : Jvm.MethodName) ∈ G := gT4 14 rfl rfl
theorem g_735 : Jvm.Cond.code ({ cls := "RainWalk", name := "mean", desc := "(IIIIIZ)J" } : Jvm.MethodName) prog_1_method_12_code (9 : Nat) (Option.some Jvm.ClassFile.FieldType.long) ∈ G := gT4 15 rfl rfl
theorem g_736 : Jvm.Cond.constantLong "RainWalk" (139 : Nat) (252000 : Int64) ∈ G := gT4 16 rfl rfl
theorem g_737 : Jvm.Cond.methodLink "RainWalkLaw" (51 : Nat) ({ cls := "RainWalk", name := "minutes", desc := "(III)I" } : Jvm.MethodName) ∈ G := gT4 17 rfl rfl
theorem g_738 : Jvm.Cond.instanceMethod ({ cls := "RainWalk", name := "minutes", desc := "(III)I" } : Jvm.MethodName) ∈ G := gT4 18 rfl rfl
theorem g_739 : Jvm.Cond.selects "RainWalk" ({ cls := "RainWalk", name := "minutes", desc := "(III)I" } : Jvm.MethodName) ({ cls := "RainWalk", name := "minutes", desc := "(III)I" } : Jvm.MethodName) ∈ G := gT4 19 rfl rfl
theorem g_740 : Jvm.Cond.code ({ cls := "RainWalk", name := "minutes", desc := "(III)I" } : Jvm.MethodName) prog_1_method_13_code (4 : Nat) (Option.some Jvm.ClassFile.FieldType.int) ∈ G := gT4 20 rfl rfl
theorem g_741 : Jvm.Cond.methodLink "RainWalk" (152 : Nat) ({ cls := "RainWalk$Road", name := "minutesAt", desc := "(I)I" } : Jvm.MethodName) ∈ G := gT4 21 rfl rfl
theorem g_742 : Jvm.Cond.instanceMethod ({ cls := "RainWalk$Road", name := "minutesAt", desc := "(I)I" } : Jvm.MethodName) ∈ G := gT4 22 rfl rfl
theorem g_743 : Jvm.Cond.selects "RainWalk$Road" ({ cls := "RainWalk$Road", name := "minutesAt", desc := "(I)I" } : Jvm.MethodName) ({ cls := "RainWalk$Road", name := "minutesAt", desc := "(I)I" } : Jvm.MethodName) ∈ G := gT4 23 rfl rfl
theorem g_744 : Jvm.Cond.code ({ cls := "RainWalk$Road", name := "minutesAt", desc := "(I)I" } : Jvm.MethodName) prog_7_method_5_code (2 : Nat) (Option.some Jvm.ClassFile.FieldType.int) ∈ G := gT4 24 rfl rfl
theorem g_745 : Jvm.Cond.methodLink "RainWalkLaw" (56 : Nat) ({ cls := "RainWalk", name := "air", desc := "(III)I" } : Jvm.MethodName) ∈ G := gT4 25 rfl rfl
theorem g_746 : Jvm.Cond.instanceMethod ({ cls := "RainWalk", name := "air", desc := "(III)I" } : Jvm.MethodName) ∈ G := gT4 26 rfl rfl
theorem g_747 : Jvm.Cond.selects "RainWalk" ({ cls := "RainWalk", name := "air", desc := "(III)I" } : Jvm.MethodName) ({ cls := "RainWalk", name := "air", desc := "(III)I" } : Jvm.MethodName) ∈ G := gT4 27 rfl rfl
theorem g_748 : Jvm.Cond.code ({ cls := "RainWalk", name := "air", desc := "(III)I" } : Jvm.MethodName) prog_1_method_14_code (4 : Nat) (Option.some Jvm.ClassFile.FieldType.int) ∈ G := gT4 28 rfl rfl
theorem g_749 : Jvm.Cond.methodLink "RainWalk" (163 : Nat) ({ cls := "RainWalk$Road", name := "airAlong", desc := "(ILRainWalk$Rain;)I" } : Jvm.MethodName) ∈ G := gT4 29 rfl rfl
theorem g_750 : Jvm.Cond.methodLink "RainWalkLaw" (60 : Nat) ({ cls := "RainWalk", name := "held", desc := "(IIIII)I" } : Jvm.MethodName) ∈ G := gT4 30 rfl rfl
theorem g_751 : Jvm.Cond.instanceMethod ({ cls := "RainWalk", name := "held", desc := "(IIIII)I" } : Jvm.MethodName) ∈ G := gT4 31 rfl rfl
theorem g_752 : Jvm.Cond.selects "RainWalk" ({ cls := "RainWalk", name := "held", desc := "(IIIII)I" } : Jvm.MethodName) ({ cls := "RainWalk", name := "held", desc := "(IIIII)I" } : Jvm.MethodName) ∈ G := gT4 32 rfl rfl
theorem g_753 : Jvm.Cond.code ({ cls := "RainWalk", name := "held", desc := "(IIIII)I" } : Jvm.MethodName) prog_1_method_15_code (6 : Nat) (Option.some Jvm.ClassFile.FieldType.int) ∈ G := gT4 33 rfl rfl
theorem g_754 : Jvm.Cond.methodLink "RainWalk" (170 : Nat) ({ cls := "RainWalk$Leg", name := "lay", desc := "(LRainWalk$Road;ILRainWalk$Rain;I)V" } : Jvm.MethodName) ∈ G := gT4 34 rfl rfl
theorem g_755 : Jvm.Cond.methodLink "RainWalk" (174 : Nat) ({ cls := "RainWalk$Leg", name := "isForward", desc := "(LRainWalk$Walker;)Z" } : Jvm.MethodName) ∈ G := gT4 35 rfl rfl
theorem g_756 : Jvm.Cond.methodLink "RainWalkLaw" (64 : Nat) ({ cls := "RainWalk", name := "best", desc := "(IIII)I" } : Jvm.MethodName) ∈ G := gT4 36 rfl rfl
theorem g_757 : Jvm.Cond.instanceMethod ({ cls := "RainWalk", name := "best", desc := "(IIII)I" } : Jvm.MethodName) ∈ G := gT4 37 rfl rfl
theorem g_758 : Jvm.Cond.selects "RainWalk" ({ cls := "RainWalk", name := "best", desc := "(IIII)I" } : Jvm.MethodName) ({ cls := "RainWalk", name := "best", desc := "(IIII)I" } : Jvm.MethodName) ∈ G := gT4 38 rfl rfl
theorem g_759 : Jvm.Cond.code ({ cls := "RainWalk", name := "best", desc := "(IIII)I" } : Jvm.MethodName) prog_1_method_16_code (5 : Nat) (Option.some Jvm.ClassFile.FieldType.int) ∈ G := gT4 39 rfl rfl
theorem g_760 : Jvm.Cond.methodLink "RainWalk" (182 : Nat) ({ cls := "RainWalk$Leg", name := "bestSpeed", desc := "(LRainWalk$Walker;LRainWalk$Road;ILRainWalk$Rain;)I" } : Jvm.MethodName) ∈ G := gT4 40 rfl rfl
theorem g_761 : Jvm.Cond.instanceMethod ({ cls := "RainWalk$Leg", name := "bestSpeed", desc := "(LRainWalk$Walker;LRainWalk$Road;ILRainWalk$Rain;)I" } : Jvm.MethodName) ∈ G := gT4 41 rfl rfl
theorem g_762 : Jvm.Cond.selects "RainWalk$Leg" ({ cls := "RainWalk$Leg", name := "bestSpeed", desc := "(LRainWalk$Walker;LRainWalk$Road;ILRainWalk$Rain;)I" } : Jvm.MethodName) ({ cls := "RainWalk$Leg", name := "bestSpeed", desc := "(LRainWalk$Walker;LRainWalk$Road;ILRainWalk$Rain;)I" } : Jvm.MethodName) ∈ G := gT4 42 rfl rfl
theorem g_763 : Jvm.Cond.code ({ cls := "RainWalk$Leg", name := "bestSpeed", desc := "(LRainWalk$Walker;LRainWalk$Road;ILRainWalk$Rain;)I" } : Jvm.MethodName) prog_3_method_7_code (11 : Nat) (Option.some Jvm.ClassFile.FieldType.int) ∈ G := gT4 43 rfl rfl
theorem g_764 : Jvm.Cond.constantLong "RainWalk$Leg" (84 : Nat) (4611686018427387904 : Int64) ∈ G := gT4 44 rfl rfl
theorem g_765 : Jvm.Cond.methodLink "RainWalk$Leg" (89 : Nat) ({ cls := "RainWalk$Leg", name := "wetOf", desc := "(LRainWalk$Walker;LRainWalk$Road;ILRainWalk$Rain;I)J" } : Jvm.MethodName) ∈ G := gT4 45 rfl rfl
theorem g_766 : Jvm.Cond.methodLink "RainWalkLaw" (69 : Nat) ({ cls := "RainWalk", name := "saves", desc := "(IIIIZ)J" } : Jvm.MethodName) ∈ G := gT4 46 rfl rfl
theorem g_767 : Jvm.Cond.instanceMethod ({ cls := "RainWalk", name := "saves", desc := "(IIIIZ)J" } : Jvm.MethodName) ∈ G := gT4 47 rfl rfl
theorem g_768 : Jvm.Cond.selects "RainWalk" ({ cls := "RainWalk", name := "saves", desc := "(IIIIZ)J" } : Jvm.MethodName) ({ cls := "RainWalk", name := "saves", desc := "(IIIIZ)J" } : Jvm.MethodName) ∈ G := gT4 48 rfl rfl
theorem g_769 : Jvm.Cond.code ({ cls := "RainWalk", name := "saves", desc := "(IIIIZ)J" } : Jvm.MethodName) prog_1_method_17_code (9 : Nat) (Option.some Jvm.ClassFile.FieldType.long) ∈ G := gT4 49 rfl rfl
theorem g_770 : Jvm.Cond.methodLink "RainWalk" (189 : Nat) ({ cls := "RainWalk$Leg", name := "leastWet", desc := "(LRainWalk$Walker;LRainWalk$Road;ILRainWalk$Rain;)J" } : Jvm.MethodName) ∈ G := gT4 50 rfl rfl
theorem g_771 : Jvm.Cond.instanceMethod ({ cls := "RainWalk$Leg", name := "leastWet", desc := "(LRainWalk$Walker;LRainWalk$Road;ILRainWalk$Rain;)J" } : Jvm.MethodName) ∈ G := gT4 51 rfl rfl
theorem g_772 : Jvm.Cond.selects "RainWalk$Leg" ({ cls := "RainWalk$Leg", name := "leastWet", desc := "(LRainWalk$Walker;LRainWalk$Road;ILRainWalk$Rain;)J" } : Jvm.MethodName) ({ cls := "RainWalk$Leg", name := "leastWet", desc := "(LRainWalk$Walker;LRainWalk$Road;ILRainWalk$Rain;)J" } : Jvm.MethodName) ∈ G := gT4 52 rfl rfl
theorem g_773 : Jvm.Cond.code ({ cls := "RainWalk$Leg", name := "leastWet", desc := "(LRainWalk$Walker;LRainWalk$Road;ILRainWalk$Rain;)J" } : Jvm.MethodName) prog_3_method_9_code (5 : Nat) (Option.some Jvm.ClassFile.FieldType.long) ∈ G := gT4 53 rfl rfl
theorem g_774 : Jvm.Cond.methodLink "RainWalk$Leg" (95 : Nat) ({ cls := "RainWalk$Leg", name := "bestSpeed", desc := "(LRainWalk$Walker;LRainWalk$Road;ILRainWalk$Rain;)I" } : Jvm.MethodName) ∈ G := gT4 54 rfl rfl
theorem g_775 : Jvm.Cond.methodLink "RainWalkLaw" (74 : Nat) ({ cls := "RainWalk", name := "worst", desc := "(IIII)I" } : Jvm.MethodName) ∈ G := gT4 55 rfl rfl
theorem g_776 : Jvm.Cond.instanceMethod ({ cls := "RainWalk", name := "worst", desc := "(IIII)I" } : Jvm.MethodName) ∈ G := gT4 56 rfl rfl
theorem g_777 : Jvm.Cond.selects "RainWalk" ({ cls := "RainWalk", name := "worst", desc := "(IIII)I" } : Jvm.MethodName) ({ cls := "RainWalk", name := "worst", desc := "(IIII)I" } : Jvm.MethodName) ∈ G := gT4 57 rfl rfl
theorem g_778 : Jvm.Cond.code ({ cls := "RainWalk", name := "worst", desc := "(IIII)I" } : Jvm.MethodName) prog_1_method_18_code (5 : Nat) (Option.some Jvm.ClassFile.FieldType.int) ∈ G := gT4 58 rfl rfl
theorem g_779 : Jvm.Cond.methodLink "RainWalk" (193 : Nat) ({ cls := "RainWalk$Leg", name := "worstSpeed", desc := "(LRainWalk$Walker;LRainWalk$Road;ILRainWalk$Rain;)I" } : Jvm.MethodName) ∈ G := gT4 59 rfl rfl
theorem g_780 : Jvm.Cond.instanceMethod ({ cls := "RainWalk$Leg", name := "worstSpeed", desc := "(LRainWalk$Walker;LRainWalk$Road;ILRainWalk$Rain;)I" } : Jvm.MethodName) ∈ G := gT4 60 rfl rfl
theorem g_781 : Jvm.Cond.selects "RainWalk$Leg" ({ cls := "RainWalk$Leg", name := "worstSpeed", desc := "(LRainWalk$Walker;LRainWalk$Road;ILRainWalk$Rain;)I" } : Jvm.MethodName) ({ cls := "RainWalk$Leg", name := "worstSpeed", desc := "(LRainWalk$Walker;LRainWalk$Road;ILRainWalk$Rain;)I" } : Jvm.MethodName) ∈ G := gT4 61 rfl rfl
theorem g_782 : Jvm.Cond.code ({ cls := "RainWalk$Leg", name := "worstSpeed", desc := "(LRainWalk$Walker;LRainWalk$Road;ILRainWalk$Rain;)I" } : Jvm.MethodName) prog_3_method_8_code (11 : Nat) (Option.some Jvm.ClassFile.FieldType.int) ∈ G := gT4 62 rfl rfl
theorem g_783 : Jvm.Cond.constantLong "RainWalk$Leg" (93 : Nat) (-1 : Int64) ∈ G := gT4 63 rfl rfl
theorem g_784 : Jvm.Cond.methodLink "RainWalkLaw" (78 : Nat) ({ cls := "RainWalk", name := "even", desc := "(IIII)I" } : Jvm.MethodName) ∈ G := gT4 64 rfl rfl
theorem g_785 : Jvm.Cond.instanceMethod ({ cls := "RainWalk", name := "even", desc := "(IIII)I" } : Jvm.MethodName) ∈ G := gT4 65 rfl rfl
theorem g_786 : Jvm.Cond.selects "RainWalk" ({ cls := "RainWalk", name := "even", desc := "(IIII)I" } : Jvm.MethodName) ({ cls := "RainWalk", name := "even", desc := "(IIII)I" } : Jvm.MethodName) ∈ G := gT4 66 rfl rfl
theorem g_787 : Jvm.Cond.code ({ cls := "RainWalk", name := "even", desc := "(IIII)I" } : Jvm.MethodName) prog_1_method_19_code (9 : Nat) (Option.some Jvm.ClassFile.FieldType.int) ∈ G := gT4 67 rfl rfl
theorem g_788 : Jvm.Cond.methodLink "RainWalkLaw" (82 : Nat) ({ cls := "RainWalk", name := "round", desc := "(IIIZ)J" } : Jvm.MethodName) ∈ G := gT4 68 rfl rfl
theorem g_789 : Jvm.Cond.instanceMethod ({ cls := "RainWalk", name := "round", desc := "(IIIZ)J" } : Jvm.MethodName) ∈ G := gT4 69 rfl rfl
theorem g_790 : Jvm.Cond.selects "RainWalk" ({ cls := "RainWalk", name := "round", desc := "(IIIZ)J" } : Jvm.MethodName) ({ cls := "RainWalk", name := "round", desc := "(IIIZ)J" } : Jvm.MethodName) ∈ G := gT4 70 rfl rfl
theorem g_791 : Jvm.Cond.code ({ cls := "RainWalk", name := "round", desc := "(IIIZ)J" } : Jvm.MethodName) prog_1_method_20_code (9 : Nat) (Option.some Jvm.ClassFile.FieldType.long) ∈ G := gT4 71 rfl rfl
theorem g_792 : Jvm.Cond.methodLink "RainWalkLaw" (87 : Nat) ({ cls := "RainWalk", name := "driest", desc := "(III)I" } : Jvm.MethodName) ∈ G := gT4 72 rfl rfl
theorem g_793 : Jvm.Cond.instanceMethod ({ cls := "RainWalk", name := "driest", desc := "(III)I" } : Jvm.MethodName) ∈ G := gT4 73 rfl rfl
theorem g_794 : Jvm.Cond.selects "RainWalk" ({ cls := "RainWalk", name := "driest", desc := "(III)I" } : Jvm.MethodName) ({ cls := "RainWalk", name := "driest", desc := "(III)I" } : Jvm.MethodName) ∈ G := gT4 74 rfl rfl
theorem g_795 : Jvm.Cond.code ({ cls := "RainWalk", name := "driest", desc := "(III)I" } : Jvm.MethodName) prog_1_method_21_code (11 : Nat) (Option.some Jvm.ClassFile.FieldType.int) ∈ G := gT4 75 rfl rfl
theorem g_796 : Jvm.Cond.constantLong "RainWalk" (199 : Nat) (4611686018427387904 : Int64) ∈ G := gT4 76 rfl rfl
theorem g_797 : Jvm.Cond.methodLink "RainWalkLaw" (91 : Nat) ({ cls := "RainWalk", name := "lee", desc := "(IIIIIIZ)J" } : Jvm.MethodName) ∈ G := gT4 77 rfl rfl
theorem g_798 : Jvm.Cond.instanceMethod ({ cls := "RainWalk", name := "lee", desc := "(IIIIIIZ)J" } : Jvm.MethodName) ∈ G := gT4 78 rfl rfl
theorem g_799 : Jvm.Cond.selects "RainWalk" ({ cls := "RainWalk", name := "lee", desc := "(IIIIIIZ)J" } : Jvm.MethodName) ({ cls := "RainWalk", name := "lee", desc := "(IIIIIIZ)J" } : Jvm.MethodName) ∈ G := gT4 79 rfl rfl
theorem g_800 : Jvm.Cond.code ({ cls := "RainWalk", name := "lee", desc := "(IIIIIIZ)J" } : Jvm.MethodName) prog_1_method_22_code (8 : Nat) (Option.some Jvm.ClassFile.FieldType.long) ∈ G := gT4 80 rfl rfl
theorem g_801 : Jvm.Cond.methodLink "RainWalk" (201 : Nat) ({ cls := "RainWalk", name := "leeTrouble", desc := "(IIIIII)I" } : Jvm.MethodName) ∈ G := gT4 81 rfl rfl
theorem g_803 : Jvm.Cond.instanceMethod ({ cls := "RainWalk", name := "leeTrouble", desc := "(IIIIII)I" } : Jvm.MethodName) ∈ G := gT4 83 rfl rfl
theorem g_804 : Jvm.Cond.code ({ cls := "RainWalk", name := "leeTrouble", desc := "(IIIIII)I" } : Jvm.MethodName) prog_1_method_26_code (8 : Nat) (Option.some Jvm.ClassFile.FieldType.int) ∈ G := gT4 84 rfl rfl
theorem g_805 : Jvm.Cond.methodLink "RainWalk" (205 : Nat) ({ cls := "RainWalk$Leg", name := "wetInLee", desc := "(LRainWalk$Walker;LRainWalk$Walker;)J" } : Jvm.MethodName) ∈ G := gT4 85 rfl rfl
theorem g_806 : Jvm.Cond.instanceMethod ({ cls := "RainWalk$Leg", name := "wetInLee", desc := "(LRainWalk$Walker;LRainWalk$Walker;)J" } : Jvm.MethodName) ∈ G := gT4 86 rfl rfl
theorem g_807 : Jvm.Cond.selects "RainWalk$Leg" ({ cls := "RainWalk$Leg", name := "wetInLee", desc := "(LRainWalk$Walker;LRainWalk$Walker;)J" } : Jvm.MethodName) ({ cls := "RainWalk$Leg", name := "wetInLee", desc := "(LRainWalk$Walker;LRainWalk$Walker;)J" } : Jvm.MethodName) ∈ G := gT4 87 rfl rfl
theorem g_808 : Jvm.Cond.code ({ cls := "RainWalk$Leg", name := "wetInLee", desc := "(LRainWalk$Walker;LRainWalk$Walker;)J" } : Jvm.MethodName) prog_3_method_5_code (3 : Nat) (Option.some Jvm.ClassFile.FieldType.long) ∈ G := gT4 88 rfl rfl
theorem g_809 : Jvm.Cond.methodLink "RainWalkLaw" (95 : Nat) ({ cls := "RainWalk", name := "first", desc := "(IIIIII)I" } : Jvm.MethodName) ∈ G := gT4 89 rfl rfl
theorem g_810 : Jvm.Cond.instanceMethod ({ cls := "RainWalk", name := "first", desc := "(IIIIII)I" } : Jvm.MethodName) ∈ G := gT4 90 rfl rfl
theorem g_811 : Jvm.Cond.selects "RainWalk" ({ cls := "RainWalk", name := "first", desc := "(IIIIII)I" } : Jvm.MethodName) ({ cls := "RainWalk", name := "first", desc := "(IIIIII)I" } : Jvm.MethodName) ∈ G := gT4 91 rfl rfl
theorem g_812 : Jvm.Cond.code ({ cls := "RainWalk", name := "first", desc := "(IIIIII)I" } : Jvm.MethodName) prog_1_method_23_code (11 : Nat) (Option.some Jvm.ClassFile.FieldType.int) ∈ G := gT4 92 rfl rfl
theorem g_813 : Jvm.Cond.methodLink "RainWalkLaw" (100 : Nat) ({ cls := "RainWalk", name := "least", desc := "(IIIIIZ)J" } : Jvm.MethodName) ∈ G := gT4 93 rfl rfl
theorem g_814 : Jvm.Cond.instanceMethod ({ cls := "RainWalk", name := "least", desc := "(IIIIIZ)J" } : Jvm.MethodName) ∈ G := gT4 94 rfl rfl
theorem g_815 : Jvm.Cond.selects "RainWalk" ({ cls := "RainWalk", name := "least", desc := "(IIIIIZ)J" } : Jvm.MethodName) ({ cls := "RainWalk", name := "least", desc := "(IIIIIZ)J" } : Jvm.MethodName) ∈ G := gT4 95 rfl rfl
theorem g_816 : Jvm.Cond.code ({ cls := "RainWalk", name := "least", desc := "(IIIIIZ)J" } : Jvm.MethodName) prog_1_method_31_code (7 : Nat) (Option.some Jvm.ClassFile.FieldType.long) ∈ G := gT4 96 rfl rfl
theorem g_817 : Jvm.Cond.methodLink "RainWalk" (213 : Nat) ({ cls := "RainWalk", name := "wayTrouble", desc := "(IIIII)I" } : Jvm.MethodName) ∈ G := gT4 97 rfl rfl
theorem g_819 : Jvm.Cond.instanceMethod ({ cls := "RainWalk", name := "wayTrouble", desc := "(IIIII)I" } : Jvm.MethodName) ∈ G := gT4 99 rfl rfl
theorem g_820 : Jvm.Cond.code ({ cls := "RainWalk", name := "wayTrouble", desc := "(IIIII)I" } : Jvm.MethodName) prog_1_method_38_code (7 : Nat) (Option.some Jvm.ClassFile.FieldType.int) ∈ G := gT4 100 rfl rfl
theorem g_821 : Jvm.Cond.methodLink "RainWalk" (232 : Nat) ({ cls := "RainWalk", name := "placesTrouble", desc := "(III)I" } : Jvm.MethodName) ∈ G := gT4 101 rfl rfl
theorem g_823 : Jvm.Cond.instanceMethod ({ cls := "RainWalk", name := "placesTrouble", desc := "(III)I" } : Jvm.MethodName) ∈ G := gT4 103 rfl rfl
theorem g_824 : Jvm.Cond.code ({ cls := "RainWalk", name := "placesTrouble", desc := "(III)I" } : Jvm.MethodName) prog_1_method_36_code (5 : Nat) (Option.some Jvm.ClassFile.FieldType.int) ∈ G := gT4 104 rfl rfl
theorem g_825 : Jvm.Cond.methodLink "RainWalk" (247 : Nat) ({ cls := "RainWalk$World", name := "hasPlace", desc := "(I)Z" } : Jvm.MethodName) ∈ G := gT4 105 rfl rfl
theorem g_826 : Jvm.Cond.instanceMethod ({ cls := "RainWalk$World", name := "hasPlace", desc := "(I)Z" } : Jvm.MethodName) ∈ G := gT4 106 rfl rfl
theorem g_827 : Jvm.Cond.selects "RainWalk$World" ({ cls := "RainWalk$World", name := "hasPlace", desc := "(I)Z" } : Jvm.MethodName) ({ cls := "RainWalk$World", name := "hasPlace", desc := "(I)Z" } : Jvm.MethodName) ∈ G := gT4 107 rfl rfl
theorem g_828 : Jvm.Cond.code ({ cls := "RainWalk$World", name := "hasPlace", desc := "(I)Z" } : Jvm.MethodName) prog_10_method_5_code (2 : Nat) (Option.some Jvm.ClassFile.FieldType.boolean) ∈ G := gT4 108 rfl rfl
theorem g_829 : Jvm.Cond.methodLink "RainWalk" (236 : Nat) ({ cls := "RainWalk", name := "isTill", desc := "(I)Z" } : Jvm.MethodName) ∈ G := gT4 109 rfl rfl
theorem g_830 : Jvm.Cond.static ({ cls := "RainWalk", name := "isTill", desc := "(I)Z" } : Jvm.MethodName) ∈ G := gT4 110 rfl rfl
theorem g_831 : Jvm.Cond.code ({ cls := "RainWalk", name := "isTill", desc := "(I)Z" } : Jvm.MethodName) prog_1_method_37_code (1 : Nat) (Option.some Jvm.ClassFile.FieldType.boolean) ∈ G := gT4 111 rfl rfl
theorem g_832 : Jvm.Cond.methodLink "RainWalk" (239 : Nat) ({ cls := "RainWalk$Ways", name := "reckon", desc := "(LRainWalk$World;LRainWalk$Leg;IIII)V" } : Jvm.MethodName) ∈ G := gT4 112 rfl rfl
theorem g_833 : Jvm.Cond.instanceMethod ({ cls := "RainWalk$Ways", name := "reckon", desc := "(LRainWalk$World;LRainWalk$Leg;IIII)V" } : Jvm.MethodName) ∈ G := gT4 113 rfl rfl
theorem g_834 : Jvm.Cond.selects "RainWalk$Ways" ({ cls := "RainWalk$Ways", name := "reckon", desc := "(LRainWalk$World;LRainWalk$Leg;IIII)V" } : Jvm.MethodName) ({ cls := "RainWalk$Ways", name := "reckon", desc := "(LRainWalk$World;LRainWalk$Leg;IIII)V" } : Jvm.MethodName) ∈ G := gT4 114 rfl rfl
theorem g_835 : Jvm.Cond.code ({ cls := "RainWalk$Ways", name := "reckon", desc := "(LRainWalk$World;LRainWalk$Leg;IIII)V" } : Jvm.MethodName) prog_9_method_4_code (9 : Nat) (Option.none : Option Jvm.ClassFile.FieldType) ∈ G := gT4 115 rfl rfl
theorem g_836 : Jvm.Cond.methodLink "RainWalk$Ways" (50 : Nat) ({ cls := "RainWalk$Ways", name := "makeRows", desc := "()V" } : Jvm.MethodName) ∈ G := gT4 116 rfl rfl
theorem g_838 : Jvm.Cond.instanceMethod ({ cls := "RainWalk$Ways", name := "makeRows", desc := "()V" } : Jvm.MethodName) ∈ G := gT4 118 rfl rfl
theorem g_839 : Jvm.Cond.code ({ cls := "RainWalk$Ways", name := "makeRows", desc := "()V" } : Jvm.MethodName) prog_9_method_3_code (1 : Nat) (Option.none : Option Jvm.ClassFile.FieldType) ∈ G := gT4 119 rfl rfl
theorem g_840 : Jvm.Cond.methodLink "RainWalk$Ways" (56 : Nat) ({ cls := "RainWalk$World", name := "hourOf", desc := "(I)I" } : Jvm.MethodName) ∈ G := gT4 120 rfl rfl
theorem g_841 : Jvm.Cond.instanceMethod ({ cls := "RainWalk$World", name := "hourOf", desc := "(I)I" } : Jvm.MethodName) ∈ G := gT4 121 rfl rfl
theorem g_842 : Jvm.Cond.selects "RainWalk$World" ({ cls := "RainWalk$World", name := "hourOf", desc := "(I)I" } : Jvm.MethodName) ({ cls := "RainWalk$World", name := "hourOf", desc := "(I)I" } : Jvm.MethodName) ∈ G := gT4 122 rfl rfl
theorem g_843 : Jvm.Cond.code ({ cls := "RainWalk$World", name := "hourOf", desc := "(I)I" } : Jvm.MethodName) prog_10_method_9_code (2 : Nat) (Option.some Jvm.ClassFile.FieldType.int) ∈ G := gT4 123 rfl rfl
theorem g_844 : Jvm.Cond.methodLink "RainWalk$Ways" (65 : Nat) ({ cls := "java/lang/Math", name := "min", desc := "(II)I" } : Jvm.MethodName) ∈ G := gT4 124 rfl rfl
theorem g_845 : Jvm.Cond.methodLink "RainWalk$Ways" (71 : Nat) ({ cls := "RainWalk$Ways", name := "price", desc := "(LRainWalk$World;LRainWalk$Leg;I)V" } : Jvm.MethodName) ∈ G := gT4 125 rfl rfl
theorem g_847 : Jvm.Cond.instanceMethod ({ cls := "RainWalk$Ways", name := "price", desc := "(LRainWalk$World;LRainWalk$Leg;I)V" } : Jvm.MethodName) ∈ G := gT4 127 rfl rfl
theorem g_848 : Jvm.Cond.code ({ cls := "RainWalk$Ways", name := "price", desc := "(LRainWalk$World;LRainWalk$Leg;I)V" } : Jvm.MethodName) prog_9_method_5_code (12 : Nat) (Option.none : Option Jvm.ClassFile.FieldType) ∈ G := gT4 128 rfl rfl
theorem g_849 : Jvm.Cond.methodLink "RainWalk$Ways" (85 : Nat) ({ cls := "RainWalk$World", name := "hasWalker", desc := "(I)Z" } : Jvm.MethodName) ∈ G := gT4 129 rfl rfl
theorem g_850 : Jvm.Cond.methodLink "RainWalk$Ways" (92 : Nat) ({ cls := "RainWalk$World", name := "hasHour", desc := "(I)Z" } : Jvm.MethodName) ∈ G := gT4 130 rfl rfl
theorem g_851 : Jvm.Cond.methodLink "RainWalk$Ways" (114 : Nat) ({ cls := "RainWalk$Leg", name := "wetOf", desc := "(LRainWalk$Walker;LRainWalk$Road;ILRainWalk$Rain;I)J" } : Jvm.MethodName) ∈ G := gT4 131 rfl rfl
theorem g_852 : Jvm.Cond.methodLink "RainWalk$Ways" (125 : Nat) ({ cls := "RainWalk$Ways", name := "addLeg", desc := "(LRainWalk$Road;IIJI)V" } : Jvm.MethodName) ∈ G := gT4 132 rfl rfl
theorem g_854 : Jvm.Cond.instanceMethod ({ cls := "RainWalk$Ways", name := "addLeg", desc := "(LRainWalk$Road;IIJI)V" } : Jvm.MethodName) ∈ G := gT4 134 rfl rfl
theorem g_855 : Jvm.Cond.code ({ cls := "RainWalk$Ways", name := "addLeg", desc := "(LRainWalk$Road;IIJI)V" } : Jvm.MethodName) prog_9_method_6_code (9 : Nat) (Option.none : Option Jvm.ClassFile.FieldType) ∈ G := gT4 135 rfl rfl
theorem g_856 : Jvm.Cond.methodLink "RainWalk$Ways" (142 : Nat) ({ cls := "RainWalk$Road", name := "minutesAt", desc := "(I)I" } : Jvm.MethodName) ∈ G := gT4 136 rfl rfl
theorem g_857 : Jvm.Cond.constantLong "RainWalk$Ways" (147 : Nat) (512 : Int64) ∈ G := gT4 137 rfl rfl
theorem g_858 : Jvm.Cond.methodLink "RainWalk$Ways" (149 : Nat) ({ cls := "RainWalk$Road", name := "startOf", desc := "(I)I" } : Jvm.MethodName) ∈ G := gT4 138 rfl rfl
theorem g_859 : Jvm.Cond.instanceMethod ({ cls := "RainWalk$Road", name := "startOf", desc := "(I)I" } : Jvm.MethodName) ∈ G := gT4 139 rfl rfl
theorem g_860 : Jvm.Cond.selects "RainWalk$Road" ({ cls := "RainWalk$Road", name := "startOf", desc := "(I)I" } : Jvm.MethodName) ({ cls := "RainWalk$Road", name := "startOf", desc := "(I)I" } : Jvm.MethodName) ∈ G := gT4 140 rfl rfl
theorem g_861 : Jvm.Cond.code ({ cls := "RainWalk$Road", name := "startOf", desc := "(I)I" } : Jvm.MethodName) prog_7_method_2_code (2 : Nat) (Option.some Jvm.ClassFile.FieldType.int) ∈ G := gT4 141 rfl rfl
theorem g_862 : Jvm.Cond.methodLink "RainWalk$Ways" (152 : Nat) ({ cls := "RainWalk$Road", name := "endOf", desc := "(I)I" } : Jvm.MethodName) ∈ G := gT4 142 rfl rfl
theorem g_863 : Jvm.Cond.instanceMethod ({ cls := "RainWalk$Road", name := "endOf", desc := "(I)I" } : Jvm.MethodName) ∈ G := gT4 143 rfl rfl
theorem g_864 : Jvm.Cond.selects "RainWalk$Road" ({ cls := "RainWalk$Road", name := "endOf", desc := "(I)I" } : Jvm.MethodName) ({ cls := "RainWalk$Road", name := "endOf", desc := "(I)I" } : Jvm.MethodName) ∈ G := gT4 144 rfl rfl
theorem g_865 : Jvm.Cond.code ({ cls := "RainWalk$Road", name := "endOf", desc := "(I)I" } : Jvm.MethodName) prog_7_method_3_code (2 : Nat) (Option.some Jvm.ClassFile.FieldType.int) ∈ G := gT4 145 rfl rfl
theorem g_866 : Jvm.Cond.methodLink "RainWalk$Ways" (138 : Nat) ({ cls := "RainWalk$Ways", name := "addMove", desc := "(IIIJI)V" } : Jvm.MethodName) ∈ G := gT4 146 rfl rfl
theorem g_868 : Jvm.Cond.instanceMethod ({ cls := "RainWalk$Ways", name := "addMove", desc := "(IIIJI)V" } : Jvm.MethodName) ∈ G := gT4 148 rfl rfl
theorem g_869 : Jvm.Cond.code ({ cls := "RainWalk$Ways", name := "addMove", desc := "(IIIJI)V" } : Jvm.MethodName) prog_9_method_7_code (7 : Nat) (Option.none : Option Jvm.ClassFile.FieldType) ∈ G := gT4 149 rfl rfl
theorem g_870 : Jvm.Cond.methodLink "RainWalk$Ways" (129 : Nat) ({ cls := "RainWalk$World", name := "canWait", desc := "(I)Z" } : Jvm.MethodName) ∈ G := gT4 150 rfl rfl
theorem g_871 : Jvm.Cond.instanceMethod ({ cls := "RainWalk$World", name := "canWait", desc := "(I)Z" } : Jvm.MethodName) ∈ G := gT4 151 rfl rfl
theorem g_872 : Jvm.Cond.selects "RainWalk$World" ({ cls := "RainWalk$World", name := "canWait", desc := "(I)Z" } : Jvm.MethodName) ({ cls := "RainWalk$World", name := "canWait", desc := "(I)Z" } : Jvm.MethodName) ∈ G := gT4 152 rfl rfl
theorem g_873 : Jvm.Cond.code ({ cls := "RainWalk$World", name := "canWait", desc := "(I)Z" } : Jvm.MethodName) prog_10_method_10_code (2 : Nat) (Option.some Jvm.ClassFile.FieldType.boolean) ∈ G := gT4 153 rfl rfl
theorem g_874 : Jvm.Cond.methodLink "RainWalk$World" (61 : Nat) ({ cls := "RainWalk$World", name := "hasPlace", desc := "(I)Z" } : Jvm.MethodName) ∈ G := gT4 154 rfl rfl
theorem g_875 : Jvm.Cond.methodLink "RainWalk$Ways" (132 : Nat) ({ cls := "RainWalk$World", name := "dripOn", desc := "(LRainWalk$Walker;I)I" } : Jvm.MethodName) ∈ G := gT4 155 rfl rfl
theorem g_876 : Jvm.Cond.instanceMethod ({ cls := "RainWalk$World", name := "dripOn", desc := "(LRainWalk$Walker;I)I" } : Jvm.MethodName) ∈ G := gT4 156 rfl rfl
theorem g_877 : Jvm.Cond.selects "RainWalk$World" ({ cls := "RainWalk$World", name := "dripOn", desc := "(LRainWalk$Walker;I)I" } : Jvm.MethodName) ({ cls := "RainWalk$World", name := "dripOn", desc := "(LRainWalk$Walker;I)I" } : Jvm.MethodName) ∈ G := gT4 157 rfl rfl
theorem g_878 : Jvm.Cond.code ({ cls := "RainWalk$World", name := "dripOn", desc := "(LRainWalk$Walker;I)I" } : Jvm.MethodName) prog_10_method_11_code (3 : Nat) (Option.some Jvm.ClassFile.FieldType.int) ∈ G := gT4 158 rfl rfl
theorem g_879 : Jvm.Cond.methodLink "RainWalk$World" (65 : Nat) ({ cls := "RainWalk$World", name := "canWait", desc := "(I)Z" } : Jvm.MethodName) ∈ G := gT4 159 rfl rfl
theorem g_880 : Jvm.Cond.methodLink "RainWalk$World" (71 : Nat) ({ cls := "RainWalk$Walker", name := "shield", desc := "()I" } : Jvm.MethodName) ∈ G := gT4 160 rfl rfl
theorem g_881 : Jvm.Cond.methodLink "RainWalk$World" (75 : Nat) ({ cls := "java/lang/Math", name := "max", desc := "(II)I" } : Jvm.MethodName) ∈ G := gT4 161 rfl rfl
theorem g_882 : Jvm.Cond.constantLong "RainWalk$Ways" (136 : Nat) (2520 : Int64) ∈ G := gT4 162 rfl rfl
theorem g_883 : Jvm.Cond.methodLink "RainWalk$Ways" (78 : Nat) ({ cls := "RainWalk$Ways", name := "reckonMinute", desc := "(II)V" } : Jvm.MethodName) ∈ G := gT4 163 rfl rfl
theorem g_885 : Jvm.Cond.instanceMethod ({ cls := "RainWalk$Ways", name := "reckonMinute", desc := "(II)V" } : Jvm.MethodName) ∈ G := gT4 165 rfl rfl
theorem g_886 : Jvm.Cond.code ({ cls := "RainWalk$Ways", name := "reckonMinute", desc := "(II)V" } : Jvm.MethodName) prog_9_method_8_code (9 : Nat) (Option.none : Option Jvm.ClassFile.FieldType) ∈ G := gT4 166 rfl rfl
theorem g_887 : Jvm.Cond.constantLong "RainWalk$Ways" (155 : Nat) (4611686018427387904 : Int64) ∈ G := gT4 167 rfl rfl
theorem g_888 : Jvm.Cond.methodLink "RainWalk" (243 : Nat) ({ cls := "RainWalk$Ways", name := "isOpen", desc := "(II)Z" } : Jvm.MethodName) ∈ G := gT4 168 rfl rfl
theorem g_889 : Jvm.Cond.instanceMethod ({ cls := "RainWalk$Ways", name := "isOpen", desc := "(II)Z" } : Jvm.MethodName) ∈ G := gT4 169 rfl rfl
theorem g_890 : Jvm.Cond.selects "RainWalk$Ways" ({ cls := "RainWalk$Ways", name := "isOpen", desc := "(II)Z" } : Jvm.MethodName) ({ cls := "RainWalk$Ways", name := "isOpen", desc := "(II)Z" } : Jvm.MethodName) ∈ G := gT4 170 rfl rfl
theorem g_891 : Jvm.Cond.code ({ cls := "RainWalk$Ways", name := "isOpen", desc := "(II)Z" } : Jvm.MethodName) prog_9_method_10_code (3 : Nat) (Option.some Jvm.ClassFile.FieldType.boolean) ∈ G := gT4 171 rfl rfl
theorem g_892 : Jvm.Cond.methodLink "RainWalk$Ways" (157 : Nat) ({ cls := "RainWalk$Ways", name := "keyOf", desc := "(II)J" } : Jvm.MethodName) ∈ G := gT4 172 rfl rfl
theorem g_894 : Jvm.Cond.instanceMethod ({ cls := "RainWalk$Ways", name := "keyOf", desc := "(II)J" } : Jvm.MethodName) ∈ G := gT4 174 rfl rfl
theorem g_895 : Jvm.Cond.code ({ cls := "RainWalk$Ways", name := "keyOf", desc := "(II)J" } : Jvm.MethodName) prog_9_method_9_code (4 : Nat) (Option.some Jvm.ClassFile.FieldType.long) ∈ G := gT4 175 rfl rfl
theorem g_896 : Jvm.Cond.methodLink "RainWalk" (216 : Nat) ({ cls := "RainWalk$Ways", name := "meanFrom", desc := "(II)J" } : Jvm.MethodName) ∈ G := gT4 176 rfl rfl
theorem g_897 : Jvm.Cond.instanceMethod ({ cls := "RainWalk$Ways", name := "meanFrom", desc := "(II)J" } : Jvm.MethodName) ∈ G := gT4 177 rfl rfl
theorem g_898 : Jvm.Cond.selects "RainWalk$Ways" ({ cls := "RainWalk$Ways", name := "meanFrom", desc := "(II)J" } : Jvm.MethodName) ({ cls := "RainWalk$Ways", name := "meanFrom", desc := "(II)J" } : Jvm.MethodName) ∈ G := gT4 178 rfl rfl
theorem g_899 : Jvm.Cond.code ({ cls := "RainWalk$Ways", name := "meanFrom", desc := "(II)J" } : Jvm.MethodName) prog_9_method_11_code (3 : Nat) (Option.some Jvm.ClassFile.FieldType.long) ∈ G := gT4 179 rfl rfl
theorem g_900 : Jvm.Cond.methodLink "RainWalkLaw" (104 : Nat) ({ cls := "RainWalk", name := "there", desc := "(IIIII)I" } : Jvm.MethodName) ∈ G := gT4 180 rfl rfl
theorem g_901 : Jvm.Cond.instanceMethod ({ cls := "RainWalk", name := "there", desc := "(IIIII)I" } : Jvm.MethodName) ∈ G := gT4 181 rfl rfl
theorem g_902 : Jvm.Cond.selects "RainWalk" ({ cls := "RainWalk", name := "there", desc := "(IIIII)I" } : Jvm.MethodName) ({ cls := "RainWalk", name := "there", desc := "(IIIII)I" } : Jvm.MethodName) ∈ G := gT4 182 rfl rfl
theorem g_903 : Jvm.Cond.code ({ cls := "RainWalk", name := "there", desc := "(IIIII)I" } : Jvm.MethodName) prog_1_method_32_code (6 : Nat) (Option.some Jvm.ClassFile.FieldType.int) ∈ G := gT4 183 rfl rfl
theorem g_904 : Jvm.Cond.methodLink "RainWalk" (220 : Nat) ({ cls := "RainWalk$Ways", name := "endFrom", desc := "(II)I" } : Jvm.MethodName) ∈ G := gT4 184 rfl rfl
theorem g_905 : Jvm.Cond.instanceMethod ({ cls := "RainWalk$Ways", name := "endFrom", desc := "(II)I" } : Jvm.MethodName) ∈ G := gT4 185 rfl rfl
theorem g_906 : Jvm.Cond.selects "RainWalk$Ways" ({ cls := "RainWalk$Ways", name := "endFrom", desc := "(II)I" } : Jvm.MethodName) ({ cls := "RainWalk$Ways", name := "endFrom", desc := "(II)I" } : Jvm.MethodName) ∈ G := gT4 186 rfl rfl
theorem g_907 : Jvm.Cond.code ({ cls := "RainWalk$Ways", name := "endFrom", desc := "(II)I" } : Jvm.MethodName) prog_9_method_12_code (3 : Nat) (Option.some Jvm.ClassFile.FieldType.int) ∈ G := gT4 187 rfl rfl
theorem g_908 : Jvm.Cond.methodLink "RainWalkLaw" (108 : Nat) ({ cls := "RainWalk", name := "steps", desc := "(IIIII)I" } : Jvm.MethodName) ∈ G := gT4 188 rfl rfl
theorem g_909 : Jvm.Cond.instanceMethod ({ cls := "RainWalk", name := "steps", desc := "(IIIII)I" } : Jvm.MethodName) ∈ G := gT4 189 rfl rfl
theorem g_910 : Jvm.Cond.selects "RainWalk" ({ cls := "RainWalk", name := "steps", desc := "(IIIII)I" } : Jvm.MethodName) ({ cls := "RainWalk", name := "steps", desc := "(IIIII)I" } : Jvm.MethodName) ∈ G := gT4 190 rfl rfl
theorem g_911 : Jvm.Cond.code ({ cls := "RainWalk", name := "steps", desc := "(IIIII)I" } : Jvm.MethodName) prog_1_method_33_code (6 : Nat) (Option.some Jvm.ClassFile.FieldType.int) ∈ G := gT4 191 rfl rfl
theorem g_912 : Jvm.Cond.methodLink "RainWalk" (224 : Nat) ({ cls := "RainWalk$Ways", name := "trace", desc := "(LRainWalk$World;II)I" } : Jvm.MethodName) ∈ G := gT4 192 rfl rfl
theorem g_913 : Jvm.Cond.instanceMethod ({ cls := "RainWalk$Ways", name := "trace", desc := "(LRainWalk$World;II)I" } : Jvm.MethodName) ∈ G := gT4 193 rfl rfl
theorem g_914 : Jvm.Cond.selects "RainWalk$Ways" ({ cls := "RainWalk$Ways", name := "trace", desc := "(LRainWalk$World;II)I" } : Jvm.MethodName) ({ cls := "RainWalk$Ways", name := "trace", desc := "(LRainWalk$World;II)I" } : Jvm.MethodName) ∈ G := gT4 194 rfl rfl
theorem g_915 : Jvm.Cond.code ({ cls := "RainWalk$Ways", name := "trace", desc := "(LRainWalk$World;II)I" } : Jvm.MethodName) prog_9_method_13_code (10 : Nat) (Option.some Jvm.ClassFile.FieldType.int) ∈ G := gT4 195 rfl rfl
theorem g_916 : Jvm.Cond.methodLink "RainWalk$Ways" (161 : Nat) ({ cls := "RainWalk$World", name := "hasRoad", desc := "(I)Z" } : Jvm.MethodName) ∈ G := gT4 196 rfl rfl
theorem g_917 : Jvm.Cond.methodLink "RainWalkLaw" (112 : Nat) ({ cls := "RainWalk", name := "step", desc := "(IIIIII)I" } : Jvm.MethodName) ∈ G := gT4 197 rfl rfl
theorem g_918 : Jvm.Cond.instanceMethod ({ cls := "RainWalk", name := "step", desc := "(IIIIII)I" } : Jvm.MethodName) ∈ G := gT4 198 rfl rfl
theorem g_919 : Jvm.Cond.selects "RainWalk" ({ cls := "RainWalk", name := "step", desc := "(IIIIII)I" } : Jvm.MethodName) ({ cls := "RainWalk", name := "step", desc := "(IIIIII)I" } : Jvm.MethodName) ∈ G := gT4 199 rfl rfl
theorem g_920 : Jvm.Cond.code ({ cls := "RainWalk", name := "step", desc := "(IIIIII)I" } : Jvm.MethodName) prog_1_method_34_code (8 : Nat) (Option.some Jvm.ClassFile.FieldType.int) ∈ G := gT4 200 rfl rfl
theorem g_921 : Jvm.Cond.methodLink "RainWalkLaw" (116 : Nat) ({ cls := "RainWalk", name := "off", desc := "(IIII)I" } : Jvm.MethodName) ∈ G := gT4 201 rfl rfl
theorem g_922 : Jvm.Cond.instanceMethod ({ cls := "RainWalk", name := "off", desc := "(IIII)I" } : Jvm.MethodName) ∈ G := gT4 202 rfl rfl
theorem g_923 : Jvm.Cond.selects "RainWalk" ({ cls := "RainWalk", name := "off", desc := "(IIII)I" } : Jvm.MethodName) ({ cls := "RainWalk", name := "off", desc := "(IIII)I" } : Jvm.MethodName) ∈ G := gT4 203 rfl rfl
theorem g_924 : Jvm.Cond.code ({ cls := "RainWalk", name := "off", desc := "(IIII)I" } : Jvm.MethodName) prog_1_method_35_code (9 : Nat) (Option.some Jvm.ClassFile.FieldType.int) ∈ G := gT4 204 rfl rfl
theorem g_925 : Jvm.Cond.methodLink "RainWalkLaw" (120 : Nat) ({ cls := "RainWalk", name := "fits", desc := "(I)I" } : Jvm.MethodName) ∈ G := gT4 205 rfl rfl
theorem g_926 : Jvm.Cond.instanceMethod ({ cls := "RainWalk", name := "fits", desc := "(I)I" } : Jvm.MethodName) ∈ G := gT4 206 rfl rfl
theorem g_927 : Jvm.Cond.selects "RainWalk" ({ cls := "RainWalk", name := "fits", desc := "(I)I" } : Jvm.MethodName) ({ cls := "RainWalk", name := "fits", desc := "(I)I" } : Jvm.MethodName) ∈ G := gT4 207 rfl rfl
theorem g_928 : Jvm.Cond.code ({ cls := "RainWalk", name := "fits", desc := "(I)I" } : Jvm.MethodName) prog_1_method_39_code (2 : Nat) (Option.some Jvm.ClassFile.FieldType.int) ∈ G := gT4 208 rfl rfl
theorem g_929 : Jvm.Cond.methodLink "RainWalk" (250 : Nat) ({ cls := "RainWalk$World", name := "hasSeen", desc := "(I)Z" } : Jvm.MethodName) ∈ G := gT4 209 rfl rfl
theorem g_930 : Jvm.Cond.instanceMethod ({ cls := "RainWalk$World", name := "hasSeen", desc := "(I)Z" } : Jvm.MethodName) ∈ G := gT4 210 rfl rfl
theorem g_931 : Jvm.Cond.selects "RainWalk$World" ({ cls := "RainWalk$World", name := "hasSeen", desc := "(I)Z" } : Jvm.MethodName) ({ cls := "RainWalk$World", name := "hasSeen", desc := "(I)Z" } : Jvm.MethodName) ∈ G := gT4 211 rfl rfl
theorem g_932 : Jvm.Cond.code ({ cls := "RainWalk$World", name := "hasSeen", desc := "(I)Z" } : Jvm.MethodName) prog_10_method_8_code (2 : Nat) (Option.some Jvm.ClassFile.FieldType.boolean) ∈ G := gT4 212 rfl rfl
theorem g_933 : Jvm.Cond.methodLink "RainWalk" (253 : Nat) ({ cls := "RainWalk$Leg", name := "countFits", desc := "(LRainWalk$World;I)I" } : Jvm.MethodName) ∈ G := gT4 213 rfl rfl
theorem g_934 : Jvm.Cond.instanceMethod ({ cls := "RainWalk$Leg", name := "countFits", desc := "(LRainWalk$World;I)I" } : Jvm.MethodName) ∈ G := gT4 214 rfl rfl
theorem g_935 : Jvm.Cond.selects "RainWalk$Leg" ({ cls := "RainWalk$Leg", name := "countFits", desc := "(LRainWalk$World;I)I" } : Jvm.MethodName) ({ cls := "RainWalk$Leg", name := "countFits", desc := "(LRainWalk$World;I)I" } : Jvm.MethodName) ∈ G := gT4 215 rfl rfl
theorem g_936 : Jvm.Cond.code ({ cls := "RainWalk$Leg", name := "countFits", desc := "(LRainWalk$World;I)I" } : Jvm.MethodName) prog_3_method_10_code (5 : Nat) (Option.some Jvm.ClassFile.FieldType.int) ∈ G := gT4 216 rfl rfl
theorem g_937 : Jvm.Cond.methodLink "RainWalk$Leg" (99 : Nat) ({ cls := "RainWalk$Leg", name := "legsOf", desc := "(LRainWalk$World;)I" } : Jvm.MethodName) ∈ G := gT4 217 rfl rfl
theorem g_938 : Jvm.Cond.static ({ cls := "RainWalk$Leg", name := "legsOf", desc := "(LRainWalk$World;)I" } : Jvm.MethodName) ∈ G := gT4 218 rfl rfl
theorem g_939 : Jvm.Cond.code ({ cls := "RainWalk$Leg", name := "legsOf", desc := "(LRainWalk$World;)I" } : Jvm.MethodName) prog_3_method_12_code (1 : Nat) (Option.some Jvm.ClassFile.FieldType.int) ∈ G := gT4 219 rfl rfl
theorem g_940 : Jvm.Cond.methodLink "RainWalk$Leg" (103 : Nat) ({ cls := "RainWalk$Leg", name := "fitCode", desc := "(LRainWalk$World;II)I" } : Jvm.MethodName) ∈ G := gT4 220 rfl rfl
theorem g_942 : Jvm.Cond.instanceMethod ({ cls := "RainWalk$Leg", name := "fitCode", desc := "(LRainWalk$World;II)I" } : Jvm.MethodName) ∈ G := gT4 222 rfl rfl
theorem g_943 : Jvm.Cond.code ({ cls := "RainWalk$Leg", name := "fitCode", desc := "(LRainWalk$World;II)I" } : Jvm.MethodName) prog_3_method_13_code (9 : Nat) (Option.some Jvm.ClassFile.FieldType.int) ∈ G := gT4 223 rfl rfl
theorem g_944 : Jvm.Cond.methodLink "RainWalk$Leg" (115 : Nat) ({ cls := "RainWalk$World", name := "hasSeen", desc := "(I)Z" } : Jvm.MethodName) ∈ G := gT4 224 rfl rfl
theorem g_945 : Jvm.Cond.methodLink "RainWalk$Leg" (123 : Nat) ({ cls := "RainWalk$World", name := "hasWalker", desc := "(I)Z" } : Jvm.MethodName) ∈ G := gT4 225 rfl rfl
theorem g_946 : Jvm.Cond.methodLink "RainWalk$Leg" (126 : Nat) ({ cls := "RainWalk$World", name := "hasRoad", desc := "(I)Z" } : Jvm.MethodName) ∈ G := gT4 226 rfl rfl
theorem g_947 : Jvm.Cond.methodLink "RainWalk$Leg" (133 : Nat) ({ cls := "RainWalk$Walker", name := "canGo", desc := "(I)Z" } : Jvm.MethodName) ∈ G := gT4 227 rfl rfl
theorem g_948 : Jvm.Cond.constantLong "RainWalk$Leg" (147 : Nat) (2520 : Int64) ∈ G := gT4 228 rfl rfl
theorem g_949 : Jvm.Cond.methodLink "RainWalkLaw" (124 : Nat) ({ cls := "RainWalk", name := "fit", desc := "(II)I" } : Jvm.MethodName) ∈ G := gT4 229 rfl rfl
theorem g_950 : Jvm.Cond.instanceMethod ({ cls := "RainWalk", name := "fit", desc := "(II)I" } : Jvm.MethodName) ∈ G := gT4 230 rfl rfl
theorem g_951 : Jvm.Cond.selects "RainWalk" ({ cls := "RainWalk", name := "fit", desc := "(II)I" } : Jvm.MethodName) ({ cls := "RainWalk", name := "fit", desc := "(II)I" } : Jvm.MethodName) ∈ G := gT4 231 rfl rfl
theorem g_952 : Jvm.Cond.code ({ cls := "RainWalk", name := "fit", desc := "(II)I" } : Jvm.MethodName) prog_1_method_40_code (4 : Nat) (Option.some Jvm.ClassFile.FieldType.int) ∈ G := gT4 232 rfl rfl
theorem g_953 : Jvm.Cond.methodLink "RainWalk" (257 : Nat) ({ cls := "RainWalk$Leg", name := "findFit", desc := "(LRainWalk$World;II)I" } : Jvm.MethodName) ∈ G := gT4 233 rfl rfl
theorem g_954 : Jvm.Cond.instanceMethod ({ cls := "RainWalk$Leg", name := "findFit", desc := "(LRainWalk$World;II)I" } : Jvm.MethodName) ∈ G := gT4 234 rfl rfl
theorem g_955 : Jvm.Cond.selects "RainWalk$Leg" ({ cls := "RainWalk$Leg", name := "findFit", desc := "(LRainWalk$World;II)I" } : Jvm.MethodName) ({ cls := "RainWalk$Leg", name := "findFit", desc := "(LRainWalk$World;II)I" } : Jvm.MethodName) ∈ G := gT4 235 rfl rfl
theorem g_956 : Jvm.Cond.code ({ cls := "RainWalk$Leg", name := "findFit", desc := "(LRainWalk$World;II)I" } : Jvm.MethodName) prog_3_method_11_code (7 : Nat) (Option.some Jvm.ClassFile.FieldType.int) ∈ G := gT4 236 rfl rfl
theorem g_957 : Jvm.Cond.methodLink "RainWalkLaw" (129 : Nat) ({ cls := "RainWalk", name := "lies", desc := "()I" } : Jvm.MethodName) ∈ G := gT4 237 rfl rfl
theorem g_958 : Jvm.Cond.instanceMethod ({ cls := "RainWalk", name := "lies", desc := "()I" } : Jvm.MethodName) ∈ G := gT4 238 rfl rfl
theorem g_959 : Jvm.Cond.selects "RainWalk" ({ cls := "RainWalk", name := "lies", desc := "()I" } : Jvm.MethodName) ({ cls := "RainWalk", name := "lies", desc := "()I" } : Jvm.MethodName) ∈ G := gT4 239 rfl rfl
theorem g_960 : Jvm.Cond.code ({ cls := "RainWalk", name := "lies", desc := "()I" } : Jvm.MethodName) prog_1_method_41_code (3 : Nat) (Option.some Jvm.ClassFile.FieldType.int) ∈ G := gT5 0 rfl rfl
theorem g_961 : Jvm.Cond.methodLink "RainWalk" (260 : Nat) ({ cls := "RainWalk$World", name := "isTold", desc := "()Z" } : Jvm.MethodName) ∈ G := gT5 1 rfl rfl
theorem g_962 : Jvm.Cond.methodLink "RainWalkLaw" (133 : Nat) ({ cls := "RainWalk", name := "day", desc := "(IIII)I" } : Jvm.MethodName) ∈ G := gT5 2 rfl rfl
theorem g_963 : Jvm.Cond.instanceMethod ({ cls := "RainWalk", name := "day", desc := "(IIII)I" } : Jvm.MethodName) ∈ G := gT5 3 rfl rfl
theorem g_964 : Jvm.Cond.selects "RainWalk" ({ cls := "RainWalk", name := "day", desc := "(IIII)I" } : Jvm.MethodName) ({ cls := "RainWalk", name := "day", desc := "(IIII)I" } : Jvm.MethodName) ∈ G := gT5 4 rfl rfl
theorem g_965 : Jvm.Cond.code ({ cls := "RainWalk", name := "day", desc := "(IIII)I" } : Jvm.MethodName) prog_1_method_42_code (5 : Nat) (Option.some Jvm.ClassFile.FieldType.int) ∈ G := gT5 5 rfl rfl
theorem g_966 : Jvm.Cond.constant "RainWalk" (267 : Nat) (65537 : Int32) ∈ G := gT5 6 rfl rfl
theorem g_967 : Jvm.Cond.methodLink "RainWalk" (268 : Nat) ({ cls := "RainWalk$Day", name := "begin", desc := "(III)V" } : Jvm.MethodName) ∈ G := gT5 7 rfl rfl
theorem g_968 : Jvm.Cond.instanceMethod ({ cls := "RainWalk$Day", name := "begin", desc := "(III)V" } : Jvm.MethodName) ∈ G := gT5 8 rfl rfl
theorem g_969 : Jvm.Cond.selects "RainWalk$Day" ({ cls := "RainWalk$Day", name := "begin", desc := "(III)V" } : Jvm.MethodName) ({ cls := "RainWalk$Day", name := "begin", desc := "(III)V" } : Jvm.MethodName) ∈ G := gT5 9 rfl rfl
theorem g_970 : Jvm.Cond.code ({ cls := "RainWalk$Day", name := "begin", desc := "(III)V" } : Jvm.MethodName) prog_2_method_4_code (5 : Nat) (Option.none : Option Jvm.ClassFile.FieldType) ∈ G := gT5 10 rfl rfl
theorem g_971 : Jvm.Cond.methodLink "RainWalk$Day" (35 : Nat) ({ cls := "RainWalk$Day", name := "end", desc := "()V" } : Jvm.MethodName) ∈ G := gT5 11 rfl rfl
theorem g_972 : Jvm.Cond.methodLink "RainWalk" (272 : Nat) ({ cls := "RainWalk$Day", name := "draw", desc := "(LRainWalk$World;I)V" } : Jvm.MethodName) ∈ G := gT5 12 rfl rfl
theorem g_973 : Jvm.Cond.instanceMethod ({ cls := "RainWalk$Day", name := "draw", desc := "(LRainWalk$World;I)V" } : Jvm.MethodName) ∈ G := gT5 13 rfl rfl
theorem g_974 : Jvm.Cond.selects "RainWalk$Day" ({ cls := "RainWalk$Day", name := "draw", desc := "(LRainWalk$World;I)V" } : Jvm.MethodName) ({ cls := "RainWalk$Day", name := "draw", desc := "(LRainWalk$World;I)V" } : Jvm.MethodName) ∈ G := gT5 14 rfl rfl
theorem g_975 : Jvm.Cond.code ({ cls := "RainWalk$Day", name := "draw", desc := "(LRainWalk$World;I)V" } : Jvm.MethodName) prog_2_method_5_code (5 : Nat) (Option.none : Option Jvm.ClassFile.FieldType) ∈ G := gT5 15 rfl rfl
theorem g_976 : Jvm.Cond.constant "RainWalk$Day" (56 : Nat) (65537 : Int32) ∈ G := gT5 16 rfl rfl
theorem g_977 : Jvm.Cond.methodLink "RainWalkLaw" (137 : Nat) ({ cls := "RainWalk", name := "go", desc := "(III)I" } : Jvm.MethodName) ∈ G := gT5 17 rfl rfl
theorem g_978 : Jvm.Cond.instanceMethod ({ cls := "RainWalk", name := "go", desc := "(III)I" } : Jvm.MethodName) ∈ G := gT5 18 rfl rfl
theorem g_979 : Jvm.Cond.selects "RainWalk" ({ cls := "RainWalk", name := "go", desc := "(III)I" } : Jvm.MethodName) ({ cls := "RainWalk", name := "go", desc := "(III)I" } : Jvm.MethodName) ∈ G := gT5 19 rfl rfl
theorem g_980 : Jvm.Cond.code ({ cls := "RainWalk", name := "go", desc := "(III)I" } : Jvm.MethodName) prog_1_method_43_code (8 : Nat) (Option.some Jvm.ClassFile.FieldType.int) ∈ G := gT5 20 rfl rfl
theorem g_981 : Jvm.Cond.methodLink "RainWalk" (279 : Nat) ({ cls := "RainWalk$Day", name := "isOn", desc := "()Z" } : Jvm.MethodName) ∈ G := gT5 21 rfl rfl
theorem g_982 : Jvm.Cond.instanceMethod ({ cls := "RainWalk$Day", name := "isOn", desc := "()Z" } : Jvm.MethodName) ∈ G := gT5 22 rfl rfl
theorem g_983 : Jvm.Cond.selects "RainWalk$Day" ({ cls := "RainWalk$Day", name := "isOn", desc := "()Z" } : Jvm.MethodName) ({ cls := "RainWalk$Day", name := "isOn", desc := "()Z" } : Jvm.MethodName) ∈ G := gT5 23 rfl rfl
theorem g_984 : Jvm.Cond.code ({ cls := "RainWalk$Day", name := "isOn", desc := "()Z" } : Jvm.MethodName) prog_2_method_2_code (1 : Nat) (Option.some Jvm.ClassFile.FieldType.boolean) ∈ G := gT5 24 rfl rfl
theorem g_985 : Jvm.Cond.methodLink "RainWalk" (284 : Nat) ({ cls := "RainWalk$Road", name := "startOf", desc := "(I)I" } : Jvm.MethodName) ∈ G := gT5 25 rfl rfl
theorem g_986 : Jvm.Cond.methodLink "RainWalk" (299 : Nat) ({ cls := "RainWalk$Day", name := "keepForUndo", desc := "()V" } : Jvm.MethodName) ∈ G := gT5 26 rfl rfl
theorem g_987 : Jvm.Cond.instanceMethod ({ cls := "RainWalk$Day", name := "keepForUndo", desc := "()V" } : Jvm.MethodName) ∈ G := gT5 27 rfl rfl
theorem g_988 : Jvm.Cond.selects "RainWalk$Day" ({ cls := "RainWalk$Day", name := "keepForUndo", desc := "()V" } : Jvm.MethodName) ({ cls := "RainWalk$Day", name := "keepForUndo", desc := "()V" } : Jvm.MethodName) ∈ G := gT5 28 rfl rfl
theorem g_989 : Jvm.Cond.code ({ cls := "RainWalk$Day", name := "keepForUndo", desc := "()V" } : Jvm.MethodName) prog_2_method_7_code (3 : Nat) (Option.none : Option Jvm.ClassFile.FieldType) ∈ G := gT5 29 rfl rfl
theorem g_990 : Jvm.Cond.methodLink "RainWalk$Day" (66 : Nat) ({ cls := "RainWalk$Moment", name := "copy", desc := "(LRainWalk$Moment;)V" } : Jvm.MethodName) ∈ G := gT5 30 rfl rfl
theorem g_991 : Jvm.Cond.instanceMethod ({ cls := "RainWalk$Moment", name := "copy", desc := "(LRainWalk$Moment;)V" } : Jvm.MethodName) ∈ G := gT5 31 rfl rfl
theorem g_992 : Jvm.Cond.selects "RainWalk$Moment" ({ cls := "RainWalk$Moment", name := "copy", desc := "(LRainWalk$Moment;)V" } : Jvm.MethodName) ({ cls := "RainWalk$Moment", name := "copy", desc := "(LRainWalk$Moment;)V" } : Jvm.MethodName) ∈ G := gT5 32 rfl rfl
theorem g_993 : Jvm.Cond.code ({ cls := "RainWalk$Moment", name := "copy", desc := "(LRainWalk$Moment;)V" } : Jvm.MethodName) prog_4_method_2_code (3 : Nat) (Option.none : Option Jvm.ClassFile.FieldType) ∈ G := gT5 33 rfl rfl
theorem g_994 : Jvm.Cond.methodLink "RainWalk" (302 : Nat) ({ cls := "RainWalk$World", name := "hourOf", desc := "(I)I" } : Jvm.MethodName) ∈ G := gT5 34 rfl rfl
theorem g_995 : Jvm.Cond.methodLink "RainWalk" (305 : Nat) ({ cls := "RainWalk$Day", name := "rainsIn", desc := "(I)Z" } : Jvm.MethodName) ∈ G := gT5 35 rfl rfl
theorem g_996 : Jvm.Cond.instanceMethod ({ cls := "RainWalk$Day", name := "rainsIn", desc := "(I)Z" } : Jvm.MethodName) ∈ G := gT5 36 rfl rfl
theorem g_997 : Jvm.Cond.selects "RainWalk$Day" ({ cls := "RainWalk$Day", name := "rainsIn", desc := "(I)Z" } : Jvm.MethodName) ({ cls := "RainWalk$Day", name := "rainsIn", desc := "(I)Z" } : Jvm.MethodName) ∈ G := gT5 37 rfl rfl
theorem g_998 : Jvm.Cond.code ({ cls := "RainWalk$Day", name := "rainsIn", desc := "(I)Z" } : Jvm.MethodName) prog_2_method_6_code (2 : Nat) (Option.some Jvm.ClassFile.FieldType.boolean) ∈ G := gT5 38 rfl rfl
theorem g_999 : Jvm.Cond.methodLink "RainWalk" (308 : Nat) ({ cls := "RainWalk$Moment", name := "addFaces", desc := "([J)V" } : Jvm.MethodName) ∈ G := gT5 39 rfl rfl
theorem g_1000 : Jvm.Cond.instanceMethod ({ cls := "RainWalk$Moment", name := "addFaces", desc := "([J)V" } : Jvm.MethodName) ∈ G := gT5 40 rfl rfl
theorem g_1001 : Jvm.Cond.selects "RainWalk$Moment" ({ cls := "RainWalk$Moment", name := "addFaces", desc := "([J)V" } : Jvm.MethodName) ({ cls := "RainWalk$Moment", name := "addFaces", desc := "([J)V" } : Jvm.MethodName) ∈ G := gT5 41 rfl rfl
theorem g_1002 : Jvm.Cond.code ({ cls := "RainWalk$Moment", name := "addFaces", desc := "([J)V" } : Jvm.MethodName) prog_4_method_3_code (3 : Nat) (Option.none : Option Jvm.ClassFile.FieldType) ∈ G := gT5 42 rfl rfl
theorem g_1003 : Jvm.Cond.methodLink "RainWalk" (312 : Nat) ({ cls := "RainWalk$Road", name := "endOf", desc := "(I)I" } : Jvm.MethodName) ∈ G := gT5 43 rfl rfl
theorem g_1004 : Jvm.Cond.methodLink "RainWalkLaw" (141 : Nat) ({ cls := "RainWalk", name := "stay", desc := "(I)Z" } : Jvm.MethodName) ∈ G := gT5 44 rfl rfl
theorem g_1005 : Jvm.Cond.instanceMethod ({ cls := "RainWalk", name := "stay", desc := "(I)Z" } : Jvm.MethodName) ∈ G := gT5 45 rfl rfl
theorem g_1006 : Jvm.Cond.selects "RainWalk" ({ cls := "RainWalk", name := "stay", desc := "(I)Z" } : Jvm.MethodName) ({ cls := "RainWalk", name := "stay", desc := "(I)Z" } : Jvm.MethodName) ∈ G := gT5 46 rfl rfl
theorem g_1007 : Jvm.Cond.code ({ cls := "RainWalk", name := "stay", desc := "(I)Z" } : Jvm.MethodName) prog_1_method_44_code (5 : Nat) (Option.some Jvm.ClassFile.FieldType.boolean) ∈ G := gT5 47 rfl rfl
theorem g_1008 : Jvm.Cond.methodLink "RainWalk" (315 : Nat) ({ cls := "RainWalk", name := "stayTrouble", desc := "(I)I" } : Jvm.MethodName) ∈ G := gT5 48 rfl rfl
theorem g_1010 : Jvm.Cond.instanceMethod ({ cls := "RainWalk", name := "stayTrouble", desc := "(I)I" } : Jvm.MethodName) ∈ G := gT5 50 rfl rfl
theorem g_1011 : Jvm.Cond.code ({ cls := "RainWalk", name := "stayTrouble", desc := "(I)I" } : Jvm.MethodName) prog_1_method_45_code (2 : Nat) (Option.some Jvm.ClassFile.FieldType.int) ∈ G := gT5 51 rfl rfl
theorem g_1012 : Jvm.Cond.methodLink "RainWalk" (325 : Nat) ({ cls := "RainWalk$World", name := "canWait", desc := "(I)Z" } : Jvm.MethodName) ∈ G := gT5 52 rfl rfl
theorem g_1013 : Jvm.Cond.methodLink "RainWalk" (318 : Nat) ({ cls := "RainWalk$World", name := "dripOn", desc := "(LRainWalk$Walker;I)I" } : Jvm.MethodName) ∈ G := gT5 53 rfl rfl
theorem g_1014 : Jvm.Cond.methodLink "RainWalkLaw" (146 : Nat) ({ cls := "RainWalk", name := "got", desc := "(IZ)J" } : Jvm.MethodName) ∈ G := gT5 54 rfl rfl
theorem g_1015 : Jvm.Cond.instanceMethod ({ cls := "RainWalk", name := "got", desc := "(IZ)J" } : Jvm.MethodName) ∈ G := gT5 55 rfl rfl
theorem g_1016 : Jvm.Cond.selects "RainWalk" ({ cls := "RainWalk", name := "got", desc := "(IZ)J" } : Jvm.MethodName) ({ cls := "RainWalk", name := "got", desc := "(IZ)J" } : Jvm.MethodName) ∈ G := gT5 56 rfl rfl
theorem g_1017 : Jvm.Cond.code ({ cls := "RainWalk", name := "got", desc := "(IZ)J" } : Jvm.MethodName) prog_1_method_46_code (3 : Nat) (Option.some Jvm.ClassFile.FieldType.long) ∈ G := gT5 57 rfl rfl
theorem g_1018 : Jvm.Cond.methodLink "RainWalkLaw" (151 : Nat) ({ cls := "RainWalk", name := "wetness", desc := "(Z)J" } : Jvm.MethodName) ∈ G := gT5 58 rfl rfl
theorem g_1019 : Jvm.Cond.instanceMethod ({ cls := "RainWalk", name := "wetness", desc := "(Z)J" } : Jvm.MethodName) ∈ G := gT5 59 rfl rfl
theorem g_1020 : Jvm.Cond.selects "RainWalk" ({ cls := "RainWalk", name := "wetness", desc := "(Z)J" } : Jvm.MethodName) ({ cls := "RainWalk", name := "wetness", desc := "(Z)J" } : Jvm.MethodName) ∈ G := gT5 60 rfl rfl
theorem g_1021 : Jvm.Cond.code ({ cls := "RainWalk", name := "wetness", desc := "(Z)J" } : Jvm.MethodName) prog_1_method_47_code (4 : Nat) (Option.some Jvm.ClassFile.FieldType.long) ∈ G := gT5 61 rfl rfl
theorem g_1022 : Jvm.Cond.methodLink "RainWalk" (328 : Nat) ({ cls := "RainWalk$Moment", name := "allGot", desc := "()J" } : Jvm.MethodName) ∈ G := gT5 62 rfl rfl
theorem g_1023 : Jvm.Cond.instanceMethod ({ cls := "RainWalk$Moment", name := "allGot", desc := "()J" } : Jvm.MethodName) ∈ G := gT5 63 rfl rfl
theorem g_1024 : Jvm.Cond.selects "RainWalk$Moment" ({ cls := "RainWalk$Moment", name := "allGot", desc := "()J" } : Jvm.MethodName) ({ cls := "RainWalk$Moment", name := "allGot", desc := "()J" } : Jvm.MethodName) ∈ G := gT5 64 rfl rfl
theorem g_1025 : Jvm.Cond.code ({ cls := "RainWalk$Moment", name := "allGot", desc := "()J" } : Jvm.MethodName) prog_4_method_4_code (4 : Nat) (Option.some Jvm.ClassFile.FieldType.long) ∈ G := gT5 65 rfl rfl
theorem g_1026 : Jvm.Cond.methodLink "RainWalk" (332 : Nat) ({ cls := "RainWalk", name := "coatParts", desc := "(LRainWalk$Walker;)J" } : Jvm.MethodName) ∈ G := gT5 66 rfl rfl
theorem g_1027 : Jvm.Cond.static ({ cls := "RainWalk", name := "coatParts", desc := "(LRainWalk$Walker;)J" } : Jvm.MethodName) ∈ G := gT5 67 rfl rfl
theorem g_1028 : Jvm.Cond.code ({ cls := "RainWalk", name := "coatParts", desc := "(LRainWalk$Walker;)J" } : Jvm.MethodName) prog_1_method_49_code (1 : Nat) (Option.some Jvm.ClassFile.FieldType.long) ∈ G := gT5 68 rfl rfl
theorem g_1029 : Jvm.Cond.methodLink "RainWalk" (336 : Nat) ({ cls := "java/lang/Math", name := "max", desc := "(JJ)J" } : Jvm.MethodName) ∈ G := gT5 69 rfl rfl
theorem g_1030 : Jvm.Cond.static ({ cls := "java/lang/Math", name := "max", desc := "(JJ)J" } : Jvm.MethodName) ∈ G := gT5 70 rfl rfl
theorem g_1031 : Jvm.Cond.code ({ cls := "java/lang/Math", name := "max", desc := "(JJ)J" } : Jvm.MethodName) prog_18_method_66_code (4 : Nat) (Option.some Jvm.ClassFile.FieldType.long) ∈ G := gT5 71 rfl rfl
theorem g_1032 : Jvm.Cond.methodLink "RainWalkLaw" (156 : Nat) ({ cls := "RainWalk", name := "soaked", desc := "()I" } : Jvm.MethodName) ∈ G := gT5 72 rfl rfl
theorem g_1033 : Jvm.Cond.instanceMethod ({ cls := "RainWalk", name := "soaked", desc := "()I" } : Jvm.MethodName) ∈ G := gT5 73 rfl rfl
theorem g_1034 : Jvm.Cond.selects "RainWalk" ({ cls := "RainWalk", name := "soaked", desc := "()I" } : Jvm.MethodName) ({ cls := "RainWalk", name := "soaked", desc := "()I" } : Jvm.MethodName) ∈ G := gT5 74 rfl rfl
theorem g_1035 : Jvm.Cond.code ({ cls := "RainWalk", name := "soaked", desc := "()I" } : Jvm.MethodName) prog_1_method_48_code (2 : Nat) (Option.some Jvm.ClassFile.FieldType.int) ∈ G := gT5 75 rfl rfl
theorem g_1036 : Jvm.Cond.methodLink "RainWalkLaw" (160 : Nat) ({ cls := "RainWalk", name := "undo", desc := "()Z" } : Jvm.MethodName) ∈ G := gT5 76 rfl rfl
theorem g_1037 : Jvm.Cond.instanceMethod ({ cls := "RainWalk", name := "undo", desc := "()Z" } : Jvm.MethodName) ∈ G := gT5 77 rfl rfl
theorem g_1038 : Jvm.Cond.selects "RainWalk" ({ cls := "RainWalk", name := "undo", desc := "()Z" } : Jvm.MethodName) ({ cls := "RainWalk", name := "undo", desc := "()Z" } : Jvm.MethodName) ∈ G := gT5 78 rfl rfl
theorem g_1039 : Jvm.Cond.code ({ cls := "RainWalk", name := "undo", desc := "()Z" } : Jvm.MethodName) prog_1_method_50_code (1 : Nat) (Option.some Jvm.ClassFile.FieldType.boolean) ∈ G := gT5 79 rfl rfl
theorem g_1040 : Jvm.Cond.methodLink "RainWalk" (344 : Nat) ({ cls := "RainWalk$Day", name := "takeBack", desc := "()Z" } : Jvm.MethodName) ∈ G := gT5 80 rfl rfl
theorem g_1041 : Jvm.Cond.instanceMethod ({ cls := "RainWalk$Day", name := "takeBack", desc := "()Z" } : Jvm.MethodName) ∈ G := gT5 81 rfl rfl
theorem g_1042 : Jvm.Cond.selects "RainWalk$Day" ({ cls := "RainWalk$Day", name := "takeBack", desc := "()Z" } : Jvm.MethodName) ({ cls := "RainWalk$Day", name := "takeBack", desc := "()Z" } : Jvm.MethodName) ∈ G := gT5 82 rfl rfl
theorem g_1043 : Jvm.Cond.code ({ cls := "RainWalk$Day", name := "takeBack", desc := "()Z" } : Jvm.MethodName) prog_2_method_8_code (1 : Nat) (Option.some Jvm.ClassFile.FieldType.boolean) ∈ G := gT5 83 rfl rfl
theorem g_1044 : Jvm.Cond.methodLink "RainWalkLaw" (165 : Nat) ({ cls := "RainWalk", name := "mark", desc := "()I" } : Jvm.MethodName) ∈ G := gT5 84 rfl rfl
theorem g_1045 : Jvm.Cond.instanceMethod ({ cls := "RainWalk", name := "mark", desc := "()I" } : Jvm.MethodName) ∈ G := gT5 85 rfl rfl
theorem g_1046 : Jvm.Cond.selects "RainWalk" ({ cls := "RainWalk", name := "mark", desc := "()I" } : Jvm.MethodName) ({ cls := "RainWalk", name := "mark", desc := "()I" } : Jvm.MethodName) ∈ G := gT5 86 rfl rfl
theorem g_1047 : Jvm.Cond.code ({ cls := "RainWalk", name := "mark", desc := "()I" } : Jvm.MethodName) prog_1_method_51_code (2 : Nat) (Option.some Jvm.ClassFile.FieldType.int) ∈ G := gT5 87 rfl rfl
theorem g_1048 : Jvm.Cond.methodLink "RainWalk" (347 : Nat) ({ cls := "RainWalk$Day", name := "setMark", desc := "()I" } : Jvm.MethodName) ∈ G := gT5 88 rfl rfl
theorem g_1049 : Jvm.Cond.instanceMethod ({ cls := "RainWalk$Day", name := "setMark", desc := "()I" } : Jvm.MethodName) ∈ G := gT5 89 rfl rfl
theorem g_1050 : Jvm.Cond.selects "RainWalk$Day" ({ cls := "RainWalk$Day", name := "setMark", desc := "()I" } : Jvm.MethodName) ({ cls := "RainWalk$Day", name := "setMark", desc := "()I" } : Jvm.MethodName) ∈ G := gT5 90 rfl rfl
theorem g_1051 : Jvm.Cond.code ({ cls := "RainWalk$Day", name := "setMark", desc := "()I" } : Jvm.MethodName) prog_2_method_9_code (1 : Nat) (Option.some Jvm.ClassFile.FieldType.int) ∈ G := gT5 91 rfl rfl
theorem g_1052 : Jvm.Cond.methodLink "RainWalkLaw" (169 : Nat) ({ cls := "RainWalk", name := "back", desc := "(I)Z" } : Jvm.MethodName) ∈ G := gT5 92 rfl rfl
theorem g_1053 : Jvm.Cond.instanceMethod ({ cls := "RainWalk", name := "back", desc := "(I)Z" } : Jvm.MethodName) ∈ G := gT5 93 rfl rfl
theorem g_1054 : Jvm.Cond.selects "RainWalk" ({ cls := "RainWalk", name := "back", desc := "(I)Z" } : Jvm.MethodName) ({ cls := "RainWalk", name := "back", desc := "(I)Z" } : Jvm.MethodName) ∈ G := gT5 94 rfl rfl
theorem g_1055 : Jvm.Cond.code ({ cls := "RainWalk", name := "back", desc := "(I)Z" } : Jvm.MethodName) prog_1_method_52_code (2 : Nat) (Option.some Jvm.ClassFile.FieldType.boolean) ∈ G := gT5 95 rfl rfl
theorem g_1056 : Jvm.Cond.methodLink "RainWalk" (351 : Nat) ({ cls := "RainWalk$Day", name := "returnTo", desc := "(I)Z" } : Jvm.MethodName) ∈ G := gT5 96 rfl rfl
theorem g_1057 : Jvm.Cond.instanceMethod ({ cls := "RainWalk$Day", name := "returnTo", desc := "(I)Z" } : Jvm.MethodName) ∈ G := gT5 97 rfl rfl
theorem g_1058 : Jvm.Cond.selects "RainWalk$Day" ({ cls := "RainWalk$Day", name := "returnTo", desc := "(I)Z" } : Jvm.MethodName) ({ cls := "RainWalk$Day", name := "returnTo", desc := "(I)Z" } : Jvm.MethodName) ∈ G := gT5 98 rfl rfl
theorem g_1059 : Jvm.Cond.code ({ cls := "RainWalk$Day", name := "returnTo", desc := "(I)Z" } : Jvm.MethodName) prog_2_method_10_code (2 : Nat) (Option.some Jvm.ClassFile.FieldType.boolean) ∈ G := gT5 99 rfl rfl
theorem g_1060 : Jvm.Cond.methodLink "RainWalkLaw" (173 : Nat) ({ cls := "RainWalk", name := "walker", desc := "(II)I" } : Jvm.MethodName) ∈ G := gT5 100 rfl rfl
theorem g_1061 : Jvm.Cond.instanceMethod ({ cls := "RainWalk", name := "walker", desc := "(II)I" } : Jvm.MethodName) ∈ G := gT5 101 rfl rfl
theorem g_1062 : Jvm.Cond.selects "RainWalk" ({ cls := "RainWalk", name := "walker", desc := "(II)I" } : Jvm.MethodName) ({ cls := "RainWalk", name := "walker", desc := "(II)I" } : Jvm.MethodName) ∈ G := gT5 102 rfl rfl
theorem g_1063 : Jvm.Cond.code ({ cls := "RainWalk", name := "walker", desc := "(II)I" } : Jvm.MethodName) prog_1_method_53_code (3 : Nat) (Option.some Jvm.ClassFile.FieldType.int) ∈ G := gT5 103 rfl rfl
theorem g_1064 : Jvm.Cond.methodLink "RainWalk" (354 : Nat) ({ cls := "RainWalk$Walker", name := "tell", desc := "(I)I" } : Jvm.MethodName) ∈ G := gT5 104 rfl rfl
theorem g_1065 : Jvm.Cond.instanceMethod ({ cls := "RainWalk$Walker", name := "tell", desc := "(I)I" } : Jvm.MethodName) ∈ G := gT5 105 rfl rfl
theorem g_1066 : Jvm.Cond.selects "RainWalk$Walker" ({ cls := "RainWalk$Walker", name := "tell", desc := "(I)I" } : Jvm.MethodName) ({ cls := "RainWalk$Walker", name := "tell", desc := "(I)I" } : Jvm.MethodName) ∈ G := gT5 106 rfl rfl
theorem g_1067 : Jvm.Cond.code ({ cls := "RainWalk$Walker", name := "tell", desc := "(I)I" } : Jvm.MethodName) prog_8_method_5_code (2 : Nat) (Option.some Jvm.ClassFile.FieldType.int) ∈ G := gT5 107 rfl rfl
theorem g_1068 : Jvm.Cond.methodLink "RainWalkLaw" (177 : Nat) ({ cls := "RainWalk", name := "road", desc := "(II)I" } : Jvm.MethodName) ∈ G := gT5 108 rfl rfl
theorem g_1069 : Jvm.Cond.instanceMethod ({ cls := "RainWalk", name := "road", desc := "(II)I" } : Jvm.MethodName) ∈ G := gT5 109 rfl rfl
theorem g_1070 : Jvm.Cond.selects "RainWalk" ({ cls := "RainWalk", name := "road", desc := "(II)I" } : Jvm.MethodName) ({ cls := "RainWalk", name := "road", desc := "(II)I" } : Jvm.MethodName) ∈ G := gT5 110 rfl rfl
theorem g_1071 : Jvm.Cond.code ({ cls := "RainWalk", name := "road", desc := "(II)I" } : Jvm.MethodName) prog_1_method_54_code (3 : Nat) (Option.some Jvm.ClassFile.FieldType.int) ∈ G := gT5 111 rfl rfl
theorem g_1072 : Jvm.Cond.methodLink "RainWalk" (357 : Nat) ({ cls := "RainWalk$Road", name := "tell", desc := "(I)I" } : Jvm.MethodName) ∈ G := gT5 112 rfl rfl
theorem g_1073 : Jvm.Cond.instanceMethod ({ cls := "RainWalk$Road", name := "tell", desc := "(I)I" } : Jvm.MethodName) ∈ G := gT5 113 rfl rfl
theorem g_1074 : Jvm.Cond.selects "RainWalk$Road" ({ cls := "RainWalk$Road", name := "tell", desc := "(I)I" } : Jvm.MethodName) ({ cls := "RainWalk$Road", name := "tell", desc := "(I)I" } : Jvm.MethodName) ∈ G := gT5 114 rfl rfl
theorem g_1075 : Jvm.Cond.code ({ cls := "RainWalk$Road", name := "tell", desc := "(I)I" } : Jvm.MethodName) prog_7_method_8_code (2 : Nat) (Option.some Jvm.ClassFile.FieldType.int) ∈ G := gT5 115 rfl rfl
theorem g_1076 : Jvm.Cond.methodLink "RainWalkLaw" (187 : Nat) ({ cls := "RainWalk", name := "size", desc := "(I)I" } : Jvm.MethodName) ∈ G := gT5 116 rfl rfl
theorem g_1077 : Jvm.Cond.instanceMethod ({ cls := "RainWalk", name := "size", desc := "(I)I" } : Jvm.MethodName) ∈ G := gT5 117 rfl rfl
theorem g_1078 : Jvm.Cond.selects "RainWalk" ({ cls := "RainWalk", name := "size", desc := "(I)I" } : Jvm.MethodName) ({ cls := "RainWalk", name := "size", desc := "(I)I" } : Jvm.MethodName) ∈ G := gT5 118 rfl rfl
theorem g_1079 : Jvm.Cond.code ({ cls := "RainWalk", name := "size", desc := "(I)I" } : Jvm.MethodName) prog_1_method_56_code (2 : Nat) (Option.some Jvm.ClassFile.FieldType.int) ∈ G := gT5 119 rfl rfl
theorem g_1080 : Jvm.Cond.methodLink "RainWalkLaw" (191 : Nat) ({ cls := "RainWalk", name := "trouble", desc := "()I" } : Jvm.MethodName) ∈ G := gT5 120 rfl rfl
theorem g_1081 : Jvm.Cond.instanceMethod ({ cls := "RainWalk", name := "trouble", desc := "()I" } : Jvm.MethodName) ∈ G := gT5 121 rfl rfl
theorem g_1082 : Jvm.Cond.selects "RainWalk" ({ cls := "RainWalk", name := "trouble", desc := "()I" } : Jvm.MethodName) ({ cls := "RainWalk", name := "trouble", desc := "()I" } : Jvm.MethodName) ∈ G := gT5 122 rfl rfl
theorem g_1083 : Jvm.Cond.code ({ cls := "RainWalk", name := "trouble", desc := "()I" } : Jvm.MethodName) prog_1_method_57_code (1 : Nat) (Option.some Jvm.ClassFile.FieldType.int) ∈ G := gT5 123 rfl rfl
theorem g_1084 : Jvm.Cond.methodLink "RainWalkLaw" (181 : Nat) ({ cls := "RainWalkLaw", name := "led", desc := "(LRainWalk;I[J)I" } : Jvm.MethodName) ∈ G := gT5 124 rfl rfl
theorem g_1085 : Jvm.Cond.static ({ cls := "RainWalkLaw", name := "led", desc := "(LRainWalk;I[J)I" } : Jvm.MethodName) ∈ G := gT5 125 rfl rfl
theorem g_1087 : Jvm.Cond.classLink "RainWalkLaw" (13 : Nat) "java/util/NoSuchElementException" ∈ G := gT5 127 rfl rfl
theorem g_1088 : Jvm.Cond.methodLink "RainWalkLaw" (7 : Nat) ({ cls := "RainWalk", name := "led", desc := "(I)I" } : Jvm.MethodName) ∈ G := gT5 128 rfl rfl
theorem g_1089 : Jvm.Cond.instanceMethod ({ cls := "RainWalk", name := "led", desc := "(I)I" } : Jvm.MethodName) ∈ G := gT5 129 rfl rfl
theorem g_1090 : Jvm.Cond.selects "RainWalk" ({ cls := "RainWalk", name := "led", desc := "(I)I" } : Jvm.MethodName) ({ cls := "RainWalk", name := "led", desc := "(I)I" } : Jvm.MethodName) ∈ G := gT5 130 rfl rfl
theorem g_1091 : Jvm.Cond.code ({ cls := "RainWalk", name := "led", desc := "(I)I" } : Jvm.MethodName) prog_1_method_55_code (4 : Nat) (Option.some Jvm.ClassFile.FieldType.int) ∈ G := gT5 131 rfl rfl
theorem g_1092 : Jvm.Cond.methodLink "RainWalk" (361 : Nat) ({ cls := "RainWalk$Road", name := "touches", desc := "(I)Z" } : Jvm.MethodName) ∈ G := gT5 132 rfl rfl
theorem g_1093 : Jvm.Cond.instanceMethod ({ cls := "RainWalk$Road", name := "touches", desc := "(I)Z" } : Jvm.MethodName) ∈ G := gT5 133 rfl rfl
theorem g_1094 : Jvm.Cond.selects "RainWalk$Road" ({ cls := "RainWalk$Road", name := "touches", desc := "(I)Z" } : Jvm.MethodName) ({ cls := "RainWalk$Road", name := "touches", desc := "(I)Z" } : Jvm.MethodName) ∈ G := gT5 134 rfl rfl
theorem g_1095 : Jvm.Cond.code ({ cls := "RainWalk$Road", name := "touches", desc := "(I)Z" } : Jvm.MethodName) prog_7_method_4_code (2 : Nat) (Option.some Jvm.ClassFile.FieldType.boolean) ∈ G := gT5 135 rfl rfl
theorem g_1096 : Jvm.Cond.classLink "RainWalk" (364 : Nat) "java/util/NoSuchElementException" ∈ G := gT5 136 rfl rfl
theorem g_1097 : Jvm.Cond.instantiable "java/util/NoSuchElementException" (6 : Nat) ∈ G := gT5 137 rfl rfl
theorem g_1105 : Jvm.Cond.selects "java/util/NoSuchElementException" ({ cls := "java/lang/Throwable", name := "fillInStackTrace", desc := "(I)Ljava/lang/Throwable;" } : Jvm.MethodName) ({ cls := "java/lang/Throwable", name := "fillInStackTrace", desc := "(I)Ljava/lang/Throwable;" } : Jvm.MethodName) ∈ G := gT5 145 rfl rfl
theorem g_1106 : Jvm.Cond.selects "java/util/NoSuchElementException" ({ cls := "java/lang/Throwable", name := "fillInStackTrace", desc := "()Ljava/lang/Throwable;" } : Jvm.MethodName) ({ cls := "java/lang/Throwable", name := "fillInStackTrace", desc := "()Ljava/lang/Throwable;" } : Jvm.MethodName) ∈ G := gT5 146 rfl rfl
theorem g_1107 : Jvm.Cond.lays "java/util/NoSuchElementException" "java/lang/Throwable" "cause" "Ljava/lang/Throwable;" ∈ G := gT5 147 rfl rfl
theorem g_1108 : Jvm.Cond.lays "java/lang/Throwable" "java/lang/Throwable" "cause" "Ljava/lang/Throwable;" ∈ G := gT5 148 rfl rfl
theorem g_1109 : Jvm.Cond.lays "java/util/NoSuchElementException" "java/lang/Throwable" "stackTrace" "[Ljava/lang/StackTraceElement;" ∈ G := gT5 149 rfl rfl
theorem g_1110 : Jvm.Cond.lays "java/lang/Throwable" "java/lang/Throwable" "stackTrace" "[Ljava/lang/StackTraceElement;" ∈ G := gT5 150 rfl rfl
theorem g_1111 : Jvm.Cond.lays "java/util/NoSuchElementException" "java/lang/Throwable" "suppressedExceptions" "Ljava/util/List;" ∈ G := gT5 151 rfl rfl
theorem g_1112 : Jvm.Cond.lays "java/lang/Throwable" "java/lang/Throwable" "suppressedExceptions" "Ljava/util/List;" ∈ G := gT5 152 rfl rfl
theorem g_1113 : Jvm.Cond.lays "java/util/NoSuchElementException" "java/lang/Throwable" "detailMessage" "Ljava/lang/String;" ∈ G := gT5 153 rfl rfl
theorem g_1114 : Jvm.Cond.lays "java/lang/Throwable" "java/lang/Throwable" "detailMessage" "Ljava/lang/String;" ∈ G := gT5 154 rfl rfl
theorem g_1115 : Jvm.Cond.lays "java/util/NoSuchElementException" "java/lang/Throwable" "backtrace" "Ljava/lang/Object;" ∈ G := gT5 155 rfl rfl
theorem g_1116 : Jvm.Cond.lays "java/lang/Throwable" "java/lang/Throwable" "backtrace" "Ljava/lang/Object;" ∈ G := gT5 156 rfl rfl
theorem g_1117 : Jvm.Cond.fieldLink "java/lang/Throwable" (198 : Nat) "java/lang/Throwable" "backtrace" "Ljava/lang/Object;" ∈ G := gT5 157 rfl rfl
theorem g_1119 : Jvm.Cond.instanceMethod ({ cls := "java/lang/Throwable", name := "<init>", desc := "()V" } : Jvm.MethodName) ∈ G := gT5 159 rfl rfl
theorem g_1120 : Jvm.Cond.code ({ cls := "java/lang/Throwable", name := "<init>", desc := "()V" } : Jvm.MethodName) prog_23_method_1_code (1 : Nat) (Option.none : Option Jvm.ClassFile.FieldType) ∈ G := gT5 160 rfl rfl
theorem g_1121 : Jvm.Cond.methodLink "java/lang/Throwable" (1 : Nat) ({ cls := "java/lang/Object", name := "<init>", desc := "()V" } : Jvm.MethodName) ∈ G := gT5 161 rfl rfl
theorem g_1122 : Jvm.Cond.fieldLink "java/lang/Throwable" (13 : Nat) "java/lang/Throwable" "UNASSIGNED_STACK" "[Ljava/lang/StackTraceElement;" ∈ G := gT5 162 rfl rfl
theorem g_1124 : Jvm.Cond.fieldLink "java/lang/Throwable" (20 : Nat) "java/lang/Throwable" "SUPPRESSED_SENTINEL" "Ljava/util/List;" ∈ G := gT5 164 rfl rfl
theorem g_1126 : Jvm.Cond.methodLink "java/lang/Throwable" (27 : Nat) ({ cls := "java/lang/Throwable", name := "fillInStackTrace", desc := "()Ljava/lang/Throwable;" } : Jvm.MethodName) ∈ G := gT5 166 rfl rfl
theorem g_1127 : Jvm.Cond.instanceMethod ({ cls := "java/lang/Throwable", name := "fillInStackTrace", desc := "()Ljava/lang/Throwable;" } : Jvm.MethodName) ∈ G := gT5 167 rfl rfl
theorem g_1130 : Jvm.Cond.methodLink "java/lang/Throwable" (202 : Nat) ({ cls := "java/lang/Throwable", name := "fillInStackTrace", desc := "(I)Ljava/lang/Throwable;" } : Jvm.MethodName) ∈ G := gT5 170 rfl rfl
theorem g_1132 : Jvm.Cond.instanceMethod ({ cls := "java/lang/Throwable", name := "fillInStackTrace", desc := "(I)Ljava/lang/Throwable;" } : Jvm.MethodName) ∈ G := gT5 172 rfl rfl
theorem g_1133 : Jvm.Cond.instantiable "java/lang/Throwable" (6 : Nat) ∈ G := gT5 173 rfl rfl
theorem g_1135 : Jvm.Cond.methodLink "RainWalk" (366 : Nat) ({ cls := "java/util/NoSuchElementException", name := "<init>", desc := "()V" } : Jvm.MethodName) ∈ G := gT5 175 rfl rfl
theorem g_1136 : Jvm.Cond.instanceMethod ({ cls := "java/util/NoSuchElementException", name := "<init>", desc := "()V" } : Jvm.MethodName) ∈ G := gT5 176 rfl rfl
theorem g_1137 : Jvm.Cond.code ({ cls := "java/util/NoSuchElementException", name := "<init>", desc := "()V" } : Jvm.MethodName) prog_26_method_1_code (1 : Nat) (Option.none : Option Jvm.ClassFile.FieldType) ∈ G := gT5 177 rfl rfl
theorem g_1138 : Jvm.Cond.methodLink "java/util/NoSuchElementException" (1 : Nat) ({ cls := "java/lang/RuntimeException", name := "<init>", desc := "()V" } : Jvm.MethodName) ∈ G := gT5 178 rfl rfl
theorem g_1139 : Jvm.Cond.instanceMethod ({ cls := "java/lang/RuntimeException", name := "<init>", desc := "()V" } : Jvm.MethodName) ∈ G := gT5 179 rfl rfl
theorem g_1140 : Jvm.Cond.code ({ cls := "java/lang/RuntimeException", name := "<init>", desc := "()V" } : Jvm.MethodName) prog_19_method_1_code (1 : Nat) (Option.none : Option Jvm.ClassFile.FieldType) ∈ G := gT5 180 rfl rfl
theorem g_1141 : Jvm.Cond.methodLink "java/lang/RuntimeException" (1 : Nat) ({ cls := "java/lang/Exception", name := "<init>", desc := "()V" } : Jvm.MethodName) ∈ G := gT5 181 rfl rfl
theorem g_1142 : Jvm.Cond.instanceMethod ({ cls := "java/lang/Exception", name := "<init>", desc := "()V" } : Jvm.MethodName) ∈ G := gT5 182 rfl rfl
theorem g_1143 : Jvm.Cond.code ({ cls := "java/lang/Exception", name := "<init>", desc := "()V" } : Jvm.MethodName) prog_17_method_1_code (1 : Nat) (Option.none : Option Jvm.ClassFile.FieldType) ∈ G := gT5 183 rfl rfl
theorem g_1144 : Jvm.Cond.methodLink "java/lang/Exception" (1 : Nat) ({ cls := "java/lang/Throwable", name := "<init>", desc := "()V" } : Jvm.MethodName) ∈ G := gT5 184 rfl rfl
theorem g_1145 : Jvm.Cond.fieldLink "java/lang/Throwable" (198 : Nat) "java/lang/Throwable" "backtrace" "Ljava/lang/Object;" ∈ G := gT5 185 rfl rfl
theorem g_1146 : Jvm.Cond.fieldLink "java/lang/Throwable" (7 : Nat) "java/lang/Throwable" "cause" "Ljava/lang/Throwable;" ∈ G := gT5 186 rfl rfl
theorem g_1147 : Jvm.Cond.fieldLink "java/lang/Throwable" (17 : Nat) "java/lang/Throwable" "stackTrace" "[Ljava/lang/StackTraceElement;" ∈ G := gT5 187 rfl rfl
theorem g_1148 : Jvm.Cond.fieldLink "java/lang/Throwable" (24 : Nat) "java/lang/Throwable" "suppressedExceptions" "Ljava/util/List;" ∈ G := gT5 188 rfl rfl
theorem g_1153 : Jvm.Cond.lays "java/util/NoSuchElementException" "java/lang/Throwable" "depth" "I" ∈ G := gT5 193 rfl rfl
theorem g_1157 : Jvm.Cond.classLink "RainWalkLaw" (16 : Nat) "RainWalkModel" ∈ G := gT5 197 rfl rfl
theorem g_1158 : Jvm.Cond.instantiable "RainWalkModel" (26 : Nat) ∈ G := gT5 198 rfl rfl
theorem g_1159 : Jvm.Cond.methodLink "RainWalkLaw" (18 : Nat) ({ cls := "RainWalkModel", name := "<init>", desc := "()V" } : Jvm.MethodName) ∈ G := gT5 199 rfl rfl
theorem g_1160 : Jvm.Cond.instanceMethod ({ cls := "RainWalkModel", name := "<init>", desc := "()V" } : Jvm.MethodName) ∈ G := gT5 200 rfl rfl
theorem g_1161 : Jvm.Cond.code ({ cls := "RainWalkModel", name := "<init>", desc := "()V" } : Jvm.MethodName) prog_12_method_1_code (1 : Nat) (Option.none : Option Jvm.ClassFile.FieldType) ∈ G := gT5 201 rfl rfl
theorem g_1162 : Jvm.Cond.methodLink "RainWalkModel" (3 : Nat) ({ cls := "java/lang/Object", name := "<init>", desc := "()V" } : Jvm.MethodName) ∈ G := gT5 202 rfl rfl
theorem g_1163 : Jvm.Cond.fieldLink "RainWalkModel" (40 : Nat) "RainWalkModel" "thrown" "I" ∈ G := gT5 203 rfl rfl
theorem g_1164 : Jvm.Cond.fieldLink "RainWalkModel" (43 : Nat) "RainWalkModel" "trouble" "I" ∈ G := gT5 204 rfl rfl
theorem g_1165 : Jvm.Cond.fieldLink "RainWalkModel" (9 : Nat) "RainWalkModel" "where" "I" ∈ G := gT5 205 rfl rfl
theorem g_1166 : Jvm.Cond.fieldLink "RainWalkModel" (338 : Nat) "RainWalkModel" "world" "LRainWalkModel$World;" ∈ G := gT5 206 rfl rfl
theorem g_1167 : Jvm.Cond.fieldLink "RainWalkModel" (147 : Nat) "RainWalkModel" "read" "LRainWalkModel$World;" ∈ G := gT5 207 rfl rfl
theorem g_1168 : Jvm.Cond.fieldLink "RainWalkModel" (13 : Nat) "RainWalkModel" "tape" "[B" ∈ G := gT5 208 rfl rfl
theorem g_1169 : Jvm.Cond.fieldLink "RainWalkModel" (331 : Nat) "RainWalkModel" "taped" "I" ∈ G := gT5 209 rfl rfl
theorem g_1170 : Jvm.Cond.fieldLink "RainWalkModel" (53 : Nat) "RainWalkModel" "size" "I" ∈ G := gT5 210 rfl rfl
theorem g_1171 : Jvm.Cond.fieldLink "RainWalkModel" (71 : Nat) "RainWalkModel" "spot" "I" ∈ G := gT5 211 rfl rfl
theorem g_1172 : Jvm.Cond.fieldLink "RainWalkModel" (68 : Nat) "RainWalkModel" "sort" "I" ∈ G := gT5 212 rfl rfl
theorem g_1173 : Jvm.Cond.fieldLink "RainWalkModel" (77 : Nat) "RainWalkModel" "place" "I" ∈ G := gT5 213 rfl rfl
theorem g_1174 : Jvm.Cond.fieldLink "RainWalkModel" (80 : Nat) "RainWalkModel" "sign" "I" ∈ G := gT5 214 rfl rfl
theorem g_1175 : Jvm.Cond.fieldLink "RainWalkModel" (94 : Nat) "RainWalkModel" "number" "I" ∈ G := gT5 215 rfl rfl
theorem g_1176 : Jvm.Cond.fieldLink "RainWalkModel" (97 : Nat) "RainWalkModel" "fault" "I" ∈ G := gT5 216 rfl rfl
theorem g_1177 : Jvm.Cond.fieldLink "RainWalkModel" (100 : Nat) "RainWalkModel" "wrongAt" "I" ∈ G := gT5 217 rfl rfl
theorem g_1178 : Jvm.Cond.fieldLink "RainWalkModel" (87 : Nat) "RainWalkModel" "word" "J" ∈ G := gT5 218 rfl rfl
theorem g_1179 : Jvm.Cond.fieldLink "RainWalkModel" (17 : Nat) "RainWalkModel" "least" "[J" ∈ G := gT5 219 rfl rfl
theorem g_1180 : Jvm.Cond.fieldLink "RainWalkModel" (21 : Nat) "RainWalkModel" "arrives" "[I" ∈ G := gT5 220 rfl rfl
theorem g_1181 : Jvm.Cond.fieldLink "RainWalkModel" (25 : Nat) "RainWalkModel" "stepBy" "[I" ∈ G := gT5 221 rfl rfl
theorem g_1182 : Jvm.Cond.fieldLink "RainWalkModel" (28 : Nat) "RainWalkModel" "who" "I" ∈ G := gT5 222 rfl rfl
theorem g_1183 : Jvm.Cond.fieldLink "RainWalkModel" (475 : Nat) "RainWalkModel" "rains" "I" ∈ G := gT5 223 rfl rfl
theorem g_1184 : Jvm.Cond.fieldLink "RainWalkModel" (31 : Nat) "RainWalkModel" "d" "[J" ∈ G := gT5 224 rfl rfl
theorem g_1185 : Jvm.Cond.fieldLink "RainWalkModel" (34 : Nat) "RainWalkModel" "past" "[J" ∈ G := gT5 225 rfl rfl
theorem g_1186 : Jvm.Cond.fieldLink "RainWalkModel" (37 : Nat) "RainWalkModel" "kept" "[J" ∈ G := gT5 226 rfl rfl
theorem g_1187 : Jvm.Cond.fieldLink "RainWalkModel" (340 : Nat) "RainWalkModel" "acts" "I" ∈ G := gT5 227 rfl rfl
theorem g_1188 : Jvm.Cond.fieldLink "RainWalkModel" (343 : Nat) "RainWalkModel" "marks" "I" ∈ G := gT5 228 rfl rfl
theorem g_1189 : Jvm.Cond.lays "RainWalkModel" "RainWalkModel" "thrown" "I" ∈ G := gT5 229 rfl rfl
theorem g_1191 : Jvm.Cond.lays "RainWalkModel" "RainWalkModel" "trouble" "I" ∈ G := gT5 231 rfl rfl
theorem g_1193 : Jvm.Cond.lays "RainWalkModel" "RainWalkModel" "where" "I" ∈ G := gT5 233 rfl rfl
theorem g_1195 : Jvm.Cond.lays "RainWalkModel" "RainWalkModel" "world" "LRainWalkModel$World;" ∈ G := gT5 235 rfl rfl
theorem g_1197 : Jvm.Cond.lays "RainWalkModel" "RainWalkModel" "read" "LRainWalkModel$World;" ∈ G := gT5 237 rfl rfl
theorem g_1199 : Jvm.Cond.laysFinal "RainWalkModel" "RainWalkModel" "tape" "[B" ∈ G := gT5 239 rfl rfl
theorem g_1201 : Jvm.Cond.lays "RainWalkModel" "RainWalkModel" "taped" "I" ∈ G := gT6 1 rfl rfl
theorem g_1203 : Jvm.Cond.lays "RainWalkModel" "RainWalkModel" "size" "I" ∈ G := gT6 3 rfl rfl
theorem g_1205 : Jvm.Cond.lays "RainWalkModel" "RainWalkModel" "spot" "I" ∈ G := gT6 5 rfl rfl
theorem g_1207 : Jvm.Cond.lays "RainWalkModel" "RainWalkModel" "sort" "I" ∈ G := gT6 7 rfl rfl
theorem g_1209 : Jvm.Cond.lays "RainWalkModel" "RainWalkModel" "place" "I" ∈ G := gT6 9 rfl rfl
theorem g_1211 : Jvm.Cond.lays "RainWalkModel" "RainWalkModel" "sign" "I" ∈ G := gT6 11 rfl rfl
theorem g_1213 : Jvm.Cond.lays "RainWalkModel" "RainWalkModel" "number" "I" ∈ G := gT6 13 rfl rfl
theorem g_1215 : Jvm.Cond.lays "RainWalkModel" "RainWalkModel" "fault" "I" ∈ G := gT6 15 rfl rfl
theorem g_1217 : Jvm.Cond.lays "RainWalkModel" "RainWalkModel" "wrongAt" "I" ∈ G := gT6 17 rfl rfl
theorem g_1219 : Jvm.Cond.lays "RainWalkModel" "RainWalkModel" "word" "J" ∈ G := gT6 19 rfl rfl
theorem g_1221 : Jvm.Cond.laysFinal "RainWalkModel" "RainWalkModel" "least" "[J" ∈ G := gT6 21 rfl rfl
theorem g_1223 : Jvm.Cond.laysFinal "RainWalkModel" "RainWalkModel" "arrives" "[I" ∈ G := gT6 23 rfl rfl
theorem g_1225 : Jvm.Cond.laysFinal "RainWalkModel" "RainWalkModel" "stepBy" "[I" ∈ G := gT6 25 rfl rfl
theorem g_1227 : Jvm.Cond.lays "RainWalkModel" "RainWalkModel" "who" "I" ∈ G := gT6 27 rfl rfl
theorem g_1229 : Jvm.Cond.lays "RainWalkModel" "RainWalkModel" "rains" "I" ∈ G := gT6 29 rfl rfl
theorem g_1231 : Jvm.Cond.laysFinal "RainWalkModel" "RainWalkModel" "d" "[J" ∈ G := gT6 31 rfl rfl
theorem g_1233 : Jvm.Cond.laysFinal "RainWalkModel" "RainWalkModel" "past" "[J" ∈ G := gT6 33 rfl rfl
theorem g_1235 : Jvm.Cond.laysFinal "RainWalkModel" "RainWalkModel" "kept" "[J" ∈ G := gT6 35 rfl rfl
theorem g_1237 : Jvm.Cond.lays "RainWalkModel" "RainWalkModel" "acts" "I" ∈ G := gT6 37 rfl rfl
theorem g_1239 : Jvm.Cond.lays "RainWalkModel" "RainWalkModel" "marks" "I" ∈ G := gT6 39 rfl rfl
theorem g_1242 : Jvm.Cond.methodLink "RainWalkLaw" (23 : Nat) ({ cls := "RainWalkModel", name := "feed", desc := "(IIIII)I" } : Jvm.MethodName) ∈ G := gT6 42 rfl rfl
theorem g_1243 : Jvm.Cond.instanceMethod ({ cls := "RainWalkModel", name := "feed", desc := "(IIIII)I" } : Jvm.MethodName) ∈ G := gT6 43 rfl rfl
theorem g_1244 : Jvm.Cond.selects "RainWalkModel" ({ cls := "RainWalkModel", name := "feed", desc := "(IIIII)I" } : Jvm.MethodName) ({ cls := "RainWalkModel", name := "feed", desc := "(IIIII)I" } : Jvm.MethodName) ∈ G := gT6 44 rfl rfl
theorem g_1245 : Jvm.Cond.code ({ cls := "RainWalkModel", name := "feed", desc := "(IIIII)I" } : Jvm.MethodName) prog_12_method_36_code (8 : Nat) (Option.some Jvm.ClassFile.FieldType.int) ∈ G := gT6 45 rfl rfl
theorem g_1246 : Jvm.Cond.methodLink "RainWalkLaw" (27 : Nat) ({ cls := "RainWalkModel", name := "world", desc := "(I)I" } : Jvm.MethodName) ∈ G := gT6 46 rfl rfl
theorem g_1247 : Jvm.Cond.instanceMethod ({ cls := "RainWalkModel", name := "world", desc := "(I)I" } : Jvm.MethodName) ∈ G := gT6 47 rfl rfl
theorem g_1248 : Jvm.Cond.selects "RainWalkModel" ({ cls := "RainWalkModel", name := "world", desc := "(I)I" } : Jvm.MethodName) ({ cls := "RainWalkModel", name := "world", desc := "(I)I" } : Jvm.MethodName) ∈ G := gT6 48 rfl rfl
theorem g_1249 : Jvm.Cond.code ({ cls := "RainWalkModel", name := "world", desc := "(I)I" } : Jvm.MethodName) prog_12_method_37_code (2 : Nat) (Option.some Jvm.ClassFile.FieldType.int) ∈ G := gT6 49 rfl rfl
theorem g_1250 : Jvm.Cond.methodLink "RainWalkModel" (46 : Nat) ({ cls := "RainWalkModel", name := "refused", desc := "(I)I" } : Jvm.MethodName) ∈ G := gT6 50 rfl rfl
theorem g_1252 : Jvm.Cond.instanceMethod ({ cls := "RainWalkModel", name := "refused", desc := "(I)I" } : Jvm.MethodName) ∈ G := gT6 52 rfl rfl
theorem g_1253 : Jvm.Cond.code ({ cls := "RainWalkModel", name := "refused", desc := "(I)I" } : Jvm.MethodName) prog_12_method_3_code (2 : Nat) (Option.some Jvm.ClassFile.FieldType.int) ∈ G := gT6 53 rfl rfl
theorem g_1254 : Jvm.Cond.classLink "RainWalkModel" (152 : Nat) "RainWalkModel$World" ∈ G := gT6 54 rfl rfl
theorem g_1255 : Jvm.Cond.instantiable "RainWalkModel$World" (31 : Nat) ∈ G := gT6 55 rfl rfl
theorem g_1257 : Jvm.Cond.instanceMethod ({ cls := "RainWalkModel$World", name := "<init>", desc := "()V" } : Jvm.MethodName) ∈ G := gT6 57 rfl rfl
theorem g_1258 : Jvm.Cond.code ({ cls := "RainWalkModel$World", name := "<init>", desc := "()V" } : Jvm.MethodName) prog_13_method_1_code (1 : Nat) (Option.none : Option Jvm.ClassFile.FieldType) ∈ G := gT6 58 rfl rfl
theorem g_1259 : Jvm.Cond.methodLink "RainWalkModel$World" (3 : Nat) ({ cls := "java/lang/Object", name := "<init>", desc := "()V" } : Jvm.MethodName) ∈ G := gT6 59 rfl rfl
theorem g_1266 : Jvm.Cond.fieldLink "RainWalkModel$World" (86 : Nat) "RainWalkModel$World" "names" "I" ∈ G := gT6 66 rfl rfl
theorem g_1268 : Jvm.Cond.fieldLink "RainWalkModel$World" (9 : Nat) "RainWalkModel$World" "drops" "[I" ∈ G := gT6 68 rfl rfl
theorem g_1270 : Jvm.Cond.fieldLink "RainWalkModel$World" (15 : Nat) "RainWalkModel$World" "down" "[I" ∈ G := gT6 70 rfl rfl
theorem g_1272 : Jvm.Cond.fieldLink "RainWalkModel$World" (18 : Nat) "RainWalkModel$World" "windSide" "[I" ∈ G := gT6 72 rfl rfl
theorem g_1274 : Jvm.Cond.fieldLink "RainWalkModel$World" (21 : Nat) "RainWalkModel$World" "wind" "[I" ∈ G := gT6 74 rfl rfl
theorem g_1276 : Jvm.Cond.fieldLink "RainWalkModel$World" (24 : Nat) "RainWalkModel$World" "chance" "[I" ∈ G := gT6 76 rfl rfl
theorem g_1278 : Jvm.Cond.fieldLink "RainWalkModel$World" (27 : Nat) "RainWalkModel$World" "tree" "[I" ∈ G := gT6 78 rfl rfl
theorem g_1280 : Jvm.Cond.fieldLink "RainWalkModel$World" (30 : Nat) "RainWalkModel$World" "roadFrom" "[I" ∈ G := gT6 80 rfl rfl
theorem g_1282 : Jvm.Cond.fieldLink "RainWalkModel$World" (33 : Nat) "RainWalkModel$World" "roadTo" "[I" ∈ G := gT6 82 rfl rfl
theorem g_1284 : Jvm.Cond.fieldLink "RainWalkModel$World" (36 : Nat) "RainWalkModel$World" "roadSide" "[I" ∈ G := gT6 84 rfl rfl
theorem g_1286 : Jvm.Cond.fieldLink "RainWalkModel$World" (39 : Nat) "RainWalkModel$World" "roadLong" "[I" ∈ G := gT6 86 rfl rfl
theorem g_1288 : Jvm.Cond.fieldLink "RainWalkModel$World" (42 : Nat) "RainWalkModel$World" "awning" "[I" ∈ G := gT6 88 rfl rfl
theorem g_1290 : Jvm.Cond.fieldLink "RainWalkModel$World" (45 : Nat) "RainWalkModel$World" "isInn" "[Z" ∈ G := gT6 90 rfl rfl
theorem g_1292 : Jvm.Cond.fieldLink "RainWalkModel$World" (49 : Nat) "RainWalkModel$World" "kind" "[I" ∈ G := gT6 92 rfl rfl
theorem g_1294 : Jvm.Cond.fieldLink "RainWalkModel$World" (52 : Nat) "RainWalkModel$World" "much" "[I" ∈ G := gT6 94 rfl rfl
theorem g_1296 : Jvm.Cond.fieldLink "RainWalkModel$World" (55 : Nat) "RainWalkModel$World" "top" "[I" ∈ G := gT6 96 rfl rfl
theorem g_1298 : Jvm.Cond.fieldLink "RainWalkModel$World" (58 : Nat) "RainWalkModel$World" "front" "[I" ∈ G := gT6 98 rfl rfl
theorem g_1300 : Jvm.Cond.fieldLink "RainWalkModel$World" (61 : Nat) "RainWalkModel$World" "side" "[I" ∈ G := gT6 100 rfl rfl
theorem g_1302 : Jvm.Cond.fieldLink "RainWalkModel$World" (64 : Nat) "RainWalkModel$World" "slowest" "[I" ∈ G := gT6 102 rfl rfl
theorem g_1304 : Jvm.Cond.fieldLink "RainWalkModel$World" (67 : Nat) "RainWalkModel$World" "fastest" "[I" ∈ G := gT6 104 rfl rfl
theorem g_1306 : Jvm.Cond.fieldLink "RainWalkModel$World" (70 : Nat) "RainWalkModel$World" "seenWho" "[I" ∈ G := gT6 106 rfl rfl
theorem g_1308 : Jvm.Cond.fieldLink "RainWalkModel$World" (73 : Nat) "RainWalkModel$World" "seen" "[I" ∈ G := gT6 108 rfl rfl
theorem g_1310 : Jvm.Cond.fieldLink "RainWalkModel$World" (76 : Nat) "RainWalkModel$World" "name" "[J" ∈ G := gT6 110 rfl rfl
theorem g_1312 : Jvm.Cond.fieldLink "RainWalkModel$World" (80 : Nat) "RainWalkModel$World" "nameSort" "[I" ∈ G := gT6 112 rfl rfl
theorem g_1314 : Jvm.Cond.fieldLink "RainWalkModel$World" (83 : Nat) "RainWalkModel$World" "nameNumber" "[I" ∈ G := gT6 114 rfl rfl
theorem g_1316 : Jvm.Cond.lays "RainWalkModel$World" "RainWalkModel$World" "hour" "I" ∈ G := gT6 116 rfl rfl
theorem g_1318 : Jvm.Cond.lays "RainWalkModel$World" "RainWalkModel$World" "hours" "I" ∈ G := gT6 118 rfl rfl
theorem g_1320 : Jvm.Cond.lays "RainWalkModel$World" "RainWalkModel$World" "places" "I" ∈ G := gT6 120 rfl rfl
theorem g_1322 : Jvm.Cond.lays "RainWalkModel$World" "RainWalkModel$World" "roads" "I" ∈ G := gT6 122 rfl rfl
theorem g_1324 : Jvm.Cond.lays "RainWalkModel$World" "RainWalkModel$World" "walkers" "I" ∈ G := gT6 124 rfl rfl
theorem g_1326 : Jvm.Cond.lays "RainWalkModel$World" "RainWalkModel$World" "seens" "I" ∈ G := gT6 126 rfl rfl
theorem g_1328 : Jvm.Cond.lays "RainWalkModel$World" "RainWalkModel$World" "names" "I" ∈ G := gT6 128 rfl rfl
theorem g_1330 : Jvm.Cond.laysFinal "RainWalkModel$World" "RainWalkModel$World" "drops" "[I" ∈ G := gT6 130 rfl rfl
theorem g_1332 : Jvm.Cond.laysFinal "RainWalkModel$World" "RainWalkModel$World" "down" "[I" ∈ G := gT6 132 rfl rfl
theorem g_1334 : Jvm.Cond.laysFinal "RainWalkModel$World" "RainWalkModel$World" "windSide" "[I" ∈ G := gT6 134 rfl rfl
theorem g_1336 : Jvm.Cond.laysFinal "RainWalkModel$World" "RainWalkModel$World" "wind" "[I" ∈ G := gT6 136 rfl rfl
theorem g_1338 : Jvm.Cond.laysFinal "RainWalkModel$World" "RainWalkModel$World" "chance" "[I" ∈ G := gT6 138 rfl rfl
theorem g_1340 : Jvm.Cond.laysFinal "RainWalkModel$World" "RainWalkModel$World" "tree" "[I" ∈ G := gT6 140 rfl rfl
theorem g_1342 : Jvm.Cond.laysFinal "RainWalkModel$World" "RainWalkModel$World" "roadFrom" "[I" ∈ G := gT6 142 rfl rfl
theorem g_1344 : Jvm.Cond.laysFinal "RainWalkModel$World" "RainWalkModel$World" "roadTo" "[I" ∈ G := gT6 144 rfl rfl
theorem g_1346 : Jvm.Cond.laysFinal "RainWalkModel$World" "RainWalkModel$World" "roadSide" "[I" ∈ G := gT6 146 rfl rfl
theorem g_1348 : Jvm.Cond.laysFinal "RainWalkModel$World" "RainWalkModel$World" "roadLong" "[I" ∈ G := gT6 148 rfl rfl
theorem g_1350 : Jvm.Cond.laysFinal "RainWalkModel$World" "RainWalkModel$World" "awning" "[I" ∈ G := gT6 150 rfl rfl
theorem g_1352 : Jvm.Cond.laysFinal "RainWalkModel$World" "RainWalkModel$World" "isInn" "[Z" ∈ G := gT6 152 rfl rfl
theorem g_1354 : Jvm.Cond.laysFinal "RainWalkModel$World" "RainWalkModel$World" "kind" "[I" ∈ G := gT6 154 rfl rfl
theorem g_1356 : Jvm.Cond.laysFinal "RainWalkModel$World" "RainWalkModel$World" "much" "[I" ∈ G := gT6 156 rfl rfl
theorem g_1358 : Jvm.Cond.laysFinal "RainWalkModel$World" "RainWalkModel$World" "top" "[I" ∈ G := gT6 158 rfl rfl
theorem g_1360 : Jvm.Cond.laysFinal "RainWalkModel$World" "RainWalkModel$World" "front" "[I" ∈ G := gT6 160 rfl rfl
theorem g_1362 : Jvm.Cond.laysFinal "RainWalkModel$World" "RainWalkModel$World" "side" "[I" ∈ G := gT6 162 rfl rfl
theorem g_1364 : Jvm.Cond.laysFinal "RainWalkModel$World" "RainWalkModel$World" "slowest" "[I" ∈ G := gT6 164 rfl rfl
theorem g_1366 : Jvm.Cond.laysFinal "RainWalkModel$World" "RainWalkModel$World" "fastest" "[I" ∈ G := gT6 166 rfl rfl
theorem g_1368 : Jvm.Cond.laysFinal "RainWalkModel$World" "RainWalkModel$World" "seenWho" "[I" ∈ G := gT6 168 rfl rfl
theorem g_1370 : Jvm.Cond.laysFinal "RainWalkModel$World" "RainWalkModel$World" "seen" "[I" ∈ G := gT6 170 rfl rfl
theorem g_1372 : Jvm.Cond.laysFinal "RainWalkModel$World" "RainWalkModel$World" "name" "[J" ∈ G := gT6 172 rfl rfl
theorem g_1374 : Jvm.Cond.laysFinal "RainWalkModel$World" "RainWalkModel$World" "nameSort" "[I" ∈ G := gT6 174 rfl rfl
theorem g_1376 : Jvm.Cond.laysFinal "RainWalkModel$World" "RainWalkModel$World" "nameNumber" "[I" ∈ G := gT6 176 rfl rfl
theorem g_1379 : Jvm.Cond.arrayClass Jvm.ClassFile.FieldType.boolean ∈ G := gT6 179 rfl rfl
theorem g_1380 : Jvm.Cond.methodLink "RainWalkModel" (111 : Nat) ({ cls := "RainWalkModel", name := "goesOn", desc := "()V" } : Jvm.MethodName) ∈ G := gT6 180 rfl rfl
theorem g_1382 : Jvm.Cond.instanceMethod ({ cls := "RainWalkModel", name := "goesOn", desc := "()V" } : Jvm.MethodName) ∈ G := gT6 182 rfl rfl
theorem g_1383 : Jvm.Cond.code ({ cls := "RainWalkModel", name := "goesOn", desc := "()V" } : Jvm.MethodName) prog_12_method_14_code (3 : Nat) (Option.none : Option Jvm.ClassFile.FieldType) ∈ G := gT6 183 rfl rfl
theorem g_1384 : Jvm.Cond.methodLink "RainWalkModel" (74 : Nat) ({ cls := "RainWalkModel", name := "byteAt", desc := "(I)I" } : Jvm.MethodName) ∈ G := gT6 184 rfl rfl
theorem g_1386 : Jvm.Cond.instanceMethod ({ cls := "RainWalkModel", name := "byteAt", desc := "(I)I" } : Jvm.MethodName) ∈ G := gT6 186 rfl rfl
theorem g_1387 : Jvm.Cond.code ({ cls := "RainWalkModel", name := "byteAt", desc := "(I)I" } : Jvm.MethodName) prog_12_method_10_code (2 : Nat) (Option.some Jvm.ClassFile.FieldType.int) ∈ G := gT6 187 rfl rfl
theorem g_1388 : Jvm.Cond.methodLink "RainWalkModel" (83 : Nat) ({ cls := "RainWalkModel", name := "isLetter", desc := "(I)Z" } : Jvm.MethodName) ∈ G := gT6 188 rfl rfl
theorem g_1389 : Jvm.Cond.static ({ cls := "RainWalkModel", name := "isLetter", desc := "(I)Z" } : Jvm.MethodName) ∈ G := gT6 189 rfl rfl
theorem g_1390 : Jvm.Cond.code ({ cls := "RainWalkModel", name := "isLetter", desc := "(I)Z" } : Jvm.MethodName) prog_12_method_11_code (1 : Nat) (Option.some Jvm.ClassFile.FieldType.boolean) ∈ G := gT6 190 rfl rfl
theorem g_1391 : Jvm.Cond.constantLong "RainWalkModel" (62 : Nat) (32 : Int64) ∈ G := gT6 191 rfl rfl
theorem g_1392 : Jvm.Cond.methodLink "RainWalkModel" (91 : Nat) ({ cls := "RainWalkModel", name := "isDigit", desc := "(I)Z" } : Jvm.MethodName) ∈ G := gT6 192 rfl rfl
theorem g_1393 : Jvm.Cond.static ({ cls := "RainWalkModel", name := "isDigit", desc := "(I)Z" } : Jvm.MethodName) ∈ G := gT6 193 rfl rfl
theorem g_1394 : Jvm.Cond.code ({ cls := "RainWalkModel", name := "isDigit", desc := "(I)Z" } : Jvm.MethodName) prog_12_method_12_code (1 : Nat) (Option.some Jvm.ClassFile.FieldType.boolean) ∈ G := gT6 194 rfl rfl
theorem g_1395 : Jvm.Cond.methodLink "RainWalkModel" (335 : Nat) ({ cls := "RainWalkModel", name := "readAll", desc := "()V" } : Jvm.MethodName) ∈ G := gT6 195 rfl rfl
theorem g_1397 : Jvm.Cond.instanceMethod ({ cls := "RainWalkModel", name := "readAll", desc := "()V" } : Jvm.MethodName) ∈ G := gT6 197 rfl rfl
theorem g_1398 : Jvm.Cond.code ({ cls := "RainWalkModel", name := "readAll", desc := "()V" } : Jvm.MethodName) prog_12_method_28_code (2 : Nat) (Option.none : Option Jvm.ClassFile.FieldType) ∈ G := gT6 198 rfl rfl
theorem g_1399 : Jvm.Cond.methodLink "RainWalkModel" (184 : Nat) ({ cls := "RainWalkModel", name := "readLine", desc := "()V" } : Jvm.MethodName) ∈ G := gT6 199 rfl rfl
theorem g_1401 : Jvm.Cond.instanceMethod ({ cls := "RainWalkModel", name := "readLine", desc := "()V" } : Jvm.MethodName) ∈ G := gT6 201 rfl rfl
theorem g_1402 : Jvm.Cond.code ({ cls := "RainWalkModel", name := "readLine", desc := "()V" } : Jvm.MethodName) prog_12_method_29_code (1 : Nat) (Option.none : Option Jvm.ClassFile.FieldType) ∈ G := gT6 202 rfl rfl
theorem g_1404 : Jvm.Cond.methodLink "RainWalkModel" (107 : Nat) ({ cls := "RainWalkModel", name := "isWord", desc := "(Ljava/lang/String;)Z" } : Jvm.MethodName) ∈ G := gT6 204 rfl rfl
theorem g_1406 : Jvm.Cond.instanceMethod ({ cls := "RainWalkModel", name := "isWord", desc := "(Ljava/lang/String;)Z" } : Jvm.MethodName) ∈ G := gT6 206 rfl rfl
theorem g_1407 : Jvm.Cond.code ({ cls := "RainWalkModel", name := "isWord", desc := "(Ljava/lang/String;)Z" } : Jvm.MethodName) prog_12_method_16_code (2 : Nat) (Option.some Jvm.ClassFile.FieldType.boolean) ∈ G := gT6 207 rfl rfl
theorem g_1408 : Jvm.Cond.methodLink "RainWalkModel" (103 : Nat) ({ cls := "RainWalkModel", name := "wordOf", desc := "(Ljava/lang/String;)J" } : Jvm.MethodName) ∈ G := gT6 208 rfl rfl
theorem g_1409 : Jvm.Cond.static ({ cls := "RainWalkModel", name := "wordOf", desc := "(Ljava/lang/String;)J" } : Jvm.MethodName) ∈ G := gT6 209 rfl rfl
theorem g_1410 : Jvm.Cond.code ({ cls := "RainWalkModel", name := "wordOf", desc := "(Ljava/lang/String;)J" } : Jvm.MethodName) prog_12_method_13_code (4 : Nat) (Option.some Jvm.ClassFile.FieldType.long) ∈ G := gT6 210 rfl rfl
theorem g_1411 : Jvm.Cond.methodLink "RainWalkModel" (56 : Nat) ({ cls := "java/lang/String", name := "length", desc := "()I" } : Jvm.MethodName) ∈ G := gT6 211 rfl rfl
theorem g_1412 : Jvm.Cond.methodLink "RainWalkModel" (64 : Nat) ({ cls := "java/lang/String", name := "charAt", desc := "(I)C" } : Jvm.MethodName) ∈ G := gT6 212 rfl rfl
theorem g_1413 : Jvm.Cond.methodLink "RainWalkModel" (196 : Nat) ({ cls := "RainWalkModel", name := "readWorld", desc := "()V" } : Jvm.MethodName) ∈ G := gT6 213 rfl rfl
theorem g_1415 : Jvm.Cond.instanceMethod ({ cls := "RainWalkModel", name := "readWorld", desc := "()V" } : Jvm.MethodName) ∈ G := gT6 215 rfl rfl
theorem g_1416 : Jvm.Cond.code ({ cls := "RainWalkModel", name := "readWorld", desc := "()V" } : Jvm.MethodName) prog_12_method_30_code (2 : Nat) (Option.none : Option Jvm.ClassFile.FieldType) ∈ G := gT6 216 rfl rfl
theorem g_1417 : Jvm.Cond.methodLink "RainWalkModel" (114 : Nat) ({ cls := "RainWalkModel", name := "flaw", desc := "(I)V" } : Jvm.MethodName) ∈ G := gT6 217 rfl rfl
theorem g_1419 : Jvm.Cond.instanceMethod ({ cls := "RainWalkModel", name := "flaw", desc := "(I)V" } : Jvm.MethodName) ∈ G := gT6 219 rfl rfl
theorem g_1420 : Jvm.Cond.code ({ cls := "RainWalkModel", name := "flaw", desc := "(I)V" } : Jvm.MethodName) prog_12_method_15_code (2 : Nat) (Option.none : Option Jvm.ClassFile.FieldType) ∈ G := gT6 220 rfl rfl
theorem g_1422 : Jvm.Cond.methodLink "RainWalkModel" (215 : Nat) ({ cls := "RainWalkModel", name := "readPart", desc := "(Ljava/lang/String;II)I" } : Jvm.MethodName) ∈ G := gT6 222 rfl rfl
theorem g_1424 : Jvm.Cond.instanceMethod ({ cls := "RainWalkModel", name := "readPart", desc := "(Ljava/lang/String;II)I" } : Jvm.MethodName) ∈ G := gT6 224 rfl rfl
theorem g_1425 : Jvm.Cond.code ({ cls := "RainWalkModel", name := "readPart", desc := "(Ljava/lang/String;II)I" } : Jvm.MethodName) prog_12_method_21_code (4 : Nat) (Option.some Jvm.ClassFile.FieldType.int) ∈ G := gT6 225 rfl rfl
theorem g_1426 : Jvm.Cond.methodLink "RainWalkModel" (122 : Nat) ({ cls := "RainWalkModel", name := "needs", desc := "(Ljava/lang/String;)V" } : Jvm.MethodName) ∈ G := gT6 226 rfl rfl
theorem g_1428 : Jvm.Cond.instanceMethod ({ cls := "RainWalkModel", name := "needs", desc := "(Ljava/lang/String;)V" } : Jvm.MethodName) ∈ G := gT6 228 rfl rfl
theorem g_1429 : Jvm.Cond.code ({ cls := "RainWalkModel", name := "needs", desc := "(Ljava/lang/String;)V" } : Jvm.MethodName) prog_12_method_19_code (2 : Nat) (Option.none : Option Jvm.ClassFile.FieldType) ∈ G := gT6 229 rfl rfl
theorem g_1430 : Jvm.Cond.methodLink "RainWalkModel" (126 : Nat) ({ cls := "RainWalkModel", name := "readWhole", desc := "(II)I" } : Jvm.MethodName) ∈ G := gT6 230 rfl rfl
theorem g_1432 : Jvm.Cond.instanceMethod ({ cls := "RainWalkModel", name := "readWhole", desc := "(II)I" } : Jvm.MethodName) ∈ G := gT6 232 rfl rfl
theorem g_1433 : Jvm.Cond.code ({ cls := "RainWalkModel", name := "readWhole", desc := "(II)I" } : Jvm.MethodName) prog_12_method_20_code (4 : Nat) (Option.some Jvm.ClassFile.FieldType.int) ∈ G := gT6 233 rfl rfl
theorem g_1434 : Jvm.Cond.methodLink "RainWalkModel" (118 : Nat) ({ cls := "RainWalkModel", name := "in", desc := "(III)Z" } : Jvm.MethodName) ∈ G := gT6 234 rfl rfl
theorem g_1435 : Jvm.Cond.static ({ cls := "RainWalkModel", name := "in", desc := "(III)Z" } : Jvm.MethodName) ∈ G := gT6 235 rfl rfl
theorem g_1436 : Jvm.Cond.code ({ cls := "RainWalkModel", name := "in", desc := "(III)Z" } : Jvm.MethodName) prog_12_method_8_code (3 : Nat) (Option.some Jvm.ClassFile.FieldType.boolean) ∈ G := gT6 236 rfl rfl
theorem g_1438 : Jvm.Cond.methodLink "RainWalkModel" (199 : Nat) ({ cls := "RainWalkModel", name := "readRain", desc := "()V" } : Jvm.MethodName) ∈ G := gT6 238 rfl rfl
theorem g_1440 : Jvm.Cond.instanceMethod ({ cls := "RainWalkModel", name := "readRain", desc := "()V" } : Jvm.MethodName) ∈ G := gT7 0 rfl rfl
theorem g_1441 : Jvm.Cond.code ({ cls := "RainWalkModel", name := "readRain", desc := "()V" } : Jvm.MethodName) prog_12_method_31_code (6 : Nat) (Option.none : Option Jvm.ClassFile.FieldType) ∈ G := gT7 1 rfl rfl
theorem g_1442 : Jvm.Cond.methodLink "RainWalkModel" (222 : Nat) ({ cls := "RainWalkModel", name := "begins", desc := "(II)V" } : Jvm.MethodName) ∈ G := gT7 2 rfl rfl
theorem g_1444 : Jvm.Cond.instanceMethod ({ cls := "RainWalkModel", name := "begins", desc := "(II)V" } : Jvm.MethodName) ∈ G := gT7 4 rfl rfl
theorem g_1445 : Jvm.Cond.code ({ cls := "RainWalkModel", name := "begins", desc := "(II)V" } : Jvm.MethodName) prog_12_method_23_code (3 : Nat) (Option.none : Option Jvm.ClassFile.FieldType) ∈ G := gT7 5 rfl rfl
theorem g_1449 : Jvm.Cond.methodLink "RainWalkModel" (232 : Nat) ({ cls := "RainWalkModel", name := "readSide", desc := "()I" } : Jvm.MethodName) ∈ G := gT7 9 rfl rfl
theorem g_1451 : Jvm.Cond.instanceMethod ({ cls := "RainWalkModel", name := "readSide", desc := "()I" } : Jvm.MethodName) ∈ G := gT7 11 rfl rfl
theorem g_1452 : Jvm.Cond.code ({ cls := "RainWalkModel", name := "readSide", desc := "()I" } : Jvm.MethodName) prog_12_method_27_code (2 : Nat) (Option.some Jvm.ClassFile.FieldType.int) ∈ G := gT7 12 rfl rfl
theorem g_1459 : Jvm.Cond.methodLink "RainWalkModel" (202 : Nat) ({ cls := "RainWalkModel", name := "readPlace", desc := "()V" } : Jvm.MethodName) ∈ G := gT7 19 rfl rfl
theorem g_1461 : Jvm.Cond.instanceMethod ({ cls := "RainWalkModel", name := "readPlace", desc := "()V" } : Jvm.MethodName) ∈ G := gT7 21 rfl rfl
theorem g_1462 : Jvm.Cond.code ({ cls := "RainWalkModel", name := "readPlace", desc := "()V" } : Jvm.MethodName) prog_12_method_32_code (5 : Nat) (Option.none : Option Jvm.ClassFile.FieldType) ∈ G := gT7 22 rfl rfl
theorem g_1463 : Jvm.Cond.methodLink "RainWalkModel" (248 : Nat) ({ cls := "RainWalkModel", name := "readFresh", desc := "()J" } : Jvm.MethodName) ∈ G := gT7 23 rfl rfl
theorem g_1465 : Jvm.Cond.instanceMethod ({ cls := "RainWalkModel", name := "readFresh", desc := "()J" } : Jvm.MethodName) ∈ G := gT7 25 rfl rfl
theorem g_1466 : Jvm.Cond.code ({ cls := "RainWalkModel", name := "readFresh", desc := "()J" } : Jvm.MethodName) prog_12_method_24_code (3 : Nat) (Option.some Jvm.ClassFile.FieldType.long) ∈ G := gT7 26 rfl rfl
theorem g_1467 : Jvm.Cond.methodLink "RainWalkModel" (156 : Nat) ({ cls := "RainWalkModel", name := "isName", desc := "()Z" } : Jvm.MethodName) ∈ G := gT7 27 rfl rfl
theorem g_1469 : Jvm.Cond.instanceMethod ({ cls := "RainWalkModel", name := "isName", desc := "()Z" } : Jvm.MethodName) ∈ G := gT7 29 rfl rfl
theorem g_1470 : Jvm.Cond.code ({ cls := "RainWalkModel", name := "isName", desc := "()Z" } : Jvm.MethodName) prog_12_method_22_code (1 : Nat) (Option.some Jvm.ClassFile.FieldType.boolean) ∈ G := gT7 30 rfl rfl
theorem g_1477 : Jvm.Cond.methodLink "RainWalkModel" (160 : Nat) ({ cls := "RainWalkModel$World", name := "find", desc := "(J)I" } : Jvm.MethodName) ∈ G := gT7 37 rfl rfl
theorem g_1478 : Jvm.Cond.instanceMethod ({ cls := "RainWalkModel$World", name := "find", desc := "(J)I" } : Jvm.MethodName) ∈ G := gT7 38 rfl rfl
theorem g_1479 : Jvm.Cond.selects "RainWalkModel$World" ({ cls := "RainWalkModel$World", name := "find", desc := "(J)I" } : Jvm.MethodName) ({ cls := "RainWalkModel$World", name := "find", desc := "(J)I" } : Jvm.MethodName) ∈ G := gT7 39 rfl rfl
theorem g_1480 : Jvm.Cond.code ({ cls := "RainWalkModel$World", name := "find", desc := "(J)I" } : Jvm.MethodName) prog_13_method_2_code (4 : Nat) (Option.some Jvm.ClassFile.FieldType.int) ∈ G := gT7 40 rfl rfl
theorem g_1481 : Jvm.Cond.methodLink "RainWalkModel" (252 : Nat) ({ cls := "RainWalkModel", name := "eatsWord", desc := "(Ljava/lang/String;)Z" } : Jvm.MethodName) ∈ G := gT7 41 rfl rfl
theorem g_1483 : Jvm.Cond.instanceMethod ({ cls := "RainWalkModel", name := "eatsWord", desc := "(Ljava/lang/String;)Z" } : Jvm.MethodName) ∈ G := gT7 43 rfl rfl
theorem g_1484 : Jvm.Cond.code ({ cls := "RainWalkModel", name := "eatsWord", desc := "(Ljava/lang/String;)Z" } : Jvm.MethodName) prog_12_method_17_code (3 : Nat) (Option.some Jvm.ClassFile.FieldType.boolean) ∈ G := gT7 44 rfl rfl
theorem g_1485 : Jvm.Cond.methodLink "RainWalkModel" (255 : Nat) ({ cls := "RainWalkModel", name := "names", desc := "(JII)V" } : Jvm.MethodName) ∈ G := gT7 45 rfl rfl
theorem g_1487 : Jvm.Cond.instanceMethod ({ cls := "RainWalkModel", name := "names", desc := "(JII)V" } : Jvm.MethodName) ∈ G := gT7 47 rfl rfl
theorem g_1488 : Jvm.Cond.code ({ cls := "RainWalkModel", name := "names", desc := "(JII)V" } : Jvm.MethodName) prog_12_method_25_code (5 : Nat) (Option.none : Option Jvm.ClassFile.FieldType) ∈ G := gT7 48 rfl rfl
theorem g_1489 : Jvm.Cond.methodLink "RainWalkModel" (205 : Nat) ({ cls := "RainWalkModel", name := "readRoad", desc := "()V" } : Jvm.MethodName) ∈ G := gT7 49 rfl rfl
theorem g_1491 : Jvm.Cond.instanceMethod ({ cls := "RainWalkModel", name := "readRoad", desc := "()V" } : Jvm.MethodName) ∈ G := gT7 51 rfl rfl
theorem g_1492 : Jvm.Cond.code ({ cls := "RainWalkModel", name := "readRoad", desc := "()V" } : Jvm.MethodName) prog_12_method_33_code (7 : Nat) (Option.none : Option Jvm.ClassFile.FieldType) ∈ G := gT7 52 rfl rfl
theorem g_1493 : Jvm.Cond.methodLink "RainWalkModel" (267 : Nat) ({ cls := "RainWalkModel", name := "known", desc := "(I)I" } : Jvm.MethodName) ∈ G := gT7 53 rfl rfl
theorem g_1495 : Jvm.Cond.instanceMethod ({ cls := "RainWalkModel", name := "known", desc := "(I)I" } : Jvm.MethodName) ∈ G := gT7 55 rfl rfl
theorem g_1496 : Jvm.Cond.code ({ cls := "RainWalkModel", name := "known", desc := "(I)I" } : Jvm.MethodName) prog_12_method_26_code (3 : Nat) (Option.some Jvm.ClassFile.FieldType.int) ∈ G := gT7 56 rfl rfl
theorem g_1497 : Jvm.Cond.methodLink "RainWalkModel" (208 : Nat) ({ cls := "RainWalkModel", name := "readWalker", desc := "()V" } : Jvm.MethodName) ∈ G := gT7 57 rfl rfl
theorem g_1499 : Jvm.Cond.instanceMethod ({ cls := "RainWalkModel", name := "readWalker", desc := "()V" } : Jvm.MethodName) ∈ G := gT7 59 rfl rfl
theorem g_1500 : Jvm.Cond.code ({ cls := "RainWalkModel", name := "readWalker", desc := "()V" } : Jvm.MethodName) prog_12_method_34_code (12 : Nat) (Option.none : Option Jvm.ClassFile.FieldType) ∈ G := gT7 60 rfl rfl
theorem g_1510 : Jvm.Cond.methodLink "RainWalkModel" (211 : Nat) ({ cls := "RainWalkModel", name := "readSeen", desc := "()V" } : Jvm.MethodName) ∈ G := gT7 70 rfl rfl
theorem g_1512 : Jvm.Cond.instanceMethod ({ cls := "RainWalkModel", name := "readSeen", desc := "()V" } : Jvm.MethodName) ∈ G := gT7 72 rfl rfl
theorem g_1513 : Jvm.Cond.code ({ cls := "RainWalkModel", name := "readSeen", desc := "()V" } : Jvm.MethodName) prog_12_method_35_code (4 : Nat) (Option.none : Option Jvm.ClassFile.FieldType) ∈ G := gT7 73 rfl rfl
theorem g_1514 : Jvm.Cond.methodLink "RainWalkModel" (187 : Nat) ({ cls := "RainWalkModel", name := "eatsSign", desc := "(I)Z" } : Jvm.MethodName) ∈ G := gT7 74 rfl rfl
theorem g_1516 : Jvm.Cond.instanceMethod ({ cls := "RainWalkModel", name := "eatsSign", desc := "(I)Z" } : Jvm.MethodName) ∈ G := gT7 76 rfl rfl
theorem g_1517 : Jvm.Cond.code ({ cls := "RainWalkModel", name := "eatsSign", desc := "(I)Z" } : Jvm.MethodName) prog_12_method_18_code (3 : Nat) (Option.some Jvm.ClassFile.FieldType.boolean) ∈ G := gT7 77 rfl rfl
theorem g_1518 : Jvm.Cond.methodLink "RainWalkModel" (50 : Nat) ({ cls := "RainWalkModel", name := "good", desc := "(I)I" } : Jvm.MethodName) ∈ G := gT7 78 rfl rfl
theorem g_1520 : Jvm.Cond.instanceMethod ({ cls := "RainWalkModel", name := "good", desc := "(I)I" } : Jvm.MethodName) ∈ G := gT7 80 rfl rfl
theorem g_1521 : Jvm.Cond.code ({ cls := "RainWalkModel", name := "good", desc := "(I)I" } : Jvm.MethodName) prog_12_method_6_code (2 : Nat) (Option.some Jvm.ClassFile.FieldType.int) ∈ G := gT7 81 rfl rfl
theorem g_1522 : Jvm.Cond.methodLink "RainWalkLaw" (32 : Nat) ({ cls := "RainWalkModel", name := "fault", desc := "()I" } : Jvm.MethodName) ∈ G := gT7 82 rfl rfl
theorem g_1523 : Jvm.Cond.instanceMethod ({ cls := "RainWalkModel", name := "fault", desc := "()I" } : Jvm.MethodName) ∈ G := gT7 83 rfl rfl
theorem g_1524 : Jvm.Cond.selects "RainWalkModel" ({ cls := "RainWalkModel", name := "fault", desc := "()I" } : Jvm.MethodName) ({ cls := "RainWalkModel", name := "fault", desc := "()I" } : Jvm.MethodName) ∈ G := gT7 84 rfl rfl
theorem g_1525 : Jvm.Cond.code ({ cls := "RainWalkModel", name := "fault", desc := "()I" } : Jvm.MethodName) prog_12_method_38_code (1 : Nat) (Option.some Jvm.ClassFile.FieldType.int) ∈ G := gT7 85 rfl rfl
theorem g_1526 : Jvm.Cond.methodLink "RainWalkLaw" (36 : Nat) ({ cls := "RainWalkModel", name := "where", desc := "()I" } : Jvm.MethodName) ∈ G := gT7 86 rfl rfl
theorem g_1527 : Jvm.Cond.instanceMethod ({ cls := "RainWalkModel", name := "where", desc := "()I" } : Jvm.MethodName) ∈ G := gT7 87 rfl rfl
theorem g_1528 : Jvm.Cond.selects "RainWalkModel" ({ cls := "RainWalkModel", name := "where", desc := "()I" } : Jvm.MethodName) ({ cls := "RainWalkModel", name := "where", desc := "()I" } : Jvm.MethodName) ∈ G := gT7 88 rfl rfl
theorem g_1529 : Jvm.Cond.code ({ cls := "RainWalkModel", name := "where", desc := "()I" } : Jvm.MethodName) prog_12_method_39_code (1 : Nat) (Option.some Jvm.ClassFile.FieldType.int) ∈ G := gT7 89 rfl rfl
theorem g_1530 : Jvm.Cond.methodLink "RainWalkLaw" (41 : Nat) ({ cls := "RainWalkModel", name := "face", desc := "(IIIIIIZ)J" } : Jvm.MethodName) ∈ G := gT7 90 rfl rfl
theorem g_1531 : Jvm.Cond.instanceMethod ({ cls := "RainWalkModel", name := "face", desc := "(IIIIIIZ)J" } : Jvm.MethodName) ∈ G := gT7 91 rfl rfl
theorem g_1532 : Jvm.Cond.selects "RainWalkModel" ({ cls := "RainWalkModel", name := "face", desc := "(IIIIIIZ)J" } : Jvm.MethodName) ({ cls := "RainWalkModel", name := "face", desc := "(IIIIIIZ)J" } : Jvm.MethodName) ∈ G := gT7 92 rfl rfl
theorem g_1533 : Jvm.Cond.code ({ cls := "RainWalkModel", name := "face", desc := "(IIIIIIZ)J" } : Jvm.MethodName) prog_12_method_51_code (9 : Nat) (Option.some Jvm.ClassFile.FieldType.long) ∈ G := gT7 93 rfl rfl
theorem g_1534 : Jvm.Cond.methodLink "RainWalkModel" (383 : Nat) ({ cls := "RainWalkModel", name := "refuses", desc := "(IIIII)I" } : Jvm.MethodName) ∈ G := gT7 94 rfl rfl
theorem g_1536 : Jvm.Cond.instanceMethod ({ cls := "RainWalkModel", name := "refuses", desc := "(IIIII)I" } : Jvm.MethodName) ∈ G := gT7 96 rfl rfl
theorem g_1537 : Jvm.Cond.code ({ cls := "RainWalkModel", name := "refuses", desc := "(IIIII)I" } : Jvm.MethodName) prog_12_method_45_code (6 : Nat) (Option.some Jvm.ClassFile.FieldType.int) ∈ G := gT7 97 rfl rfl
theorem g_1538 : Jvm.Cond.methodLink "RainWalkModel" (346 : Nat) ({ cls := "RainWalkModel", name := "isWalker", desc := "(I)Z" } : Jvm.MethodName) ∈ G := gT7 98 rfl rfl
theorem g_1540 : Jvm.Cond.instanceMethod ({ cls := "RainWalkModel", name := "isWalker", desc := "(I)Z" } : Jvm.MethodName) ∈ G := gT7 100 rfl rfl
theorem g_1541 : Jvm.Cond.code ({ cls := "RainWalkModel", name := "isWalker", desc := "(I)Z" } : Jvm.MethodName) prog_12_method_40_code (2 : Nat) (Option.some Jvm.ClassFile.FieldType.boolean) ∈ G := gT7 101 rfl rfl
theorem g_1542 : Jvm.Cond.methodLink "RainWalkModel" (349 : Nat) ({ cls := "RainWalkModel", name := "isRoad", desc := "(I)Z" } : Jvm.MethodName) ∈ G := gT7 102 rfl rfl
theorem g_1544 : Jvm.Cond.instanceMethod ({ cls := "RainWalkModel", name := "isRoad", desc := "(I)Z" } : Jvm.MethodName) ∈ G := gT7 104 rfl rfl
theorem g_1545 : Jvm.Cond.code ({ cls := "RainWalkModel", name := "isRoad", desc := "(I)Z" } : Jvm.MethodName) prog_12_method_41_code (2 : Nat) (Option.some Jvm.ClassFile.FieldType.boolean) ∈ G := gT7 105 rfl rfl
theorem g_1546 : Jvm.Cond.methodLink "RainWalkModel" (352 : Nat) ({ cls := "RainWalkModel", name := "isHour", desc := "(I)Z" } : Jvm.MethodName) ∈ G := gT7 106 rfl rfl
theorem g_1548 : Jvm.Cond.instanceMethod ({ cls := "RainWalkModel", name := "isHour", desc := "(I)Z" } : Jvm.MethodName) ∈ G := gT7 108 rfl rfl
theorem g_1549 : Jvm.Cond.code ({ cls := "RainWalkModel", name := "isHour", desc := "(I)Z" } : Jvm.MethodName) prog_12_method_43_code (2 : Nat) (Option.some Jvm.ClassFile.FieldType.boolean) ∈ G := gT7 109 rfl rfl
theorem g_1550 : Jvm.Cond.methodLink "RainWalkModel" (355 : Nat) ({ cls := "RainWalkModel", name := "isSpeed", desc := "(II)Z" } : Jvm.MethodName) ∈ G := gT7 110 rfl rfl
theorem g_1552 : Jvm.Cond.instanceMethod ({ cls := "RainWalkModel", name := "isSpeed", desc := "(II)Z" } : Jvm.MethodName) ∈ G := gT7 112 rfl rfl
theorem g_1553 : Jvm.Cond.code ({ cls := "RainWalkModel", name := "isSpeed", desc := "(II)Z" } : Jvm.MethodName) prog_12_method_44_code (3 : Nat) (Option.some Jvm.ClassFile.FieldType.boolean) ∈ G := gT7 113 rfl rfl
theorem g_1554 : Jvm.Cond.methodLink "RainWalkModel" (379 : Nat) ({ cls := "RainWalkModel", name := "partsOf", desc := "(IIIIII)J" } : Jvm.MethodName) ∈ G := gT7 114 rfl rfl
theorem g_1556 : Jvm.Cond.instanceMethod ({ cls := "RainWalkModel", name := "partsOf", desc := "(IIIIII)J" } : Jvm.MethodName) ∈ G := gT7 116 rfl rfl
theorem g_1557 : Jvm.Cond.code ({ cls := "RainWalkModel", name := "partsOf", desc := "(IIIIII)J" } : Jvm.MethodName) prog_12_method_49_code (7 : Nat) (Option.some Jvm.ClassFile.FieldType.long) ∈ G := gT7 117 rfl rfl
theorem g_1558 : Jvm.Cond.methodLink "RainWalkModel" (375 : Nat) ({ cls := "RainWalkModel", name := "inTime", desc := "(IIIIIIII)I" } : Jvm.MethodName) ∈ G := gT7 118 rfl rfl
theorem g_1560 : Jvm.Cond.instanceMethod ({ cls := "RainWalkModel", name := "inTime", desc := "(IIIIIIII)I" } : Jvm.MethodName) ∈ G := gT7 120 rfl rfl
theorem g_1561 : Jvm.Cond.code ({ cls := "RainWalkModel", name := "inTime", desc := "(IIIIIIII)I" } : Jvm.MethodName) prog_12_method_48_code (14 : Nat) (Option.some Jvm.ClassFile.FieldType.int) ∈ G := gT7 121 rfl rfl
theorem g_1562 : Jvm.Cond.methodLink "RainWalkModel" (361 : Nat) ({ cls := "RainWalkModel$World", name := "air", desc := "(III)I" } : Jvm.MethodName) ∈ G := gT7 122 rfl rfl
theorem g_1563 : Jvm.Cond.instanceMethod ({ cls := "RainWalkModel$World", name := "air", desc := "(III)I" } : Jvm.MethodName) ∈ G := gT7 123 rfl rfl
theorem g_1564 : Jvm.Cond.selects "RainWalkModel$World" ({ cls := "RainWalkModel$World", name := "air", desc := "(III)I" } : Jvm.MethodName) ({ cls := "RainWalkModel$World", name := "air", desc := "(III)I" } : Jvm.MethodName) ∈ G := gT7 124 rfl rfl
theorem g_1565 : Jvm.Cond.code ({ cls := "RainWalkModel$World", name := "air", desc := "(III)I" } : Jvm.MethodName) prog_13_method_8_code (5 : Nat) (Option.some Jvm.ClassFile.FieldType.int) ∈ G := gT7 125 rfl rfl
theorem g_1566 : Jvm.Cond.methodLink "RainWalkModel$World" (90 : Nat) ({ cls := "RainWalkModel$World", name := "facing", desc := "(II)I" } : Jvm.MethodName) ∈ G := gT7 126 rfl rfl
theorem g_1567 : Jvm.Cond.instanceMethod ({ cls := "RainWalkModel$World", name := "facing", desc := "(II)I" } : Jvm.MethodName) ∈ G := gT7 127 rfl rfl
theorem g_1568 : Jvm.Cond.selects "RainWalkModel$World" ({ cls := "RainWalkModel$World", name := "facing", desc := "(II)I" } : Jvm.MethodName) ({ cls := "RainWalkModel$World", name := "facing", desc := "(II)I" } : Jvm.MethodName) ∈ G := gT7 128 rfl rfl
theorem g_1569 : Jvm.Cond.code ({ cls := "RainWalkModel$World", name := "facing", desc := "(II)I" } : Jvm.MethodName) prog_13_method_6_code (3 : Nat) (Option.some Jvm.ClassFile.FieldType.int) ∈ G := gT7 129 rfl rfl
theorem g_1570 : Jvm.Cond.methodLink "RainWalkModel" (365 : Nat) ({ cls := "RainWalkModel$World", name := "across", desc := "(III)I" } : Jvm.MethodName) ∈ G := gT7 130 rfl rfl
theorem g_1571 : Jvm.Cond.instanceMethod ({ cls := "RainWalkModel$World", name := "across", desc := "(III)I" } : Jvm.MethodName) ∈ G := gT7 131 rfl rfl
theorem g_1572 : Jvm.Cond.selects "RainWalkModel$World" ({ cls := "RainWalkModel$World", name := "across", desc := "(III)I" } : Jvm.MethodName) ({ cls := "RainWalkModel$World", name := "across", desc := "(III)I" } : Jvm.MethodName) ∈ G := gT7 132 rfl rfl
theorem g_1573 : Jvm.Cond.code ({ cls := "RainWalkModel$World", name := "across", desc := "(III)I" } : Jvm.MethodName) prog_13_method_9_code (5 : Nat) (Option.some Jvm.ClassFile.FieldType.int) ∈ G := gT7 133 rfl rfl
theorem g_1574 : Jvm.Cond.methodLink "RainWalkModel" (368 : Nat) ({ cls := "RainWalkModel", name := "isForward", desc := "(IIIII)Z" } : Jvm.MethodName) ∈ G := gT7 134 rfl rfl
theorem g_1576 : Jvm.Cond.instanceMethod ({ cls := "RainWalkModel", name := "isForward", desc := "(IIIII)Z" } : Jvm.MethodName) ∈ G := gT7 136 rfl rfl
theorem g_1577 : Jvm.Cond.code ({ cls := "RainWalkModel", name := "isForward", desc := "(IIIII)Z" } : Jvm.MethodName) prog_12_method_46_code (11 : Nat) (Option.some Jvm.ClassFile.FieldType.boolean) ∈ G := gT7 137 rfl rfl
theorem g_1578 : Jvm.Cond.methodLink "RainWalkModel" (359 : Nat) ({ cls := "RainWalkModel$World", name := "shield", desc := "(I)I" } : Jvm.MethodName) ∈ G := gT7 138 rfl rfl
theorem g_1579 : Jvm.Cond.instanceMethod ({ cls := "RainWalkModel$World", name := "shield", desc := "(I)I" } : Jvm.MethodName) ∈ G := gT7 139 rfl rfl
theorem g_1580 : Jvm.Cond.selects "RainWalkModel$World" ({ cls := "RainWalkModel$World", name := "shield", desc := "(I)I" } : Jvm.MethodName) ({ cls := "RainWalkModel$World", name := "shield", desc := "(I)I" } : Jvm.MethodName) ∈ G := gT7 140 rfl rfl
theorem g_1581 : Jvm.Cond.code ({ cls := "RainWalkModel$World", name := "shield", desc := "(I)I" } : Jvm.MethodName) prog_13_method_3_code (2 : Nat) (Option.some Jvm.ClassFile.FieldType.int) ∈ G := gT7 141 rfl rfl
theorem g_1582 : Jvm.Cond.methodLink "RainWalkModel" (372 : Nat) ({ cls := "RainWalkModel", name := "less", desc := "(II)I" } : Jvm.MethodName) ∈ G := gT7 142 rfl rfl
theorem g_1583 : Jvm.Cond.static ({ cls := "RainWalkModel", name := "less", desc := "(II)I" } : Jvm.MethodName) ∈ G := gT7 143 rfl rfl
theorem g_1584 : Jvm.Cond.code ({ cls := "RainWalkModel", name := "less", desc := "(II)I" } : Jvm.MethodName) prog_12_method_47_code (2 : Nat) (Option.some Jvm.ClassFile.FieldType.int) ∈ G := gT7 144 rfl rfl
theorem g_1585 : Jvm.Cond.constantLong "RainWalkModel" (387 : Nat) (2520 : Int64) ∈ G := gT7 145 rfl rfl
theorem g_1586 : Jvm.Cond.methodLink "RainWalkModel" (389 : Nat) ({ cls := "RainWalkModel", name := "told", desc := "(JJZ)J" } : Jvm.MethodName) ∈ G := gT7 146 rfl rfl
theorem g_1588 : Jvm.Cond.instanceMethod ({ cls := "RainWalkModel", name := "told", desc := "(JJZ)J" } : Jvm.MethodName) ∈ G := gT7 148 rfl rfl
theorem g_1589 : Jvm.Cond.code ({ cls := "RainWalkModel", name := "told", desc := "(JJZ)J" } : Jvm.MethodName) prog_12_method_9_code (12 : Nat) (Option.some Jvm.ClassFile.FieldType.long) ∈ G := gT7 149 rfl rfl
theorem g_1590 : Jvm.Cond.methodLink "RainWalkLaw" (46 : Nat) ({ cls := "RainWalkModel", name := "wet", desc := "(IIIIIZ)J" } : Jvm.MethodName) ∈ G := gT7 150 rfl rfl
theorem g_1591 : Jvm.Cond.instanceMethod ({ cls := "RainWalkModel", name := "wet", desc := "(IIIIIZ)J" } : Jvm.MethodName) ∈ G := gT7 151 rfl rfl
theorem g_1592 : Jvm.Cond.selects "RainWalkModel" ({ cls := "RainWalkModel", name := "wet", desc := "(IIIIIZ)J" } : Jvm.MethodName) ({ cls := "RainWalkModel", name := "wet", desc := "(IIIIIZ)J" } : Jvm.MethodName) ∈ G := gT7 152 rfl rfl
theorem g_1593 : Jvm.Cond.code ({ cls := "RainWalkModel", name := "wet", desc := "(IIIIIZ)J" } : Jvm.MethodName) prog_12_method_52_code (8 : Nat) (Option.some Jvm.ClassFile.FieldType.long) ∈ G := gT7 153 rfl rfl
theorem g_1594 : Jvm.Cond.methodLink "RainWalkModel" (393 : Nat) ({ cls := "RainWalkModel", name := "wetOf", desc := "(IIIII)J" } : Jvm.MethodName) ∈ G := gT7 154 rfl rfl
theorem g_1596 : Jvm.Cond.instanceMethod ({ cls := "RainWalkModel", name := "wetOf", desc := "(IIIII)J" } : Jvm.MethodName) ∈ G := gT7 156 rfl rfl
theorem g_1597 : Jvm.Cond.code ({ cls := "RainWalkModel", name := "wetOf", desc := "(IIIII)J" } : Jvm.MethodName) prog_12_method_50_code (9 : Nat) (Option.some Jvm.ClassFile.FieldType.long) ∈ G := gT7 157 rfl rfl
theorem g_1598 : Jvm.Cond.methodLink "RainWalkLaw" (50 : Nat) ({ cls := "RainWalkModel", name := "mean", desc := "(IIIIIZ)J" } : Jvm.MethodName) ∈ G := gT7 158 rfl rfl
theorem g_1599 : Jvm.Cond.instanceMethod ({ cls := "RainWalkModel", name := "mean", desc := "(IIIIIZ)J" } : Jvm.MethodName) ∈ G := gT7 159 rfl rfl
theorem g_1600 : Jvm.Cond.selects "RainWalkModel" ({ cls := "RainWalkModel", name := "mean", desc := "(IIIIIZ)J" } : Jvm.MethodName) ({ cls := "RainWalkModel", name := "mean", desc := "(IIIIIZ)J" } : Jvm.MethodName) ∈ G := gT7 160 rfl rfl
theorem g_1601 : Jvm.Cond.code ({ cls := "RainWalkModel", name := "mean", desc := "(IIIIIZ)J" } : Jvm.MethodName) prog_12_method_53_code (8 : Nat) (Option.some Jvm.ClassFile.FieldType.long) ∈ G := gT7 161 rfl rfl
theorem g_1602 : Jvm.Cond.constantLong "RainWalkModel" (397 : Nat) (252000 : Int64) ∈ G := gT7 162 rfl rfl
theorem g_1603 : Jvm.Cond.methodLink "RainWalkLaw" (55 : Nat) ({ cls := "RainWalkModel", name := "minutes", desc := "(III)I" } : Jvm.MethodName) ∈ G := gT7 163 rfl rfl
theorem g_1604 : Jvm.Cond.instanceMethod ({ cls := "RainWalkModel", name := "minutes", desc := "(III)I" } : Jvm.MethodName) ∈ G := gT7 164 rfl rfl
theorem g_1605 : Jvm.Cond.selects "RainWalkModel" ({ cls := "RainWalkModel", name := "minutes", desc := "(III)I" } : Jvm.MethodName) ({ cls := "RainWalkModel", name := "minutes", desc := "(III)I" } : Jvm.MethodName) ∈ G := gT7 165 rfl rfl
theorem g_1606 : Jvm.Cond.code ({ cls := "RainWalkModel", name := "minutes", desc := "(III)I" } : Jvm.MethodName) prog_12_method_54_code (4 : Nat) (Option.some Jvm.ClassFile.FieldType.int) ∈ G := gT7 166 rfl rfl
theorem g_1607 : Jvm.Cond.methodLink "RainWalkModel" (399 : Nat) ({ cls := "RainWalkModel$World", name := "minutes", desc := "(II)I" } : Jvm.MethodName) ∈ G := gT7 167 rfl rfl
theorem g_1608 : Jvm.Cond.instanceMethod ({ cls := "RainWalkModel$World", name := "minutes", desc := "(II)I" } : Jvm.MethodName) ∈ G := gT7 168 rfl rfl
theorem g_1609 : Jvm.Cond.selects "RainWalkModel$World" ({ cls := "RainWalkModel$World", name := "minutes", desc := "(II)I" } : Jvm.MethodName) ({ cls := "RainWalkModel$World", name := "minutes", desc := "(II)I" } : Jvm.MethodName) ∈ G := gT7 169 rfl rfl
theorem g_1610 : Jvm.Cond.code ({ cls := "RainWalkModel$World", name := "minutes", desc := "(II)I" } : Jvm.MethodName) prog_13_method_7_code (3 : Nat) (Option.some Jvm.ClassFile.FieldType.int) ∈ G := gT7 170 rfl rfl
theorem g_1611 : Jvm.Cond.methodLink "RainWalkLaw" (59 : Nat) ({ cls := "RainWalkModel", name := "air", desc := "(III)I" } : Jvm.MethodName) ∈ G := gT7 171 rfl rfl
theorem g_1612 : Jvm.Cond.instanceMethod ({ cls := "RainWalkModel", name := "air", desc := "(III)I" } : Jvm.MethodName) ∈ G := gT7 172 rfl rfl
theorem g_1613 : Jvm.Cond.selects "RainWalkModel" ({ cls := "RainWalkModel", name := "air", desc := "(III)I" } : Jvm.MethodName) ({ cls := "RainWalkModel", name := "air", desc := "(III)I" } : Jvm.MethodName) ∈ G := gT7 173 rfl rfl
theorem g_1614 : Jvm.Cond.code ({ cls := "RainWalkModel", name := "air", desc := "(III)I" } : Jvm.MethodName) prog_12_method_55_code (4 : Nat) (Option.some Jvm.ClassFile.FieldType.int) ∈ G := gT7 174 rfl rfl
theorem g_1615 : Jvm.Cond.methodLink "RainWalkModel" (402 : Nat) ({ cls := "RainWalkModel", name := "lost", desc := "(I)I" } : Jvm.MethodName) ∈ G := gT7 175 rfl rfl
theorem g_1617 : Jvm.Cond.instanceMethod ({ cls := "RainWalkModel", name := "lost", desc := "(I)I" } : Jvm.MethodName) ∈ G := gT7 177 rfl rfl
theorem g_1618 : Jvm.Cond.code ({ cls := "RainWalkModel", name := "lost", desc := "(I)I" } : Jvm.MethodName) prog_12_method_4_code (2 : Nat) (Option.some Jvm.ClassFile.FieldType.int) ∈ G := gT7 178 rfl rfl
theorem g_1619 : Jvm.Cond.methodLink "RainWalkLaw" (63 : Nat) ({ cls := "RainWalkModel", name := "held", desc := "(IIIII)I" } : Jvm.MethodName) ∈ G := gT7 179 rfl rfl
theorem g_1620 : Jvm.Cond.instanceMethod ({ cls := "RainWalkModel", name := "held", desc := "(IIIII)I" } : Jvm.MethodName) ∈ G := gT7 180 rfl rfl
theorem g_1621 : Jvm.Cond.selects "RainWalkModel" ({ cls := "RainWalkModel", name := "held", desc := "(IIIII)I" } : Jvm.MethodName) ({ cls := "RainWalkModel", name := "held", desc := "(IIIII)I" } : Jvm.MethodName) ∈ G := gT7 181 rfl rfl
theorem g_1622 : Jvm.Cond.code ({ cls := "RainWalkModel", name := "held", desc := "(IIIII)I" } : Jvm.MethodName) prog_12_method_56_code (7 : Nat) (Option.some Jvm.ClassFile.FieldType.int) ∈ G := gT7 182 rfl rfl
theorem g_1623 : Jvm.Cond.methodLink "RainWalkLaw" (68 : Nat) ({ cls := "RainWalkModel", name := "best", desc := "(IIII)I" } : Jvm.MethodName) ∈ G := gT7 183 rfl rfl
theorem g_1624 : Jvm.Cond.instanceMethod ({ cls := "RainWalkModel", name := "best", desc := "(IIII)I" } : Jvm.MethodName) ∈ G := gT7 184 rfl rfl
theorem g_1625 : Jvm.Cond.selects "RainWalkModel" ({ cls := "RainWalkModel", name := "best", desc := "(IIII)I" } : Jvm.MethodName) ({ cls := "RainWalkModel", name := "best", desc := "(IIII)I" } : Jvm.MethodName) ∈ G := gT7 185 rfl rfl
theorem g_1626 : Jvm.Cond.code ({ cls := "RainWalkModel", name := "best", desc := "(IIII)I" } : Jvm.MethodName) prog_12_method_58_code (5 : Nat) (Option.some Jvm.ClassFile.FieldType.int) ∈ G := gT7 186 rfl rfl
theorem g_1627 : Jvm.Cond.methodLink "RainWalkModel" (405 : Nat) ({ cls := "RainWalkModel", name := "bestOf", desc := "(IIII)I" } : Jvm.MethodName) ∈ G := gT7 187 rfl rfl
theorem g_1629 : Jvm.Cond.instanceMethod ({ cls := "RainWalkModel", name := "bestOf", desc := "(IIII)I" } : Jvm.MethodName) ∈ G := gT7 189 rfl rfl
theorem g_1630 : Jvm.Cond.code ({ cls := "RainWalkModel", name := "bestOf", desc := "(IIII)I" } : Jvm.MethodName) prog_12_method_57_code (7 : Nat) (Option.some Jvm.ClassFile.FieldType.int) ∈ G := gT7 190 rfl rfl
theorem g_1631 : Jvm.Cond.methodLink "RainWalkLaw" (73 : Nat) ({ cls := "RainWalkModel", name := "saves", desc := "(IIIIZ)J" } : Jvm.MethodName) ∈ G := gT7 191 rfl rfl
theorem g_1632 : Jvm.Cond.instanceMethod ({ cls := "RainWalkModel", name := "saves", desc := "(IIIIZ)J" } : Jvm.MethodName) ∈ G := gT7 192 rfl rfl
theorem g_1633 : Jvm.Cond.selects "RainWalkModel" ({ cls := "RainWalkModel", name := "saves", desc := "(IIIIZ)J" } : Jvm.MethodName) ({ cls := "RainWalkModel", name := "saves", desc := "(IIIIZ)J" } : Jvm.MethodName) ∈ G := gT7 193 rfl rfl
theorem g_1634 : Jvm.Cond.code ({ cls := "RainWalkModel", name := "saves", desc := "(IIIIZ)J" } : Jvm.MethodName) prog_12_method_59_code (6 : Nat) (Option.some Jvm.ClassFile.FieldType.long) ∈ G := gT7 194 rfl rfl
theorem g_1635 : Jvm.Cond.methodLink "RainWalkLaw" (77 : Nat) ({ cls := "RainWalkModel", name := "worst", desc := "(IIII)I" } : Jvm.MethodName) ∈ G := gT7 195 rfl rfl
theorem g_1636 : Jvm.Cond.instanceMethod ({ cls := "RainWalkModel", name := "worst", desc := "(IIII)I" } : Jvm.MethodName) ∈ G := gT7 196 rfl rfl
theorem g_1637 : Jvm.Cond.selects "RainWalkModel" ({ cls := "RainWalkModel", name := "worst", desc := "(IIII)I" } : Jvm.MethodName) ({ cls := "RainWalkModel", name := "worst", desc := "(IIII)I" } : Jvm.MethodName) ∈ G := gT7 197 rfl rfl
theorem g_1638 : Jvm.Cond.code ({ cls := "RainWalkModel", name := "worst", desc := "(IIII)I" } : Jvm.MethodName) prog_12_method_60_code (7 : Nat) (Option.some Jvm.ClassFile.FieldType.int) ∈ G := gT7 198 rfl rfl
theorem g_1639 : Jvm.Cond.methodLink "RainWalkLaw" (81 : Nat) ({ cls := "RainWalkModel", name := "even", desc := "(IIII)I" } : Jvm.MethodName) ∈ G := gT7 199 rfl rfl
theorem g_1640 : Jvm.Cond.instanceMethod ({ cls := "RainWalkModel", name := "even", desc := "(IIII)I" } : Jvm.MethodName) ∈ G := gT7 200 rfl rfl
theorem g_1641 : Jvm.Cond.selects "RainWalkModel" ({ cls := "RainWalkModel", name := "even", desc := "(IIII)I" } : Jvm.MethodName) ({ cls := "RainWalkModel", name := "even", desc := "(IIII)I" } : Jvm.MethodName) ∈ G := gT7 201 rfl rfl
theorem g_1642 : Jvm.Cond.code ({ cls := "RainWalkModel", name := "even", desc := "(IIII)I" } : Jvm.MethodName) prog_12_method_61_code (7 : Nat) (Option.some Jvm.ClassFile.FieldType.int) ∈ G := gT7 202 rfl rfl
theorem g_1643 : Jvm.Cond.methodLink "RainWalkLaw" (86 : Nat) ({ cls := "RainWalkModel", name := "round", desc := "(IIIZ)J" } : Jvm.MethodName) ∈ G := gT7 203 rfl rfl
theorem g_1644 : Jvm.Cond.instanceMethod ({ cls := "RainWalkModel", name := "round", desc := "(IIIZ)J" } : Jvm.MethodName) ∈ G := gT7 204 rfl rfl
theorem g_1645 : Jvm.Cond.selects "RainWalkModel" ({ cls := "RainWalkModel", name := "round", desc := "(IIIZ)J" } : Jvm.MethodName) ({ cls := "RainWalkModel", name := "round", desc := "(IIIZ)J" } : Jvm.MethodName) ∈ G := gT7 205 rfl rfl
theorem g_1646 : Jvm.Cond.code ({ cls := "RainWalkModel", name := "round", desc := "(IIIZ)J" } : Jvm.MethodName) prog_12_method_63_code (5 : Nat) (Option.some Jvm.ClassFile.FieldType.long) ∈ G := gT7 206 rfl rfl
theorem g_1647 : Jvm.Cond.methodLink "RainWalkModel" (409 : Nat) ({ cls := "RainWalkModel", name := "wetAtBest", desc := "(IIII)J" } : Jvm.MethodName) ∈ G := gT7 207 rfl rfl
theorem g_1649 : Jvm.Cond.instanceMethod ({ cls := "RainWalkModel", name := "wetAtBest", desc := "(IIII)J" } : Jvm.MethodName) ∈ G := gT7 209 rfl rfl
theorem g_1650 : Jvm.Cond.code ({ cls := "RainWalkModel", name := "wetAtBest", desc := "(IIII)J" } : Jvm.MethodName) prog_12_method_62_code (5 : Nat) (Option.some Jvm.ClassFile.FieldType.long) ∈ G := gT7 210 rfl rfl
theorem g_1651 : Jvm.Cond.methodLink "RainWalkLaw" (90 : Nat) ({ cls := "RainWalkModel", name := "driest", desc := "(III)I" } : Jvm.MethodName) ∈ G := gT7 211 rfl rfl
theorem g_1652 : Jvm.Cond.instanceMethod ({ cls := "RainWalkModel", name := "driest", desc := "(III)I" } : Jvm.MethodName) ∈ G := gT7 212 rfl rfl
theorem g_1653 : Jvm.Cond.selects "RainWalkModel" ({ cls := "RainWalkModel", name := "driest", desc := "(III)I" } : Jvm.MethodName) ({ cls := "RainWalkModel", name := "driest", desc := "(III)I" } : Jvm.MethodName) ∈ G := gT7 213 rfl rfl
theorem g_1654 : Jvm.Cond.code ({ cls := "RainWalkModel", name := "driest", desc := "(III)I" } : Jvm.MethodName) prog_12_method_64_code (10 : Nat) (Option.some Jvm.ClassFile.FieldType.int) ∈ G := gT7 214 rfl rfl
theorem g_1655 : Jvm.Cond.methodLink "RainWalkLaw" (94 : Nat) ({ cls := "RainWalkModel", name := "lee", desc := "(IIIIIIZ)J" } : Jvm.MethodName) ∈ G := gT7 215 rfl rfl
theorem g_1656 : Jvm.Cond.instanceMethod ({ cls := "RainWalkModel", name := "lee", desc := "(IIIIIIZ)J" } : Jvm.MethodName) ∈ G := gT7 216 rfl rfl
theorem g_1657 : Jvm.Cond.selects "RainWalkModel" ({ cls := "RainWalkModel", name := "lee", desc := "(IIIIIIZ)J" } : Jvm.MethodName) ({ cls := "RainWalkModel", name := "lee", desc := "(IIIIIIZ)J" } : Jvm.MethodName) ∈ G := gT7 217 rfl rfl
theorem g_1658 : Jvm.Cond.code ({ cls := "RainWalkModel", name := "lee", desc := "(IIIIIIZ)J" } : Jvm.MethodName) prog_12_method_67_code (9 : Nat) (Option.some Jvm.ClassFile.FieldType.long) ∈ G := gT7 218 rfl rfl
theorem g_1659 : Jvm.Cond.methodLink "RainWalkModel" (413 : Nat) ({ cls := "RainWalkModel", name := "refusesTwo", desc := "(IIIIII)I" } : Jvm.MethodName) ∈ G := gT7 219 rfl rfl
theorem g_1661 : Jvm.Cond.instanceMethod ({ cls := "RainWalkModel", name := "refusesTwo", desc := "(IIIIII)I" } : Jvm.MethodName) ∈ G := gT7 221 rfl rfl
theorem g_1662 : Jvm.Cond.code ({ cls := "RainWalkModel", name := "refusesTwo", desc := "(IIIIII)I" } : Jvm.MethodName) prog_12_method_66_code (8 : Nat) (Option.some Jvm.ClassFile.FieldType.int) ∈ G := gT7 222 rfl rfl
theorem g_1663 : Jvm.Cond.methodLink "RainWalkModel" (417 : Nat) ({ cls := "RainWalkModel", name := "together", desc := "(IIIIII)J" } : Jvm.MethodName) ∈ G := gT7 223 rfl rfl
theorem g_1665 : Jvm.Cond.instanceMethod ({ cls := "RainWalkModel", name := "together", desc := "(IIIIII)J" } : Jvm.MethodName) ∈ G := gT7 225 rfl rfl
theorem g_1666 : Jvm.Cond.code ({ cls := "RainWalkModel", name := "together", desc := "(IIIIII)J" } : Jvm.MethodName) prog_12_method_65_code (10 : Nat) (Option.some Jvm.ClassFile.FieldType.long) ∈ G := gT7 226 rfl rfl
theorem g_1667 : Jvm.Cond.methodLink "RainWalkLaw" (99 : Nat) ({ cls := "RainWalkModel", name := "first", desc := "(IIIIII)I" } : Jvm.MethodName) ∈ G := gT7 227 rfl rfl
theorem g_1668 : Jvm.Cond.instanceMethod ({ cls := "RainWalkModel", name := "first", desc := "(IIIIII)I" } : Jvm.MethodName) ∈ G := gT7 228 rfl rfl
theorem g_1669 : Jvm.Cond.selects "RainWalkModel" ({ cls := "RainWalkModel", name := "first", desc := "(IIIIII)I" } : Jvm.MethodName) ({ cls := "RainWalkModel", name := "first", desc := "(IIIIII)I" } : Jvm.MethodName) ∈ G := gT7 229 rfl rfl
theorem g_1670 : Jvm.Cond.code ({ cls := "RainWalkModel", name := "first", desc := "(IIIIII)I" } : Jvm.MethodName) prog_12_method_68_code (12 : Nat) (Option.some Jvm.ClassFile.FieldType.int) ∈ G := gT7 230 rfl rfl
theorem g_1671 : Jvm.Cond.methodLink "RainWalkLaw" (103 : Nat) ({ cls := "RainWalkModel", name := "least", desc := "(IIIIIZ)J" } : Jvm.MethodName) ∈ G := gT7 231 rfl rfl
theorem g_1672 : Jvm.Cond.instanceMethod ({ cls := "RainWalkModel", name := "least", desc := "(IIIIIZ)J" } : Jvm.MethodName) ∈ G := gT7 232 rfl rfl
theorem g_1673 : Jvm.Cond.selects "RainWalkModel" ({ cls := "RainWalkModel", name := "least", desc := "(IIIIIZ)J" } : Jvm.MethodName) ({ cls := "RainWalkModel", name := "least", desc := "(IIIIIZ)J" } : Jvm.MethodName) ∈ G := gT7 233 rfl rfl
theorem g_1674 : Jvm.Cond.code ({ cls := "RainWalkModel", name := "least", desc := "(IIIIIZ)J" } : Jvm.MethodName) prog_12_method_79_code (8 : Nat) (Option.some Jvm.ClassFile.FieldType.long) ∈ G := gT7 234 rfl rfl
theorem g_1675 : Jvm.Cond.methodLink "RainWalkModel" (462 : Nat) ({ cls := "RainWalkModel", name := "refusesWay", desc := "(IIIII)I" } : Jvm.MethodName) ∈ G := gT7 235 rfl rfl
theorem g_1677 : Jvm.Cond.instanceMethod ({ cls := "RainWalkModel", name := "refusesWay", desc := "(IIIII)I" } : Jvm.MethodName) ∈ G := gT7 237 rfl rfl
theorem g_1678 : Jvm.Cond.code ({ cls := "RainWalkModel", name := "refusesWay", desc := "(IIIII)I" } : Jvm.MethodName) prog_12_method_78_code (6 : Nat) (Option.some Jvm.ClassFile.FieldType.int) ∈ G := gT7 238 rfl rfl
theorem g_1679 : Jvm.Cond.methodLink "RainWalkModel" (455 : Nat) ({ cls := "RainWalkModel", name := "isPlace", desc := "(I)Z" } : Jvm.MethodName) ∈ G := gT7 239 rfl rfl
theorem g_1681 : Jvm.Cond.instanceMethod ({ cls := "RainWalkModel", name := "isPlace", desc := "(I)Z" } : Jvm.MethodName) ∈ G := gT8 1 rfl rfl
theorem g_1682 : Jvm.Cond.code ({ cls := "RainWalkModel", name := "isPlace", desc := "(I)Z" } : Jvm.MethodName) prog_12_method_42_code (2 : Nat) (Option.some Jvm.ClassFile.FieldType.boolean) ∈ G := gT8 2 rfl rfl
theorem g_1683 : Jvm.Cond.methodLink "RainWalkModel" (458 : Nat) ({ cls := "RainWalkModel", name := "laysWays", desc := "(III)V" } : Jvm.MethodName) ∈ G := gT8 3 rfl rfl
theorem g_1685 : Jvm.Cond.instanceMethod ({ cls := "RainWalkModel", name := "laysWays", desc := "(III)V" } : Jvm.MethodName) ∈ G := gT8 5 rfl rfl
theorem g_1686 : Jvm.Cond.code ({ cls := "RainWalkModel", name := "laysWays", desc := "(III)V" } : Jvm.MethodName) prog_12_method_75_code (7 : Nat) (Option.none : Option Jvm.ClassFile.FieldType) ∈ G := gT8 6 rfl rfl
theorem g_1687 : Jvm.Cond.methodLink "RainWalkModel" (427 : Nat) ({ cls := "RainWalkModel", name := "spotOf", desc := "(II)I" } : Jvm.MethodName) ∈ G := gT8 7 rfl rfl
theorem g_1688 : Jvm.Cond.static ({ cls := "RainWalkModel", name := "spotOf", desc := "(II)I" } : Jvm.MethodName) ∈ G := gT8 8 rfl rfl
theorem g_1689 : Jvm.Cond.code ({ cls := "RainWalkModel", name := "spotOf", desc := "(II)I" } : Jvm.MethodName) prog_12_method_69_code (2 : Nat) (Option.some Jvm.ClassFile.FieldType.int) ∈ G := gT8 9 rfl rfl
theorem g_1690 : Jvm.Cond.constantLong "RainWalkModel" (430 : Nat) (-1 : Int64) ∈ G := gT8 10 rfl rfl
theorem g_1691 : Jvm.Cond.methodLink "RainWalkModel" (432 : Nat) ({ cls := "RainWalkModel", name := "tries", desc := "(IIII)V" } : Jvm.MethodName) ∈ G := gT8 11 rfl rfl
theorem g_1693 : Jvm.Cond.instanceMethod ({ cls := "RainWalkModel", name := "tries", desc := "(IIII)V" } : Jvm.MethodName) ∈ G := gT8 13 rfl rfl
theorem g_1694 : Jvm.Cond.code ({ cls := "RainWalkModel", name := "tries", desc := "(IIII)V" } : Jvm.MethodName) prog_12_method_76_code (9 : Nat) (Option.none : Option Jvm.ClassFile.FieldType) ∈ G := gT8 14 rfl rfl
theorem g_1695 : Jvm.Cond.methodLink "RainWalkModel" (436 : Nat) ({ cls := "RainWalkModel$World", name := "begins", desc := "(II)I" } : Jvm.MethodName) ∈ G := gT8 15 rfl rfl
theorem g_1696 : Jvm.Cond.instanceMethod ({ cls := "RainWalkModel$World", name := "begins", desc := "(II)I" } : Jvm.MethodName) ∈ G := gT8 16 rfl rfl
theorem g_1697 : Jvm.Cond.selects "RainWalkModel$World" ({ cls := "RainWalkModel$World", name := "begins", desc := "(II)I" } : Jvm.MethodName) ({ cls := "RainWalkModel$World", name := "begins", desc := "(II)I" } : Jvm.MethodName) ∈ G := gT8 17 rfl rfl
theorem g_1698 : Jvm.Cond.code ({ cls := "RainWalkModel$World", name := "begins", desc := "(II)I" } : Jvm.MethodName) prog_13_method_4_code (3 : Nat) (Option.some Jvm.ClassFile.FieldType.int) ∈ G := gT8 18 rfl rfl
theorem g_1699 : Jvm.Cond.methodLink "RainWalkModel" (438 : Nat) ({ cls := "RainWalkModel$World", name := "ends", desc := "(II)I" } : Jvm.MethodName) ∈ G := gT8 19 rfl rfl
theorem g_1700 : Jvm.Cond.instanceMethod ({ cls := "RainWalkModel$World", name := "ends", desc := "(II)I" } : Jvm.MethodName) ∈ G := gT8 20 rfl rfl
theorem g_1701 : Jvm.Cond.selects "RainWalkModel$World" ({ cls := "RainWalkModel$World", name := "ends", desc := "(II)I" } : Jvm.MethodName) ({ cls := "RainWalkModel$World", name := "ends", desc := "(II)I" } : Jvm.MethodName) ∈ G := gT8 21 rfl rfl
theorem g_1702 : Jvm.Cond.code ({ cls := "RainWalkModel$World", name := "ends", desc := "(II)I" } : Jvm.MethodName) prog_13_method_5_code (3 : Nat) (Option.some Jvm.ClassFile.FieldType.int) ∈ G := gT8 22 rfl rfl
theorem g_1703 : Jvm.Cond.methodLink "RainWalkModel" (441 : Nat) ({ cls := "RainWalkModel", name := "meanOf", desc := "(IIIII)J" } : Jvm.MethodName) ∈ G := gT8 23 rfl rfl
theorem g_1705 : Jvm.Cond.instanceMethod ({ cls := "RainWalkModel", name := "meanOf", desc := "(IIIII)J" } : Jvm.MethodName) ∈ G := gT8 25 rfl rfl
theorem g_1706 : Jvm.Cond.code ({ cls := "RainWalkModel", name := "meanOf", desc := "(IIIII)J" } : Jvm.MethodName) prog_12_method_71_code (7 : Nat) (Option.some Jvm.ClassFile.FieldType.long) ∈ G := gT8 26 rfl rfl
theorem g_1707 : Jvm.Cond.methodLink "RainWalkModel" (420 : Nat) ({ cls := "RainWalkModel", name := "hourOf", desc := "(I)I" } : Jvm.MethodName) ∈ G := gT8 27 rfl rfl
theorem g_1709 : Jvm.Cond.instanceMethod ({ cls := "RainWalkModel", name := "hourOf", desc := "(I)I" } : Jvm.MethodName) ∈ G := gT8 29 rfl rfl
theorem g_1710 : Jvm.Cond.code ({ cls := "RainWalkModel", name := "hourOf", desc := "(I)I" } : Jvm.MethodName) prog_12_method_70_code (2 : Nat) (Option.some Jvm.ClassFile.FieldType.int) ∈ G := gT8 30 rfl rfl
theorem g_1711 : Jvm.Cond.methodLink "RainWalkModel" (444 : Nat) ({ cls := "RainWalkModel", name := "takes", desc := "(IIJI)V" } : Jvm.MethodName) ∈ G := gT8 31 rfl rfl
theorem g_1713 : Jvm.Cond.instanceMethod ({ cls := "RainWalkModel", name := "takes", desc := "(IIJI)V" } : Jvm.MethodName) ∈ G := gT8 33 rfl rfl
theorem g_1714 : Jvm.Cond.code ({ cls := "RainWalkModel", name := "takes", desc := "(IIJI)V" } : Jvm.MethodName) prog_12_method_77_code (8 : Nat) (Option.none : Option Jvm.ClassFile.FieldType) ∈ G := gT8 34 rfl rfl
theorem g_1715 : Jvm.Cond.methodLink "RainWalkModel" (448 : Nat) ({ cls := "RainWalkModel", name := "canWait", desc := "(I)Z" } : Jvm.MethodName) ∈ G := gT8 35 rfl rfl
theorem g_1717 : Jvm.Cond.instanceMethod ({ cls := "RainWalkModel", name := "canWait", desc := "(I)Z" } : Jvm.MethodName) ∈ G := gT8 37 rfl rfl
theorem g_1718 : Jvm.Cond.code ({ cls := "RainWalkModel", name := "canWait", desc := "(I)Z" } : Jvm.MethodName) prog_12_method_73_code (2 : Nat) (Option.some Jvm.ClassFile.FieldType.boolean) ∈ G := gT8 38 rfl rfl
theorem g_1719 : Jvm.Cond.methodLink "RainWalkModel" (451 : Nat) ({ cls := "RainWalkModel", name := "waitsOf", desc := "(III)J" } : Jvm.MethodName) ∈ G := gT8 39 rfl rfl
theorem g_1721 : Jvm.Cond.instanceMethod ({ cls := "RainWalkModel", name := "waitsOf", desc := "(III)J" } : Jvm.MethodName) ∈ G := gT8 41 rfl rfl
theorem g_1722 : Jvm.Cond.code ({ cls := "RainWalkModel", name := "waitsOf", desc := "(III)J" } : Jvm.MethodName) prog_12_method_74_code (5 : Nat) (Option.some Jvm.ClassFile.FieldType.long) ∈ G := gT8 42 rfl rfl
theorem g_1723 : Jvm.Cond.methodLink "RainWalkModel" (423 : Nat) ({ cls := "RainWalkModel", name := "drips", desc := "(II)J" } : Jvm.MethodName) ∈ G := gT8 43 rfl rfl
theorem g_1725 : Jvm.Cond.instanceMethod ({ cls := "RainWalkModel", name := "drips", desc := "(II)J" } : Jvm.MethodName) ∈ G := gT8 45 rfl rfl
theorem g_1726 : Jvm.Cond.code ({ cls := "RainWalkModel", name := "drips", desc := "(II)J" } : Jvm.MethodName) prog_12_method_72_code (3 : Nat) (Option.some Jvm.ClassFile.FieldType.long) ∈ G := gT8 46 rfl rfl
theorem g_1727 : Jvm.Cond.methodLink "RainWalkLaw" (107 : Nat) ({ cls := "RainWalkModel", name := "there", desc := "(IIIII)I" } : Jvm.MethodName) ∈ G := gT8 47 rfl rfl
theorem g_1728 : Jvm.Cond.instanceMethod ({ cls := "RainWalkModel", name := "there", desc := "(IIIII)I" } : Jvm.MethodName) ∈ G := gT8 48 rfl rfl
theorem g_1729 : Jvm.Cond.selects "RainWalkModel" ({ cls := "RainWalkModel", name := "there", desc := "(IIIII)I" } : Jvm.MethodName) ({ cls := "RainWalkModel", name := "there", desc := "(IIIII)I" } : Jvm.MethodName) ∈ G := gT8 49 rfl rfl
theorem g_1730 : Jvm.Cond.code ({ cls := "RainWalkModel", name := "there", desc := "(IIIII)I" } : Jvm.MethodName) prog_12_method_80_code (7 : Nat) (Option.some Jvm.ClassFile.FieldType.int) ∈ G := gT8 50 rfl rfl
theorem g_1731 : Jvm.Cond.methodLink "RainWalkLaw" (111 : Nat) ({ cls := "RainWalkModel", name := "steps", desc := "(IIIII)I" } : Jvm.MethodName) ∈ G := gT8 51 rfl rfl
theorem g_1732 : Jvm.Cond.instanceMethod ({ cls := "RainWalkModel", name := "steps", desc := "(IIIII)I" } : Jvm.MethodName) ∈ G := gT8 52 rfl rfl
theorem g_1733 : Jvm.Cond.selects "RainWalkModel" ({ cls := "RainWalkModel", name := "steps", desc := "(IIIII)I" } : Jvm.MethodName) ({ cls := "RainWalkModel", name := "steps", desc := "(IIIII)I" } : Jvm.MethodName) ∈ G := gT8 53 rfl rfl
theorem g_1734 : Jvm.Cond.code ({ cls := "RainWalkModel", name := "steps", desc := "(IIIII)I" } : Jvm.MethodName) prog_12_method_82_code (7 : Nat) (Option.some Jvm.ClassFile.FieldType.int) ∈ G := gT8 54 rfl rfl
theorem g_1735 : Jvm.Cond.methodLink "RainWalkModel" (465 : Nat) ({ cls := "RainWalkModel", name := "stepOf", desc := "(IIII)I" } : Jvm.MethodName) ∈ G := gT8 55 rfl rfl
theorem g_1737 : Jvm.Cond.instanceMethod ({ cls := "RainWalkModel", name := "stepOf", desc := "(IIII)I" } : Jvm.MethodName) ∈ G := gT8 57 rfl rfl
theorem g_1738 : Jvm.Cond.code ({ cls := "RainWalkModel", name := "stepOf", desc := "(IIII)I" } : Jvm.MethodName) prog_12_method_81_code (9 : Nat) (Option.some Jvm.ClassFile.FieldType.int) ∈ G := gT8 58 rfl rfl
theorem g_1739 : Jvm.Cond.methodLink "RainWalkLaw" (115 : Nat) ({ cls := "RainWalkModel", name := "step", desc := "(IIIIII)I" } : Jvm.MethodName) ∈ G := gT8 59 rfl rfl
theorem g_1740 : Jvm.Cond.instanceMethod ({ cls := "RainWalkModel", name := "step", desc := "(IIIIII)I" } : Jvm.MethodName) ∈ G := gT8 60 rfl rfl
theorem g_1741 : Jvm.Cond.selects "RainWalkModel" ({ cls := "RainWalkModel", name := "step", desc := "(IIIIII)I" } : Jvm.MethodName) ({ cls := "RainWalkModel", name := "step", desc := "(IIIIII)I" } : Jvm.MethodName) ∈ G := gT8 61 rfl rfl
theorem g_1742 : Jvm.Cond.code ({ cls := "RainWalkModel", name := "step", desc := "(IIIIII)I" } : Jvm.MethodName) prog_12_method_83_code (9 : Nat) (Option.some Jvm.ClassFile.FieldType.int) ∈ G := gT8 62 rfl rfl
theorem g_1743 : Jvm.Cond.methodLink "RainWalkLaw" (119 : Nat) ({ cls := "RainWalkModel", name := "off", desc := "(IIII)I" } : Jvm.MethodName) ∈ G := gT8 63 rfl rfl
theorem g_1744 : Jvm.Cond.instanceMethod ({ cls := "RainWalkModel", name := "off", desc := "(IIII)I" } : Jvm.MethodName) ∈ G := gT8 64 rfl rfl
theorem g_1745 : Jvm.Cond.selects "RainWalkModel" ({ cls := "RainWalkModel", name := "off", desc := "(IIII)I" } : Jvm.MethodName) ({ cls := "RainWalkModel", name := "off", desc := "(IIII)I" } : Jvm.MethodName) ∈ G := gT8 65 rfl rfl
theorem g_1746 : Jvm.Cond.code ({ cls := "RainWalkModel", name := "off", desc := "(IIII)I" } : Jvm.MethodName) prog_12_method_84_code (7 : Nat) (Option.some Jvm.ClassFile.FieldType.int) ∈ G := gT8 66 rfl rfl
theorem g_1747 : Jvm.Cond.methodLink "RainWalkLaw" (123 : Nat) ({ cls := "RainWalkModel", name := "fits", desc := "(I)I" } : Jvm.MethodName) ∈ G := gT8 67 rfl rfl
theorem g_1748 : Jvm.Cond.instanceMethod ({ cls := "RainWalkModel", name := "fits", desc := "(I)I" } : Jvm.MethodName) ∈ G := gT8 68 rfl rfl
theorem g_1749 : Jvm.Cond.selects "RainWalkModel" ({ cls := "RainWalkModel", name := "fits", desc := "(I)I" } : Jvm.MethodName) ({ cls := "RainWalkModel", name := "fits", desc := "(I)I" } : Jvm.MethodName) ∈ G := gT8 69 rfl rfl
theorem g_1750 : Jvm.Cond.code ({ cls := "RainWalkModel", name := "fits", desc := "(I)I" } : Jvm.MethodName) prog_12_method_87_code (2 : Nat) (Option.some Jvm.ClassFile.FieldType.int) ∈ G := gT8 70 rfl rfl
theorem g_1751 : Jvm.Cond.methodLink "RainWalkModel" (468 : Nat) ({ cls := "RainWalkModel", name := "isSeen", desc := "(I)Z" } : Jvm.MethodName) ∈ G := gT8 71 rfl rfl
theorem g_1753 : Jvm.Cond.instanceMethod ({ cls := "RainWalkModel", name := "isSeen", desc := "(I)Z" } : Jvm.MethodName) ∈ G := gT8 73 rfl rfl
theorem g_1754 : Jvm.Cond.code ({ cls := "RainWalkModel", name := "isSeen", desc := "(I)Z" } : Jvm.MethodName) prog_12_method_85_code (2 : Nat) (Option.some Jvm.ClassFile.FieldType.boolean) ∈ G := gT8 74 rfl rfl
theorem g_1755 : Jvm.Cond.methodLink "RainWalkModel" (471 : Nat) ({ cls := "RainWalkModel", name := "fitOf", desc := "(II)I" } : Jvm.MethodName) ∈ G := gT8 75 rfl rfl
theorem g_1757 : Jvm.Cond.instanceMethod ({ cls := "RainWalkModel", name := "fitOf", desc := "(II)I" } : Jvm.MethodName) ∈ G := gT8 77 rfl rfl
theorem g_1758 : Jvm.Cond.code ({ cls := "RainWalkModel", name := "fitOf", desc := "(II)I" } : Jvm.MethodName) prog_12_method_86_code (11 : Nat) (Option.some Jvm.ClassFile.FieldType.int) ∈ G := gT8 78 rfl rfl
theorem g_1759 : Jvm.Cond.methodLink "RainWalkLaw" (128 : Nat) ({ cls := "RainWalkModel", name := "fit", desc := "(II)I" } : Jvm.MethodName) ∈ G := gT8 79 rfl rfl
theorem g_1760 : Jvm.Cond.instanceMethod ({ cls := "RainWalkModel", name := "fit", desc := "(II)I" } : Jvm.MethodName) ∈ G := gT8 80 rfl rfl
theorem g_1761 : Jvm.Cond.selects "RainWalkModel" ({ cls := "RainWalkModel", name := "fit", desc := "(II)I" } : Jvm.MethodName) ({ cls := "RainWalkModel", name := "fit", desc := "(II)I" } : Jvm.MethodName) ∈ G := gT8 81 rfl rfl
theorem g_1762 : Jvm.Cond.code ({ cls := "RainWalkModel", name := "fit", desc := "(II)I" } : Jvm.MethodName) prog_12_method_88_code (4 : Nat) (Option.some Jvm.ClassFile.FieldType.int) ∈ G := gT8 82 rfl rfl
theorem g_1763 : Jvm.Cond.methodLink "RainWalkLaw" (132 : Nat) ({ cls := "RainWalkModel", name := "lies", desc := "()I" } : Jvm.MethodName) ∈ G := gT8 83 rfl rfl
theorem g_1764 : Jvm.Cond.instanceMethod ({ cls := "RainWalkModel", name := "lies", desc := "()I" } : Jvm.MethodName) ∈ G := gT8 84 rfl rfl
theorem g_1765 : Jvm.Cond.selects "RainWalkModel" ({ cls := "RainWalkModel", name := "lies", desc := "()I" } : Jvm.MethodName) ({ cls := "RainWalkModel", name := "lies", desc := "()I" } : Jvm.MethodName) ∈ G := gT8 85 rfl rfl
theorem g_1766 : Jvm.Cond.code ({ cls := "RainWalkModel", name := "lies", desc := "()I" } : Jvm.MethodName) prog_12_method_89_code (3 : Nat) (Option.some Jvm.ClassFile.FieldType.int) ∈ G := gT8 86 rfl rfl
theorem g_1767 : Jvm.Cond.methodLink "RainWalkLaw" (136 : Nat) ({ cls := "RainWalkModel", name := "day", desc := "(IIII)I" } : Jvm.MethodName) ∈ G := gT8 87 rfl rfl
theorem g_1768 : Jvm.Cond.instanceMethod ({ cls := "RainWalkModel", name := "day", desc := "(IIII)I" } : Jvm.MethodName) ∈ G := gT8 88 rfl rfl
theorem g_1769 : Jvm.Cond.selects "RainWalkModel" ({ cls := "RainWalkModel", name := "day", desc := "(IIII)I" } : Jvm.MethodName) ({ cls := "RainWalkModel", name := "day", desc := "(IIII)I" } : Jvm.MethodName) ∈ G := gT8 89 rfl rfl
theorem g_1770 : Jvm.Cond.code ({ cls := "RainWalkModel", name := "day", desc := "(IIII)I" } : Jvm.MethodName) prog_12_method_91_code (7 : Nat) (Option.some Jvm.ClassFile.FieldType.int) ∈ G := gT8 90 rfl rfl
theorem g_1771 : Jvm.Cond.constant "RainWalkModel" (474 : Nat) (65536 : Int32) ∈ G := gT8 91 rfl rfl
theorem g_1772 : Jvm.Cond.constantLong "RainWalkModel" (478 : Nat) (75 : Int64) ∈ G := gT8 92 rfl rfl
theorem g_1773 : Jvm.Cond.constantLong "RainWalkModel" (480 : Nat) (74 : Int64) ∈ G := gT8 93 rfl rfl
theorem g_1774 : Jvm.Cond.constantLong "RainWalkModel" (482 : Nat) (65537 : Int64) ∈ G := gT8 94 rfl rfl
theorem g_1775 : Jvm.Cond.methodLink "RainWalkLaw" (140 : Nat) ({ cls := "RainWalkModel", name := "go", desc := "(III)I" } : Jvm.MethodName) ∈ G := gT8 95 rfl rfl
theorem g_1776 : Jvm.Cond.instanceMethod ({ cls := "RainWalkModel", name := "go", desc := "(III)I" } : Jvm.MethodName) ∈ G := gT8 96 rfl rfl
theorem g_1777 : Jvm.Cond.selects "RainWalkModel" ({ cls := "RainWalkModel", name := "go", desc := "(III)I" } : Jvm.MethodName) ({ cls := "RainWalkModel", name := "go", desc := "(III)I" } : Jvm.MethodName) ∈ G := gT8 97 rfl rfl
theorem g_1778 : Jvm.Cond.code ({ cls := "RainWalkModel", name := "go", desc := "(III)I" } : Jvm.MethodName) prog_12_method_94_code (6 : Nat) (Option.some Jvm.ClassFile.FieldType.int) ∈ G := gT8 98 rfl rfl
theorem g_1779 : Jvm.Cond.methodLink "RainWalkModel" (484 : Nat) ({ cls := "RainWalkModel", name := "isDay", desc := "()Z" } : Jvm.MethodName) ∈ G := gT8 99 rfl rfl
theorem g_1781 : Jvm.Cond.instanceMethod ({ cls := "RainWalkModel", name := "isDay", desc := "()Z" } : Jvm.MethodName) ∈ G := gT8 101 rfl rfl
theorem g_1782 : Jvm.Cond.code ({ cls := "RainWalkModel", name := "isDay", desc := "()Z" } : Jvm.MethodName) prog_12_method_90_code (1 : Nat) (Option.some Jvm.ClassFile.FieldType.boolean) ∈ G := gT8 102 rfl rfl
theorem g_1783 : Jvm.Cond.methodLink "RainWalkModel" (487 : Nat) ({ cls := "RainWalkModel", name := "keeps", desc := "()V" } : Jvm.MethodName) ∈ G := gT8 103 rfl rfl
theorem g_1785 : Jvm.Cond.instanceMethod ({ cls := "RainWalkModel", name := "keeps", desc := "()V" } : Jvm.MethodName) ∈ G := gT8 105 rfl rfl
theorem g_1786 : Jvm.Cond.code ({ cls := "RainWalkModel", name := "keeps", desc := "()V" } : Jvm.MethodName) prog_12_method_92_code (2 : Nat) (Option.none : Option Jvm.ClassFile.FieldType) ∈ G := gT8 106 rfl rfl
theorem g_1787 : Jvm.Cond.methodLink "RainWalkModel" (490 : Nat) ({ cls := "RainWalkModel", name := "rainsIn", desc := "(I)Z" } : Jvm.MethodName) ∈ G := gT8 107 rfl rfl
theorem g_1789 : Jvm.Cond.instanceMethod ({ cls := "RainWalkModel", name := "rainsIn", desc := "(I)Z" } : Jvm.MethodName) ∈ G := gT8 109 rfl rfl
theorem g_1790 : Jvm.Cond.code ({ cls := "RainWalkModel", name := "rainsIn", desc := "(I)Z" } : Jvm.MethodName) prog_12_method_93_code (3 : Nat) (Option.some Jvm.ClassFile.FieldType.boolean) ∈ G := gT8 110 rfl rfl
theorem g_1791 : Jvm.Cond.methodLink "RainWalkLaw" (145 : Nat) ({ cls := "RainWalkModel", name := "stay", desc := "(I)Z" } : Jvm.MethodName) ∈ G := gT8 111 rfl rfl
theorem g_1792 : Jvm.Cond.instanceMethod ({ cls := "RainWalkModel", name := "stay", desc := "(I)Z" } : Jvm.MethodName) ∈ G := gT8 112 rfl rfl
theorem g_1793 : Jvm.Cond.selects "RainWalkModel" ({ cls := "RainWalkModel", name := "stay", desc := "(I)Z" } : Jvm.MethodName) ({ cls := "RainWalkModel", name := "stay", desc := "(I)Z" } : Jvm.MethodName) ∈ G := gT8 113 rfl rfl
theorem g_1794 : Jvm.Cond.code ({ cls := "RainWalkModel", name := "stay", desc := "(I)Z" } : Jvm.MethodName) prog_12_method_95_code (4 : Nat) (Option.some Jvm.ClassFile.FieldType.boolean) ∈ G := gT8 114 rfl rfl
theorem g_1795 : Jvm.Cond.methodLink "RainWalkModel" (493 : Nat) ({ cls := "RainWalkModel", name := "denied", desc := "(I)Z" } : Jvm.MethodName) ∈ G := gT8 115 rfl rfl
theorem g_1797 : Jvm.Cond.instanceMethod ({ cls := "RainWalkModel", name := "denied", desc := "(I)Z" } : Jvm.MethodName) ∈ G := gT8 117 rfl rfl
theorem g_1798 : Jvm.Cond.code ({ cls := "RainWalkModel", name := "denied", desc := "(I)Z" } : Jvm.MethodName) prog_12_method_5_code (2 : Nat) (Option.some Jvm.ClassFile.FieldType.boolean) ∈ G := gT8 118 rfl rfl
theorem g_1799 : Jvm.Cond.constantLong "RainWalkModel" (496 : Nat) (999 : Int64) ∈ G := gT8 119 rfl rfl
theorem g_1800 : Jvm.Cond.methodLink "RainWalkModel" (498 : Nat) ({ cls := "RainWalkModel", name := "granted", desc := "()Z" } : Jvm.MethodName) ∈ G := gT8 120 rfl rfl
theorem g_1802 : Jvm.Cond.instanceMethod ({ cls := "RainWalkModel", name := "granted", desc := "()Z" } : Jvm.MethodName) ∈ G := gT8 122 rfl rfl
theorem g_1803 : Jvm.Cond.code ({ cls := "RainWalkModel", name := "granted", desc := "()Z" } : Jvm.MethodName) prog_12_method_7_code (1 : Nat) (Option.some Jvm.ClassFile.FieldType.boolean) ∈ G := gT8 123 rfl rfl
theorem g_1804 : Jvm.Cond.methodLink "RainWalkLaw" (150 : Nat) ({ cls := "RainWalkModel", name := "got", desc := "(IZ)J" } : Jvm.MethodName) ∈ G := gT8 124 rfl rfl
theorem g_1805 : Jvm.Cond.instanceMethod ({ cls := "RainWalkModel", name := "got", desc := "(IZ)J" } : Jvm.MethodName) ∈ G := gT8 125 rfl rfl
theorem g_1806 : Jvm.Cond.selects "RainWalkModel" ({ cls := "RainWalkModel", name := "got", desc := "(IZ)J" } : Jvm.MethodName) ({ cls := "RainWalkModel", name := "got", desc := "(IZ)J" } : Jvm.MethodName) ∈ G := gT8 126 rfl rfl
theorem g_1807 : Jvm.Cond.code ({ cls := "RainWalkModel", name := "got", desc := "(IZ)J" } : Jvm.MethodName) prog_12_method_96_code (3 : Nat) (Option.some Jvm.ClassFile.FieldType.long) ∈ G := gT8 127 rfl rfl
theorem g_1808 : Jvm.Cond.methodLink "RainWalkLaw" (155 : Nat) ({ cls := "RainWalkModel", name := "wetness", desc := "(Z)J" } : Jvm.MethodName) ∈ G := gT8 128 rfl rfl
theorem g_1809 : Jvm.Cond.instanceMethod ({ cls := "RainWalkModel", name := "wetness", desc := "(Z)J" } : Jvm.MethodName) ∈ G := gT8 129 rfl rfl
theorem g_1810 : Jvm.Cond.selects "RainWalkModel" ({ cls := "RainWalkModel", name := "wetness", desc := "(Z)J" } : Jvm.MethodName) ({ cls := "RainWalkModel", name := "wetness", desc := "(Z)J" } : Jvm.MethodName) ∈ G := gT8 130 rfl rfl
theorem g_1811 : Jvm.Cond.code ({ cls := "RainWalkModel", name := "wetness", desc := "(Z)J" } : Jvm.MethodName) prog_12_method_99_code (4 : Nat) (Option.some Jvm.ClassFile.FieldType.long) ∈ G := gT8 131 rfl rfl
theorem g_1812 : Jvm.Cond.methodLink "RainWalkModel" (501 : Nat) ({ cls := "RainWalkModel", name := "gotInAll", desc := "()J" } : Jvm.MethodName) ∈ G := gT8 132 rfl rfl
theorem g_1814 : Jvm.Cond.instanceMethod ({ cls := "RainWalkModel", name := "gotInAll", desc := "()J" } : Jvm.MethodName) ∈ G := gT8 134 rfl rfl
theorem g_1815 : Jvm.Cond.code ({ cls := "RainWalkModel", name := "gotInAll", desc := "()J" } : Jvm.MethodName) prog_12_method_97_code (4 : Nat) (Option.some Jvm.ClassFile.FieldType.long) ∈ G := gT8 135 rfl rfl
theorem g_1816 : Jvm.Cond.methodLink "RainWalkModel" (504 : Nat) ({ cls := "RainWalkModel", name := "holds", desc := "()J" } : Jvm.MethodName) ∈ G := gT8 136 rfl rfl
theorem g_1818 : Jvm.Cond.instanceMethod ({ cls := "RainWalkModel", name := "holds", desc := "()J" } : Jvm.MethodName) ∈ G := gT8 138 rfl rfl
theorem g_1819 : Jvm.Cond.code ({ cls := "RainWalkModel", name := "holds", desc := "()J" } : Jvm.MethodName) prog_12_method_98_code (1 : Nat) (Option.some Jvm.ClassFile.FieldType.long) ∈ G := gT8 139 rfl rfl
theorem g_1820 : Jvm.Cond.methodLink "RainWalkLaw" (159 : Nat) ({ cls := "RainWalkModel", name := "soaked", desc := "()I" } : Jvm.MethodName) ∈ G := gT8 140 rfl rfl
theorem g_1821 : Jvm.Cond.instanceMethod ({ cls := "RainWalkModel", name := "soaked", desc := "()I" } : Jvm.MethodName) ∈ G := gT8 141 rfl rfl
theorem g_1822 : Jvm.Cond.selects "RainWalkModel" ({ cls := "RainWalkModel", name := "soaked", desc := "()I" } : Jvm.MethodName) ({ cls := "RainWalkModel", name := "soaked", desc := "()I" } : Jvm.MethodName) ∈ G := gT8 142 rfl rfl
theorem g_1823 : Jvm.Cond.code ({ cls := "RainWalkModel", name := "soaked", desc := "()I" } : Jvm.MethodName) prog_12_method_100_code (1 : Nat) (Option.some Jvm.ClassFile.FieldType.int) ∈ G := gT8 143 rfl rfl
theorem g_1824 : Jvm.Cond.methodLink "RainWalkLaw" (164 : Nat) ({ cls := "RainWalkModel", name := "undo", desc := "()Z" } : Jvm.MethodName) ∈ G := gT8 144 rfl rfl
theorem g_1825 : Jvm.Cond.instanceMethod ({ cls := "RainWalkModel", name := "undo", desc := "()Z" } : Jvm.MethodName) ∈ G := gT8 145 rfl rfl
theorem g_1826 : Jvm.Cond.selects "RainWalkModel" ({ cls := "RainWalkModel", name := "undo", desc := "()Z" } : Jvm.MethodName) ({ cls := "RainWalkModel", name := "undo", desc := "()Z" } : Jvm.MethodName) ∈ G := gT8 146 rfl rfl
theorem g_1827 : Jvm.Cond.code ({ cls := "RainWalkModel", name := "undo", desc := "()Z" } : Jvm.MethodName) prog_12_method_101_code (2 : Nat) (Option.some Jvm.ClassFile.FieldType.boolean) ∈ G := gT8 147 rfl rfl
theorem g_1828 : Jvm.Cond.methodLink "RainWalkLaw" (168 : Nat) ({ cls := "RainWalkModel", name := "mark", desc := "()I" } : Jvm.MethodName) ∈ G := gT8 148 rfl rfl
theorem g_1829 : Jvm.Cond.instanceMethod ({ cls := "RainWalkModel", name := "mark", desc := "()I" } : Jvm.MethodName) ∈ G := gT8 149 rfl rfl
theorem g_1830 : Jvm.Cond.selects "RainWalkModel" ({ cls := "RainWalkModel", name := "mark", desc := "()I" } : Jvm.MethodName) ({ cls := "RainWalkModel", name := "mark", desc := "()I" } : Jvm.MethodName) ∈ G := gT8 150 rfl rfl
theorem g_1831 : Jvm.Cond.code ({ cls := "RainWalkModel", name := "mark", desc := "()I" } : Jvm.MethodName) prog_12_method_102_code (2 : Nat) (Option.some Jvm.ClassFile.FieldType.int) ∈ G := gT8 151 rfl rfl
theorem g_1832 : Jvm.Cond.methodLink "RainWalkLaw" (172 : Nat) ({ cls := "RainWalkModel", name := "back", desc := "(I)Z" } : Jvm.MethodName) ∈ G := gT8 152 rfl rfl
theorem g_1833 : Jvm.Cond.instanceMethod ({ cls := "RainWalkModel", name := "back", desc := "(I)Z" } : Jvm.MethodName) ∈ G := gT8 153 rfl rfl
theorem g_1834 : Jvm.Cond.selects "RainWalkModel" ({ cls := "RainWalkModel", name := "back", desc := "(I)Z" } : Jvm.MethodName) ({ cls := "RainWalkModel", name := "back", desc := "(I)Z" } : Jvm.MethodName) ∈ G := gT8 154 rfl rfl
theorem g_1835 : Jvm.Cond.code ({ cls := "RainWalkModel", name := "back", desc := "(I)Z" } : Jvm.MethodName) prog_12_method_103_code (3 : Nat) (Option.some Jvm.ClassFile.FieldType.boolean) ∈ G := gT8 155 rfl rfl
theorem g_1836 : Jvm.Cond.methodLink "RainWalkLaw" (176 : Nat) ({ cls := "RainWalkModel", name := "walker", desc := "(II)I" } : Jvm.MethodName) ∈ G := gT8 156 rfl rfl
theorem g_1837 : Jvm.Cond.instanceMethod ({ cls := "RainWalkModel", name := "walker", desc := "(II)I" } : Jvm.MethodName) ∈ G := gT8 157 rfl rfl
theorem g_1838 : Jvm.Cond.selects "RainWalkModel" ({ cls := "RainWalkModel", name := "walker", desc := "(II)I" } : Jvm.MethodName) ({ cls := "RainWalkModel", name := "walker", desc := "(II)I" } : Jvm.MethodName) ∈ G := gT8 158 rfl rfl
theorem g_1839 : Jvm.Cond.code ({ cls := "RainWalkModel", name := "walker", desc := "(II)I" } : Jvm.MethodName) prog_12_method_104_code (3 : Nat) (Option.some Jvm.ClassFile.FieldType.int) ∈ G := gT8 159 rfl rfl
theorem g_1840 : Jvm.Cond.methodLink "RainWalkLaw" (180 : Nat) ({ cls := "RainWalkModel", name := "road", desc := "(II)I" } : Jvm.MethodName) ∈ G := gT8 160 rfl rfl
theorem g_1841 : Jvm.Cond.instanceMethod ({ cls := "RainWalkModel", name := "road", desc := "(II)I" } : Jvm.MethodName) ∈ G := gT8 161 rfl rfl
theorem g_1842 : Jvm.Cond.selects "RainWalkModel" ({ cls := "RainWalkModel", name := "road", desc := "(II)I" } : Jvm.MethodName) ({ cls := "RainWalkModel", name := "road", desc := "(II)I" } : Jvm.MethodName) ∈ G := gT8 162 rfl rfl
theorem g_1843 : Jvm.Cond.code ({ cls := "RainWalkModel", name := "road", desc := "(II)I" } : Jvm.MethodName) prog_12_method_105_code (3 : Nat) (Option.some Jvm.ClassFile.FieldType.int) ∈ G := gT8 163 rfl rfl
theorem g_1844 : Jvm.Cond.methodLink "RainWalkLaw" (186 : Nat) ({ cls := "RainWalkModel", name := "led", desc := "(I)I" } : Jvm.MethodName) ∈ G := gT8 164 rfl rfl
theorem g_1845 : Jvm.Cond.instanceMethod ({ cls := "RainWalkModel", name := "led", desc := "(I)I" } : Jvm.MethodName) ∈ G := gT8 165 rfl rfl
theorem g_1846 : Jvm.Cond.selects "RainWalkModel" ({ cls := "RainWalkModel", name := "led", desc := "(I)I" } : Jvm.MethodName) ({ cls := "RainWalkModel", name := "led", desc := "(I)I" } : Jvm.MethodName) ∈ G := gT8 166 rfl rfl
theorem g_1847 : Jvm.Cond.code ({ cls := "RainWalkModel", name := "led", desc := "(I)I" } : Jvm.MethodName) prog_12_method_106_code (4 : Nat) (Option.some Jvm.ClassFile.FieldType.int) ∈ G := gT8 167 rfl rfl
theorem g_1848 : Jvm.Cond.methodLink "RainWalkLaw" (190 : Nat) ({ cls := "RainWalkModel", name := "size", desc := "(I)I" } : Jvm.MethodName) ∈ G := gT8 168 rfl rfl
theorem g_1849 : Jvm.Cond.instanceMethod ({ cls := "RainWalkModel", name := "size", desc := "(I)I" } : Jvm.MethodName) ∈ G := gT8 169 rfl rfl
theorem g_1850 : Jvm.Cond.selects "RainWalkModel" ({ cls := "RainWalkModel", name := "size", desc := "(I)I" } : Jvm.MethodName) ({ cls := "RainWalkModel", name := "size", desc := "(I)I" } : Jvm.MethodName) ∈ G := gT8 170 rfl rfl
theorem g_1851 : Jvm.Cond.code ({ cls := "RainWalkModel", name := "size", desc := "(I)I" } : Jvm.MethodName) prog_12_method_107_code (2 : Nat) (Option.some Jvm.ClassFile.FieldType.int) ∈ G := gT8 171 rfl rfl
theorem g_1852 : Jvm.Cond.methodLink "RainWalkLaw" (194 : Nat) ({ cls := "RainWalkModel", name := "trouble", desc := "()I" } : Jvm.MethodName) ∈ G := gT8 172 rfl rfl
theorem g_1853 : Jvm.Cond.instanceMethod ({ cls := "RainWalkModel", name := "trouble", desc := "()I" } : Jvm.MethodName) ∈ G := gT8 173 rfl rfl
theorem g_1854 : Jvm.Cond.selects "RainWalkModel" ({ cls := "RainWalkModel", name := "trouble", desc := "()I" } : Jvm.MethodName) ({ cls := "RainWalkModel", name := "trouble", desc := "()I" } : Jvm.MethodName) ∈ G := gT8 174 rfl rfl
theorem g_1855 : Jvm.Cond.code ({ cls := "RainWalkModel", name := "trouble", desc := "()I" } : Jvm.MethodName) prog_12_method_108_code (1 : Nat) (Option.some Jvm.ClassFile.FieldType.int) ∈ G := gT8 175 rfl rfl
theorem g_1872 : Jvm.Cond.fieldLink "java/lang/String" (9 : Nat) "java/lang/String" "value" "[B" ∈ G := gT8 192 rfl rfl
theorem g_1873 : Jvm.Cond.fieldLink "java/lang/String" (15 : Nat) "java/lang/String" "coder" "B" ∈ G := gT8 193 rfl rfl
theorem gp_0 : Cond.selects "RainWalk" (⟨"RainWalk", "putBytes", "(I)V"⟩ : MethodName) (⟨"RainWalk", "putBytes", "(I)V"⟩ : MethodName) ∈ G := gP 0 rfl rfl
theorem gp_1 : Cond.selects "RainWalk" (⟨"RainWalk", "refuse", "(I)I"⟩ : MethodName) (⟨"RainWalk", "refuse", "(I)I"⟩ : MethodName) ∈ G := gP 1 rfl rfl
theorem gp_2 : Cond.selects "RainWalk$Reader" (⟨"RainWalk$Reader", "open", "([BI)V"⟩ : MethodName) (⟨"RainWalk$Reader", "open", "([BI)V"⟩ : MethodName) ∈ G := gP 2 rfl rfl
theorem gp_3 : Cond.selects "RainWalk$Reader" (⟨"RainWalk$Reader", "next", "()V"⟩ : MethodName) (⟨"RainWalk$Reader", "next", "()V"⟩ : MethodName) ∈ G := gP 3 rfl rfl
theorem gp_4 : Cond.selects "RainWalk$Reader" (⟨"RainWalk$Reader", "sortAt", "(I)I"⟩ : MethodName) (⟨"RainWalk$Reader", "sortAt", "(I)I"⟩ : MethodName) ∈ G := gP 4 rfl rfl
theorem gp_5 : Cond.selects "RainWalk$Reader" (⟨"RainWalk$Reader", "is", "(Ljava/lang/String;)Z"⟩ : MethodName) (⟨"RainWalk$Reader", "is", "(Ljava/lang/String;)Z"⟩ : MethodName) ∈ G := gP 5 rfl rfl
theorem gp_6 : Cond.selects "RainWalk$Reader" (⟨"RainWalk$Reader", "worldLine", "()Z"⟩ : MethodName) (⟨"RainWalk$Reader", "worldLine", "()Z"⟩ : MethodName) ∈ G := gP 6 rfl rfl
theorem gp_7 : Cond.selects "RainWalk$Reader" (⟨"RainWalk$Reader", "fail", "(I)Z"⟩ : MethodName) (⟨"RainWalk$Reader", "fail", "(I)Z"⟩ : MethodName) ∈ G := gP 7 rfl rfl
theorem gp_8 : Cond.selects "RainWalk$Reader" (⟨"RainWalk$Reader", "wordAndWhole", "(Ljava/lang/String;II)Z"⟩ : MethodName) (⟨"RainWalk$Reader", "wordAndWhole", "(Ljava/lang/String;II)Z"⟩ : MethodName) ∈ G := gP 8 rfl rfl
theorem gp_9 : Cond.selects "RainWalk$Reader" (⟨"RainWalk$Reader", "word", "(Ljava/lang/String;)Z"⟩ : MethodName) (⟨"RainWalk$Reader", "word", "(Ljava/lang/String;)Z"⟩ : MethodName) ∈ G := gP 9 rfl rfl
theorem gp_10 : Cond.selects "RainWalk$Reader" (⟨"RainWalk$Reader", "whole", "(II)Z"⟩ : MethodName) (⟨"RainWalk$Reader", "whole", "(II)Z"⟩ : MethodName) ∈ G := gP 10 rfl rfl
theorem gp_11 : Cond.selects "RainWalk$Reader" (⟨"RainWalk$Reader", "hasRoom", "(II)Z"⟩ : MethodName) (⟨"RainWalk$Reader", "hasRoom", "(II)Z"⟩ : MethodName) ∈ G := gP 11 rfl rfl
theorem gp_12 : Cond.selects "RainWalk$Reader" (⟨"RainWalk$Reader", "rainLine", "()Z"⟩ : MethodName) (⟨"RainWalk$Reader", "rainLine", "()Z"⟩ : MethodName) ∈ G := gP 12 rfl rfl
theorem gp_13 : Cond.selects "RainWalk$Reader" (⟨"RainWalk$Reader", "side", "()Z"⟩ : MethodName) (⟨"RainWalk$Reader", "side", "()Z"⟩ : MethodName) ∈ G := gP 13 rfl rfl
theorem gp_14 : Cond.selects "RainWalk$Reader" (⟨"RainWalk$Reader", "placeLine", "()Z"⟩ : MethodName) (⟨"RainWalk$Reader", "placeLine", "()Z"⟩ : MethodName) ∈ G := gP 14 rfl rfl
theorem gp_15 : Cond.selects "RainWalk$Reader" (⟨"RainWalk$Reader", "newName", "(I)Z"⟩ : MethodName) (⟨"RainWalk$Reader", "newName", "(I)Z"⟩ : MethodName) ∈ G := gP 15 rfl rfl
theorem gp_16 : Cond.selects "RainWalk$Reader" (⟨"RainWalk$Reader", "canBeName", "()Z"⟩ : MethodName) (⟨"RainWalk$Reader", "canBeName", "()Z"⟩ : MethodName) ∈ G := gP 16 rfl rfl
theorem gp_17 : Cond.selects "RainWalk$Reader" (⟨"RainWalk$Reader", "findName", "()I"⟩ : MethodName) (⟨"RainWalk$Reader", "findName", "()I"⟩ : MethodName) ∈ G := gP 17 rfl rfl
theorem gp_18 : Cond.selects "RainWalk$Reader" (⟨"RainWalk$Reader", "roadLine", "()Z"⟩ : MethodName) (⟨"RainWalk$Reader", "roadLine", "()Z"⟩ : MethodName) ∈ G := gP 18 rfl rfl
theorem gp_19 : Cond.selects "RainWalk$Reader" (⟨"RainWalk$Reader", "placeBut", "(I)Z"⟩ : MethodName) (⟨"RainWalk$Reader", "placeBut", "(I)Z"⟩ : MethodName) ∈ G := gP 19 rfl rfl
theorem gp_20 : Cond.selects "RainWalk$Reader" (⟨"RainWalk$Reader", "walkerLine", "()Z"⟩ : MethodName) (⟨"RainWalk$Reader", "walkerLine", "()Z"⟩ : MethodName) ∈ G := gP 20 rfl rfl
theorem gp_21 : Cond.selects "RainWalk$Reader" (⟨"RainWalk$Reader", "kindOf", "(LRainWalk$Walker;)Z"⟩ : MethodName) (⟨"RainWalk$Reader", "kindOf", "(LRainWalk$Walker;)Z"⟩ : MethodName) ∈ G := gP 21 rfl rfl
theorem gp_22 : Cond.selects "RainWalk$Reader" (⟨"RainWalk$Reader", "bodyOf", "(LRainWalk$Walker;)Z"⟩ : MethodName) (⟨"RainWalk$Reader", "bodyOf", "(LRainWalk$Walker;)Z"⟩ : MethodName) ∈ G := gP 22 rfl rfl
theorem gp_23 : Cond.selects "RainWalk$Reader" (⟨"RainWalk$Reader", "seenLine", "()Z"⟩ : MethodName) (⟨"RainWalk$Reader", "seenLine", "()Z"⟩ : MethodName) ∈ G := gP 23 rfl rfl
theorem gp_24 : Cond.selects "RainWalk$Reader" (⟨"RainWalk$Reader", "someWalker", "()Z"⟩ : MethodName) (⟨"RainWalk$Reader", "someWalker", "()Z"⟩ : MethodName) ∈ G := gP 24 rfl rfl
theorem gp_25 : Cond.selects "RainWalk$Reader" (⟨"RainWalk$Reader", "sign", "(I)Z"⟩ : MethodName) (⟨"RainWalk$Reader", "sign", "(I)Z"⟩ : MethodName) ∈ G := gP 25 rfl rfl
theorem gp_26 : Cond.selects "RainWalk" (⟨"RainWalk", "grant", "(I)I"⟩ : MethodName) (⟨"RainWalk", "grant", "(I)I"⟩ : MethodName) ∈ G := gP 26 rfl rfl
theorem gp_27 : Cond.selects "RainWalk" (⟨"RainWalk", "legTrouble", "(IIIII)I"⟩ : MethodName) (⟨"RainWalk", "legTrouble", "(IIIII)I"⟩ : MethodName) ∈ G := gP 27 rfl rfl
theorem gp_28 : Cond.selects "RainWalk" (⟨"RainWalk", "tripTrouble", "(IIII)I"⟩ : MethodName) (⟨"RainWalk", "tripTrouble", "(IIII)I"⟩ : MethodName) ∈ G := gP 28 rfl rfl
theorem gp_29 : Cond.selects "RainWalk" (⟨"RainWalk", "refusedBy", "(I)Z"⟩ : MethodName) (⟨"RainWalk", "refusedBy", "(I)Z"⟩ : MethodName) ∈ G := gP 29 rfl rfl
theorem gp_30 : Cond.selects "RainWalk$Leg" (⟨"RainWalk$Leg", "soak", "(LRainWalk$Walker;II)J"⟩ : MethodName) (⟨"RainWalk$Leg", "soak", "(LRainWalk$Walker;II)J"⟩ : MethodName) ∈ G := gP 30 rfl rfl
theorem gp_31 : Cond.selects "RainWalk" (⟨"RainWalk", "leeTrouble", "(IIIIII)I"⟩ : MethodName) (⟨"RainWalk", "leeTrouble", "(IIIIII)I"⟩ : MethodName) ∈ G := gP 31 rfl rfl
theorem gp_32 : Cond.selects "RainWalk" (⟨"RainWalk", "wayTrouble", "(IIIII)I"⟩ : MethodName) (⟨"RainWalk", "wayTrouble", "(IIIII)I"⟩ : MethodName) ∈ G := gP 32 rfl rfl
theorem gp_33 : Cond.selects "RainWalk" (⟨"RainWalk", "placesTrouble", "(III)I"⟩ : MethodName) (⟨"RainWalk", "placesTrouble", "(III)I"⟩ : MethodName) ∈ G := gP 33 rfl rfl
theorem gp_34 : Cond.selects "RainWalk$Ways" (⟨"RainWalk$Ways", "makeRows", "()V"⟩ : MethodName) (⟨"RainWalk$Ways", "makeRows", "()V"⟩ : MethodName) ∈ G := gP 34 rfl rfl
theorem gp_35 : Cond.selects "RainWalk$Ways" (⟨"RainWalk$Ways", "price", "(LRainWalk$World;LRainWalk$Leg;I)V"⟩ : MethodName) (⟨"RainWalk$Ways", "price", "(LRainWalk$World;LRainWalk$Leg;I)V"⟩ : MethodName) ∈ G := gP 35 rfl rfl
theorem gp_36 : Cond.selects "RainWalk$Ways" (⟨"RainWalk$Ways", "addLeg", "(LRainWalk$Road;IIJI)V"⟩ : MethodName) (⟨"RainWalk$Ways", "addLeg", "(LRainWalk$Road;IIJI)V"⟩ : MethodName) ∈ G := gP 36 rfl rfl
theorem gp_37 : Cond.selects "RainWalk$Ways" (⟨"RainWalk$Ways", "addMove", "(IIIJI)V"⟩ : MethodName) (⟨"RainWalk$Ways", "addMove", "(IIIJI)V"⟩ : MethodName) ∈ G := gP 37 rfl rfl
theorem gp_38 : Cond.selects "RainWalk$Ways" (⟨"RainWalk$Ways", "reckonMinute", "(II)V"⟩ : MethodName) (⟨"RainWalk$Ways", "reckonMinute", "(II)V"⟩ : MethodName) ∈ G := gP 38 rfl rfl
theorem gp_39 : Cond.selects "RainWalk$Ways" (⟨"RainWalk$Ways", "keyOf", "(II)J"⟩ : MethodName) (⟨"RainWalk$Ways", "keyOf", "(II)J"⟩ : MethodName) ∈ G := gP 39 rfl rfl
theorem gp_40 : Cond.selects "RainWalk$Leg" (⟨"RainWalk$Leg", "fitCode", "(LRainWalk$World;II)I"⟩ : MethodName) (⟨"RainWalk$Leg", "fitCode", "(LRainWalk$World;II)I"⟩ : MethodName) ∈ G := gP 40 rfl rfl
theorem gp_41 : Cond.selects "RainWalk" (⟨"RainWalk", "stayTrouble", "(I)I"⟩ : MethodName) (⟨"RainWalk", "stayTrouble", "(I)I"⟩ : MethodName) ∈ G := gP 41 rfl rfl
theorem gp_42 : Cond.selects "java/lang/Throwable" (⟨"java/lang/Throwable", "fillInStackTrace", "(I)Ljava/lang/Throwable;"⟩ : MethodName) (⟨"java/lang/Throwable", "fillInStackTrace", "(I)Ljava/lang/Throwable;"⟩ : MethodName) ∈ G := gP 42 rfl rfl
theorem gp_43 : Cond.selects "RainWalkModel" (⟨"RainWalkModel", "refused", "(I)I"⟩ : MethodName) (⟨"RainWalkModel", "refused", "(I)I"⟩ : MethodName) ∈ G := gP 43 rfl rfl
theorem gp_44 : Cond.selects "RainWalkModel" (⟨"RainWalkModel", "goesOn", "()V"⟩ : MethodName) (⟨"RainWalkModel", "goesOn", "()V"⟩ : MethodName) ∈ G := gP 44 rfl rfl
theorem gp_45 : Cond.selects "RainWalkModel" (⟨"RainWalkModel", "byteAt", "(I)I"⟩ : MethodName) (⟨"RainWalkModel", "byteAt", "(I)I"⟩ : MethodName) ∈ G := gP 45 rfl rfl
theorem gp_46 : Cond.selects "RainWalkModel" (⟨"RainWalkModel", "readAll", "()V"⟩ : MethodName) (⟨"RainWalkModel", "readAll", "()V"⟩ : MethodName) ∈ G := gP 46 rfl rfl
theorem gp_47 : Cond.selects "RainWalkModel" (⟨"RainWalkModel", "readLine", "()V"⟩ : MethodName) (⟨"RainWalkModel", "readLine", "()V"⟩ : MethodName) ∈ G := gP 47 rfl rfl
theorem gp_48 : Cond.selects "RainWalkModel" (⟨"RainWalkModel", "isWord", "(Ljava/lang/String;)Z"⟩ : MethodName) (⟨"RainWalkModel", "isWord", "(Ljava/lang/String;)Z"⟩ : MethodName) ∈ G := gP 48 rfl rfl
theorem gp_49 : Cond.selects "RainWalkModel" (⟨"RainWalkModel", "readWorld", "()V"⟩ : MethodName) (⟨"RainWalkModel", "readWorld", "()V"⟩ : MethodName) ∈ G := gP 49 rfl rfl
theorem gp_50 : Cond.selects "RainWalkModel" (⟨"RainWalkModel", "flaw", "(I)V"⟩ : MethodName) (⟨"RainWalkModel", "flaw", "(I)V"⟩ : MethodName) ∈ G := gP 50 rfl rfl
theorem gp_51 : Cond.selects "RainWalkModel" (⟨"RainWalkModel", "readPart", "(Ljava/lang/String;II)I"⟩ : MethodName) (⟨"RainWalkModel", "readPart", "(Ljava/lang/String;II)I"⟩ : MethodName) ∈ G := gP 51 rfl rfl
theorem gp_52 : Cond.selects "RainWalkModel" (⟨"RainWalkModel", "needs", "(Ljava/lang/String;)V"⟩ : MethodName) (⟨"RainWalkModel", "needs", "(Ljava/lang/String;)V"⟩ : MethodName) ∈ G := gP 52 rfl rfl
theorem gp_53 : Cond.selects "RainWalkModel" (⟨"RainWalkModel", "readWhole", "(II)I"⟩ : MethodName) (⟨"RainWalkModel", "readWhole", "(II)I"⟩ : MethodName) ∈ G := gP 53 rfl rfl
theorem gp_54 : Cond.selects "RainWalkModel" (⟨"RainWalkModel", "readRain", "()V"⟩ : MethodName) (⟨"RainWalkModel", "readRain", "()V"⟩ : MethodName) ∈ G := gP 54 rfl rfl
theorem gp_55 : Cond.selects "RainWalkModel" (⟨"RainWalkModel", "begins", "(II)V"⟩ : MethodName) (⟨"RainWalkModel", "begins", "(II)V"⟩ : MethodName) ∈ G := gP 55 rfl rfl
theorem gp_56 : Cond.selects "RainWalkModel" (⟨"RainWalkModel", "readSide", "()I"⟩ : MethodName) (⟨"RainWalkModel", "readSide", "()I"⟩ : MethodName) ∈ G := gP 56 rfl rfl
theorem gp_57 : Cond.selects "RainWalkModel" (⟨"RainWalkModel", "readPlace", "()V"⟩ : MethodName) (⟨"RainWalkModel", "readPlace", "()V"⟩ : MethodName) ∈ G := gP 57 rfl rfl
theorem gp_58 : Cond.selects "RainWalkModel" (⟨"RainWalkModel", "readFresh", "()J"⟩ : MethodName) (⟨"RainWalkModel", "readFresh", "()J"⟩ : MethodName) ∈ G := gP 58 rfl rfl
theorem gp_59 : Cond.selects "RainWalkModel" (⟨"RainWalkModel", "isName", "()Z"⟩ : MethodName) (⟨"RainWalkModel", "isName", "()Z"⟩ : MethodName) ∈ G := gP 59 rfl rfl
theorem gp_60 : Cond.selects "RainWalkModel" (⟨"RainWalkModel", "eatsWord", "(Ljava/lang/String;)Z"⟩ : MethodName) (⟨"RainWalkModel", "eatsWord", "(Ljava/lang/String;)Z"⟩ : MethodName) ∈ G := gP 60 rfl rfl
theorem gp_61 : Cond.selects "RainWalkModel" (⟨"RainWalkModel", "names", "(JII)V"⟩ : MethodName) (⟨"RainWalkModel", "names", "(JII)V"⟩ : MethodName) ∈ G := gP 61 rfl rfl
theorem gp_62 : Cond.selects "RainWalkModel" (⟨"RainWalkModel", "readRoad", "()V"⟩ : MethodName) (⟨"RainWalkModel", "readRoad", "()V"⟩ : MethodName) ∈ G := gP 62 rfl rfl
theorem gp_63 : Cond.selects "RainWalkModel" (⟨"RainWalkModel", "known", "(I)I"⟩ : MethodName) (⟨"RainWalkModel", "known", "(I)I"⟩ : MethodName) ∈ G := gP 63 rfl rfl
theorem gp_64 : Cond.selects "RainWalkModel" (⟨"RainWalkModel", "readWalker", "()V"⟩ : MethodName) (⟨"RainWalkModel", "readWalker", "()V"⟩ : MethodName) ∈ G := gP 64 rfl rfl
theorem gp_65 : Cond.selects "RainWalkModel" (⟨"RainWalkModel", "readSeen", "()V"⟩ : MethodName) (⟨"RainWalkModel", "readSeen", "()V"⟩ : MethodName) ∈ G := gP 65 rfl rfl
theorem gp_66 : Cond.selects "RainWalkModel" (⟨"RainWalkModel", "eatsSign", "(I)Z"⟩ : MethodName) (⟨"RainWalkModel", "eatsSign", "(I)Z"⟩ : MethodName) ∈ G := gP 66 rfl rfl
theorem gp_67 : Cond.selects "RainWalkModel" (⟨"RainWalkModel", "good", "(I)I"⟩ : MethodName) (⟨"RainWalkModel", "good", "(I)I"⟩ : MethodName) ∈ G := gP 67 rfl rfl
theorem gp_68 : Cond.selects "RainWalkModel" (⟨"RainWalkModel", "refuses", "(IIIII)I"⟩ : MethodName) (⟨"RainWalkModel", "refuses", "(IIIII)I"⟩ : MethodName) ∈ G := gP 68 rfl rfl
theorem gp_69 : Cond.selects "RainWalkModel" (⟨"RainWalkModel", "isWalker", "(I)Z"⟩ : MethodName) (⟨"RainWalkModel", "isWalker", "(I)Z"⟩ : MethodName) ∈ G := gP 69 rfl rfl
theorem gp_70 : Cond.selects "RainWalkModel" (⟨"RainWalkModel", "isRoad", "(I)Z"⟩ : MethodName) (⟨"RainWalkModel", "isRoad", "(I)Z"⟩ : MethodName) ∈ G := gP 70 rfl rfl
theorem gp_71 : Cond.selects "RainWalkModel" (⟨"RainWalkModel", "isHour", "(I)Z"⟩ : MethodName) (⟨"RainWalkModel", "isHour", "(I)Z"⟩ : MethodName) ∈ G := gP 71 rfl rfl
theorem gp_72 : Cond.selects "RainWalkModel" (⟨"RainWalkModel", "isSpeed", "(II)Z"⟩ : MethodName) (⟨"RainWalkModel", "isSpeed", "(II)Z"⟩ : MethodName) ∈ G := gP 72 rfl rfl
theorem gp_73 : Cond.selects "RainWalkModel" (⟨"RainWalkModel", "partsOf", "(IIIIII)J"⟩ : MethodName) (⟨"RainWalkModel", "partsOf", "(IIIIII)J"⟩ : MethodName) ∈ G := gP 73 rfl rfl
theorem gp_74 : Cond.selects "RainWalkModel" (⟨"RainWalkModel", "inTime", "(IIIIIIII)I"⟩ : MethodName) (⟨"RainWalkModel", "inTime", "(IIIIIIII)I"⟩ : MethodName) ∈ G := gP 74 rfl rfl
theorem gp_75 : Cond.selects "RainWalkModel" (⟨"RainWalkModel", "isForward", "(IIIII)Z"⟩ : MethodName) (⟨"RainWalkModel", "isForward", "(IIIII)Z"⟩ : MethodName) ∈ G := gP 75 rfl rfl
theorem gp_76 : Cond.selects "RainWalkModel" (⟨"RainWalkModel", "told", "(JJZ)J"⟩ : MethodName) (⟨"RainWalkModel", "told", "(JJZ)J"⟩ : MethodName) ∈ G := gP 76 rfl rfl
theorem gp_77 : Cond.selects "RainWalkModel" (⟨"RainWalkModel", "wetOf", "(IIIII)J"⟩ : MethodName) (⟨"RainWalkModel", "wetOf", "(IIIII)J"⟩ : MethodName) ∈ G := gP 77 rfl rfl
theorem gp_78 : Cond.selects "RainWalkModel" (⟨"RainWalkModel", "lost", "(I)I"⟩ : MethodName) (⟨"RainWalkModel", "lost", "(I)I"⟩ : MethodName) ∈ G := gP 78 rfl rfl
theorem gp_79 : Cond.selects "RainWalkModel" (⟨"RainWalkModel", "bestOf", "(IIII)I"⟩ : MethodName) (⟨"RainWalkModel", "bestOf", "(IIII)I"⟩ : MethodName) ∈ G := gP 79 rfl rfl
theorem gp_80 : Cond.selects "RainWalkModel" (⟨"RainWalkModel", "wetAtBest", "(IIII)J"⟩ : MethodName) (⟨"RainWalkModel", "wetAtBest", "(IIII)J"⟩ : MethodName) ∈ G := gP 80 rfl rfl
theorem gp_81 : Cond.selects "RainWalkModel" (⟨"RainWalkModel", "refusesTwo", "(IIIIII)I"⟩ : MethodName) (⟨"RainWalkModel", "refusesTwo", "(IIIIII)I"⟩ : MethodName) ∈ G := gP 81 rfl rfl
theorem gp_82 : Cond.selects "RainWalkModel" (⟨"RainWalkModel", "together", "(IIIIII)J"⟩ : MethodName) (⟨"RainWalkModel", "together", "(IIIIII)J"⟩ : MethodName) ∈ G := gP 82 rfl rfl
theorem gp_83 : Cond.selects "RainWalkModel" (⟨"RainWalkModel", "refusesWay", "(IIIII)I"⟩ : MethodName) (⟨"RainWalkModel", "refusesWay", "(IIIII)I"⟩ : MethodName) ∈ G := gP 83 rfl rfl
theorem gp_84 : Cond.selects "RainWalkModel" (⟨"RainWalkModel", "isPlace", "(I)Z"⟩ : MethodName) (⟨"RainWalkModel", "isPlace", "(I)Z"⟩ : MethodName) ∈ G := gP 84 rfl rfl
theorem gp_85 : Cond.selects "RainWalkModel" (⟨"RainWalkModel", "laysWays", "(III)V"⟩ : MethodName) (⟨"RainWalkModel", "laysWays", "(III)V"⟩ : MethodName) ∈ G := gP 85 rfl rfl
theorem gp_86 : Cond.selects "RainWalkModel" (⟨"RainWalkModel", "tries", "(IIII)V"⟩ : MethodName) (⟨"RainWalkModel", "tries", "(IIII)V"⟩ : MethodName) ∈ G := gP 86 rfl rfl
theorem gp_87 : Cond.selects "RainWalkModel" (⟨"RainWalkModel", "meanOf", "(IIIII)J"⟩ : MethodName) (⟨"RainWalkModel", "meanOf", "(IIIII)J"⟩ : MethodName) ∈ G := gP 87 rfl rfl
theorem gp_88 : Cond.selects "RainWalkModel" (⟨"RainWalkModel", "hourOf", "(I)I"⟩ : MethodName) (⟨"RainWalkModel", "hourOf", "(I)I"⟩ : MethodName) ∈ G := gP 88 rfl rfl
theorem gp_89 : Cond.selects "RainWalkModel" (⟨"RainWalkModel", "takes", "(IIJI)V"⟩ : MethodName) (⟨"RainWalkModel", "takes", "(IIJI)V"⟩ : MethodName) ∈ G := gP 89 rfl rfl
theorem gp_90 : Cond.selects "RainWalkModel" (⟨"RainWalkModel", "canWait", "(I)Z"⟩ : MethodName) (⟨"RainWalkModel", "canWait", "(I)Z"⟩ : MethodName) ∈ G := gP 90 rfl rfl
theorem gp_91 : Cond.selects "RainWalkModel" (⟨"RainWalkModel", "waitsOf", "(III)J"⟩ : MethodName) (⟨"RainWalkModel", "waitsOf", "(III)J"⟩ : MethodName) ∈ G := gP 91 rfl rfl
theorem gp_92 : Cond.selects "RainWalkModel" (⟨"RainWalkModel", "drips", "(II)J"⟩ : MethodName) (⟨"RainWalkModel", "drips", "(II)J"⟩ : MethodName) ∈ G := gP 92 rfl rfl
theorem gp_93 : Cond.selects "RainWalkModel" (⟨"RainWalkModel", "stepOf", "(IIII)I"⟩ : MethodName) (⟨"RainWalkModel", "stepOf", "(IIII)I"⟩ : MethodName) ∈ G := gP 93 rfl rfl
theorem gp_94 : Cond.selects "RainWalkModel" (⟨"RainWalkModel", "isSeen", "(I)Z"⟩ : MethodName) (⟨"RainWalkModel", "isSeen", "(I)Z"⟩ : MethodName) ∈ G := gP 94 rfl rfl
theorem gp_95 : Cond.selects "RainWalkModel" (⟨"RainWalkModel", "fitOf", "(II)I"⟩ : MethodName) (⟨"RainWalkModel", "fitOf", "(II)I"⟩ : MethodName) ∈ G := gP 95 rfl rfl
theorem gp_96 : Cond.selects "RainWalkModel" (⟨"RainWalkModel", "isDay", "()Z"⟩ : MethodName) (⟨"RainWalkModel", "isDay", "()Z"⟩ : MethodName) ∈ G := gP 96 rfl rfl
theorem gp_97 : Cond.selects "RainWalkModel" (⟨"RainWalkModel", "keeps", "()V"⟩ : MethodName) (⟨"RainWalkModel", "keeps", "()V"⟩ : MethodName) ∈ G := gP 97 rfl rfl
theorem gp_98 : Cond.selects "RainWalkModel" (⟨"RainWalkModel", "rainsIn", "(I)Z"⟩ : MethodName) (⟨"RainWalkModel", "rainsIn", "(I)Z"⟩ : MethodName) ∈ G := gP 98 rfl rfl
theorem gp_99 : Cond.selects "RainWalkModel" (⟨"RainWalkModel", "denied", "(I)Z"⟩ : MethodName) (⟨"RainWalkModel", "denied", "(I)Z"⟩ : MethodName) ∈ G := gP 99 rfl rfl
theorem gp_100 : Cond.selects "RainWalkModel" (⟨"RainWalkModel", "granted", "()Z"⟩ : MethodName) (⟨"RainWalkModel", "granted", "()Z"⟩ : MethodName) ∈ G := gP 100 rfl rfl
theorem gp_101 : Cond.selects "RainWalkModel" (⟨"RainWalkModel", "gotInAll", "()J"⟩ : MethodName) (⟨"RainWalkModel", "gotInAll", "()J"⟩ : MethodName) ∈ G := gP 101 rfl rfl
theorem gp_102 : Cond.selects "RainWalkModel" (⟨"RainWalkModel", "holds", "()J"⟩ : MethodName) (⟨"RainWalkModel", "holds", "()J"⟩ : MethodName) ∈ G := gP 102 rfl rfl
/-- links to what is private in the nest; the string constants -/
def NF : List (String × Nat × String × String × String × String) := [("RainWalkModel", 151, "RainWalkModel$World", "hour", "I", "RainWalkModel"), ("RainWalkModel", 219, "RainWalkModel$World", "hours", "I", "RainWalkModel"), ("RainWalkModel", 190, "RainWalkModel$World", "places", "I", "RainWalkModel"), ("RainWalkModel", 264, "RainWalkModel$World", "roads", "I", "RainWalkModel"), ("RainWalkModel", 193, "RainWalkModel$World", "walkers", "I", "RainWalkModel"), ("RainWalkModel", 323, "RainWalkModel$World", "seens", "I", "RainWalkModel"), ("RainWalkModel", 167, "RainWalkModel$World", "names", "I", "RainWalkModel"), ("RainWalkModel", 237, "RainWalkModel$World", "drops", "[I", "RainWalkModel"), ("RainWalkModel", 239, "RainWalkModel$World", "down", "[I", "RainWalkModel"), ("RainWalkModel", 241, "RainWalkModel$World", "windSide", "[I", "RainWalkModel"), ("RainWalkModel", 244, "RainWalkModel$World", "wind", "[I", "RainWalkModel"), ("RainWalkModel", 246, "RainWalkModel$World", "chance", "[I", "RainWalkModel"), ("RainWalkModel", 262, "RainWalkModel$World", "tree", "[I", "RainWalkModel"), ("RainWalkModel", 270, "RainWalkModel$World", "roadFrom", "[I", "RainWalkModel"), ("RainWalkModel", 273, "RainWalkModel$World", "roadTo", "[I", "RainWalkModel"), ("RainWalkModel", 276, "RainWalkModel$World", "roadSide", "[I", "RainWalkModel"), ("RainWalkModel", 279, "RainWalkModel$World", "roadLong", "[I", "RainWalkModel"), ("RainWalkModel", 282, "RainWalkModel$World", "awning", "[I", "RainWalkModel"), ("RainWalkModel", 258, "RainWalkModel$World", "isInn", "[Z", "RainWalkModel"), ("RainWalkModel", 302, "RainWalkModel$World", "kind", "[I", "RainWalkModel"), ("RainWalkModel", 305, "RainWalkModel$World", "much", "[I", "RainWalkModel"), ("RainWalkModel", 308, "RainWalkModel$World", "top", "[I", "RainWalkModel"), ("RainWalkModel", 311, "RainWalkModel$World", "front", "[I", "RainWalkModel"), ("RainWalkModel", 314, "RainWalkModel$World", "side", "[I", "RainWalkModel"), ("RainWalkModel", 317, "RainWalkModel$World", "slowest", "[I", "RainWalkModel"), ("RainWalkModel", 320, "RainWalkModel$World", "fastest", "[I", "RainWalkModel"), ("RainWalkModel", 328, "RainWalkModel$World", "seenWho", "[I", "RainWalkModel"), ("RainWalkModel", 326, "RainWalkModel$World", "seen", "[I", "RainWalkModel"), ("RainWalkModel", 164, "RainWalkModel$World", "name", "[J", "RainWalkModel"), ("RainWalkModel", 170, "RainWalkModel$World", "nameSort", "[I", "RainWalkModel"), ("RainWalkModel", 173, "RainWalkModel$World", "nameNumber", "[I", "RainWalkModel")]
def NM : List (String × Nat × MethodName × String) := [("RainWalk$World", 39, ⟨"RainWalk$Rain", "<init>", "()V"⟩, "RainWalk"), ("RainWalk$World", 40, ⟨"RainWalk$Road", "<init>", "()V"⟩, "RainWalk"), ("RainWalk$World", 41, ⟨"RainWalk$Walker", "<init>", "()V"⟩, "RainWalk"), ("RainWalk", 22, ⟨"RainWalk$Reader", "<init>", "()V"⟩, "RainWalk"), ("RainWalk", 29, ⟨"RainWalk$Leg", "<init>", "()V"⟩, "RainWalk"), ("RainWalk", 36, ⟨"RainWalk$Ways", "<init>", "()V"⟩, "RainWalk"), ("RainWalk$Day", 17, ⟨"RainWalk$Moment", "<init>", "()V"⟩, "RainWalk"), ("RainWalkModel", 334, ⟨"RainWalkModel$World", "<init>", "()V"⟩, "RainWalkModel")]
def SR : List (String × Nat × String) := [("RainWalk$Reader", 34, "world"), ("RainWalk$Reader", 179, "hour"), ("RainWalk$Reader", 43, "rain"), ("RainWalk$Reader", 191, "drops"), ("RainWalk$Reader", 197, "down"), ("RainWalk$Reader", 201, "wind"), ("RainWalk$Reader", 156, "north"), ("RainWalk$Reader", 158, "east"), ("RainWalk$Reader", 160, "south"), ("RainWalk$Reader", 162, "west"), ("RainWalk$Reader", 211, "chance"), ("RainWalk$Reader", 56, "place"), ("RainWalk$Reader", 64, "road"), ("RainWalk$Reader", 72, "walker"), ("RainWalk$Reader", 80, "seen"), ("RainWalk$Reader", 164, "inn"), ("RainWalk$Reader", 166, "tree"), ("RainWalk$Reader", 168, "awning"), ("RainWalk$Reader", 262, "bent"), ("RainWalk$Reader", 267, "coat"), ("RainWalk$Reader", 269, "shield"), ("RainWalk$Reader", 271, "plain"), ("RainWalk$Reader", 276, "broad"), ("RainWalk$Reader", 278, "deep"), ("RainWalk$Reader", 280, "high"), ("RainWalk$Reader", 250, "from"), ("RainWalk$Reader", 257, "to"), ("RainWalkModel", 130, "world"), ("RainWalkModel", 214, "hour"), ("RainWalkModel", 132, "rain"), ("RainWalkModel", 226, "drops"), ("RainWalkModel", 228, "down"), ("RainWalkModel", 230, "wind"), ("RainWalkModel", 176, "north"), ("RainWalkModel", 178, "east"), ("RainWalkModel", 180, "south"), ("RainWalkModel", 182, "west"), ("RainWalkModel", 235, "chance"), ("RainWalkModel", 134, "place"), ("RainWalkModel", 135, "road"), ("RainWalkModel", 137, "walker"), ("RainWalkModel", 139, "seen"), ("RainWalkModel", 141, "inn"), ("RainWalkModel", 143, "tree"), ("RainWalkModel", 145, "awning"), ("RainWalkModel", 284, "plain"), ("RainWalkModel", 286, "bent"), ("RainWalkModel", 288, "coat"), ("RainWalkModel", 290, "shield"), ("RainWalkModel", 292, "broad"), ("RainWalkModel", 294, "deep"), ("RainWalkModel", 296, "high"), ("RainWalkModel", 298, "from"), ("RainWalkModel", 300, "to")]
def sByt : List (List Int32) := [[119, 111, 114, 108, 100], [104, 111, 117, 114], [114, 97, 105, 110], [100, 114, 111, 112, 115], [100, 111, 119, 110], [119, 105, 110, 100], [110, 111, 114, 116, 104], [101, 97, 115, 116], [115, 111, 117, 116, 104], [119, 101, 115, 116], [99, 104, 97, 110, 99, 101], [112, 108, 97, 99, 101], [114, 111, 97, 100], [119, 97, 108, 107, 101, 114], [115, 101, 101, 110], [105, 110, 110], [116, 114, 101, 101], [97, 119, 110, 105, 110, 103], [98, 101, 110, 116], [99, 111, 97, 116], [115, 104, 105, 101, 108, 100], [112, 108, 97, 105, 110], [98, 114, 111, 97, 100], [100, 101, 101, 112], [104, 105, 103, 104], [102, 114, 111, 109], [116, 111], [119, 111, 114, 108, 100], [104, 111, 117, 114], [114, 97, 105, 110], [100, 114, 111, 112, 115], [100, 111, 119, 110], [119, 105, 110, 100], [110, 111, 114, 116, 104], [101, 97, 115, 116], [115, 111, 117, 116, 104], [119, 101, 115, 116], [99, 104, 97, 110, 99, 101], [112, 108, 97, 99, 101], [114, 111, 97, 100], [119, 97, 108, 107, 101, 114], [115, 101, 101, 110], [105, 110, 110], [116, 114, 101, 101], [97, 119, 110, 105, 110, 103], [112, 108, 97, 105, 110], [98, 101, 110, 116], [99, 111, 97, 116], [115, 104, 105, 101, 108, 100], [98, 114, 111, 97, 100], [100, 101, 101, 112], [104, 105, 103, 104], [102, 114, 111, 109], [116, 111]]
def sLen : List Nat := [5, 4, 4, 5, 4, 4, 5, 4, 5, 4, 6, 5, 4, 6, 4, 3, 4, 6, 4, 4, 6, 5, 5, 4, 4, 4, 2, 5, 4, 4, 5, 4, 4, 5, 4, 5, 4, 6, 5, 4, 6, 4, 3, 4, 6, 5, 4, 4, 6, 5, 4, 4, 4, 2]
theorem cw_0 : ∀ w ∈ u_ws RX0 TX0 7, w ∈ G := by
  intro w hw
  obtain ⟨z, hz, rfl⟩ := List.mem_map.mp hw
  have hz := List.mem_range.mp hz
  match z, hz with
    | 0, _ => exact g_372
    | 1, _ => exact g_374
    | 2, _ => exact g_376
    | 3, _ => exact g_378
    | 4, _ => exact g_380
    | 5, _ => exact g_382
    | 6, _ => exact g_384
    | z + 7, hz => exact absurd hz (by omega)
theorem cw_1 : ∀ w ∈ u_ws RX1 TX1 2, w ∈ G := by
  intro w hw
  obtain ⟨z, hz, rfl⟩ := List.mem_map.mp hw
  have hz := List.mem_range.mp hz
  match z, hz with
    | 0, _ => exact g_276
    | 1, _ => exact g_278
    | z + 2, hz => exact absurd hz (by omega)
theorem cw_2 : ∀ w ∈ u_ws RX2 TX2 3, w ∈ G := by
  intro w hw
  obtain ⟨z, hz, rfl⟩ := List.mem_map.mp hw
  have hz := List.mem_range.mp hz
  match z, hz with
    | 0, _ => exact g_352
    | 1, _ => exact g_354
    | 2, _ => exact g_356
    | z + 3, hz => exact absurd hz (by omega)
theorem cw_3 : ∀ w ∈ u_ws RX3 TX3 5, w ∈ G := by
  intro w hw
  obtain ⟨z, hz, rfl⟩ := List.mem_map.mp hw
  have hz := List.mem_range.mp hz
  match z, hz with
    | 0, _ => exact g_60
    | 1, _ => exact g_62
    | 2, _ => exact g_64
    | 3, _ => exact g_66
    | 4, _ => exact g_68
    | z + 5, hz => exact absurd hz (by omega)
theorem cw_4 : ∀ w ∈ u_ws RX4 TX4 13, w ∈ G := by
  intro w hw
  obtain ⟨z, hz, rfl⟩ := List.mem_map.mp hw
  have hz := List.mem_range.mp hz
  match z, hz with
    | 0, _ => exact g_239
    | 1, _ => exact g_241
    | 2, _ => exact g_243
    | 3, _ => exact g_245
    | 4, _ => exact g_247
    | 5, _ => exact g_249
    | 6, _ => exact g_251
    | 7, _ => exact g_253
    | 8, _ => exact g_255
    | 9, _ => exact g_257
    | 10, _ => exact g_259
    | 11, _ => exact g_261
    | 12, _ => exact g_263
    | z + 13, hz => exact absurd hz (by omega)
theorem cw_5 : ∀ w ∈ u_ws RX5 TX5 5, w ∈ G := by
  intro w hw
  obtain ⟨z, hz, rfl⟩ := List.mem_map.mp hw
  have hz := List.mem_range.mp hz
  match z, hz with
    | 0, _ => exact g_90
    | 1, _ => exact g_92
    | 2, _ => exact g_94
    | 3, _ => exact g_96
    | 4, _ => exact g_98
    | z + 5, hz => exact absurd hz (by omega)
theorem cw_6 : ∀ w ∈ u_ws RX6 TX6 7, w ∈ G := by
  intro w hw
  obtain ⟨z, hz, rfl⟩ := List.mem_map.mp hw
  have hz := List.mem_range.mp hz
  match z, hz with
    | 0, _ => exact g_128
    | 1, _ => exact g_130
    | 2, _ => exact g_132
    | 3, _ => exact g_134
    | 4, _ => exact g_136
    | 5, _ => exact g_138
    | 6, _ => exact g_140
    | z + 7, hz => exact absurd hz (by omega)
theorem cw_7 : ∀ w ∈ u_ws RX7 TX7 14, w ∈ G := by
  intro w hw
  obtain ⟨z, hz, rfl⟩ := List.mem_map.mp hw
  have hz := List.mem_range.mp hz
  match z, hz with
    | 0, _ => exact g_302
    | 1, _ => exact g_304
    | 2, _ => exact g_306
    | 3, _ => exact g_308
    | 4, _ => exact g_310
    | 5, _ => exact g_312
    | 6, _ => exact g_314
    | 7, _ => exact g_316
    | 8, _ => exact g_318
    | 9, _ => exact g_320
    | 10, _ => exact g_322
    | 11, _ => exact g_324
    | 12, _ => exact g_326
    | 13, _ => exact g_328
    | z + 14, hz => exact absurd hz (by omega)
theorem cw_8 : ∀ w ∈ u_ws RX8 TX8 12, w ∈ G := by
  intro w hw
  obtain ⟨z, hz, rfl⟩ := List.mem_map.mp hw
  have hz := List.mem_range.mp hz
  match z, hz with
    | 0, _ => exact g_191
    | 1, _ => exact g_193
    | 2, _ => exact g_195
    | 3, _ => exact g_197
    | 4, _ => exact g_199
    | 5, _ => exact g_201
    | 6, _ => exact g_203
    | 7, _ => exact g_205
    | 8, _ => exact g_207
    | 9, _ => exact g_209
    | 10, _ => exact g_211
    | 11, _ => exact g_213
    | z + 12, hz => exact absurd hz (by omega)
theorem cw_9 : ∀ w ∈ u_ws RX9 TX9 10, w ∈ G := by
  intro w hw
  obtain ⟨z, hz, rfl⟩ := List.mem_map.mp hw
  have hz := List.mem_range.mp hz
  match z, hz with
    | 0, _ => exact g_397
    | 1, _ => exact g_399
    | 2, _ => exact g_401
    | 3, _ => exact g_403
    | 4, _ => exact g_405
    | 5, _ => exact g_407
    | 6, _ => exact g_409
    | 7, _ => exact g_411
    | 8, _ => exact g_413
    | 9, _ => exact g_415
    | z + 10, hz => exact absurd hz (by omega)
theorem cw_10 : ∀ w ∈ u_ws RX10 TX10 31, w ∈ G := by
  intro w hw
  obtain ⟨z, hz, rfl⟩ := List.mem_map.mp hw
  have hz := List.mem_range.mp hz
  match z, hz with
    | 0, _ => exact g_1316
    | 1, _ => exact g_1318
    | 2, _ => exact g_1320
    | 3, _ => exact g_1322
    | 4, _ => exact g_1324
    | 5, _ => exact g_1326
    | 6, _ => exact g_1328
    | 7, _ => exact g_1330
    | 8, _ => exact g_1332
    | 9, _ => exact g_1334
    | 10, _ => exact g_1336
    | 11, _ => exact g_1338
    | 12, _ => exact g_1340
    | 13, _ => exact g_1342
    | 14, _ => exact g_1344
    | 15, _ => exact g_1346
    | 16, _ => exact g_1348
    | 17, _ => exact g_1350
    | 18, _ => exact g_1352
    | 19, _ => exact g_1354
    | 20, _ => exact g_1356
    | 21, _ => exact g_1358
    | 22, _ => exact g_1360
    | 23, _ => exact g_1362
    | 24, _ => exact g_1364
    | 25, _ => exact g_1366
    | 26, _ => exact g_1368
    | 27, _ => exact g_1370
    | 28, _ => exact g_1372
    | 29, _ => exact g_1374
    | 30, _ => exact g_1376
    | z + 31, hz => exact absurd hz (by omega)
theorem cw_11 : ∀ w ∈ u_ws RX11 TX11 26, w ∈ G := by
  intro w hw
  obtain ⟨z, hz, rfl⟩ := List.mem_map.mp hw
  have hz := List.mem_range.mp hz
  match z, hz with
    | 0, _ => exact g_1189
    | 1, _ => exact g_1191
    | 2, _ => exact g_1193
    | 3, _ => exact g_1195
    | 4, _ => exact g_1197
    | 5, _ => exact g_1199
    | 6, _ => exact g_1201
    | 7, _ => exact g_1203
    | 8, _ => exact g_1205
    | 9, _ => exact g_1207
    | 10, _ => exact g_1209
    | 11, _ => exact g_1211
    | 12, _ => exact g_1213
    | 13, _ => exact g_1215
    | 14, _ => exact g_1217
    | 15, _ => exact g_1219
    | 16, _ => exact g_1221
    | 17, _ => exact g_1223
    | 18, _ => exact g_1225
    | 19, _ => exact g_1227
    | 20, _ => exact g_1229
    | 21, _ => exact g_1231
    | 22, _ => exact g_1233
    | 23, _ => exact g_1235
    | 24, _ => exact g_1237
    | 25, _ => exact g_1239
    | z + 26, hz => exact absurd hz (by omega)
/-- what the words say of the classes: every class's words stand; its fields' types; its names are apart -/
def CL (q : vw_C) : Prop := (∀ w ∈ u_ws q.1 q.2.1 q.2.2, w ∈ G) ∧ ∃ ty : Nat → FieldType, (∀ z, z < q.2.2 → parseFieldDescriptor (q.2.1 z).2.2.1 = some (ty z)) ∧ (∀ a, a < q.2.2 → ∀ b, b < q.2.2 → a ≠ b → (q.2.1 a).2.1 ≠ (q.2.1 b).2.1)
theorem CLs : ∀ (ci : Nat) (q : vw_C), vwCl[ci]? = some q → CL q := by
  intro ci q h
  match ci, h with
  | 0, h => cases h; exact ⟨cw_0, tyX0, tyX0_ok, nmX0⟩
  | 1, h => cases h; exact ⟨cw_1, tyX1, tyX1_ok, nmX1⟩
  | 2, h => cases h; exact ⟨cw_2, tyX2, tyX2_ok, nmX2⟩
  | 3, h => cases h; exact ⟨cw_3, tyX3, tyX3_ok, nmX3⟩
  | 4, h => cases h; exact ⟨cw_4, tyX4, tyX4_ok, nmX4⟩
  | 5, h => cases h; exact ⟨cw_5, tyX5, tyX5_ok, nmX5⟩
  | 6, h => cases h; exact ⟨cw_6, tyX6, tyX6_ok, nmX6⟩
  | 7, h => cases h; exact ⟨cw_7, tyX7, tyX7_ok, nmX7⟩
  | 8, h => cases h; exact ⟨cw_8, tyX8, tyX8_ok, nmX8⟩
  | 9, h => cases h; exact ⟨cw_9, tyX9, tyX9_ok, nmX9⟩
  | 10, h => cases h; exact ⟨cw_10, tyX10, tyX10_ok, nmX10⟩
  | 11, h => cases h; exact ⟨cw_11, tyX11, tyX11_ok, nmX11⟩
  | z + 12, h => simp [vwCl] at h
