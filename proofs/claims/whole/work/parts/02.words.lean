/-! WORDS: the good words of the tables (tT), each by its place; class tables; methods' names; calls' words. Laid by program (wip/whole/gen/names.py). -/
def tT : List Cond := lw_tbl.filter goodWord
theorem tT_k {w : Cond} (i : Nat) (h : tables_1[i]? = some w) (hg : goodWord w = true) : w ∈ tT := List.mem_filter.mpr ⟨List.mem_append_right _ (List.mem_of_getElem? h), hg⟩
theorem tT_p {w : Cond} (i : Nat) (h : (k2_sels lw_privs)[i]? = some w) (hg : goodWord w = true) : w ∈ tT := List.mem_filter.mpr ⟨List.mem_append_left _ (List.mem_of_getElem? h), hg⟩
theorem tT_in {w : Cond} (h : w ∈ tT) : w ∈ lw_tbl := (List.mem_filter.mp h).1
theorem tT_good {ws : List Cond} (h : ∀ w ∈ ws, w ∈ tT) : GoodIn tT ws := fun w hw => ⟨h w hw, good_of_word (List.mem_filter.mp (h w hw)).2⟩
def wc (y : MethodName) (b : ByteArray) (n : Nat) (r : Option FieldType) : List Cond := .code y b n r :: tT
theorem wc_in {y : MethodName} {b : ByteArray} {n : Nat} {r : Option FieldType} (h : Cond.code y b n r ∈ tT) : ∀ w ∈ wc y b n r, w ∈ tT := fun w hw => (List.mem_cons.mp hw).elim (fun e => by rw [e]; exact h) id
theorem gV {own C : String} {idx n : Nat} {y : MethodName} {b : ByteArray} {r : Option FieldType} (h1 : Cond.methodLink own idx y ∈ tT) (h2 : Cond.instanceMethod y ∈ tT) (h3 : Cond.selects C y y ∈ tT) (h4 : Cond.initialized C ∈ tT) (h5 : Cond.code y b n r ∈ tT) : GoodIn tT (wsV own idx C y (wc y b n r)) := tT_good (fun w hw => by
  unfold wsV at hw
  rcases List.mem_append.mp hw with hw | hw
  · simp only [List.mem_cons, List.not_mem_nil, or_false] at hw
    rcases hw with rfl | rfl | rfl | rfl
    · exact h1
    · exact h2
    · exact h3
    · exact h4
  · exact wc_in h5 w hw)
theorem gS {own : String} {idx n : Nat} {y : MethodName} {b : ByteArray} {r : Option FieldType} (h1 : Cond.methodLink own idx y ∈ tT) (h2 : Cond.static y ∈ tT) (h4 : Cond.initialized y.cls ∈ tT) (h5 : Cond.code y b n r ∈ tT) : GoodIn tT (va_wsS own idx y (wc y b n r)) := tT_good (fun w hw => by
  unfold va_wsS at hw
  rcases List.mem_append.mp hw with hw | hw
  · simp only [List.mem_cons, List.not_mem_nil, or_false] at hw
    rcases hw with rfl | rfl | rfl
    · exact h1
    · exact h2
    · exact h4
  · exact wc_in h5 w hw)
theorem k_0 : (Jvm.Cond.initialized "OrderTwoCasesLaw") ∈ tT := tT_k 0 (by decide +kernel) (by decide +kernel)
theorem k_1 : (Jvm.Cond.initialized "OrderTwoCases") ∈ tT := tT_k 1 (by decide +kernel) (by decide +kernel)
theorem k_2 : (Jvm.Cond.initialized "OrderTwoCases$Operator") ∈ tT := tT_k 2 (by decide +kernel) (by decide +kernel)
theorem k_3 : (Jvm.Cond.initialized "OrderTwoCases$Row") ∈ tT := tT_k 3 (by decide +kernel) (by decide +kernel)
theorem k_4 : (Jvm.Cond.initialized "OrderTwoCases$Study") ∈ tT := tT_k 4 (by decide +kernel) (by decide +kernel)
theorem k_5 : (Jvm.Cond.initialized "OrderTwoCases$Pair") ∈ tT := tT_k 5 (by decide +kernel) (by decide +kernel)
theorem k_6 : (Jvm.Cond.initialized "OrderTwoCasesModel") ∈ tT := tT_k 6 (by decide +kernel) (by decide +kernel)
theorem k_7 : (Jvm.Cond.initialized "java/lang/Throwable") ∈ tT := tT_k 7 (by decide +kernel) (by decide +kernel)
theorem k_8 : (Jvm.Cond.initialized "java/lang/Exception") ∈ tT := tT_k 8 (by decide +kernel) (by decide +kernel)
theorem k_9 : (Jvm.Cond.initialized "java/lang/RuntimeException") ∈ tT := tT_k 9 (by decide +kernel) (by decide +kernel)
theorem k_10 : (Jvm.Cond.initialized "java/lang/IllegalArgumentException") ∈ tT := tT_k 10 (by decide +kernel) (by decide +kernel)
theorem k_11 : (Jvm.Cond.initialized "java/lang/IndexOutOfBoundsException") ∈ tT := tT_k 11 (by decide +kernel) (by decide +kernel)
theorem k_12 : (Jvm.Cond.initialized "OrderTwoCases$Numbers") ∈ tT := tT_k 12 (by decide +kernel) (by decide +kernel)
theorem k_13 : (Jvm.Cond.initialized "java/lang/Math") ∈ tT := tT_k 13 (by decide +kernel) (by decide +kernel)
theorem k_14 : (Jvm.Cond.initialized "java/lang/IllegalStateException") ∈ tT := tT_k 14 (by decide +kernel) (by decide +kernel)
theorem k_15 : (Jvm.Cond.classLink "OrderTwoCasesLaw" (8 : Nat) "OrderTwoCases") ∈ tT := tT_k 15 (by decide +kernel) (by decide +kernel)
theorem k_16 : (Jvm.Cond.instantiable "OrderTwoCases" (5 : Nat)) ∈ tT := tT_k 16 (by decide +kernel) (by decide +kernel)
theorem k_17 : (Jvm.Cond.methodLink "OrderTwoCasesLaw" (43 : Nat) ({ cls := "OrderTwoCases", name := "<init>", desc := "()V" } : Jvm.MethodName)) ∈ tT := tT_k 17 (by decide +kernel) (by decide +kernel)
theorem k_18 : (Jvm.Cond.instanceMethod ({ cls := "OrderTwoCases", name := "<init>", desc := "()V" } : Jvm.MethodName)) ∈ tT := tT_k 18 (by decide +kernel) (by decide +kernel)
set_option maxRecDepth 20000 in
theorem k_19 : (Jvm.Cond.code ({ cls := "OrderTwoCases", name := "<init>", desc := "()V" } : Jvm.MethodName) prog_1_method_1_code (1 : Nat) (Option.none : Option Jvm.ClassFile.FieldType)) ∈ tT := tT_k 19 rfl (by decide +kernel)
theorem k_20 : (Jvm.Cond.methodLink "OrderTwoCases" (1 : Nat) ({ cls := "java/lang/Object", name := "<init>", desc := "()V" } : Jvm.MethodName)) ∈ tT := tT_k 20 (by decide +kernel) (by decide +kernel)
theorem k_21 : (Jvm.Cond.instanceMethod ({ cls := "java/lang/Object", name := "<init>", desc := "()V" } : Jvm.MethodName)) ∈ tT := tT_k 21 (by decide +kernel) (by decide +kernel)
set_option maxRecDepth 20000 in
theorem k_22 : (Jvm.Cond.code ({ cls := "java/lang/Object", name := "<init>", desc := "()V" } : Jvm.MethodName) object_method_1_code (1 : Nat) (Option.none : Option Jvm.ClassFile.FieldType)) ∈ tT := tT_k 22 rfl (by decide +kernel)
theorem k_23 : (Jvm.Cond.classLink "OrderTwoCases" (7 : Nat) "OrderTwoCases$Operator") ∈ tT := tT_k 23 (by decide +kernel) (by decide +kernel)
theorem k_24 : (Jvm.Cond.instantiable "OrderTwoCases$Operator" (2 : Nat)) ∈ tT := tT_k 24 (by decide +kernel) (by decide +kernel)
theorem k_26 : (Jvm.Cond.instanceMethod ({ cls := "OrderTwoCases$Operator", name := "<init>", desc := "()V" } : Jvm.MethodName)) ∈ tT := tT_k 26 (by decide +kernel) (by decide +kernel)
set_option maxRecDepth 20000 in
theorem k_27 : (Jvm.Cond.code ({ cls := "OrderTwoCases$Operator", name := "<init>", desc := "()V" } : Jvm.MethodName) prog_3_method_1_code (1 : Nat) (Option.none : Option Jvm.ClassFile.FieldType)) ∈ tT := tT_k 27 rfl (by decide +kernel)
theorem k_28 : (Jvm.Cond.methodLink "OrderTwoCases$Operator" (3 : Nat) ({ cls := "java/lang/Object", name := "<init>", desc := "()V" } : Jvm.MethodName)) ∈ tT := tT_k 28 (by decide +kernel) (by decide +kernel)
theorem k_29 : (Jvm.Cond.classLink "OrderTwoCases$Operator" (9 : Nat) "OrderTwoCases$Row") ∈ tT := tT_k 29 (by decide +kernel) (by decide +kernel)
theorem k_30 : (Jvm.Cond.instantiable "OrderTwoCases$Row" (1 : Nat)) ∈ tT := tT_k 30 (by decide +kernel) (by decide +kernel)
theorem k_31 : (Jvm.Cond.methodLink "OrderTwoCases$Operator" (11 : Nat) ({ cls := "OrderTwoCases$Row", name := "<init>", desc := "(I)V" } : Jvm.MethodName)) ∈ tT := tT_k 31 (by decide +kernel) (by decide +kernel)
theorem k_32 : (Jvm.Cond.instanceMethod ({ cls := "OrderTwoCases$Row", name := "<init>", desc := "(I)V" } : Jvm.MethodName)) ∈ tT := tT_k 32 (by decide +kernel) (by decide +kernel)
set_option maxRecDepth 20000 in
theorem k_33 : (Jvm.Cond.code ({ cls := "OrderTwoCases$Row", name := "<init>", desc := "(I)V" } : Jvm.MethodName) prog_5_method_1_code (2 : Nat) (Option.none : Option Jvm.ClassFile.FieldType)) ∈ tT := tT_k 33 rfl (by decide +kernel)
theorem k_34 : (Jvm.Cond.methodLink "OrderTwoCases$Row" (3 : Nat) ({ cls := "java/lang/Object", name := "<init>", desc := "()V" } : Jvm.MethodName)) ∈ tT := tT_k 34 (by decide +kernel) (by decide +kernel)
theorem k_35 : (Jvm.Cond.fieldLink "OrderTwoCases$Row" (9 : Nat) "OrderTwoCases$Row" "numbers" "[I") ∈ tT := tT_k 35 (by decide +kernel) (by decide +kernel)
theorem k_36 : (Jvm.Cond.laysFinal "OrderTwoCases$Row" "OrderTwoCases$Row" "numbers" "[I") ∈ tT := tT_k 36 (by decide +kernel) (by decide +kernel)
theorem k_39 : (Jvm.Cond.arrayClass Jvm.ClassFile.FieldType.int) ∈ tT := tT_k 39 (by decide +kernel) (by decide +kernel)
theorem k_40 : (Jvm.Cond.fieldLink "OrderTwoCases$Operator" (14 : Nat) "OrderTwoCases$Operator" "first" "LOrderTwoCases$Row;") ∈ tT := tT_k 40 (by decide +kernel) (by decide +kernel)
theorem k_41 : (Jvm.Cond.fieldLink "OrderTwoCases$Pair" (30 : Nat) "OrderTwoCases$Operator" "first" "LOrderTwoCases$Row;") ∈ tT := tT_k 41 (by decide +kernel) (by decide +kernel)
theorem k_42 : (Jvm.Cond.fieldLink "OrderTwoCases" (50 : Nat) "OrderTwoCases$Operator" "first" "LOrderTwoCases$Row;") ∈ tT := tT_k 42 (by decide +kernel) (by decide +kernel)
theorem k_43 : (Jvm.Cond.fieldLink "OrderTwoCases$Study" (70 : Nat) "OrderTwoCases$Operator" "first" "LOrderTwoCases$Row;") ∈ tT := tT_k 43 (by decide +kernel) (by decide +kernel)
theorem k_44 : (Jvm.Cond.fieldLink "OrderTwoCases$Operator" (20 : Nat) "OrderTwoCases$Operator" "zeroth" "LOrderTwoCases$Row;") ∈ tT := tT_k 44 (by decide +kernel) (by decide +kernel)
theorem k_45 : (Jvm.Cond.fieldLink "OrderTwoCases" (53 : Nat) "OrderTwoCases$Operator" "zeroth" "LOrderTwoCases$Row;") ∈ tT := tT_k 45 (by decide +kernel) (by decide +kernel)
theorem k_46 : (Jvm.Cond.fieldLink "OrderTwoCases$Pair" (51 : Nat) "OrderTwoCases$Operator" "zeroth" "LOrderTwoCases$Row;") ∈ tT := tT_k 46 (by decide +kernel) (by decide +kernel)
theorem k_47 : (Jvm.Cond.fieldLink "OrderTwoCases$Study" (87 : Nat) "OrderTwoCases$Operator" "zeroth" "LOrderTwoCases$Row;") ∈ tT := tT_k 47 (by decide +kernel) (by decide +kernel)
theorem k_48 : (Jvm.Cond.laysFinal "OrderTwoCases$Operator" "OrderTwoCases$Operator" "first" "LOrderTwoCases$Row;") ∈ tT := tT_k 48 (by decide +kernel) (by decide +kernel)
theorem k_50 : (Jvm.Cond.laysFinal "OrderTwoCases$Operator" "OrderTwoCases$Operator" "zeroth" "LOrderTwoCases$Row;") ∈ tT := tT_k 50 (by decide +kernel) (by decide +kernel)
theorem k_53 : (Jvm.Cond.classLink "OrderTwoCases" (16 : Nat) "OrderTwoCases$Study") ∈ tT := tT_k 53 (by decide +kernel) (by decide +kernel)
theorem k_54 : (Jvm.Cond.instantiable "OrderTwoCases$Study" (8 : Nat)) ∈ tT := tT_k 54 (by decide +kernel) (by decide +kernel)
theorem k_56 : (Jvm.Cond.instanceMethod ({ cls := "OrderTwoCases$Study", name := "<init>", desc := "()V" } : Jvm.MethodName)) ∈ tT := tT_k 56 (by decide +kernel) (by decide +kernel)
set_option maxRecDepth 20000 in
theorem k_57 : (Jvm.Cond.code ({ cls := "OrderTwoCases$Study", name := "<init>", desc := "()V" } : Jvm.MethodName) prog_6_method_1_code (1 : Nat) (Option.none : Option Jvm.ClassFile.FieldType)) ∈ tT := tT_k 57 rfl (by decide +kernel)
theorem k_58 : (Jvm.Cond.methodLink "OrderTwoCases$Study" (3 : Nat) ({ cls := "java/lang/Object", name := "<init>", desc := "()V" } : Jvm.MethodName)) ∈ tT := tT_k 58 (by decide +kernel) (by decide +kernel)
theorem k_59 : (Jvm.Cond.classLink "OrderTwoCases$Study" (9 : Nat) "OrderTwoCases$Row") ∈ tT := tT_k 59 (by decide +kernel) (by decide +kernel)
theorem k_60 : (Jvm.Cond.methodLink "OrderTwoCases$Study" (11 : Nat) ({ cls := "OrderTwoCases$Row", name := "<init>", desc := "(I)V" } : Jvm.MethodName)) ∈ tT := tT_k 60 (by decide +kernel) (by decide +kernel)
theorem k_61 : (Jvm.Cond.classLink "OrderTwoCases$Study" (36 : Nat) "OrderTwoCases$Pair") ∈ tT := tT_k 61 (by decide +kernel) (by decide +kernel)
theorem k_62 : (Jvm.Cond.instantiable "OrderTwoCases$Pair" (3 : Nat)) ∈ tT := tT_k 62 (by decide +kernel) (by decide +kernel)
theorem k_64 : (Jvm.Cond.instanceMethod ({ cls := "OrderTwoCases$Pair", name := "<init>", desc := "()V" } : Jvm.MethodName)) ∈ tT := tT_k 64 (by decide +kernel) (by decide +kernel)
set_option maxRecDepth 20000 in
theorem k_65 : (Jvm.Cond.code ({ cls := "OrderTwoCases$Pair", name := "<init>", desc := "()V" } : Jvm.MethodName) prog_4_method_1_code (1 : Nat) (Option.none : Option Jvm.ClassFile.FieldType)) ∈ tT := tT_k 65 rfl (by decide +kernel)
theorem k_66 : (Jvm.Cond.methodLink "OrderTwoCases$Pair" (3 : Nat) ({ cls := "java/lang/Object", name := "<init>", desc := "()V" } : Jvm.MethodName)) ∈ tT := tT_k 66 (by decide +kernel) (by decide +kernel)
theorem k_67 : (Jvm.Cond.classLink "OrderTwoCases$Pair" (9 : Nat) "OrderTwoCases$Row") ∈ tT := tT_k 67 (by decide +kernel) (by decide +kernel)
theorem k_68 : (Jvm.Cond.methodLink "OrderTwoCases$Pair" (11 : Nat) ({ cls := "OrderTwoCases$Row", name := "<init>", desc := "(I)V" } : Jvm.MethodName)) ∈ tT := tT_k 68 (by decide +kernel) (by decide +kernel)
theorem k_69 : (Jvm.Cond.classLink "OrderTwoCases$Pair" (23 : Nat) "OrderTwoCases$Operator") ∈ tT := tT_k 69 (by decide +kernel) (by decide +kernel)
theorem k_71 : (Jvm.Cond.fieldLink "OrderTwoCases$Pair" (14 : Nat) "OrderTwoCases$Pair" "u" "LOrderTwoCases$Row;") ∈ tT := tT_k 71 (by decide +kernel) (by decide +kernel)
theorem k_72 : (Jvm.Cond.fieldLink "OrderTwoCases" (124 : Nat) "OrderTwoCases$Pair" "u" "LOrderTwoCases$Row;") ∈ tT := tT_k 72 (by decide +kernel) (by decide +kernel)
theorem k_73 : (Jvm.Cond.fieldLink "OrderTwoCases$Pair" (20 : Nat) "OrderTwoCases$Pair" "p" "LOrderTwoCases$Row;") ∈ tT := tT_k 73 (by decide +kernel) (by decide +kernel)
theorem k_74 : (Jvm.Cond.fieldLink "OrderTwoCases" (115 : Nat) "OrderTwoCases$Pair" "p" "LOrderTwoCases$Row;") ∈ tT := tT_k 74 (by decide +kernel) (by decide +kernel)
theorem k_75 : (Jvm.Cond.fieldLink "OrderTwoCases$Pair" (26 : Nat) "OrderTwoCases$Pair" "turned" "LOrderTwoCases$Operator;") ∈ tT := tT_k 75 (by decide +kernel) (by decide +kernel)
theorem k_76 : (Jvm.Cond.laysFinal "OrderTwoCases$Pair" "OrderTwoCases$Pair" "u" "LOrderTwoCases$Row;") ∈ tT := tT_k 76 (by decide +kernel) (by decide +kernel)
theorem k_78 : (Jvm.Cond.laysFinal "OrderTwoCases$Pair" "OrderTwoCases$Pair" "p" "LOrderTwoCases$Row;") ∈ tT := tT_k 78 (by decide +kernel) (by decide +kernel)
theorem k_80 : (Jvm.Cond.laysFinal "OrderTwoCases$Pair" "OrderTwoCases$Pair" "turned" "LOrderTwoCases$Operator;") ∈ tT := tT_k 80 (by decide +kernel) (by decide +kernel)
theorem k_83 : (Jvm.Cond.fieldLink "OrderTwoCases$Study" (14 : Nat) "OrderTwoCases$Study" "rest" "LOrderTwoCases$Row;") ∈ tT := tT_k 83 (by decide +kernel) (by decide +kernel)
theorem k_84 : (Jvm.Cond.fieldLink "OrderTwoCases" (79 : Nat) "OrderTwoCases$Study" "rest" "LOrderTwoCases$Row;") ∈ tT := tT_k 84 (by decide +kernel) (by decide +kernel)
theorem k_85 : (Jvm.Cond.fieldLink "OrderTwoCases$Study" (20 : Nat) "OrderTwoCases$Study" "kindFound" "I") ∈ tT := tT_k 85 (by decide +kernel) (by decide +kernel)
theorem k_86 : (Jvm.Cond.fieldLink "OrderTwoCases" (86 : Nat) "OrderTwoCases$Study" "kindFound" "I") ∈ tT := tT_k 86 (by decide +kernel) (by decide +kernel)
theorem k_87 : (Jvm.Cond.fieldLink "OrderTwoCases$Study" (24 : Nat) "OrderTwoCases$Study" "triedOfLess" "I") ∈ tT := tT_k 87 (by decide +kernel) (by decide +kernel)
theorem k_88 : (Jvm.Cond.fieldLink "OrderTwoCases" (97 : Nat) "OrderTwoCases$Study" "triedOfLess" "I") ∈ tT := tT_k 88 (by decide +kernel) (by decide +kernel)
theorem k_89 : (Jvm.Cond.fieldLink "OrderTwoCases$Study" (27 : Nat) "OrderTwoCases$Study" "triedOfGreater" "I") ∈ tT := tT_k 89 (by decide +kernel) (by decide +kernel)
theorem k_90 : (Jvm.Cond.fieldLink "OrderTwoCases" (100 : Nat) "OrderTwoCases$Study" "triedOfGreater" "I") ∈ tT := tT_k 90 (by decide +kernel) (by decide +kernel)
theorem k_91 : (Jvm.Cond.fieldLink "OrderTwoCases$Study" (30 : Nat) "OrderTwoCases$Study" "count" "I") ∈ tT := tT_k 91 (by decide +kernel) (by decide +kernel)
theorem k_92 : (Jvm.Cond.fieldLink "OrderTwoCases" (103 : Nat) "OrderTwoCases$Study" "count" "I") ∈ tT := tT_k 92 (by decide +kernel) (by decide +kernel)
theorem k_93 : (Jvm.Cond.fieldLink "OrderTwoCases$Study" (33 : Nat) "OrderTwoCases$Study" "w" "LOrderTwoCases$Row;") ∈ tT := tT_k 93 (by decide +kernel) (by decide +kernel)
theorem k_94 : (Jvm.Cond.fieldLink "OrderTwoCases$Study" (39 : Nat) "OrderTwoCases$Study" "earlier" "LOrderTwoCases$Pair;") ∈ tT := tT_k 94 (by decide +kernel) (by decide +kernel)
theorem k_95 : (Jvm.Cond.fieldLink "OrderTwoCases$Study" (43 : Nat) "OrderTwoCases$Study" "later" "LOrderTwoCases$Pair;") ∈ tT := tT_k 95 (by decide +kernel) (by decide +kernel)
theorem k_96 : (Jvm.Cond.laysFinal "OrderTwoCases$Study" "OrderTwoCases$Study" "rest" "LOrderTwoCases$Row;") ∈ tT := tT_k 96 (by decide +kernel) (by decide +kernel)
theorem k_98 : (Jvm.Cond.lays "OrderTwoCases$Study" "OrderTwoCases$Study" "kindFound" "I") ∈ tT := tT_k 98 (by decide +kernel) (by decide +kernel)
theorem k_100 : (Jvm.Cond.lays "OrderTwoCases$Study" "OrderTwoCases$Study" "triedOfLess" "I") ∈ tT := tT_k 100 (by decide +kernel) (by decide +kernel)
theorem k_102 : (Jvm.Cond.lays "OrderTwoCases$Study" "OrderTwoCases$Study" "triedOfGreater" "I") ∈ tT := tT_k 102 (by decide +kernel) (by decide +kernel)
theorem k_104 : (Jvm.Cond.lays "OrderTwoCases$Study" "OrderTwoCases$Study" "count" "I") ∈ tT := tT_k 104 (by decide +kernel) (by decide +kernel)
theorem k_106 : (Jvm.Cond.laysFinal "OrderTwoCases$Study" "OrderTwoCases$Study" "w" "LOrderTwoCases$Row;") ∈ tT := tT_k 106 (by decide +kernel) (by decide +kernel)
theorem k_108 : (Jvm.Cond.laysFinal "OrderTwoCases$Study" "OrderTwoCases$Study" "earlier" "LOrderTwoCases$Pair;") ∈ tT := tT_k 108 (by decide +kernel) (by decide +kernel)
theorem k_110 : (Jvm.Cond.laysFinal "OrderTwoCases$Study" "OrderTwoCases$Study" "later" "LOrderTwoCases$Pair;") ∈ tT := tT_k 110 (by decide +kernel) (by decide +kernel)
theorem k_113 : (Jvm.Cond.classLink "OrderTwoCases" (23 : Nat) "OrderTwoCases$Pair") ∈ tT := tT_k 113 (by decide +kernel) (by decide +kernel)
theorem k_115 : (Jvm.Cond.classLink "OrderTwoCases" (30 : Nat) "OrderTwoCases$Row") ∈ tT := tT_k 115 (by decide +kernel) (by decide +kernel)
theorem k_116 : (Jvm.Cond.methodLink "OrderTwoCases" (32 : Nat) ({ cls := "OrderTwoCases$Row", name := "<init>", desc := "(I)V" } : Jvm.MethodName)) ∈ tT := tT_k 116 (by decide +kernel) (by decide +kernel)
theorem k_117 : (Jvm.Cond.fieldLink "OrderTwoCases" (10 : Nat) "OrderTwoCases" "equation" "LOrderTwoCases$Operator;") ∈ tT := tT_k 117 (by decide +kernel) (by decide +kernel)
theorem k_118 : (Jvm.Cond.fieldLink "OrderTwoCases" (19 : Nat) "OrderTwoCases" "study" "LOrderTwoCases$Study;") ∈ tT := tT_k 118 (by decide +kernel) (by decide +kernel)
theorem k_119 : (Jvm.Cond.fieldLink "OrderTwoCases" (26 : Nat) "OrderTwoCases" "asked" "LOrderTwoCases$Pair;") ∈ tT := tT_k 119 (by decide +kernel) (by decide +kernel)
theorem k_120 : (Jvm.Cond.fieldLink "OrderTwoCases" (35 : Nat) "OrderTwoCases" "line" "LOrderTwoCases$Row;") ∈ tT := tT_k 120 (by decide +kernel) (by decide +kernel)
theorem k_121 : (Jvm.Cond.fieldLink "OrderTwoCases" (39 : Nat) "OrderTwoCases" "studied" "Z") ∈ tT := tT_k 121 (by decide +kernel) (by decide +kernel)
theorem k_122 : (Jvm.Cond.laysFinal "OrderTwoCases" "OrderTwoCases" "equation" "LOrderTwoCases$Operator;") ∈ tT := tT_k 122 (by decide +kernel) (by decide +kernel)
theorem k_124 : (Jvm.Cond.laysFinal "OrderTwoCases" "OrderTwoCases" "study" "LOrderTwoCases$Study;") ∈ tT := tT_k 124 (by decide +kernel) (by decide +kernel)
theorem k_126 : (Jvm.Cond.laysFinal "OrderTwoCases" "OrderTwoCases" "asked" "LOrderTwoCases$Pair;") ∈ tT := tT_k 126 (by decide +kernel) (by decide +kernel)
theorem k_128 : (Jvm.Cond.laysFinal "OrderTwoCases" "OrderTwoCases" "line" "LOrderTwoCases$Row;") ∈ tT := tT_k 128 (by decide +kernel) (by decide +kernel)
theorem k_130 : (Jvm.Cond.lays "OrderTwoCases" "OrderTwoCases" "studied" "Z") ∈ tT := tT_k 130 (by decide +kernel) (by decide +kernel)
theorem k_133 : (Jvm.Cond.methodLink "OrderTwoCasesLaw" (63 : Nat) ({ cls := "OrderTwoCases", name := "move", desc := "(J)V" } : Jvm.MethodName)) ∈ tT := tT_k 133 (by decide +kernel) (by decide +kernel)
theorem k_134 : (Jvm.Cond.instanceMethod ({ cls := "OrderTwoCases", name := "move", desc := "(J)V" } : Jvm.MethodName)) ∈ tT := tT_k 134 (by decide +kernel) (by decide +kernel)
theorem k_135 : (Jvm.Cond.selects "OrderTwoCases" ({ cls := "OrderTwoCases", name := "move", desc := "(J)V" } : Jvm.MethodName) ({ cls := "OrderTwoCases", name := "move", desc := "(J)V" } : Jvm.MethodName)) ∈ tT := tT_k 135 (by decide +kernel) (by decide +kernel)
set_option maxRecDepth 20000 in
theorem k_136 : (Jvm.Cond.code ({ cls := "OrderTwoCases", name := "move", desc := "(J)V" } : Jvm.MethodName) prog_1_method_4_code (3 : Nat) (Option.none : Option Jvm.ClassFile.FieldType)) ∈ tT := tT_k 136 rfl (by decide +kernel)
theorem k_137 : (Jvm.Cond.methodLink "OrderTwoCases" (82 : Nat) ({ cls := "OrderTwoCases$Row", name := "shift", desc := "(J)V" } : Jvm.MethodName)) ∈ tT := tT_k 137 (by decide +kernel) (by decide +kernel)
theorem k_138 : (Jvm.Cond.instanceMethod ({ cls := "OrderTwoCases$Row", name := "shift", desc := "(J)V" } : Jvm.MethodName)) ∈ tT := tT_k 138 (by decide +kernel) (by decide +kernel)
theorem k_139 : (Jvm.Cond.selects "OrderTwoCases$Row" ({ cls := "OrderTwoCases$Row", name := "shift", desc := "(J)V" } : Jvm.MethodName) ({ cls := "OrderTwoCases$Row", name := "shift", desc := "(J)V" } : Jvm.MethodName)) ∈ tT := tT_k 139 (by decide +kernel) (by decide +kernel)
set_option maxRecDepth 20000 in
theorem k_140 : (Jvm.Cond.code ({ cls := "OrderTwoCases$Row", name := "shift", desc := "(J)V" } : Jvm.MethodName) prog_5_method_7_code (7 : Nat) (Option.none : Option Jvm.ClassFile.FieldType)) ∈ tT := tT_k 140 rfl (by decide +kernel)
theorem k_141 : (Jvm.Cond.methodLink "OrderTwoCases$Row" (15 : Nat) ({ cls := "OrderTwoCases$Numbers", name := "of", desc := "(J)I" } : Jvm.MethodName)) ∈ tT := tT_k 141 (by decide +kernel) (by decide +kernel)
theorem k_142 : (Jvm.Cond.static ({ cls := "OrderTwoCases$Numbers", name := "of", desc := "(J)I" } : Jvm.MethodName)) ∈ tT := tT_k 142 (by decide +kernel) (by decide +kernel)
set_option maxRecDepth 20000 in
theorem k_143 : (Jvm.Cond.code ({ cls := "OrderTwoCases$Numbers", name := "of", desc := "(J)I" } : Jvm.MethodName) prog_2_method_2_code (3 : Nat) (Option.some Jvm.ClassFile.FieldType.int)) ∈ tT := tT_k 143 rfl (by decide +kernel)
theorem k_144 : (Jvm.Cond.constantLong "OrderTwoCases$Numbers" (9 : Nat) (32003 : Int64)) ∈ tT := tT_k 144 (by decide +kernel) (by decide +kernel)
theorem k_145 : (Jvm.Cond.methodLink "OrderTwoCases$Row" (21 : Nat) ({ cls := "OrderTwoCases$Row", name := "get", desc := "(I)I" } : Jvm.MethodName)) ∈ tT := tT_k 145 (by decide +kernel) (by decide +kernel)
theorem k_146 : (Jvm.Cond.instanceMethod ({ cls := "OrderTwoCases$Row", name := "get", desc := "(I)I" } : Jvm.MethodName)) ∈ tT := tT_k 146 (by decide +kernel) (by decide +kernel)
theorem k_147 : (Jvm.Cond.selects "OrderTwoCases$Row" ({ cls := "OrderTwoCases$Row", name := "get", desc := "(I)I" } : Jvm.MethodName) ({ cls := "OrderTwoCases$Row", name := "get", desc := "(I)I" } : Jvm.MethodName)) ∈ tT := tT_k 147 (by decide +kernel) (by decide +kernel)
set_option maxRecDepth 20000 in
theorem k_148 : (Jvm.Cond.code ({ cls := "OrderTwoCases$Row", name := "get", desc := "(I)I" } : Jvm.MethodName) prog_5_method_3_code (2 : Nat) (Option.some Jvm.ClassFile.FieldType.int)) ∈ tT := tT_k 148 rfl (by decide +kernel)
theorem k_149 : (Jvm.Cond.methodLink "OrderTwoCases$Row" (25 : Nat) ({ cls := "OrderTwoCases$Row", name := "set", desc := "(IJ)V" } : Jvm.MethodName)) ∈ tT := tT_k 149 (by decide +kernel) (by decide +kernel)
theorem k_150 : (Jvm.Cond.instanceMethod ({ cls := "OrderTwoCases$Row", name := "set", desc := "(IJ)V" } : Jvm.MethodName)) ∈ tT := tT_k 150 (by decide +kernel) (by decide +kernel)
theorem k_151 : (Jvm.Cond.selects "OrderTwoCases$Row" ({ cls := "OrderTwoCases$Row", name := "set", desc := "(IJ)V" } : Jvm.MethodName) ({ cls := "OrderTwoCases$Row", name := "set", desc := "(IJ)V" } : Jvm.MethodName)) ∈ tT := tT_k 151 (by decide +kernel) (by decide +kernel)
set_option maxRecDepth 20000 in
theorem k_152 : (Jvm.Cond.code ({ cls := "OrderTwoCases$Row", name := "set", desc := "(IJ)V" } : Jvm.MethodName) prog_5_method_4_code (4 : Nat) (Option.none : Option Jvm.ClassFile.FieldType)) ∈ tT := tT_k 152 rfl (by decide +kernel)
theorem k_153 : (Jvm.Cond.methodLink "OrderTwoCasesLaw" (68 : Nat) ({ cls := "OrderTwoCases", name := "kind", desc := "()I" } : Jvm.MethodName)) ∈ tT := tT_k 153 (by decide +kernel) (by decide +kernel)
theorem k_154 : (Jvm.Cond.instanceMethod ({ cls := "OrderTwoCases", name := "kind", desc := "()I" } : Jvm.MethodName)) ∈ tT := tT_k 154 (by decide +kernel) (by decide +kernel)
theorem k_155 : (Jvm.Cond.selects "OrderTwoCases" ({ cls := "OrderTwoCases", name := "kind", desc := "()I" } : Jvm.MethodName) ({ cls := "OrderTwoCases", name := "kind", desc := "()I" } : Jvm.MethodName)) ∈ tT := tT_k 155 (by decide +kernel) (by decide +kernel)
set_option maxRecDepth 20000 in
theorem k_156 : (Jvm.Cond.code ({ cls := "OrderTwoCases", name := "kind", desc := "()I" } : Jvm.MethodName) prog_1_method_5_code (1 : Nat) (Option.some Jvm.ClassFile.FieldType.int)) ∈ tT := tT_k 156 rfl (by decide +kernel)
theorem k_157 : (Jvm.Cond.methodLink "OrderTwoCases" (75 : Nat) ({ cls := "OrderTwoCases", name := "current", desc := "()LOrderTwoCases$Study;" } : Jvm.MethodName)) ∈ tT := tT_k 157 (by decide +kernel) (by decide +kernel)
theorem k_159 : (Jvm.Cond.instanceMethod ({ cls := "OrderTwoCases", name := "current", desc := "()LOrderTwoCases$Study;" } : Jvm.MethodName)) ∈ tT := tT_k 159 (by decide +kernel) (by decide +kernel)
set_option maxRecDepth 20000 in
theorem k_160 : (Jvm.Cond.code ({ cls := "OrderTwoCases", name := "current", desc := "()LOrderTwoCases$Study;" } : Jvm.MethodName) prog_1_method_15_code (1 : Nat) (Option.some (Jvm.ClassFile.FieldType.object "OrderTwoCases$Study"))) ∈ tT := tT_k 160 rfl (by decide +kernel)
theorem k_161 : (Jvm.Cond.methodLink "OrderTwoCases" (142 : Nat) ({ cls := "OrderTwoCases$Study", name := "begin", desc := "(LOrderTwoCases$Operator;)V" } : Jvm.MethodName)) ∈ tT := tT_k 161 (by decide +kernel) (by decide +kernel)
theorem k_162 : (Jvm.Cond.instanceMethod ({ cls := "OrderTwoCases$Study", name := "begin", desc := "(LOrderTwoCases$Operator;)V" } : Jvm.MethodName)) ∈ tT := tT_k 162 (by decide +kernel) (by decide +kernel)
theorem k_163 : (Jvm.Cond.selects "OrderTwoCases$Study" ({ cls := "OrderTwoCases$Study", name := "begin", desc := "(LOrderTwoCases$Operator;)V" } : Jvm.MethodName) ({ cls := "OrderTwoCases$Study", name := "begin", desc := "(LOrderTwoCases$Operator;)V" } : Jvm.MethodName)) ∈ tT := tT_k 163 (by decide +kernel) (by decide +kernel)
set_option maxRecDepth 20000 in
theorem k_164 : (Jvm.Cond.code ({ cls := "OrderTwoCases$Study", name := "begin", desc := "(LOrderTwoCases$Operator;)V" } : Jvm.MethodName) prog_6_method_4_code (4 : Nat) (Option.none : Option Jvm.ClassFile.FieldType)) ∈ tT := tT_k 164 rfl (by decide +kernel)
theorem k_165 : (Jvm.Cond.methodLink "OrderTwoCases$Study" (46 : Nat) ({ cls := "OrderTwoCases$Study", name := "fillRest", desc := "(LOrderTwoCases$Operator;)V" } : Jvm.MethodName)) ∈ tT := tT_k 165 (by decide +kernel) (by decide +kernel)
theorem k_167 : (Jvm.Cond.instanceMethod ({ cls := "OrderTwoCases$Study", name := "fillRest", desc := "(LOrderTwoCases$Operator;)V" } : Jvm.MethodName)) ∈ tT := tT_k 167 (by decide +kernel) (by decide +kernel)
set_option maxRecDepth 20000 in
theorem k_168 : (Jvm.Cond.code ({ cls := "OrderTwoCases$Study", name := "fillRest", desc := "(LOrderTwoCases$Operator;)V" } : Jvm.MethodName) prog_6_method_5_code (6 : Nat) (Option.none : Option Jvm.ClassFile.FieldType)) ∈ tT := tT_k 168 rfl (by decide +kernel)
theorem k_169 : (Jvm.Cond.constantLong "OrderTwoCases$Study" (75 : Nat) (8001 : Int64)) ∈ tT := tT_k 169 (by decide +kernel) (by decide +kernel)
theorem k_170 : (Jvm.Cond.methodLink "OrderTwoCases$Study" (77 : Nat) ({ cls := "OrderTwoCases$Row", name := "timesAt", desc := "(LOrderTwoCases$Row;I)I" } : Jvm.MethodName)) ∈ tT := tT_k 170 (by decide +kernel) (by decide +kernel)
theorem k_171 : (Jvm.Cond.instanceMethod ({ cls := "OrderTwoCases$Row", name := "timesAt", desc := "(LOrderTwoCases$Row;I)I" } : Jvm.MethodName)) ∈ tT := tT_k 171 (by decide +kernel) (by decide +kernel)
theorem k_172 : (Jvm.Cond.selects "OrderTwoCases$Row" ({ cls := "OrderTwoCases$Row", name := "timesAt", desc := "(LOrderTwoCases$Row;I)I" } : Jvm.MethodName) ({ cls := "OrderTwoCases$Row", name := "timesAt", desc := "(LOrderTwoCases$Row;I)I" } : Jvm.MethodName)) ∈ tT := tT_k 172 (by decide +kernel) (by decide +kernel)
set_option maxRecDepth 20000 in
theorem k_173 : (Jvm.Cond.code ({ cls := "OrderTwoCases$Row", name := "timesAt", desc := "(LOrderTwoCases$Row;I)I" } : Jvm.MethodName) prog_5_method_9_code (6 : Nat) (Option.some Jvm.ClassFile.FieldType.int)) ∈ tT := tT_k 173 rfl (by decide +kernel)
theorem k_174 : (Jvm.Cond.constantLong "OrderTwoCases$Study" (81 : Nat) (16002 : Int64)) ∈ tT := tT_k 174 (by decide +kernel) (by decide +kernel)
theorem k_175 : (Jvm.Cond.methodLink "OrderTwoCases$Study" (83 : Nat) ({ cls := "OrderTwoCases$Row", name := "slopeAt", desc := "(I)J" } : Jvm.MethodName)) ∈ tT := tT_k 175 (by decide +kernel) (by decide +kernel)
theorem k_176 : (Jvm.Cond.instanceMethod ({ cls := "OrderTwoCases$Row", name := "slopeAt", desc := "(I)J" } : Jvm.MethodName)) ∈ tT := tT_k 176 (by decide +kernel) (by decide +kernel)
theorem k_177 : (Jvm.Cond.selects "OrderTwoCases$Row" ({ cls := "OrderTwoCases$Row", name := "slopeAt", desc := "(I)J" } : Jvm.MethodName) ({ cls := "OrderTwoCases$Row", name := "slopeAt", desc := "(I)J" } : Jvm.MethodName)) ∈ tT := tT_k 177 (by decide +kernel) (by decide +kernel)
set_option maxRecDepth 20000 in
theorem k_178 : (Jvm.Cond.code ({ cls := "OrderTwoCases$Row", name := "slopeAt", desc := "(I)J" } : Jvm.MethodName) prog_5_method_8_code (3 : Nat) (Option.some Jvm.ClassFile.FieldType.long)) ∈ tT := tT_k 178 rfl (by decide +kernel)
theorem k_179 : (Jvm.Cond.methodLink "OrderTwoCases$Study" (54 : Nat) ({ cls := "OrderTwoCases$Row", name := "get", desc := "(I)I" } : Jvm.MethodName)) ∈ tT := tT_k 179 (by decide +kernel) (by decide +kernel)
theorem k_180 : (Jvm.Cond.methodLink "OrderTwoCases$Study" (90 : Nat) ({ cls := "OrderTwoCases$Row", name := "set", desc := "(IJ)V" } : Jvm.MethodName)) ∈ tT := tT_k 180 (by decide +kernel) (by decide +kernel)
theorem k_181 : (Jvm.Cond.methodLink "OrderTwoCases$Study" (50 : Nat) ({ cls := "OrderTwoCases$Row", name := "top", desc := "()I" } : Jvm.MethodName)) ∈ tT := tT_k 181 (by decide +kernel) (by decide +kernel)
theorem k_182 : (Jvm.Cond.instanceMethod ({ cls := "OrderTwoCases$Row", name := "top", desc := "()I" } : Jvm.MethodName)) ∈ tT := tT_k 182 (by decide +kernel) (by decide +kernel)
theorem k_183 : (Jvm.Cond.selects "OrderTwoCases$Row" ({ cls := "OrderTwoCases$Row", name := "top", desc := "()I" } : Jvm.MethodName) ({ cls := "OrderTwoCases$Row", name := "top", desc := "()I" } : Jvm.MethodName)) ∈ tT := tT_k 183 (by decide +kernel) (by decide +kernel)
set_option maxRecDepth 20000 in
theorem k_184 : (Jvm.Cond.code ({ cls := "OrderTwoCases$Row", name := "top", desc := "()I" } : Jvm.MethodName) prog_5_method_6_code (2 : Nat) (Option.some Jvm.ClassFile.FieldType.int)) ∈ tT := tT_k 184 rfl (by decide +kernel)
theorem k_185 : (Jvm.Cond.methodLink "OrderTwoCases$Study" (58 : Nat) ({ cls := "OrderTwoCases$Numbers", name := "lessRoot", desc := "(I)I" } : Jvm.MethodName)) ∈ tT := tT_k 185 (by decide +kernel) (by decide +kernel)
theorem k_186 : (Jvm.Cond.static ({ cls := "OrderTwoCases$Numbers", name := "lessRoot", desc := "(I)I" } : Jvm.MethodName)) ∈ tT := tT_k 186 (by decide +kernel) (by decide +kernel)
set_option maxRecDepth 20000 in
theorem k_187 : (Jvm.Cond.code ({ cls := "OrderTwoCases$Numbers", name := "lessRoot", desc := "(I)I" } : Jvm.MethodName) prog_2_method_5_code (2 : Nat) (Option.some Jvm.ClassFile.FieldType.int)) ∈ tT := tT_k 187 rfl (by decide +kernel)
theorem k_188 : (Jvm.Cond.methodLink "OrderTwoCases$Numbers" (17 : Nat) ({ cls := "OrderTwoCases$Numbers", name := "raise", desc := "(II)I" } : Jvm.MethodName)) ∈ tT := tT_k 188 (by decide +kernel) (by decide +kernel)
theorem k_189 : (Jvm.Cond.static ({ cls := "OrderTwoCases$Numbers", name := "raise", desc := "(II)I" } : Jvm.MethodName)) ∈ tT := tT_k 189 (by decide +kernel) (by decide +kernel)
set_option maxRecDepth 20000 in
theorem k_190 : (Jvm.Cond.code ({ cls := "OrderTwoCases$Numbers", name := "raise", desc := "(II)I" } : Jvm.MethodName) prog_2_method_3_code (7 : Nat) (Option.some Jvm.ClassFile.FieldType.int)) ∈ tT := tT_k 190 rfl (by decide +kernel)
theorem k_191 : (Jvm.Cond.methodLink "OrderTwoCases$Numbers" (11 : Nat) ({ cls := "OrderTwoCases$Numbers", name := "of", desc := "(J)I" } : Jvm.MethodName)) ∈ tT := tT_k 191 (by decide +kernel) (by decide +kernel)
theorem k_192 : (Jvm.Cond.methodLink "OrderTwoCases$Numbers" (21 : Nat) ({ cls := "java/lang/Math", name := "min", desc := "(II)I" } : Jvm.MethodName)) ∈ tT := tT_k 192 (by decide +kernel) (by decide +kernel)
theorem k_193 : (Jvm.Cond.static ({ cls := "java/lang/Math", name := "min", desc := "(II)I" } : Jvm.MethodName)) ∈ tT := tT_k 193 (by decide +kernel) (by decide +kernel)
set_option maxRecDepth 20000 in
theorem k_194 : (Jvm.Cond.code ({ cls := "java/lang/Math", name := "min", desc := "(II)I" } : Jvm.MethodName) prog_13_method_69_code (2 : Nat) (Option.some Jvm.ClassFile.FieldType.int)) ∈ tT := tT_k 194 rfl (by decide +kernel)
theorem k_195 : (Jvm.Cond.methodLink "OrderTwoCases$Study" (63 : Nat) ({ cls := "OrderTwoCases$Study", name := "takeBothPlain", desc := "(LOrderTwoCases$Operator;)V" } : Jvm.MethodName)) ∈ tT := tT_k 195 (by decide +kernel) (by decide +kernel)
theorem k_197 : (Jvm.Cond.instanceMethod ({ cls := "OrderTwoCases$Study", name := "takeBothPlain", desc := "(LOrderTwoCases$Operator;)V" } : Jvm.MethodName)) ∈ tT := tT_k 197 (by decide +kernel) (by decide +kernel)
set_option maxRecDepth 20000 in
theorem k_198 : (Jvm.Cond.code ({ cls := "OrderTwoCases$Study", name := "takeBothPlain", desc := "(LOrderTwoCases$Operator;)V" } : Jvm.MethodName) prog_6_method_6_code (4 : Nat) (Option.none : Option Jvm.ClassFile.FieldType)) ∈ tT := tT_k 198 rfl (by decide +kernel)
theorem k_199 : (Jvm.Cond.methodLink "OrderTwoCases$Study" (94 : Nat) ({ cls := "OrderTwoCases$Row", name := "wipe", desc := "()V" } : Jvm.MethodName)) ∈ tT := tT_k 199 (by decide +kernel) (by decide +kernel)
theorem k_200 : (Jvm.Cond.instanceMethod ({ cls := "OrderTwoCases$Row", name := "wipe", desc := "()V" } : Jvm.MethodName)) ∈ tT := tT_k 200 (by decide +kernel) (by decide +kernel)
theorem k_201 : (Jvm.Cond.selects "OrderTwoCases$Row" ({ cls := "OrderTwoCases$Row", name := "wipe", desc := "()V" } : Jvm.MethodName) ({ cls := "OrderTwoCases$Row", name := "wipe", desc := "()V" } : Jvm.MethodName)) ∈ tT := tT_k 201 (by decide +kernel) (by decide +kernel)
set_option maxRecDepth 20000 in
theorem k_202 : (Jvm.Cond.code ({ cls := "OrderTwoCases$Row", name := "wipe", desc := "()V" } : Jvm.MethodName) prog_5_method_5_code (2 : Nat) (Option.none : Option Jvm.ClassFile.FieldType)) ∈ tT := tT_k 202 rfl (by decide +kernel)
theorem k_203 : (Jvm.Cond.methodLink "OrderTwoCases$Study" (97 : Nat) ({ cls := "OrderTwoCases$Study", name := "pair", desc := "(I)LOrderTwoCases$Pair;" } : Jvm.MethodName)) ∈ tT := tT_k 203 (by decide +kernel) (by decide +kernel)
theorem k_204 : (Jvm.Cond.instanceMethod ({ cls := "OrderTwoCases$Study", name := "pair", desc := "(I)LOrderTwoCases$Pair;" } : Jvm.MethodName)) ∈ tT := tT_k 204 (by decide +kernel) (by decide +kernel)
theorem k_205 : (Jvm.Cond.selects "OrderTwoCases$Study" ({ cls := "OrderTwoCases$Study", name := "pair", desc := "(I)LOrderTwoCases$Pair;" } : Jvm.MethodName) ({ cls := "OrderTwoCases$Study", name := "pair", desc := "(I)LOrderTwoCases$Pair;" } : Jvm.MethodName)) ∈ tT := tT_k 205 (by decide +kernel) (by decide +kernel)
set_option maxRecDepth 20000 in
theorem k_206 : (Jvm.Cond.code ({ cls := "OrderTwoCases$Study", name := "pair", desc := "(I)LOrderTwoCases$Pair;" } : Jvm.MethodName) prog_6_method_3_code (2 : Nat) (Option.some (Jvm.ClassFile.FieldType.object "OrderTwoCases$Pair"))) ∈ tT := tT_k 206 rfl (by decide +kernel)
theorem k_207 : (Jvm.Cond.methodLink "OrderTwoCases$Study" (101 : Nat) ({ cls := "OrderTwoCases$Pair", name := "takeSum", desc := "(LOrderTwoCases$Row;LOrderTwoCases$Operator;)V" } : Jvm.MethodName)) ∈ tT := tT_k 207 (by decide +kernel) (by decide +kernel)
theorem k_208 : (Jvm.Cond.instanceMethod ({ cls := "OrderTwoCases$Pair", name := "takeSum", desc := "(LOrderTwoCases$Row;LOrderTwoCases$Operator;)V" } : Jvm.MethodName)) ∈ tT := tT_k 208 (by decide +kernel) (by decide +kernel)
theorem k_209 : (Jvm.Cond.selects "OrderTwoCases$Pair" ({ cls := "OrderTwoCases$Pair", name := "takeSum", desc := "(LOrderTwoCases$Row;LOrderTwoCases$Operator;)V" } : Jvm.MethodName) ({ cls := "OrderTwoCases$Pair", name := "takeSum", desc := "(LOrderTwoCases$Row;LOrderTwoCases$Operator;)V" } : Jvm.MethodName)) ∈ tT := tT_k 209 (by decide +kernel) (by decide +kernel)
set_option maxRecDepth 20000 in
theorem k_210 : (Jvm.Cond.code ({ cls := "OrderTwoCases$Pair", name := "takeSum", desc := "(LOrderTwoCases$Row;LOrderTwoCases$Operator;)V" } : Jvm.MethodName) prog_4_method_5_code (4 : Nat) (Option.none : Option Jvm.ClassFile.FieldType)) ∈ tT := tT_k 210 rfl (by decide +kernel)
theorem k_211 : (Jvm.Cond.methodLink "OrderTwoCases$Pair" (35 : Nat) ({ cls := "OrderTwoCases$Row", name := "get", desc := "(I)I" } : Jvm.MethodName)) ∈ tT := tT_k 211 (by decide +kernel) (by decide +kernel)
theorem k_212 : (Jvm.Cond.constantLong "OrderTwoCases$Pair" (60 : Nat) (16002 : Int64)) ∈ tT := tT_k 212 (by decide +kernel) (by decide +kernel)
theorem k_213 : (Jvm.Cond.methodLink "OrderTwoCases$Pair" (39 : Nat) ({ cls := "OrderTwoCases$Row", name := "set", desc := "(IJ)V" } : Jvm.MethodName)) ∈ tT := tT_k 213 (by decide +kernel) (by decide +kernel)
theorem k_214 : (Jvm.Cond.methodLink "OrderTwoCases$Study" (105 : Nat) ({ cls := "OrderTwoCases$Pair", name := "takePower", desc := "(I)V" } : Jvm.MethodName)) ∈ tT := tT_k 214 (by decide +kernel) (by decide +kernel)
theorem k_215 : (Jvm.Cond.instanceMethod ({ cls := "OrderTwoCases$Pair", name := "takePower", desc := "(I)V" } : Jvm.MethodName)) ∈ tT := tT_k 215 (by decide +kernel) (by decide +kernel)
theorem k_216 : (Jvm.Cond.selects "OrderTwoCases$Pair" ({ cls := "OrderTwoCases$Pair", name := "takePower", desc := "(I)V" } : Jvm.MethodName) ({ cls := "OrderTwoCases$Pair", name := "takePower", desc := "(I)V" } : Jvm.MethodName)) ∈ tT := tT_k 216 (by decide +kernel) (by decide +kernel)
set_option maxRecDepth 20000 in
theorem k_217 : (Jvm.Cond.code ({ cls := "OrderTwoCases$Pair", name := "takePower", desc := "(I)V" } : Jvm.MethodName) prog_4_method_4_code (2 : Nat) (Option.none : Option Jvm.ClassFile.FieldType)) ∈ tT := tT_k 217 rfl (by decide +kernel)
theorem k_218 : (Jvm.Cond.methodLink "OrderTwoCases$Pair" (57 : Nat) ({ cls := "OrderTwoCases$Row", name := "wipe", desc := "()V" } : Jvm.MethodName)) ∈ tT := tT_k 218 (by decide +kernel) (by decide +kernel)
theorem k_219 : (Jvm.Cond.methodLink "OrderTwoCases$Study" (66 : Nat) ({ cls := "OrderTwoCases$Study", name := "tryRoot", desc := "(LOrderTwoCases$Operator;II)I" } : Jvm.MethodName)) ∈ tT := tT_k 219 (by decide +kernel) (by decide +kernel)
theorem k_221 : (Jvm.Cond.instanceMethod ({ cls := "OrderTwoCases$Study", name := "tryRoot", desc := "(LOrderTwoCases$Operator;II)I" } : Jvm.MethodName)) ∈ tT := tT_k 221 (by decide +kernel) (by decide +kernel)
set_option maxRecDepth 20000 in
theorem k_222 : (Jvm.Cond.code ({ cls := "OrderTwoCases$Study", name := "tryRoot", desc := "(LOrderTwoCases$Operator;II)I" } : Jvm.MethodName) prog_6_method_7_code (8 : Nat) (Option.some Jvm.ClassFile.FieldType.int)) ∈ tT := tT_k 222 rfl (by decide +kernel)
theorem k_223 : (Jvm.Cond.methodLink "OrderTwoCases$Study" (108 : Nat) ({ cls := "OrderTwoCases$Study", name := "fillW", desc := "(II)V" } : Jvm.MethodName)) ∈ tT := tT_k 223 (by decide +kernel) (by decide +kernel)
theorem k_225 : (Jvm.Cond.instanceMethod ({ cls := "OrderTwoCases$Study", name := "fillW", desc := "(II)V" } : Jvm.MethodName)) ∈ tT := tT_k 225 (by decide +kernel) (by decide +kernel)
set_option maxRecDepth 20000 in
theorem k_226 : (Jvm.Cond.code ({ cls := "OrderTwoCases$Study", name := "fillW", desc := "(II)V" } : Jvm.MethodName) prog_6_method_8_code (6 : Nat) (Option.none : Option Jvm.ClassFile.FieldType)) ∈ tT := tT_k 226 rfl (by decide +kernel)
theorem k_227 : (Jvm.Cond.constantLong "OrderTwoCases$Study" (130 : Nat) (2 : Int64)) ∈ tT := tT_k 227 (by decide +kernel) (by decide +kernel)
theorem k_228 : (Jvm.Cond.methodLink "OrderTwoCases$Study" (112 : Nat) ({ cls := "OrderTwoCases$Numbers", name := "of", desc := "(J)I" } : Jvm.MethodName)) ∈ tT := tT_k 228 (by decide +kernel) (by decide +kernel)
theorem k_229 : (Jvm.Cond.methodLink "OrderTwoCases$Study" (116 : Nat) ({ cls := "OrderTwoCases$Numbers", name := "inverse", desc := "(I)I" } : Jvm.MethodName)) ∈ tT := tT_k 229 (by decide +kernel) (by decide +kernel)
theorem k_230 : (Jvm.Cond.static ({ cls := "OrderTwoCases$Numbers", name := "inverse", desc := "(I)I" } : Jvm.MethodName)) ∈ tT := tT_k 230 (by decide +kernel) (by decide +kernel)
set_option maxRecDepth 20000 in
theorem k_231 : (Jvm.Cond.code ({ cls := "OrderTwoCases$Numbers", name := "inverse", desc := "(I)I" } : Jvm.MethodName) prog_2_method_4_code (1 : Nat) (Option.some Jvm.ClassFile.FieldType.int)) ∈ tT := tT_k 231 rfl (by decide +kernel)
theorem k_232 : (Jvm.Cond.methodLink "OrderTwoCases$Study" (119 : Nat) ({ cls := "OrderTwoCases$Pair", name := "turn", desc := "(LOrderTwoCases$Operator;)V" } : Jvm.MethodName)) ∈ tT := tT_k 232 (by decide +kernel) (by decide +kernel)
theorem k_233 : (Jvm.Cond.instanceMethod ({ cls := "OrderTwoCases$Pair", name := "turn", desc := "(LOrderTwoCases$Operator;)V" } : Jvm.MethodName)) ∈ tT := tT_k 233 (by decide +kernel) (by decide +kernel)
theorem k_234 : (Jvm.Cond.selects "OrderTwoCases$Pair" ({ cls := "OrderTwoCases$Pair", name := "turn", desc := "(LOrderTwoCases$Operator;)V" } : Jvm.MethodName) ({ cls := "OrderTwoCases$Pair", name := "turn", desc := "(LOrderTwoCases$Operator;)V" } : Jvm.MethodName)) ∈ tT := tT_k 234 (by decide +kernel) (by decide +kernel)
set_option maxRecDepth 20000 in
theorem k_235 : (Jvm.Cond.code ({ cls := "OrderTwoCases$Pair", name := "turn", desc := "(LOrderTwoCases$Operator;)V" } : Jvm.MethodName) prog_4_method_2_code (5 : Nat) (Option.none : Option Jvm.ClassFile.FieldType)) ∈ tT := tT_k 235 rfl (by decide +kernel)
theorem k_236 : (Jvm.Cond.constantLong "OrderTwoCases$Pair" (33 : Nat) (2 : Int64)) ∈ tT := tT_k 236 (by decide +kernel) (by decide +kernel)
theorem k_237 : (Jvm.Cond.methodLink "OrderTwoCases$Pair" (43 : Nat) ({ cls := "OrderTwoCases$Row", name := "slopeAt", desc := "(I)J" } : Jvm.MethodName)) ∈ tT := tT_k 237 (by decide +kernel) (by decide +kernel)
theorem k_238 : (Jvm.Cond.methodLink "OrderTwoCases$Pair" (47 : Nat) ({ cls := "OrderTwoCases$Row", name := "timesAt", desc := "(LOrderTwoCases$Row;I)I" } : Jvm.MethodName)) ∈ tT := tT_k 238 (by decide +kernel) (by decide +kernel)
theorem k_239 : (Jvm.Cond.methodLink "OrderTwoCases$Study" (122 : Nat) ({ cls := "OrderTwoCases$Pair", name := "solve", desc := "(III)V" } : Jvm.MethodName)) ∈ tT := tT_k 239 (by decide +kernel) (by decide +kernel)
theorem k_240 : (Jvm.Cond.instanceMethod ({ cls := "OrderTwoCases$Pair", name := "solve", desc := "(III)V" } : Jvm.MethodName)) ∈ tT := tT_k 240 (by decide +kernel) (by decide +kernel)
theorem k_241 : (Jvm.Cond.selects "OrderTwoCases$Pair" ({ cls := "OrderTwoCases$Pair", name := "solve", desc := "(III)V" } : Jvm.MethodName) ({ cls := "OrderTwoCases$Pair", name := "solve", desc := "(III)V" } : Jvm.MethodName)) ∈ tT := tT_k 241 (by decide +kernel) (by decide +kernel)
set_option maxRecDepth 20000 in
theorem k_242 : (Jvm.Cond.code ({ cls := "OrderTwoCases$Pair", name := "solve", desc := "(III)V" } : Jvm.MethodName) prog_4_method_6_code (6 : Nat) (Option.none : Option Jvm.ClassFile.FieldType)) ∈ tT := tT_k 242 rfl (by decide +kernel)
theorem k_243 : (Jvm.Cond.methodLink "OrderTwoCases$Pair" (62 : Nat) ({ cls := "OrderTwoCases$Pair", name := "takePower", desc := "(I)V" } : Jvm.MethodName)) ∈ tT := tT_k 243 (by decide +kernel) (by decide +kernel)
theorem k_244 : (Jvm.Cond.methodLink "OrderTwoCases$Pair" (65 : Nat) ({ cls := "OrderTwoCases$Numbers", name := "of", desc := "(J)I" } : Jvm.MethodName)) ∈ tT := tT_k 244 (by decide +kernel) (by decide +kernel)
theorem k_245 : (Jvm.Cond.methodLink "OrderTwoCases$Pair" (54 : Nat) ({ cls := "OrderTwoCases$Operator", name := "allTerms", desc := "(LOrderTwoCases$Row;I)I" } : Jvm.MethodName)) ∈ tT := tT_k 245 (by decide +kernel) (by decide +kernel)
theorem k_246 : (Jvm.Cond.instanceMethod ({ cls := "OrderTwoCases$Operator", name := "allTerms", desc := "(LOrderTwoCases$Row;I)I" } : Jvm.MethodName)) ∈ tT := tT_k 246 (by decide +kernel) (by decide +kernel)
theorem k_247 : (Jvm.Cond.selects "OrderTwoCases$Operator" ({ cls := "OrderTwoCases$Operator", name := "allTerms", desc := "(LOrderTwoCases$Row;I)I" } : Jvm.MethodName) ({ cls := "OrderTwoCases$Operator", name := "allTerms", desc := "(LOrderTwoCases$Row;I)I" } : Jvm.MethodName)) ∈ tT := tT_k 247 (by decide +kernel) (by decide +kernel)
set_option maxRecDepth 20000 in
theorem k_248 : (Jvm.Cond.code ({ cls := "OrderTwoCases$Operator", name := "allTerms", desc := "(LOrderTwoCases$Row;I)I" } : Jvm.MethodName) prog_3_method_3_code (3 : Nat) (Option.some Jvm.ClassFile.FieldType.int)) ∈ tT := tT_k 248 rfl (by decide +kernel)
theorem k_249 : (Jvm.Cond.constantLong "OrderTwoCases$Operator" (37 : Nat) (2 : Int64)) ∈ tT := tT_k 249 (by decide +kernel) (by decide +kernel)
theorem k_250 : (Jvm.Cond.methodLink "OrderTwoCases$Operator" (23 : Nat) ({ cls := "OrderTwoCases$Row", name := "get", desc := "(I)I" } : Jvm.MethodName)) ∈ tT := tT_k 250 (by decide +kernel) (by decide +kernel)
theorem k_251 : (Jvm.Cond.methodLink "OrderTwoCases$Operator" (39 : Nat) ({ cls := "OrderTwoCases$Operator", name := "lowerTerms", desc := "(LOrderTwoCases$Row;I)I" } : Jvm.MethodName)) ∈ tT := tT_k 251 (by decide +kernel) (by decide +kernel)
theorem k_252 : (Jvm.Cond.instanceMethod ({ cls := "OrderTwoCases$Operator", name := "lowerTerms", desc := "(LOrderTwoCases$Row;I)I" } : Jvm.MethodName)) ∈ tT := tT_k 252 (by decide +kernel) (by decide +kernel)
theorem k_253 : (Jvm.Cond.selects "OrderTwoCases$Operator" ({ cls := "OrderTwoCases$Operator", name := "lowerTerms", desc := "(LOrderTwoCases$Row;I)I" } : Jvm.MethodName) ({ cls := "OrderTwoCases$Operator", name := "lowerTerms", desc := "(LOrderTwoCases$Row;I)I" } : Jvm.MethodName)) ∈ tT := tT_k 253 (by decide +kernel) (by decide +kernel)
set_option maxRecDepth 20000 in
theorem k_254 : (Jvm.Cond.code ({ cls := "OrderTwoCases$Operator", name := "lowerTerms", desc := "(LOrderTwoCases$Row;I)I" } : Jvm.MethodName) prog_3_method_2_code (6 : Nat) (Option.some Jvm.ClassFile.FieldType.int)) ∈ tT := tT_k 254 rfl (by decide +kernel)
theorem k_255 : (Jvm.Cond.methodLink "OrderTwoCases$Operator" (27 : Nat) ({ cls := "OrderTwoCases$Row", name := "slopeAt", desc := "(I)J" } : Jvm.MethodName)) ∈ tT := tT_k 255 (by decide +kernel) (by decide +kernel)
theorem k_256 : (Jvm.Cond.methodLink "OrderTwoCases$Operator" (31 : Nat) ({ cls := "OrderTwoCases$Numbers", name := "of", desc := "(J)I" } : Jvm.MethodName)) ∈ tT := tT_k 256 (by decide +kernel) (by decide +kernel)
theorem k_257 : (Jvm.Cond.methodLink "OrderTwoCases$Pair" (71 : Nat) ({ cls := "OrderTwoCases$Numbers", name := "inverse", desc := "(I)I" } : Jvm.MethodName)) ∈ tT := tT_k 257 (by decide +kernel) (by decide +kernel)
theorem k_258 : (Jvm.Cond.methodLink "OrderTwoCases$Study" (126 : Nat) ({ cls := "OrderTwoCases$Pair", name := "holds", desc := "()Z" } : Jvm.MethodName)) ∈ tT := tT_k 258 (by decide +kernel) (by decide +kernel)
theorem k_259 : (Jvm.Cond.instanceMethod ({ cls := "OrderTwoCases$Pair", name := "holds", desc := "()Z" } : Jvm.MethodName)) ∈ tT := tT_k 259 (by decide +kernel) (by decide +kernel)
theorem k_260 : (Jvm.Cond.selects "OrderTwoCases$Pair" ({ cls := "OrderTwoCases$Pair", name := "holds", desc := "()Z" } : Jvm.MethodName) ({ cls := "OrderTwoCases$Pair", name := "holds", desc := "()Z" } : Jvm.MethodName)) ∈ tT := tT_k 260 (by decide +kernel) (by decide +kernel)
set_option maxRecDepth 20000 in
theorem k_261 : (Jvm.Cond.code ({ cls := "OrderTwoCases$Pair", name := "holds", desc := "()Z" } : Jvm.MethodName) prog_4_method_3_code (2 : Nat) (Option.some Jvm.ClassFile.FieldType.boolean)) ∈ tT := tT_k 261 rfl (by decide +kernel)
theorem k_262 : (Jvm.Cond.methodLink "OrderTwoCasesLaw" (76 : Nat) ({ cls := "OrderTwoCases", name := "answers", desc := "()I" } : Jvm.MethodName)) ∈ tT := tT_k 262 (by decide +kernel) (by decide +kernel)
theorem k_263 : (Jvm.Cond.instanceMethod ({ cls := "OrderTwoCases", name := "answers", desc := "()I" } : Jvm.MethodName)) ∈ tT := tT_k 263 (by decide +kernel) (by decide +kernel)
theorem k_264 : (Jvm.Cond.selects "OrderTwoCases" ({ cls := "OrderTwoCases", name := "answers", desc := "()I" } : Jvm.MethodName) ({ cls := "OrderTwoCases", name := "answers", desc := "()I" } : Jvm.MethodName)) ∈ tT := tT_k 264 (by decide +kernel) (by decide +kernel)
set_option maxRecDepth 20000 in
theorem k_265 : (Jvm.Cond.code ({ cls := "OrderTwoCases", name := "answers", desc := "()I" } : Jvm.MethodName) prog_1_method_7_code (1 : Nat) (Option.some Jvm.ClassFile.FieldType.int)) ∈ tT := tT_k 265 rfl (by decide +kernel)
theorem k_266 : (Jvm.Cond.methodLink "OrderTwoCasesLaw" (96 : Nat) ({ cls := "OrderTwoCases", name := "proves", desc := "(IIIIII)Z" } : Jvm.MethodName)) ∈ tT := tT_k 266 (by decide +kernel) (by decide +kernel)
theorem k_267 : (Jvm.Cond.instanceMethod ({ cls := "OrderTwoCases", name := "proves", desc := "(IIIIII)Z" } : Jvm.MethodName)) ∈ tT := tT_k 267 (by decide +kernel) (by decide +kernel)
theorem k_268 : (Jvm.Cond.selects "OrderTwoCases" ({ cls := "OrderTwoCases", name := "proves", desc := "(IIIIII)Z" } : Jvm.MethodName) ({ cls := "OrderTwoCases", name := "proves", desc := "(IIIIII)Z" } : Jvm.MethodName)) ∈ tT := tT_k 268 (by decide +kernel) (by decide +kernel)
set_option maxRecDepth 20000 in
theorem k_269 : (Jvm.Cond.code ({ cls := "OrderTwoCases", name := "proves", desc := "(IIIIII)Z" } : Jvm.MethodName) prog_1_method_13_code (7 : Nat) (Option.some Jvm.ClassFile.FieldType.boolean)) ∈ tT := tT_k 269 rfl (by decide +kernel)
theorem k_270 : (Jvm.Cond.methodLink "OrderTwoCases" (69 : Nat) ({ cls := "OrderTwoCases$Row", name := "set", desc := "(IJ)V" } : Jvm.MethodName)) ∈ tT := tT_k 270 (by decide +kernel) (by decide +kernel)
theorem k_271 : (Jvm.Cond.methodLink "OrderTwoCases" (131 : Nat) ({ cls := "OrderTwoCases$Pair", name := "turn", desc := "(LOrderTwoCases$Operator;)V" } : Jvm.MethodName)) ∈ tT := tT_k 271 (by decide +kernel) (by decide +kernel)
theorem k_272 : (Jvm.Cond.methodLink "OrderTwoCases" (135 : Nat) ({ cls := "OrderTwoCases$Pair", name := "holds", desc := "()Z" } : Jvm.MethodName)) ∈ tT := tT_k 272 (by decide +kernel) (by decide +kernel)
theorem k_273 : (Jvm.Cond.methodLink "OrderTwoCasesLaw" (101 : Nat) ({ cls := "OrderTwoCases", name := "clear", desc := "()V" } : Jvm.MethodName)) ∈ tT := tT_k 273 (by decide +kernel) (by decide +kernel)
theorem k_274 : (Jvm.Cond.instanceMethod ({ cls := "OrderTwoCases", name := "clear", desc := "()V" } : Jvm.MethodName)) ∈ tT := tT_k 274 (by decide +kernel) (by decide +kernel)
theorem k_275 : (Jvm.Cond.selects "OrderTwoCases" ({ cls := "OrderTwoCases", name := "clear", desc := "()V" } : Jvm.MethodName) ({ cls := "OrderTwoCases", name := "clear", desc := "()V" } : Jvm.MethodName)) ∈ tT := tT_k 275 (by decide +kernel) (by decide +kernel)
set_option maxRecDepth 20000 in
theorem k_276 : (Jvm.Cond.code ({ cls := "OrderTwoCases", name := "clear", desc := "()V" } : Jvm.MethodName) prog_1_method_14_code (1 : Nat) (Option.none : Option Jvm.ClassFile.FieldType)) ∈ tT := tT_k 276 rfl (by decide +kernel)
theorem k_277 : (Jvm.Cond.methodLink "OrderTwoCases" (139 : Nat) ({ cls := "OrderTwoCases$Row", name := "wipe", desc := "()V" } : Jvm.MethodName)) ∈ tT := tT_k 277 (by decide +kernel) (by decide +kernel)
theorem k_278 : (Jvm.Cond.methodLink "OrderTwoCasesLaw" (49 : Nat) ({ cls := "OrderTwoCasesLaw", name := "put", desc := "(LOrderTwoCases;IIJ[J)I" } : Jvm.MethodName)) ∈ tT := tT_k 278 (by decide +kernel) (by decide +kernel)
theorem k_279 : (Jvm.Cond.static ({ cls := "OrderTwoCasesLaw", name := "put", desc := "(LOrderTwoCases;IIJ[J)I" } : Jvm.MethodName)) ∈ tT := tT_k 279 (by decide +kernel) (by decide +kernel)
theorem k_281 : (Jvm.Cond.classLink "OrderTwoCasesLaw" (13 : Nat) "java/lang/IllegalArgumentException") ∈ tT := tT_k 281 (by decide +kernel) (by decide +kernel)
theorem k_282 : (Jvm.Cond.classLink "OrderTwoCasesLaw" (15 : Nat) "java/lang/IndexOutOfBoundsException") ∈ tT := tT_k 282 (by decide +kernel) (by decide +kernel)
theorem k_283 : (Jvm.Cond.methodLink "OrderTwoCasesLaw" (7 : Nat) ({ cls := "OrderTwoCases", name := "put", desc := "(IIJ)Z" } : Jvm.MethodName)) ∈ tT := tT_k 283 (by decide +kernel) (by decide +kernel)
theorem k_284 : (Jvm.Cond.instanceMethod ({ cls := "OrderTwoCases", name := "put", desc := "(IIJ)Z" } : Jvm.MethodName)) ∈ tT := tT_k 284 (by decide +kernel) (by decide +kernel)
theorem k_285 : (Jvm.Cond.selects "OrderTwoCases" ({ cls := "OrderTwoCases", name := "put", desc := "(IIJ)Z" } : Jvm.MethodName) ({ cls := "OrderTwoCases", name := "put", desc := "(IIJ)Z" } : Jvm.MethodName)) ∈ tT := tT_k 285 (by decide +kernel) (by decide +kernel)
set_option maxRecDepth 20000 in
theorem k_286 : (Jvm.Cond.code ({ cls := "OrderTwoCases", name := "put", desc := "(IIJ)Z" } : Jvm.MethodName) prog_1_method_2_code (7 : Nat) (Option.some Jvm.ClassFile.FieldType.boolean)) ∈ tT := tT_k 286 rfl (by decide +kernel)
theorem k_287 : (Jvm.Cond.classLink "OrderTwoCases" (43 : Nat) "java/lang/IllegalArgumentException") ∈ tT := tT_k 287 (by decide +kernel) (by decide +kernel)
theorem k_288 : (Jvm.Cond.instantiable "java/lang/IllegalArgumentException" (6 : Nat)) ∈ tT := tT_k 288 (by decide +kernel) (by decide +kernel)
theorem k_296 : (Jvm.Cond.selects "java/lang/IllegalArgumentException" ({ cls := "java/lang/Throwable", name := "fillInStackTrace", desc := "(I)Ljava/lang/Throwable;" } : Jvm.MethodName) ({ cls := "java/lang/Throwable", name := "fillInStackTrace", desc := "(I)Ljava/lang/Throwable;" } : Jvm.MethodName)) ∈ tT := tT_k 296 (by decide +kernel) (by decide +kernel)
theorem k_297 : (Jvm.Cond.selects "java/lang/IllegalArgumentException" ({ cls := "java/lang/Throwable", name := "fillInStackTrace", desc := "()Ljava/lang/Throwable;" } : Jvm.MethodName) ({ cls := "java/lang/Throwable", name := "fillInStackTrace", desc := "()Ljava/lang/Throwable;" } : Jvm.MethodName)) ∈ tT := tT_k 297 (by decide +kernel) (by decide +kernel)
theorem k_298 : (Jvm.Cond.lays "java/lang/IllegalArgumentException" "java/lang/Throwable" "cause" "Ljava/lang/Throwable;") ∈ tT := tT_k 298 (by decide +kernel) (by decide +kernel)
theorem k_299 : (Jvm.Cond.lays "java/lang/Throwable" "java/lang/Throwable" "cause" "Ljava/lang/Throwable;") ∈ tT := tT_k 299 (by decide +kernel) (by decide +kernel)
theorem k_300 : (Jvm.Cond.lays "java/lang/IllegalArgumentException" "java/lang/Throwable" "stackTrace" "[Ljava/lang/StackTraceElement;") ∈ tT := tT_k 300 (by decide +kernel) (by decide +kernel)
theorem k_301 : (Jvm.Cond.lays "java/lang/Throwable" "java/lang/Throwable" "stackTrace" "[Ljava/lang/StackTraceElement;") ∈ tT := tT_k 301 (by decide +kernel) (by decide +kernel)
theorem k_302 : (Jvm.Cond.lays "java/lang/IllegalArgumentException" "java/lang/Throwable" "suppressedExceptions" "Ljava/util/List;") ∈ tT := tT_k 302 (by decide +kernel) (by decide +kernel)
theorem k_303 : (Jvm.Cond.lays "java/lang/Throwable" "java/lang/Throwable" "suppressedExceptions" "Ljava/util/List;") ∈ tT := tT_k 303 (by decide +kernel) (by decide +kernel)
theorem k_304 : (Jvm.Cond.lays "java/lang/IllegalArgumentException" "java/lang/Throwable" "detailMessage" "Ljava/lang/String;") ∈ tT := tT_k 304 (by decide +kernel) (by decide +kernel)
theorem k_305 : (Jvm.Cond.lays "java/lang/Throwable" "java/lang/Throwable" "detailMessage" "Ljava/lang/String;") ∈ tT := tT_k 305 (by decide +kernel) (by decide +kernel)
theorem k_306 : (Jvm.Cond.lays "java/lang/IllegalArgumentException" "java/lang/Throwable" "backtrace" "Ljava/lang/Object;") ∈ tT := tT_k 306 (by decide +kernel) (by decide +kernel)
theorem k_307 : (Jvm.Cond.lays "java/lang/Throwable" "java/lang/Throwable" "backtrace" "Ljava/lang/Object;") ∈ tT := tT_k 307 (by decide +kernel) (by decide +kernel)
theorem k_308 : (Jvm.Cond.fieldLink "java/lang/Throwable" (198 : Nat) "java/lang/Throwable" "backtrace" "Ljava/lang/Object;") ∈ tT := tT_k 308 (by decide +kernel) (by decide +kernel)
theorem k_310 : (Jvm.Cond.instanceMethod ({ cls := "java/lang/Throwable", name := "<init>", desc := "()V" } : Jvm.MethodName)) ∈ tT := tT_k 310 (by decide +kernel) (by decide +kernel)
set_option maxRecDepth 20000 in
theorem k_311 : (Jvm.Cond.code ({ cls := "java/lang/Throwable", name := "<init>", desc := "()V" } : Jvm.MethodName) prog_16_method_1_code (1 : Nat) (Option.none : Option Jvm.ClassFile.FieldType)) ∈ tT := tT_k 311 rfl (by decide +kernel)
theorem k_312 : (Jvm.Cond.methodLink "java/lang/Throwable" (1 : Nat) ({ cls := "java/lang/Object", name := "<init>", desc := "()V" } : Jvm.MethodName)) ∈ tT := tT_k 312 (by decide +kernel) (by decide +kernel)
theorem k_313 : (Jvm.Cond.fieldLink "java/lang/Throwable" (13 : Nat) "java/lang/Throwable" "UNASSIGNED_STACK" "[Ljava/lang/StackTraceElement;") ∈ tT := tT_k 313 (by decide +kernel) (by decide +kernel)
theorem k_315 : (Jvm.Cond.fieldLink "java/lang/Throwable" (20 : Nat) "java/lang/Throwable" "SUPPRESSED_SENTINEL" "Ljava/util/List;") ∈ tT := tT_k 315 (by decide +kernel) (by decide +kernel)
theorem k_317 : (Jvm.Cond.methodLink "java/lang/Throwable" (27 : Nat) ({ cls := "java/lang/Throwable", name := "fillInStackTrace", desc := "()Ljava/lang/Throwable;" } : Jvm.MethodName)) ∈ tT := tT_k 317 (by decide +kernel) (by decide +kernel)
theorem k_318 : (Jvm.Cond.instanceMethod ({ cls := "java/lang/Throwable", name := "fillInStackTrace", desc := "()Ljava/lang/Throwable;" } : Jvm.MethodName)) ∈ tT := tT_k 318 (by decide +kernel) (by decide +kernel)
theorem k_320 : (Jvm.Cond.selects "java/lang/IllegalStateException" ({ cls := "java/lang/Throwable", name := "fillInStackTrace", desc := "()Ljava/lang/Throwable;" } : Jvm.MethodName) ({ cls := "java/lang/Throwable", name := "fillInStackTrace", desc := "()Ljava/lang/Throwable;" } : Jvm.MethodName)) ∈ tT := tT_k 320 (by decide +kernel) (by decide +kernel)
theorem k_321 : (Jvm.Cond.selects "java/lang/IndexOutOfBoundsException" ({ cls := "java/lang/Throwable", name := "fillInStackTrace", desc := "()Ljava/lang/Throwable;" } : Jvm.MethodName) ({ cls := "java/lang/Throwable", name := "fillInStackTrace", desc := "()Ljava/lang/Throwable;" } : Jvm.MethodName)) ∈ tT := tT_k 321 (by decide +kernel) (by decide +kernel)
theorem k_323 : (Jvm.Cond.methodLink "java/lang/Throwable" (202 : Nat) ({ cls := "java/lang/Throwable", name := "fillInStackTrace", desc := "(I)Ljava/lang/Throwable;" } : Jvm.MethodName)) ∈ tT := tT_k 323 (by decide +kernel) (by decide +kernel)
theorem k_325 : (Jvm.Cond.instanceMethod ({ cls := "java/lang/Throwable", name := "fillInStackTrace", desc := "(I)Ljava/lang/Throwable;" } : Jvm.MethodName)) ∈ tT := tT_k 325 (by decide +kernel) (by decide +kernel)
theorem k_326 : (Jvm.Cond.instantiable "java/lang/Throwable" (6 : Nat)) ∈ tT := tT_k 326 (by decide +kernel) (by decide +kernel)
theorem k_329 : (Jvm.Cond.methodLink "OrderTwoCases" (47 : Nat) ({ cls := "java/lang/IllegalArgumentException", name := "<init>", desc := "(Ljava/lang/String;)V" } : Jvm.MethodName)) ∈ tT := tT_k 329 (by decide +kernel) (by decide +kernel)
theorem k_330 : (Jvm.Cond.instanceMethod ({ cls := "java/lang/IllegalArgumentException", name := "<init>", desc := "(Ljava/lang/String;)V" } : Jvm.MethodName)) ∈ tT := tT_k 330 (by decide +kernel) (by decide +kernel)
set_option maxRecDepth 20000 in
theorem k_331 : (Jvm.Cond.code ({ cls := "java/lang/IllegalArgumentException", name := "<init>", desc := "(Ljava/lang/String;)V" } : Jvm.MethodName) prog_10_method_2_code (2 : Nat) (Option.none : Option Jvm.ClassFile.FieldType)) ∈ tT := tT_k 331 rfl (by decide +kernel)
theorem k_332 : (Jvm.Cond.methodLink "java/lang/IllegalArgumentException" (7 : Nat) ({ cls := "java/lang/RuntimeException", name := "<init>", desc := "(Ljava/lang/String;)V" } : Jvm.MethodName)) ∈ tT := tT_k 332 (by decide +kernel) (by decide +kernel)
theorem k_333 : (Jvm.Cond.instanceMethod ({ cls := "java/lang/RuntimeException", name := "<init>", desc := "(Ljava/lang/String;)V" } : Jvm.MethodName)) ∈ tT := tT_k 333 (by decide +kernel) (by decide +kernel)
set_option maxRecDepth 20000 in
theorem k_334 : (Jvm.Cond.code ({ cls := "java/lang/RuntimeException", name := "<init>", desc := "(Ljava/lang/String;)V" } : Jvm.MethodName) prog_14_method_2_code (2 : Nat) (Option.none : Option Jvm.ClassFile.FieldType)) ∈ tT := tT_k 334 rfl (by decide +kernel)
theorem k_335 : (Jvm.Cond.methodLink "java/lang/RuntimeException" (7 : Nat) ({ cls := "java/lang/Exception", name := "<init>", desc := "(Ljava/lang/String;)V" } : Jvm.MethodName)) ∈ tT := tT_k 335 (by decide +kernel) (by decide +kernel)
theorem k_336 : (Jvm.Cond.instanceMethod ({ cls := "java/lang/Exception", name := "<init>", desc := "(Ljava/lang/String;)V" } : Jvm.MethodName)) ∈ tT := tT_k 336 (by decide +kernel) (by decide +kernel)
set_option maxRecDepth 20000 in
theorem k_337 : (Jvm.Cond.code ({ cls := "java/lang/Exception", name := "<init>", desc := "(Ljava/lang/String;)V" } : Jvm.MethodName) prog_9_method_2_code (2 : Nat) (Option.none : Option Jvm.ClassFile.FieldType)) ∈ tT := tT_k 337 rfl (by decide +kernel)
theorem k_338 : (Jvm.Cond.methodLink "java/lang/Exception" (7 : Nat) ({ cls := "java/lang/Throwable", name := "<init>", desc := "(Ljava/lang/String;)V" } : Jvm.MethodName)) ∈ tT := tT_k 338 (by decide +kernel) (by decide +kernel)
theorem k_339 : (Jvm.Cond.instanceMethod ({ cls := "java/lang/Throwable", name := "<init>", desc := "(Ljava/lang/String;)V" } : Jvm.MethodName)) ∈ tT := tT_k 339 (by decide +kernel) (by decide +kernel)
set_option maxRecDepth 20000 in
theorem k_340 : (Jvm.Cond.code ({ cls := "java/lang/Throwable", name := "<init>", desc := "(Ljava/lang/String;)V" } : Jvm.MethodName) prog_16_method_2_code (2 : Nat) (Option.none : Option Jvm.ClassFile.FieldType)) ∈ tT := tT_k 340 rfl (by decide +kernel)
theorem k_341 : (Jvm.Cond.fieldLink "java/lang/Throwable" (198 : Nat) "java/lang/Throwable" "backtrace" "Ljava/lang/Object;") ∈ tT := tT_k 341 (by decide +kernel) (by decide +kernel)
theorem k_342 : (Jvm.Cond.fieldLink "java/lang/Throwable" (31 : Nat) "java/lang/Throwable" "detailMessage" "Ljava/lang/String;") ∈ tT := tT_k 342 (by decide +kernel) (by decide +kernel)
theorem k_343 : (Jvm.Cond.fieldLink "java/lang/Throwable" (7 : Nat) "java/lang/Throwable" "cause" "Ljava/lang/Throwable;") ∈ tT := tT_k 343 (by decide +kernel) (by decide +kernel)
theorem k_344 : (Jvm.Cond.fieldLink "java/lang/Throwable" (17 : Nat) "java/lang/Throwable" "stackTrace" "[Ljava/lang/StackTraceElement;") ∈ tT := tT_k 344 (by decide +kernel) (by decide +kernel)
theorem k_345 : (Jvm.Cond.fieldLink "java/lang/Throwable" (24 : Nat) "java/lang/Throwable" "suppressedExceptions" "Ljava/util/List;") ∈ tT := tT_k 345 (by decide +kernel) (by decide +kernel)
theorem k_350 : (Jvm.Cond.lays "java/lang/IllegalArgumentException" "java/lang/Throwable" "depth" "I") ∈ tT := tT_k 350 (by decide +kernel) (by decide +kernel)
theorem k_354 : (Jvm.Cond.arrayClass Jvm.ClassFile.FieldType.byte) ∈ tT := tT_k 354 (by decide +kernel) (by decide +kernel)
theorem k_355 : (Jvm.Cond.methodLink "OrderTwoCases" (56 : Nat) ({ cls := "OrderTwoCases$Row", name := "has", desc := "(I)Z" } : Jvm.MethodName)) ∈ tT := tT_k 355 (by decide +kernel) (by decide +kernel)
theorem k_356 : (Jvm.Cond.instanceMethod ({ cls := "OrderTwoCases$Row", name := "has", desc := "(I)Z" } : Jvm.MethodName)) ∈ tT := tT_k 356 (by decide +kernel) (by decide +kernel)
theorem k_357 : (Jvm.Cond.selects "OrderTwoCases$Row" ({ cls := "OrderTwoCases$Row", name := "has", desc := "(I)Z" } : Jvm.MethodName) ({ cls := "OrderTwoCases$Row", name := "has", desc := "(I)Z" } : Jvm.MethodName)) ∈ tT := tT_k 357 (by decide +kernel) (by decide +kernel)
set_option maxRecDepth 20000 in
theorem k_358 : (Jvm.Cond.code ({ cls := "OrderTwoCases$Row", name := "has", desc := "(I)Z" } : Jvm.MethodName) prog_5_method_2_code (2 : Nat) (Option.some Jvm.ClassFile.FieldType.boolean)) ∈ tT := tT_k 358 rfl (by decide +kernel)
theorem k_359 : (Jvm.Cond.classLink "OrderTwoCases" (60 : Nat) "java/lang/IndexOutOfBoundsException") ∈ tT := tT_k 359 (by decide +kernel) (by decide +kernel)
theorem k_360 : (Jvm.Cond.instantiable "java/lang/IndexOutOfBoundsException" (6 : Nat)) ∈ tT := tT_k 360 (by decide +kernel) (by decide +kernel)
theorem k_362 : (Jvm.Cond.selects "java/lang/IndexOutOfBoundsException" ({ cls := "java/lang/Throwable", name := "fillInStackTrace", desc := "(I)Ljava/lang/Throwable;" } : Jvm.MethodName) ({ cls := "java/lang/Throwable", name := "fillInStackTrace", desc := "(I)Ljava/lang/Throwable;" } : Jvm.MethodName)) ∈ tT := tT_k 362 (by decide +kernel) (by decide +kernel)
theorem k_363 : (Jvm.Cond.lays "java/lang/IndexOutOfBoundsException" "java/lang/Throwable" "cause" "Ljava/lang/Throwable;") ∈ tT := tT_k 363 (by decide +kernel) (by decide +kernel)
theorem k_364 : (Jvm.Cond.lays "java/lang/IndexOutOfBoundsException" "java/lang/Throwable" "stackTrace" "[Ljava/lang/StackTraceElement;") ∈ tT := tT_k 364 (by decide +kernel) (by decide +kernel)
theorem k_365 : (Jvm.Cond.lays "java/lang/IndexOutOfBoundsException" "java/lang/Throwable" "suppressedExceptions" "Ljava/util/List;") ∈ tT := tT_k 365 (by decide +kernel) (by decide +kernel)
theorem k_366 : (Jvm.Cond.lays "java/lang/IndexOutOfBoundsException" "java/lang/Throwable" "detailMessage" "Ljava/lang/String;") ∈ tT := tT_k 366 (by decide +kernel) (by decide +kernel)
theorem k_367 : (Jvm.Cond.lays "java/lang/IndexOutOfBoundsException" "java/lang/Throwable" "backtrace" "Ljava/lang/Object;") ∈ tT := tT_k 367 (by decide +kernel) (by decide +kernel)
theorem k_369 : (Jvm.Cond.methodLink "OrderTwoCases" (64 : Nat) ({ cls := "java/lang/IndexOutOfBoundsException", name := "<init>", desc := "(Ljava/lang/String;)V" } : Jvm.MethodName)) ∈ tT := tT_k 369 (by decide +kernel) (by decide +kernel)
theorem k_370 : (Jvm.Cond.instanceMethod ({ cls := "java/lang/IndexOutOfBoundsException", name := "<init>", desc := "(Ljava/lang/String;)V" } : Jvm.MethodName)) ∈ tT := tT_k 370 (by decide +kernel) (by decide +kernel)
set_option maxRecDepth 20000 in
theorem k_371 : (Jvm.Cond.code ({ cls := "java/lang/IndexOutOfBoundsException", name := "<init>", desc := "(Ljava/lang/String;)V" } : Jvm.MethodName) prog_12_method_2_code (2 : Nat) (Option.none : Option Jvm.ClassFile.FieldType)) ∈ tT := tT_k 371 rfl (by decide +kernel)
theorem k_372 : (Jvm.Cond.methodLink "java/lang/IndexOutOfBoundsException" (7 : Nat) ({ cls := "java/lang/RuntimeException", name := "<init>", desc := "(Ljava/lang/String;)V" } : Jvm.MethodName)) ∈ tT := tT_k 372 (by decide +kernel) (by decide +kernel)
theorem k_373 : (Jvm.Cond.lays "java/lang/IndexOutOfBoundsException" "java/lang/Throwable" "depth" "I") ∈ tT := tT_k 373 (by decide +kernel) (by decide +kernel)
theorem k_375 : (Jvm.Cond.methodLink "OrderTwoCases" (65 : Nat) ({ cls := "OrderTwoCases$Row", name := "get", desc := "(I)I" } : Jvm.MethodName)) ∈ tT := tT_k 375 (by decide +kernel) (by decide +kernel)
theorem k_376 : (Jvm.Cond.methodLink "OrderTwoCasesLaw" (59 : Nat) ({ cls := "OrderTwoCasesLaw", name := "at", desc := "(LOrderTwoCases;II[J)I" } : Jvm.MethodName)) ∈ tT := tT_k 376 (by decide +kernel) (by decide +kernel)
theorem k_377 : (Jvm.Cond.static ({ cls := "OrderTwoCasesLaw", name := "at", desc := "(LOrderTwoCases;II[J)I" } : Jvm.MethodName)) ∈ tT := tT_k 377 (by decide +kernel) (by decide +kernel)
theorem k_379 : (Jvm.Cond.methodLink "OrderTwoCasesLaw" (17 : Nat) ({ cls := "OrderTwoCases", name := "at", desc := "(II)I" } : Jvm.MethodName)) ∈ tT := tT_k 379 (by decide +kernel) (by decide +kernel)
theorem k_380 : (Jvm.Cond.instanceMethod ({ cls := "OrderTwoCases", name := "at", desc := "(II)I" } : Jvm.MethodName)) ∈ tT := tT_k 380 (by decide +kernel) (by decide +kernel)
theorem k_381 : (Jvm.Cond.selects "OrderTwoCases" ({ cls := "OrderTwoCases", name := "at", desc := "(II)I" } : Jvm.MethodName) ({ cls := "OrderTwoCases", name := "at", desc := "(II)I" } : Jvm.MethodName)) ∈ tT := tT_k 381 (by decide +kernel) (by decide +kernel)
set_option maxRecDepth 20000 in
theorem k_382 : (Jvm.Cond.code ({ cls := "OrderTwoCases", name := "at", desc := "(II)I" } : Jvm.MethodName) prog_1_method_3_code (4 : Nat) (Option.some Jvm.ClassFile.FieldType.int)) ∈ tT := tT_k 382 rfl (by decide +kernel)
theorem k_384 : (Jvm.Cond.methodLink "OrderTwoCasesLaw" (72 : Nat) ({ cls := "OrderTwoCasesLaw", name := "tried", desc := "(LOrderTwoCases;I[J)I" } : Jvm.MethodName)) ∈ tT := tT_k 384 (by decide +kernel) (by decide +kernel)
theorem k_385 : (Jvm.Cond.static ({ cls := "OrderTwoCasesLaw", name := "tried", desc := "(LOrderTwoCases;I[J)I" } : Jvm.MethodName)) ∈ tT := tT_k 385 (by decide +kernel) (by decide +kernel)
theorem k_387 : (Jvm.Cond.classLink "OrderTwoCasesLaw" (25 : Nat) "java/lang/IllegalStateException") ∈ tT := tT_k 387 (by decide +kernel) (by decide +kernel)
theorem k_388 : (Jvm.Cond.methodLink "OrderTwoCasesLaw" (21 : Nat) ({ cls := "OrderTwoCases", name := "tried", desc := "(I)I" } : Jvm.MethodName)) ∈ tT := tT_k 388 (by decide +kernel) (by decide +kernel)
theorem k_389 : (Jvm.Cond.instanceMethod ({ cls := "OrderTwoCases", name := "tried", desc := "(I)I" } : Jvm.MethodName)) ∈ tT := tT_k 389 (by decide +kernel) (by decide +kernel)
theorem k_390 : (Jvm.Cond.selects "OrderTwoCases" ({ cls := "OrderTwoCases", name := "tried", desc := "(I)I" } : Jvm.MethodName) ({ cls := "OrderTwoCases", name := "tried", desc := "(I)I" } : Jvm.MethodName)) ∈ tT := tT_k 390 (by decide +kernel) (by decide +kernel)
set_option maxRecDepth 20000 in
theorem k_391 : (Jvm.Cond.code ({ cls := "OrderTwoCases", name := "tried", desc := "(I)I" } : Jvm.MethodName) prog_1_method_6_code (3 : Nat) (Option.some Jvm.ClassFile.FieldType.int)) ∈ tT := tT_k 391 rfl (by decide +kernel)
theorem k_392 : (Jvm.Cond.classLink "OrderTwoCases" (90 : Nat) "java/lang/IllegalStateException") ∈ tT := tT_k 392 (by decide +kernel) (by decide +kernel)
theorem k_393 : (Jvm.Cond.instantiable "java/lang/IllegalStateException" (6 : Nat)) ∈ tT := tT_k 393 (by decide +kernel) (by decide +kernel)
theorem k_395 : (Jvm.Cond.selects "java/lang/IllegalStateException" ({ cls := "java/lang/Throwable", name := "fillInStackTrace", desc := "(I)Ljava/lang/Throwable;" } : Jvm.MethodName) ({ cls := "java/lang/Throwable", name := "fillInStackTrace", desc := "(I)Ljava/lang/Throwable;" } : Jvm.MethodName)) ∈ tT := tT_k 395 (by decide +kernel) (by decide +kernel)
theorem k_396 : (Jvm.Cond.lays "java/lang/IllegalStateException" "java/lang/Throwable" "cause" "Ljava/lang/Throwable;") ∈ tT := tT_k 396 (by decide +kernel) (by decide +kernel)
theorem k_397 : (Jvm.Cond.lays "java/lang/IllegalStateException" "java/lang/Throwable" "stackTrace" "[Ljava/lang/StackTraceElement;") ∈ tT := tT_k 397 (by decide +kernel) (by decide +kernel)
theorem k_398 : (Jvm.Cond.lays "java/lang/IllegalStateException" "java/lang/Throwable" "suppressedExceptions" "Ljava/util/List;") ∈ tT := tT_k 398 (by decide +kernel) (by decide +kernel)
theorem k_399 : (Jvm.Cond.lays "java/lang/IllegalStateException" "java/lang/Throwable" "detailMessage" "Ljava/lang/String;") ∈ tT := tT_k 399 (by decide +kernel) (by decide +kernel)
theorem k_400 : (Jvm.Cond.lays "java/lang/IllegalStateException" "java/lang/Throwable" "backtrace" "Ljava/lang/Object;") ∈ tT := tT_k 400 (by decide +kernel) (by decide +kernel)
theorem k_402 : (Jvm.Cond.methodLink "OrderTwoCases" (94 : Nat) ({ cls := "java/lang/IllegalStateException", name := "<init>", desc := "(Ljava/lang/String;)V" } : Jvm.MethodName)) ∈ tT := tT_k 402 (by decide +kernel) (by decide +kernel)
theorem k_403 : (Jvm.Cond.instanceMethod ({ cls := "java/lang/IllegalStateException", name := "<init>", desc := "(Ljava/lang/String;)V" } : Jvm.MethodName)) ∈ tT := tT_k 403 (by decide +kernel) (by decide +kernel)
set_option maxRecDepth 20000 in
theorem k_404 : (Jvm.Cond.code ({ cls := "java/lang/IllegalStateException", name := "<init>", desc := "(Ljava/lang/String;)V" } : Jvm.MethodName) prog_11_method_2_code (2 : Nat) (Option.none : Option Jvm.ClassFile.FieldType)) ∈ tT := tT_k 404 rfl (by decide +kernel)
theorem k_405 : (Jvm.Cond.methodLink "java/lang/IllegalStateException" (7 : Nat) ({ cls := "java/lang/RuntimeException", name := "<init>", desc := "(Ljava/lang/String;)V" } : Jvm.MethodName)) ∈ tT := tT_k 405 (by decide +kernel) (by decide +kernel)
theorem k_406 : (Jvm.Cond.lays "java/lang/IllegalStateException" "java/lang/Throwable" "depth" "I") ∈ tT := tT_k 406 (by decide +kernel) (by decide +kernel)
theorem k_409 : (Jvm.Cond.methodLink "OrderTwoCasesLaw" (80 : Nat) ({ cls := "OrderTwoCasesLaw", name := "degree", desc := "(LOrderTwoCases;I[J)I" } : Jvm.MethodName)) ∈ tT := tT_k 409 (by decide +kernel) (by decide +kernel)
theorem k_410 : (Jvm.Cond.static ({ cls := "OrderTwoCasesLaw", name := "degree", desc := "(LOrderTwoCases;I[J)I" } : Jvm.MethodName)) ∈ tT := tT_k 410 (by decide +kernel) (by decide +kernel)
theorem k_412 : (Jvm.Cond.methodLink "OrderTwoCasesLaw" (27 : Nat) ({ cls := "OrderTwoCases", name := "degree", desc := "(I)I" } : Jvm.MethodName)) ∈ tT := tT_k 412 (by decide +kernel) (by decide +kernel)
theorem k_413 : (Jvm.Cond.instanceMethod ({ cls := "OrderTwoCases", name := "degree", desc := "(I)I" } : Jvm.MethodName)) ∈ tT := tT_k 413 (by decide +kernel) (by decide +kernel)
theorem k_414 : (Jvm.Cond.selects "OrderTwoCases" ({ cls := "OrderTwoCases", name := "degree", desc := "(I)I" } : Jvm.MethodName) ({ cls := "OrderTwoCases", name := "degree", desc := "(I)I" } : Jvm.MethodName)) ∈ tT := tT_k 414 (by decide +kernel) (by decide +kernel)
set_option maxRecDepth 20000 in
theorem k_415 : (Jvm.Cond.code ({ cls := "OrderTwoCases", name := "degree", desc := "(I)I" } : Jvm.MethodName) prog_1_method_8_code (3 : Nat) (Option.some Jvm.ClassFile.FieldType.int)) ∈ tT := tT_k 415 rfl (by decide +kernel)
theorem k_416 : (Jvm.Cond.methodLink "OrderTwoCases" (106 : Nat) ({ cls := "OrderTwoCases$Study", name := "hasPair", desc := "(I)Z" } : Jvm.MethodName)) ∈ tT := tT_k 416 (by decide +kernel) (by decide +kernel)
theorem k_417 : (Jvm.Cond.instanceMethod ({ cls := "OrderTwoCases$Study", name := "hasPair", desc := "(I)Z" } : Jvm.MethodName)) ∈ tT := tT_k 417 (by decide +kernel) (by decide +kernel)
theorem k_418 : (Jvm.Cond.selects "OrderTwoCases$Study" ({ cls := "OrderTwoCases$Study", name := "hasPair", desc := "(I)Z" } : Jvm.MethodName) ({ cls := "OrderTwoCases$Study", name := "hasPair", desc := "(I)Z" } : Jvm.MethodName)) ∈ tT := tT_k 418 (by decide +kernel) (by decide +kernel)
set_option maxRecDepth 20000 in
theorem k_419 : (Jvm.Cond.code ({ cls := "OrderTwoCases$Study", name := "hasPair", desc := "(I)Z" } : Jvm.MethodName) prog_6_method_2_code (2 : Nat) (Option.some Jvm.ClassFile.FieldType.boolean)) ∈ tT := tT_k 419 rfl (by decide +kernel)
theorem k_421 : (Jvm.Cond.methodLink "OrderTwoCases" (111 : Nat) ({ cls := "OrderTwoCases$Study", name := "pair", desc := "(I)LOrderTwoCases$Pair;" } : Jvm.MethodName)) ∈ tT := tT_k 421 (by decide +kernel) (by decide +kernel)
theorem k_422 : (Jvm.Cond.methodLink "OrderTwoCases" (118 : Nat) ({ cls := "OrderTwoCases$Row", name := "top", desc := "()I" } : Jvm.MethodName)) ∈ tT := tT_k 422 (by decide +kernel) (by decide +kernel)
theorem k_423 : (Jvm.Cond.methodLink "OrderTwoCasesLaw" (83 : Nat) ({ cls := "OrderTwoCasesLaw", name := "polynomial", desc := "(LOrderTwoCases;II[J)I" } : Jvm.MethodName)) ∈ tT := tT_k 423 (by decide +kernel) (by decide +kernel)
theorem k_424 : (Jvm.Cond.static ({ cls := "OrderTwoCasesLaw", name := "polynomial", desc := "(LOrderTwoCases;II[J)I" } : Jvm.MethodName)) ∈ tT := tT_k 424 (by decide +kernel) (by decide +kernel)
theorem k_426 : (Jvm.Cond.methodLink "OrderTwoCasesLaw" (30 : Nat) ({ cls := "OrderTwoCases", name := "polynomial", desc := "(II)I" } : Jvm.MethodName)) ∈ tT := tT_k 426 (by decide +kernel) (by decide +kernel)
theorem k_427 : (Jvm.Cond.instanceMethod ({ cls := "OrderTwoCases", name := "polynomial", desc := "(II)I" } : Jvm.MethodName)) ∈ tT := tT_k 427 (by decide +kernel) (by decide +kernel)
theorem k_428 : (Jvm.Cond.selects "OrderTwoCases" ({ cls := "OrderTwoCases", name := "polynomial", desc := "(II)I" } : Jvm.MethodName) ({ cls := "OrderTwoCases", name := "polynomial", desc := "(II)I" } : Jvm.MethodName)) ∈ tT := tT_k 428 (by decide +kernel) (by decide +kernel)
set_option maxRecDepth 20000 in
theorem k_429 : (Jvm.Cond.code ({ cls := "OrderTwoCases", name := "polynomial", desc := "(II)I" } : Jvm.MethodName) prog_1_method_9_code (4 : Nat) (Option.some Jvm.ClassFile.FieldType.int)) ∈ tT := tT_k 429 rfl (by decide +kernel)
theorem k_431 : (Jvm.Cond.methodLink "OrderTwoCasesLaw" (86 : Nat) ({ cls := "OrderTwoCasesLaw", name := "slope", desc := "(LOrderTwoCases;II[J)I" } : Jvm.MethodName)) ∈ tT := tT_k 431 (by decide +kernel) (by decide +kernel)
theorem k_432 : (Jvm.Cond.static ({ cls := "OrderTwoCasesLaw", name := "slope", desc := "(LOrderTwoCases;II[J)I" } : Jvm.MethodName)) ∈ tT := tT_k 432 (by decide +kernel) (by decide +kernel)
theorem k_434 : (Jvm.Cond.methodLink "OrderTwoCasesLaw" (33 : Nat) ({ cls := "OrderTwoCases", name := "slope", desc := "(II)I" } : Jvm.MethodName)) ∈ tT := tT_k 434 (by decide +kernel) (by decide +kernel)
theorem k_435 : (Jvm.Cond.instanceMethod ({ cls := "OrderTwoCases", name := "slope", desc := "(II)I" } : Jvm.MethodName)) ∈ tT := tT_k 435 (by decide +kernel) (by decide +kernel)
theorem k_436 : (Jvm.Cond.selects "OrderTwoCases" ({ cls := "OrderTwoCases", name := "slope", desc := "(II)I" } : Jvm.MethodName) ({ cls := "OrderTwoCases", name := "slope", desc := "(II)I" } : Jvm.MethodName)) ∈ tT := tT_k 436 (by decide +kernel) (by decide +kernel)
set_option maxRecDepth 20000 in
theorem k_437 : (Jvm.Cond.code ({ cls := "OrderTwoCases", name := "slope", desc := "(II)I" } : Jvm.MethodName) prog_1_method_10_code (4 : Nat) (Option.some Jvm.ClassFile.FieldType.int)) ∈ tT := tT_k 437 rfl (by decide +kernel)
theorem k_438 : (Jvm.Cond.methodLink "OrderTwoCasesLaw" (89 : Nat) ({ cls := "OrderTwoCasesLaw", name := "series", desc := "(LOrderTwoCases;JJI[J)I" } : Jvm.MethodName)) ∈ tT := tT_k 438 (by decide +kernel) (by decide +kernel)
theorem k_439 : (Jvm.Cond.static ({ cls := "OrderTwoCasesLaw", name := "series", desc := "(LOrderTwoCases;JJI[J)I" } : Jvm.MethodName)) ∈ tT := tT_k 439 (by decide +kernel) (by decide +kernel)
theorem k_441 : (Jvm.Cond.methodLink "OrderTwoCasesLaw" (36 : Nat) ({ cls := "OrderTwoCases", name := "series", desc := "(JJI)I" } : Jvm.MethodName)) ∈ tT := tT_k 441 (by decide +kernel) (by decide +kernel)
theorem k_442 : (Jvm.Cond.instanceMethod ({ cls := "OrderTwoCases", name := "series", desc := "(JJI)I" } : Jvm.MethodName)) ∈ tT := tT_k 442 (by decide +kernel) (by decide +kernel)
theorem k_443 : (Jvm.Cond.selects "OrderTwoCases" ({ cls := "OrderTwoCases", name := "series", desc := "(JJI)I" } : Jvm.MethodName) ({ cls := "OrderTwoCases", name := "series", desc := "(JJI)I" } : Jvm.MethodName)) ∈ tT := tT_k 443 (by decide +kernel) (by decide +kernel)
set_option maxRecDepth 20000 in
theorem k_444 : (Jvm.Cond.code ({ cls := "OrderTwoCases", name := "series", desc := "(JJI)I" } : Jvm.MethodName) prog_1_method_11_code (6 : Nat) (Option.some Jvm.ClassFile.FieldType.int)) ∈ tT := tT_k 444 rfl (by decide +kernel)
theorem k_445 : (Jvm.Cond.methodLink "OrderTwoCases" (127 : Nat) ({ cls := "OrderTwoCases", name := "expand", desc := "(JJI)I" } : Jvm.MethodName)) ∈ tT := tT_k 445 (by decide +kernel) (by decide +kernel)
theorem k_447 : (Jvm.Cond.instanceMethod ({ cls := "OrderTwoCases", name := "expand", desc := "(JJI)I" } : Jvm.MethodName)) ∈ tT := tT_k 447 (by decide +kernel) (by decide +kernel)
set_option maxRecDepth 20000 in
theorem k_448 : (Jvm.Cond.code ({ cls := "OrderTwoCases", name := "expand", desc := "(JJI)I" } : Jvm.MethodName) prog_1_method_16_code (8 : Nat) (Option.some Jvm.ClassFile.FieldType.int)) ∈ tT := tT_k 448 rfl (by decide +kernel)
theorem k_449 : (Jvm.Cond.methodLink "OrderTwoCases" (145 : Nat) ({ cls := "OrderTwoCases$Operator", name := "lowerTerms", desc := "(LOrderTwoCases$Row;I)I" } : Jvm.MethodName)) ∈ tT := tT_k 449 (by decide +kernel) (by decide +kernel)
theorem k_450 : (Jvm.Cond.methodLink "OrderTwoCases" (149 : Nat) ({ cls := "OrderTwoCases$Numbers", name := "inverse", desc := "(I)I" } : Jvm.MethodName)) ∈ tT := tT_k 450 (by decide +kernel) (by decide +kernel)
theorem k_451 : (Jvm.Cond.methodLink "OrderTwoCasesLaw" (93 : Nat) ({ cls := "OrderTwoCasesLaw", name := "answer", desc := "(LOrderTwoCases;II[J)I" } : Jvm.MethodName)) ∈ tT := tT_k 451 (by decide +kernel) (by decide +kernel)
theorem k_452 : (Jvm.Cond.static ({ cls := "OrderTwoCasesLaw", name := "answer", desc := "(LOrderTwoCases;II[J)I" } : Jvm.MethodName)) ∈ tT := tT_k 452 (by decide +kernel) (by decide +kernel)
theorem k_454 : (Jvm.Cond.methodLink "OrderTwoCasesLaw" (40 : Nat) ({ cls := "OrderTwoCases", name := "answer", desc := "(II)I" } : Jvm.MethodName)) ∈ tT := tT_k 454 (by decide +kernel) (by decide +kernel)
theorem k_455 : (Jvm.Cond.instanceMethod ({ cls := "OrderTwoCases", name := "answer", desc := "(II)I" } : Jvm.MethodName)) ∈ tT := tT_k 455 (by decide +kernel) (by decide +kernel)
theorem k_456 : (Jvm.Cond.selects "OrderTwoCases" ({ cls := "OrderTwoCases", name := "answer", desc := "(II)I" } : Jvm.MethodName) ({ cls := "OrderTwoCases", name := "answer", desc := "(II)I" } : Jvm.MethodName)) ∈ tT := tT_k 456 (by decide +kernel) (by decide +kernel)
set_option maxRecDepth 20000 in
theorem k_457 : (Jvm.Cond.code ({ cls := "OrderTwoCases", name := "answer", desc := "(II)I" } : Jvm.MethodName) prog_1_method_12_code (7 : Nat) (Option.some Jvm.ClassFile.FieldType.int)) ∈ tT := tT_k 457 rfl (by decide +kernel)
theorem k_458 : (Jvm.Cond.classLink "OrderTwoCasesLaw" (44 : Nat) "OrderTwoCasesModel") ∈ tT := tT_k 458 (by decide +kernel) (by decide +kernel)
theorem k_459 : (Jvm.Cond.instantiable "OrderTwoCasesModel" (15 : Nat)) ∈ tT := tT_k 459 (by decide +kernel) (by decide +kernel)
theorem k_460 : (Jvm.Cond.methodLink "OrderTwoCasesLaw" (46 : Nat) ({ cls := "OrderTwoCasesModel", name := "<init>", desc := "()V" } : Jvm.MethodName)) ∈ tT := tT_k 460 (by decide +kernel) (by decide +kernel)
theorem k_461 : (Jvm.Cond.instanceMethod ({ cls := "OrderTwoCasesModel", name := "<init>", desc := "()V" } : Jvm.MethodName)) ∈ tT := tT_k 461 (by decide +kernel) (by decide +kernel)
set_option maxRecDepth 20000 in
theorem k_462 : (Jvm.Cond.code ({ cls := "OrderTwoCasesModel", name := "<init>", desc := "()V" } : Jvm.MethodName) prog_8_method_1_code (1 : Nat) (Option.none : Option Jvm.ClassFile.FieldType)) ∈ tT := tT_k 462 rfl (by decide +kernel)
theorem k_463 : (Jvm.Cond.methodLink "OrderTwoCasesModel" (1 : Nat) ({ cls := "java/lang/Object", name := "<init>", desc := "()V" } : Jvm.MethodName)) ∈ tT := tT_k 463 (by decide +kernel) (by decide +kernel)
theorem k_464 : (Jvm.Cond.fieldLink "OrderTwoCasesModel" (47 : Nat) "OrderTwoCasesModel" "code" "I") ∈ tT := tT_k 464 (by decide +kernel) (by decide +kernel)
theorem k_465 : (Jvm.Cond.fieldLink "OrderTwoCasesModel" (7 : Nat) "OrderTwoCasesModel" "f" "[I") ∈ tT := tT_k 465 (by decide +kernel) (by decide +kernel)
theorem k_466 : (Jvm.Cond.fieldLink "OrderTwoCasesModel" (13 : Nat) "OrderTwoCasesModel" "g" "[I") ∈ tT := tT_k 466 (by decide +kernel) (by decide +kernel)
theorem k_467 : (Jvm.Cond.fieldLink "OrderTwoCasesModel" (16 : Nat) "OrderTwoCasesModel" "rest" "[J") ∈ tT := tT_k 467 (by decide +kernel) (by decide +kernel)
theorem k_468 : (Jvm.Cond.fieldLink "OrderTwoCasesModel" (20 : Nat) "OrderTwoCasesModel" "w" "[J") ∈ tT := tT_k 468 (by decide +kernel) (by decide +kernel)
theorem k_469 : (Jvm.Cond.fieldLink "OrderTwoCasesModel" (23 : Nat) "OrderTwoCasesModel" "more" "[J") ∈ tT := tT_k 469 (by decide +kernel) (by decide +kernel)
theorem k_470 : (Jvm.Cond.fieldLink "OrderTwoCasesModel" (78 : Nat) "OrderTwoCasesModel" "tried" "I") ∈ tT := tT_k 470 (by decide +kernel) (by decide +kernel)
theorem k_471 : (Jvm.Cond.fieldLink "OrderTwoCasesModel" (92 : Nat) "OrderTwoCasesModel" "many" "I") ∈ tT := tT_k 471 (by decide +kernel) (by decide +kernel)
theorem k_472 : (Jvm.Cond.fieldLink "OrderTwoCasesModel" (26 : Nat) "OrderTwoCasesModel" "degrees" "[I") ∈ tT := tT_k 472 (by decide +kernel) (by decide +kernel)
theorem k_473 : (Jvm.Cond.fieldLink "OrderTwoCasesModel" (29 : Nat) "OrderTwoCasesModel" "polynomials" "[J") ∈ tT := tT_k 473 (by decide +kernel) (by decide +kernel)
theorem k_474 : (Jvm.Cond.fieldLink "OrderTwoCasesModel" (32 : Nat) "OrderTwoCasesModel" "slopes" "[J") ∈ tT := tT_k 474 (by decide +kernel) (by decide +kernel)
theorem k_475 : (Jvm.Cond.fieldLink "OrderTwoCasesModel" (35 : Nat) "OrderTwoCasesModel" "left" "[J") ∈ tT := tT_k 475 (by decide +kernel) (by decide +kernel)
theorem k_476 : (Jvm.Cond.fieldLink "OrderTwoCasesModel" (38 : Nat) "OrderTwoCasesModel" "trial" "[J") ∈ tT := tT_k 476 (by decide +kernel) (by decide +kernel)
theorem k_477 : (Jvm.Cond.fieldLink "OrderTwoCasesModel" (41 : Nat) "OrderTwoCasesModel" "row" "[J") ∈ tT := tT_k 477 (by decide +kernel) (by decide +kernel)
theorem k_478 : (Jvm.Cond.fieldLink "OrderTwoCasesModel" (44 : Nat) "OrderTwoCasesModel" "roots" "[I") ∈ tT := tT_k 478 (by decide +kernel) (by decide +kernel)
theorem k_479 : (Jvm.Cond.lays "OrderTwoCasesModel" "OrderTwoCasesModel" "code" "I") ∈ tT := tT_k 479 (by decide +kernel) (by decide +kernel)
theorem k_481 : (Jvm.Cond.laysFinal "OrderTwoCasesModel" "OrderTwoCasesModel" "f" "[I") ∈ tT := tT_k 481 (by decide +kernel) (by decide +kernel)
theorem k_483 : (Jvm.Cond.laysFinal "OrderTwoCasesModel" "OrderTwoCasesModel" "g" "[I") ∈ tT := tT_k 483 (by decide +kernel) (by decide +kernel)
theorem k_485 : (Jvm.Cond.laysFinal "OrderTwoCasesModel" "OrderTwoCasesModel" "rest" "[J") ∈ tT := tT_k 485 (by decide +kernel) (by decide +kernel)
theorem k_487 : (Jvm.Cond.laysFinal "OrderTwoCasesModel" "OrderTwoCasesModel" "w" "[J") ∈ tT := tT_k 487 (by decide +kernel) (by decide +kernel)
theorem k_489 : (Jvm.Cond.laysFinal "OrderTwoCasesModel" "OrderTwoCasesModel" "more" "[J") ∈ tT := tT_k 489 (by decide +kernel) (by decide +kernel)
theorem k_491 : (Jvm.Cond.lays "OrderTwoCasesModel" "OrderTwoCasesModel" "tried" "I") ∈ tT := tT_k 491 (by decide +kernel) (by decide +kernel)
theorem k_493 : (Jvm.Cond.lays "OrderTwoCasesModel" "OrderTwoCasesModel" "many" "I") ∈ tT := tT_k 493 (by decide +kernel) (by decide +kernel)
theorem k_495 : (Jvm.Cond.laysFinal "OrderTwoCasesModel" "OrderTwoCasesModel" "degrees" "[I") ∈ tT := tT_k 495 (by decide +kernel) (by decide +kernel)
theorem k_497 : (Jvm.Cond.laysFinal "OrderTwoCasesModel" "OrderTwoCasesModel" "polynomials" "[J") ∈ tT := tT_k 497 (by decide +kernel) (by decide +kernel)
theorem k_499 : (Jvm.Cond.laysFinal "OrderTwoCasesModel" "OrderTwoCasesModel" "slopes" "[J") ∈ tT := tT_k 499 (by decide +kernel) (by decide +kernel)
theorem k_501 : (Jvm.Cond.laysFinal "OrderTwoCasesModel" "OrderTwoCasesModel" "left" "[J") ∈ tT := tT_k 501 (by decide +kernel) (by decide +kernel)
theorem k_503 : (Jvm.Cond.laysFinal "OrderTwoCasesModel" "OrderTwoCasesModel" "trial" "[J") ∈ tT := tT_k 503 (by decide +kernel) (by decide +kernel)
theorem k_505 : (Jvm.Cond.laysFinal "OrderTwoCasesModel" "OrderTwoCasesModel" "row" "[J") ∈ tT := tT_k 505 (by decide +kernel) (by decide +kernel)
theorem k_507 : (Jvm.Cond.laysFinal "OrderTwoCasesModel" "OrderTwoCasesModel" "roots" "[I") ∈ tT := tT_k 507 (by decide +kernel) (by decide +kernel)
theorem k_510 : (Jvm.Cond.arrayClass Jvm.ClassFile.FieldType.long) ∈ tT := tT_k 510 (by decide +kernel) (by decide +kernel)
theorem k_511 : (Jvm.Cond.methodLink "OrderTwoCasesLaw" (55 : Nat) ({ cls := "OrderTwoCasesModel", name := "thrown", desc := "()I" } : Jvm.MethodName)) ∈ tT := tT_k 511 (by decide +kernel) (by decide +kernel)
theorem k_512 : (Jvm.Cond.instanceMethod ({ cls := "OrderTwoCasesModel", name := "thrown", desc := "()I" } : Jvm.MethodName)) ∈ tT := tT_k 512 (by decide +kernel) (by decide +kernel)
theorem k_513 : (Jvm.Cond.selects "OrderTwoCasesModel" ({ cls := "OrderTwoCasesModel", name := "thrown", desc := "()I" } : Jvm.MethodName) ({ cls := "OrderTwoCasesModel", name := "thrown", desc := "()I" } : Jvm.MethodName)) ∈ tT := tT_k 513 (by decide +kernel) (by decide +kernel)
set_option maxRecDepth 20000 in
theorem k_514 : (Jvm.Cond.code ({ cls := "OrderTwoCasesModel", name := "thrown", desc := "()I" } : Jvm.MethodName) prog_8_method_2_code (1 : Nat) (Option.some Jvm.ClassFile.FieldType.int)) ∈ tT := tT_k 514 rfl (by decide +kernel)
theorem k_515 : (Jvm.Cond.methodLink "OrderTwoCasesLaw" (54 : Nat) ({ cls := "OrderTwoCasesModel", name := "put", desc := "(IIJ)Z" } : Jvm.MethodName)) ∈ tT := tT_k 515 (by decide +kernel) (by decide +kernel)
theorem k_516 : (Jvm.Cond.instanceMethod ({ cls := "OrderTwoCasesModel", name := "put", desc := "(IIJ)Z" } : Jvm.MethodName)) ∈ tT := tT_k 516 (by decide +kernel) (by decide +kernel)
theorem k_517 : (Jvm.Cond.selects "OrderTwoCasesModel" ({ cls := "OrderTwoCasesModel", name := "put", desc := "(IIJ)Z" } : Jvm.MethodName) ({ cls := "OrderTwoCasesModel", name := "put", desc := "(IIJ)Z" } : Jvm.MethodName)) ∈ tT := tT_k 517 (by decide +kernel) (by decide +kernel)
set_option maxRecDepth 20000 in
theorem k_518 : (Jvm.Cond.code ({ cls := "OrderTwoCasesModel", name := "put", desc := "(IIJ)Z" } : Jvm.MethodName) prog_8_method_7_code (7 : Nat) (Option.some Jvm.ClassFile.FieldType.boolean)) ∈ tT := tT_k 518 rfl (by decide +kernel)
theorem k_519 : (Jvm.Cond.methodLink "OrderTwoCasesModel" (53 : Nat) ({ cls := "OrderTwoCasesModel", name := "in", desc := "(JJJ)Z" } : Jvm.MethodName)) ∈ tT := tT_k 519 (by decide +kernel) (by decide +kernel)
theorem k_520 : (Jvm.Cond.static ({ cls := "OrderTwoCasesModel", name := "in", desc := "(JJJ)Z" } : Jvm.MethodName)) ∈ tT := tT_k 520 (by decide +kernel) (by decide +kernel)
set_option maxRecDepth 20000 in
theorem k_521 : (Jvm.Cond.code ({ cls := "OrderTwoCasesModel", name := "in", desc := "(JJJ)Z" } : Jvm.MethodName) prog_8_method_4_code (6 : Nat) (Option.some Jvm.ClassFile.FieldType.boolean)) ∈ tT := tT_k 521 rfl (by decide +kernel)
theorem k_522 : (Jvm.Cond.constantLong "OrderTwoCasesModel" (57 : Nat) (2 : Int64)) ∈ tT := tT_k 522 (by decide +kernel) (by decide +kernel)
theorem k_523 : (Jvm.Cond.constantLong "OrderTwoCasesModel" (59 : Nat) (4 : Int64)) ∈ tT := tT_k 523 (by decide +kernel) (by decide +kernel)
theorem k_524 : (Jvm.Cond.methodLink "OrderTwoCasesModel" (61 : Nat) ({ cls := "OrderTwoCasesModel", name := "modulo", desc := "(J)J" } : Jvm.MethodName)) ∈ tT := tT_k 524 (by decide +kernel) (by decide +kernel)
theorem k_525 : (Jvm.Cond.static ({ cls := "OrderTwoCasesModel", name := "modulo", desc := "(J)J" } : Jvm.MethodName)) ∈ tT := tT_k 525 (by decide +kernel) (by decide +kernel)
set_option maxRecDepth 20000 in
theorem k_526 : (Jvm.Cond.code ({ cls := "OrderTwoCasesModel", name := "modulo", desc := "(J)J" } : Jvm.MethodName) prog_8_method_5_code (4 : Nat) (Option.some Jvm.ClassFile.FieldType.long)) ∈ tT := tT_k 526 rfl (by decide +kernel)
theorem k_527 : (Jvm.Cond.constantLong "OrderTwoCasesModel" (51 : Nat) (32003 : Int64)) ∈ tT := tT_k 527 (by decide +kernel) (by decide +kernel)
theorem k_528 : (Jvm.Cond.methodLink "OrderTwoCasesLaw" (62 : Nat) ({ cls := "OrderTwoCasesModel", name := "at", desc := "(II)I" } : Jvm.MethodName)) ∈ tT := tT_k 528 (by decide +kernel) (by decide +kernel)
theorem k_529 : (Jvm.Cond.instanceMethod ({ cls := "OrderTwoCasesModel", name := "at", desc := "(II)I" } : Jvm.MethodName)) ∈ tT := tT_k 529 (by decide +kernel) (by decide +kernel)
theorem k_530 : (Jvm.Cond.selects "OrderTwoCasesModel" ({ cls := "OrderTwoCasesModel", name := "at", desc := "(II)I" } : Jvm.MethodName) ({ cls := "OrderTwoCasesModel", name := "at", desc := "(II)I" } : Jvm.MethodName)) ∈ tT := tT_k 530 (by decide +kernel) (by decide +kernel)
set_option maxRecDepth 20000 in
theorem k_531 : (Jvm.Cond.code ({ cls := "OrderTwoCasesModel", name := "at", desc := "(II)I" } : Jvm.MethodName) prog_8_method_8_code (3 : Nat) (Option.some Jvm.ClassFile.FieldType.int)) ∈ tT := tT_k 531 rfl (by decide +kernel)
theorem k_532 : (Jvm.Cond.methodLink "OrderTwoCasesModel" (65 : Nat) ({ cls := "OrderTwoCasesModel", name := "findRest", desc := "()V" } : Jvm.MethodName)) ∈ tT := tT_k 532 (by decide +kernel) (by decide +kernel)
theorem k_534 : (Jvm.Cond.instanceMethod ({ cls := "OrderTwoCasesModel", name := "findRest", desc := "()V" } : Jvm.MethodName)) ∈ tT := tT_k 534 (by decide +kernel) (by decide +kernel)
set_option maxRecDepth 20000 in
theorem k_535 : (Jvm.Cond.code ({ cls := "OrderTwoCasesModel", name := "findRest", desc := "()V" } : Jvm.MethodName) prog_8_method_11_code (10 : Nat) (Option.none : Option Jvm.ClassFile.FieldType)) ∈ tT := tT_k 535 rfl (by decide +kernel)
theorem k_536 : (Jvm.Cond.methodLink "OrderTwoCasesModel" (68 : Nat) ({ cls := "OrderTwoCasesModel", name := "inverse", desc := "(J)J" } : Jvm.MethodName)) ∈ tT := tT_k 536 (by decide +kernel) (by decide +kernel)
theorem k_537 : (Jvm.Cond.static ({ cls := "OrderTwoCasesModel", name := "inverse", desc := "(J)J" } : Jvm.MethodName)) ∈ tT := tT_k 537 (by decide +kernel) (by decide +kernel)
set_option maxRecDepth 20000 in
theorem k_538 : (Jvm.Cond.code ({ cls := "OrderTwoCasesModel", name := "inverse", desc := "(J)J" } : Jvm.MethodName) prog_8_method_6_code (7 : Nat) (Option.some Jvm.ClassFile.FieldType.long)) ∈ tT := tT_k 538 rfl (by decide +kernel)
theorem k_539 : (Jvm.Cond.methodLink "OrderTwoCasesLaw" (104 : Nat) ({ cls := "OrderTwoCasesModel", name := "clear", desc := "()V" } : Jvm.MethodName)) ∈ tT := tT_k 539 (by decide +kernel) (by decide +kernel)
theorem k_540 : (Jvm.Cond.instanceMethod ({ cls := "OrderTwoCasesModel", name := "clear", desc := "()V" } : Jvm.MethodName)) ∈ tT := tT_k 540 (by decide +kernel) (by decide +kernel)
theorem k_541 : (Jvm.Cond.selects "OrderTwoCasesModel" ({ cls := "OrderTwoCasesModel", name := "clear", desc := "()V" } : Jvm.MethodName) ({ cls := "OrderTwoCasesModel", name := "clear", desc := "()V" } : Jvm.MethodName)) ∈ tT := tT_k 541 (by decide +kernel) (by decide +kernel)
set_option maxRecDepth 20000 in
theorem k_542 : (Jvm.Cond.code ({ cls := "OrderTwoCasesModel", name := "clear", desc := "()V" } : Jvm.MethodName) prog_8_method_9_code (2 : Nat) (Option.none : Option Jvm.ClassFile.FieldType)) ∈ tT := tT_k 542 rfl (by decide +kernel)
theorem k_543 : (Jvm.Cond.methodLink "OrderTwoCasesLaw" (67 : Nat) ({ cls := "OrderTwoCasesModel", name := "move", desc := "(J)V" } : Jvm.MethodName)) ∈ tT := tT_k 543 (by decide +kernel) (by decide +kernel)
theorem k_544 : (Jvm.Cond.instanceMethod ({ cls := "OrderTwoCasesModel", name := "move", desc := "(J)V" } : Jvm.MethodName)) ∈ tT := tT_k 544 (by decide +kernel) (by decide +kernel)
theorem k_545 : (Jvm.Cond.selects "OrderTwoCasesModel" ({ cls := "OrderTwoCasesModel", name := "move", desc := "(J)V" } : Jvm.MethodName) ({ cls := "OrderTwoCasesModel", name := "move", desc := "(J)V" } : Jvm.MethodName)) ∈ tT := tT_k 545 (by decide +kernel) (by decide +kernel)
set_option maxRecDepth 20000 in
theorem k_546 : (Jvm.Cond.code ({ cls := "OrderTwoCasesModel", name := "move", desc := "(J)V" } : Jvm.MethodName) prog_8_method_10_code (7 : Nat) (Option.none : Option Jvm.ClassFile.FieldType)) ∈ tT := tT_k 546 rfl (by decide +kernel)
theorem k_547 : (Jvm.Cond.methodLink "OrderTwoCasesLaw" (71 : Nat) ({ cls := "OrderTwoCasesModel", name := "kind", desc := "()I" } : Jvm.MethodName)) ∈ tT := tT_k 547 (by decide +kernel) (by decide +kernel)
theorem k_548 : (Jvm.Cond.instanceMethod ({ cls := "OrderTwoCasesModel", name := "kind", desc := "()I" } : Jvm.MethodName)) ∈ tT := tT_k 548 (by decide +kernel) (by decide +kernel)
theorem k_549 : (Jvm.Cond.selects "OrderTwoCasesModel" ({ cls := "OrderTwoCasesModel", name := "kind", desc := "()I" } : Jvm.MethodName) ({ cls := "OrderTwoCasesModel", name := "kind", desc := "()I" } : Jvm.MethodName)) ∈ tT := tT_k 549 (by decide +kernel) (by decide +kernel)
set_option maxRecDepth 20000 in
theorem k_550 : (Jvm.Cond.code ({ cls := "OrderTwoCasesModel", name := "kind", desc := "()I" } : Jvm.MethodName) prog_8_method_14_code (1 : Nat) (Option.some Jvm.ClassFile.FieldType.int)) ∈ tT := tT_k 550 rfl (by decide +kernel)
theorem k_551 : (Jvm.Cond.methodLink "OrderTwoCasesModel" (75 : Nat) ({ cls := "OrderTwoCasesModel", name := "find", desc := "()I" } : Jvm.MethodName)) ∈ tT := tT_k 551 (by decide +kernel) (by decide +kernel)
theorem k_553 : (Jvm.Cond.instanceMethod ({ cls := "OrderTwoCasesModel", name := "find", desc := "()I" } : Jvm.MethodName)) ∈ tT := tT_k 553 (by decide +kernel) (by decide +kernel)
set_option maxRecDepth 20000 in
theorem k_554 : (Jvm.Cond.code ({ cls := "OrderTwoCasesModel", name := "find", desc := "()I" } : Jvm.MethodName) prog_8_method_13_code (4 : Nat) (Option.some Jvm.ClassFile.FieldType.int)) ∈ tT := tT_k 554 rfl (by decide +kernel)
theorem k_555 : (Jvm.Cond.methodLink "OrderTwoCasesModel" (71 : Nat) ({ cls := "OrderTwoCasesModel", name := "high", desc := "()I" } : Jvm.MethodName)) ∈ tT := tT_k 555 (by decide +kernel) (by decide +kernel)
theorem k_557 : (Jvm.Cond.instanceMethod ({ cls := "OrderTwoCasesModel", name := "high", desc := "()I" } : Jvm.MethodName)) ∈ tT := tT_k 557 (by decide +kernel) (by decide +kernel)
set_option maxRecDepth 20000 in
theorem k_558 : (Jvm.Cond.code ({ cls := "OrderTwoCasesModel", name := "high", desc := "()I" } : Jvm.MethodName) prog_8_method_12_code (2 : Nat) (Option.some Jvm.ClassFile.FieldType.int)) ∈ tT := tT_k 558 rfl (by decide +kernel)
theorem k_559 : (Jvm.Cond.methodLink "OrderTwoCasesLaw" (75 : Nat) ({ cls := "OrderTwoCasesModel", name := "tried", desc := "(I)I" } : Jvm.MethodName)) ∈ tT := tT_k 559 (by decide +kernel) (by decide +kernel)
theorem k_560 : (Jvm.Cond.instanceMethod ({ cls := "OrderTwoCasesModel", name := "tried", desc := "(I)I" } : Jvm.MethodName)) ∈ tT := tT_k 560 (by decide +kernel) (by decide +kernel)
theorem k_561 : (Jvm.Cond.selects "OrderTwoCasesModel" ({ cls := "OrderTwoCasesModel", name := "tried", desc := "(I)I" } : Jvm.MethodName) ({ cls := "OrderTwoCasesModel", name := "tried", desc := "(I)I" } : Jvm.MethodName)) ∈ tT := tT_k 561 (by decide +kernel) (by decide +kernel)
set_option maxRecDepth 20000 in
theorem k_562 : (Jvm.Cond.code ({ cls := "OrderTwoCasesModel", name := "tried", desc := "(I)I" } : Jvm.MethodName) prog_8_method_16_code (2 : Nat) (Option.some Jvm.ClassFile.FieldType.int)) ∈ tT := tT_k 562 rfl (by decide +kernel)
theorem k_563 : (Jvm.Cond.methodLink "OrderTwoCasesModel" (81 : Nat) ({ cls := "OrderTwoCasesModel", name := "raise", desc := "(I)I" } : Jvm.MethodName)) ∈ tT := tT_k 563 (by decide +kernel) (by decide +kernel)
theorem k_565 : (Jvm.Cond.instanceMethod ({ cls := "OrderTwoCasesModel", name := "raise", desc := "(I)I" } : Jvm.MethodName)) ∈ tT := tT_k 565 (by decide +kernel) (by decide +kernel)
set_option maxRecDepth 20000 in
theorem k_566 : (Jvm.Cond.code ({ cls := "OrderTwoCasesModel", name := "raise", desc := "(I)I" } : Jvm.MethodName) prog_8_method_3_code (2 : Nat) (Option.some Jvm.ClassFile.FieldType.int)) ∈ tT := tT_k 566 rfl (by decide +kernel)
theorem k_567 : (Jvm.Cond.methodLink "OrderTwoCasesModel" (85 : Nat) ({ cls := "OrderTwoCasesModel", name := "take", desc := "(I)V" } : Jvm.MethodName)) ∈ tT := tT_k 567 (by decide +kernel) (by decide +kernel)
theorem k_569 : (Jvm.Cond.instanceMethod ({ cls := "OrderTwoCasesModel", name := "take", desc := "(I)V" } : Jvm.MethodName)) ∈ tT := tT_k 569 (by decide +kernel) (by decide +kernel)
set_option maxRecDepth 20000 in
theorem k_570 : (Jvm.Cond.code ({ cls := "OrderTwoCasesModel", name := "take", desc := "(I)V" } : Jvm.MethodName) prog_8_method_15_code (11 : Nat) (Option.none : Option Jvm.ClassFile.FieldType)) ∈ tT := tT_k 570 rfl (by decide +kernel)
theorem k_571 : (Jvm.Cond.methodLink "OrderTwoCasesLaw" (79 : Nat) ({ cls := "OrderTwoCasesModel", name := "answers", desc := "()I" } : Jvm.MethodName)) ∈ tT := tT_k 571 (by decide +kernel) (by decide +kernel)
theorem k_572 : (Jvm.Cond.instanceMethod ({ cls := "OrderTwoCasesModel", name := "answers", desc := "()I" } : Jvm.MethodName)) ∈ tT := tT_k 572 (by decide +kernel) (by decide +kernel)
theorem k_573 : (Jvm.Cond.selects "OrderTwoCasesModel" ({ cls := "OrderTwoCasesModel", name := "answers", desc := "()I" } : Jvm.MethodName) ({ cls := "OrderTwoCasesModel", name := "answers", desc := "()I" } : Jvm.MethodName)) ∈ tT := tT_k 573 (by decide +kernel) (by decide +kernel)
set_option maxRecDepth 20000 in
theorem k_574 : (Jvm.Cond.code ({ cls := "OrderTwoCasesModel", name := "answers", desc := "()I" } : Jvm.MethodName) prog_8_method_21_code (1 : Nat) (Option.some Jvm.ClassFile.FieldType.int)) ∈ tT := tT_k 574 rfl (by decide +kernel)
theorem k_575 : (Jvm.Cond.methodLink "OrderTwoCasesModel" (102 : Nat) ({ cls := "OrderTwoCasesModel", name := "findAnswers", desc := "()V" } : Jvm.MethodName)) ∈ tT := tT_k 575 (by decide +kernel) (by decide +kernel)
theorem k_577 : (Jvm.Cond.instanceMethod ({ cls := "OrderTwoCasesModel", name := "findAnswers", desc := "()V" } : Jvm.MethodName)) ∈ tT := tT_k 577 (by decide +kernel) (by decide +kernel)
set_option maxRecDepth 20000 in
theorem k_578 : (Jvm.Cond.code ({ cls := "OrderTwoCasesModel", name := "findAnswers", desc := "()V" } : Jvm.MethodName) prog_8_method_20_code (4 : Nat) (Option.none : Option Jvm.ClassFile.FieldType)) ∈ tT := tT_k 578 rfl (by decide +kernel)
theorem k_579 : (Jvm.Cond.methodLink "OrderTwoCasesModel" (95 : Nat) ({ cls := "OrderTwoCasesModel", name := "keep", desc := "()V" } : Jvm.MethodName)) ∈ tT := tT_k 579 (by decide +kernel) (by decide +kernel)
theorem k_581 : (Jvm.Cond.instanceMethod ({ cls := "OrderTwoCasesModel", name := "keep", desc := "()V" } : Jvm.MethodName)) ∈ tT := tT_k 581 (by decide +kernel) (by decide +kernel)
set_option maxRecDepth 20000 in
theorem k_582 : (Jvm.Cond.code ({ cls := "OrderTwoCasesModel", name := "keep", desc := "()V" } : Jvm.MethodName) prog_8_method_19_code (5 : Nat) (Option.none : Option Jvm.ClassFile.FieldType)) ∈ tT := tT_k 582 rfl (by decide +kernel)
theorem k_583 : (Jvm.Cond.methodLink "OrderTwoCasesModel" (98 : Nat) ({ cls := "OrderTwoCasesModel", name := "solve", desc := "()Z" } : Jvm.MethodName)) ∈ tT := tT_k 583 (by decide +kernel) (by decide +kernel)
theorem k_585 : (Jvm.Cond.instanceMethod ({ cls := "OrderTwoCasesModel", name := "solve", desc := "()Z" } : Jvm.MethodName)) ∈ tT := tT_k 585 (by decide +kernel) (by decide +kernel)
set_option maxRecDepth 20000 in
theorem k_586 : (Jvm.Cond.code ({ cls := "OrderTwoCasesModel", name := "solve", desc := "()Z" } : Jvm.MethodName) prog_8_method_18_code (5 : Nat) (Option.some Jvm.ClassFile.FieldType.boolean)) ∈ tT := tT_k 586 rfl (by decide +kernel)
theorem k_587 : (Jvm.Cond.methodLink "OrderTwoCasesModel" (89 : Nat) ({ cls := "OrderTwoCasesModel", name := "make", desc := "()V" } : Jvm.MethodName)) ∈ tT := tT_k 587 (by decide +kernel) (by decide +kernel)
theorem k_589 : (Jvm.Cond.instanceMethod ({ cls := "OrderTwoCasesModel", name := "make", desc := "()V" } : Jvm.MethodName)) ∈ tT := tT_k 589 (by decide +kernel) (by decide +kernel)
set_option maxRecDepth 20000 in
theorem k_590 : (Jvm.Cond.code ({ cls := "OrderTwoCasesModel", name := "make", desc := "()V" } : Jvm.MethodName) prog_8_method_17_code (5 : Nat) (Option.none : Option Jvm.ClassFile.FieldType)) ∈ tT := tT_k 590 rfl (by decide +kernel)
theorem k_591 : (Jvm.Cond.methodLink "OrderTwoCasesLaw" (82 : Nat) ({ cls := "OrderTwoCasesModel", name := "degree", desc := "(I)I" } : Jvm.MethodName)) ∈ tT := tT_k 591 (by decide +kernel) (by decide +kernel)
theorem k_592 : (Jvm.Cond.instanceMethod ({ cls := "OrderTwoCasesModel", name := "degree", desc := "(I)I" } : Jvm.MethodName)) ∈ tT := tT_k 592 (by decide +kernel) (by decide +kernel)
theorem k_593 : (Jvm.Cond.selects "OrderTwoCasesModel" ({ cls := "OrderTwoCasesModel", name := "degree", desc := "(I)I" } : Jvm.MethodName) ({ cls := "OrderTwoCasesModel", name := "degree", desc := "(I)I" } : Jvm.MethodName)) ∈ tT := tT_k 593 (by decide +kernel) (by decide +kernel)
set_option maxRecDepth 20000 in
theorem k_594 : (Jvm.Cond.code ({ cls := "OrderTwoCasesModel", name := "degree", desc := "(I)I" } : Jvm.MethodName) prog_8_method_23_code (2 : Nat) (Option.some Jvm.ClassFile.FieldType.int)) ∈ tT := tT_k 594 rfl (by decide +kernel)
theorem k_595 : (Jvm.Cond.methodLink "OrderTwoCasesModel" (105 : Nat) ({ cls := "OrderTwoCasesModel", name := "isAnswer", desc := "(III)Z" } : Jvm.MethodName)) ∈ tT := tT_k 595 (by decide +kernel) (by decide +kernel)
theorem k_597 : (Jvm.Cond.instanceMethod ({ cls := "OrderTwoCasesModel", name := "isAnswer", desc := "(III)Z" } : Jvm.MethodName)) ∈ tT := tT_k 597 (by decide +kernel) (by decide +kernel)
set_option maxRecDepth 20000 in
theorem k_598 : (Jvm.Cond.code ({ cls := "OrderTwoCasesModel", name := "isAnswer", desc := "(III)Z" } : Jvm.MethodName) prog_8_method_22_code (4 : Nat) (Option.some Jvm.ClassFile.FieldType.boolean)) ∈ tT := tT_k 598 rfl (by decide +kernel)
theorem k_599 : (Jvm.Cond.methodLink "OrderTwoCasesLaw" (85 : Nat) ({ cls := "OrderTwoCasesModel", name := "polynomial", desc := "(II)I" } : Jvm.MethodName)) ∈ tT := tT_k 599 (by decide +kernel) (by decide +kernel)
theorem k_600 : (Jvm.Cond.instanceMethod ({ cls := "OrderTwoCasesModel", name := "polynomial", desc := "(II)I" } : Jvm.MethodName)) ∈ tT := tT_k 600 (by decide +kernel) (by decide +kernel)
theorem k_601 : (Jvm.Cond.selects "OrderTwoCasesModel" ({ cls := "OrderTwoCasesModel", name := "polynomial", desc := "(II)I" } : Jvm.MethodName) ({ cls := "OrderTwoCasesModel", name := "polynomial", desc := "(II)I" } : Jvm.MethodName)) ∈ tT := tT_k 601 (by decide +kernel) (by decide +kernel)
set_option maxRecDepth 20000 in
theorem k_602 : (Jvm.Cond.code ({ cls := "OrderTwoCasesModel", name := "polynomial", desc := "(II)I" } : Jvm.MethodName) prog_8_method_24_code (3 : Nat) (Option.some Jvm.ClassFile.FieldType.int)) ∈ tT := tT_k 602 rfl (by decide +kernel)
theorem k_603 : (Jvm.Cond.methodLink "OrderTwoCasesLaw" (88 : Nat) ({ cls := "OrderTwoCasesModel", name := "slope", desc := "(II)I" } : Jvm.MethodName)) ∈ tT := tT_k 603 (by decide +kernel) (by decide +kernel)
theorem k_604 : (Jvm.Cond.instanceMethod ({ cls := "OrderTwoCasesModel", name := "slope", desc := "(II)I" } : Jvm.MethodName)) ∈ tT := tT_k 604 (by decide +kernel) (by decide +kernel)
theorem k_605 : (Jvm.Cond.selects "OrderTwoCasesModel" ({ cls := "OrderTwoCasesModel", name := "slope", desc := "(II)I" } : Jvm.MethodName) ({ cls := "OrderTwoCasesModel", name := "slope", desc := "(II)I" } : Jvm.MethodName)) ∈ tT := tT_k 605 (by decide +kernel) (by decide +kernel)
set_option maxRecDepth 20000 in
theorem k_606 : (Jvm.Cond.code ({ cls := "OrderTwoCasesModel", name := "slope", desc := "(II)I" } : Jvm.MethodName) prog_8_method_25_code (3 : Nat) (Option.some Jvm.ClassFile.FieldType.int)) ∈ tT := tT_k 606 rfl (by decide +kernel)
theorem k_607 : (Jvm.Cond.methodLink "OrderTwoCasesLaw" (92 : Nat) ({ cls := "OrderTwoCasesModel", name := "series", desc := "(JJI)I" } : Jvm.MethodName)) ∈ tT := tT_k 607 (by decide +kernel) (by decide +kernel)
theorem k_608 : (Jvm.Cond.instanceMethod ({ cls := "OrderTwoCasesModel", name := "series", desc := "(JJI)I" } : Jvm.MethodName)) ∈ tT := tT_k 608 (by decide +kernel) (by decide +kernel)
theorem k_609 : (Jvm.Cond.selects "OrderTwoCasesModel" ({ cls := "OrderTwoCasesModel", name := "series", desc := "(JJI)I" } : Jvm.MethodName) ({ cls := "OrderTwoCasesModel", name := "series", desc := "(JJI)I" } : Jvm.MethodName)) ∈ tT := tT_k 609 (by decide +kernel) (by decide +kernel)
set_option maxRecDepth 20000 in
theorem k_610 : (Jvm.Cond.code ({ cls := "OrderTwoCasesModel", name := "series", desc := "(JJI)I" } : Jvm.MethodName) prog_8_method_27_code (6 : Nat) (Option.some Jvm.ClassFile.FieldType.int)) ∈ tT := tT_k 610 rfl (by decide +kernel)
theorem k_611 : (Jvm.Cond.constantLong "OrderTwoCasesModel" (109 : Nat) (40 : Int64)) ∈ tT := tT_k 611 (by decide +kernel) (by decide +kernel)
theorem k_612 : (Jvm.Cond.methodLink "OrderTwoCasesModel" (111 : Nat) ({ cls := "OrderTwoCasesModel", name := "seriesAt", desc := "(JJI)I" } : Jvm.MethodName)) ∈ tT := tT_k 612 (by decide +kernel) (by decide +kernel)
theorem k_614 : (Jvm.Cond.instanceMethod ({ cls := "OrderTwoCasesModel", name := "seriesAt", desc := "(JJI)I" } : Jvm.MethodName)) ∈ tT := tT_k 614 (by decide +kernel) (by decide +kernel)
set_option maxRecDepth 20000 in
theorem k_615 : (Jvm.Cond.code ({ cls := "OrderTwoCasesModel", name := "seriesAt", desc := "(JJI)I" } : Jvm.MethodName) prog_8_method_26_code (10 : Nat) (Option.some Jvm.ClassFile.FieldType.int)) ∈ tT := tT_k 615 rfl (by decide +kernel)
theorem k_616 : (Jvm.Cond.methodLink "OrderTwoCasesLaw" (95 : Nat) ({ cls := "OrderTwoCasesModel", name := "answer", desc := "(II)I" } : Jvm.MethodName)) ∈ tT := tT_k 616 (by decide +kernel) (by decide +kernel)
theorem k_617 : (Jvm.Cond.instanceMethod ({ cls := "OrderTwoCasesModel", name := "answer", desc := "(II)I" } : Jvm.MethodName)) ∈ tT := tT_k 617 (by decide +kernel) (by decide +kernel)
theorem k_618 : (Jvm.Cond.selects "OrderTwoCasesModel" ({ cls := "OrderTwoCasesModel", name := "answer", desc := "(II)I" } : Jvm.MethodName) ({ cls := "OrderTwoCasesModel", name := "answer", desc := "(II)I" } : Jvm.MethodName)) ∈ tT := tT_k 618 (by decide +kernel) (by decide +kernel)
set_option maxRecDepth 20000 in
theorem k_619 : (Jvm.Cond.code ({ cls := "OrderTwoCasesModel", name := "answer", desc := "(II)I" } : Jvm.MethodName) prog_8_method_28_code (5 : Nat) (Option.some Jvm.ClassFile.FieldType.int)) ∈ tT := tT_k 619 rfl (by decide +kernel)
theorem k_620 : (Jvm.Cond.methodLink "OrderTwoCasesLaw" (100 : Nat) ({ cls := "OrderTwoCasesModel", name := "proves", desc := "(IIIIII)Z" } : Jvm.MethodName)) ∈ tT := tT_k 620 (by decide +kernel) (by decide +kernel)
theorem k_621 : (Jvm.Cond.instanceMethod ({ cls := "OrderTwoCasesModel", name := "proves", desc := "(IIIIII)Z" } : Jvm.MethodName)) ∈ tT := tT_k 621 (by decide +kernel) (by decide +kernel)
theorem k_622 : (Jvm.Cond.selects "OrderTwoCasesModel" ({ cls := "OrderTwoCasesModel", name := "proves", desc := "(IIIIII)Z" } : Jvm.MethodName) ({ cls := "OrderTwoCasesModel", name := "proves", desc := "(IIIIII)Z" } : Jvm.MethodName)) ∈ tT := tT_k 622 (by decide +kernel) (by decide +kernel)
set_option maxRecDepth 20000 in
theorem k_623 : (Jvm.Cond.code ({ cls := "OrderTwoCasesModel", name := "proves", desc := "(IIIIII)Z" } : Jvm.MethodName) prog_8_method_29_code (13 : Nat) (Option.some Jvm.ClassFile.FieldType.boolean)) ∈ tT := tT_k 623 rfl (by decide +kernel)
theorem k_624 : (Jvm.Cond.constantLong "OrderTwoCasesLaw" (47 : Nat) (4294967295 : Int64)) ∈ tT := tT_k 624 (by decide +kernel) (by decide +kernel)
theorem p_Otc_current : Jvm.Cond.selects "OrderTwoCases" ({ cls := "OrderTwoCases", name := "current", desc := "()LOrderTwoCases$Study;" } : Jvm.MethodName) ({ cls := "OrderTwoCases", name := "current", desc := "()LOrderTwoCases$Study;" } : Jvm.MethodName) ∈ tT := tT_p 0 (by decide +kernel) (by decide +kernel)
theorem p_Stu_fillRest : Jvm.Cond.selects "OrderTwoCases$Study" ({ cls := "OrderTwoCases$Study", name := "fillRest", desc := "(LOrderTwoCases$Operator;)V" } : Jvm.MethodName) ({ cls := "OrderTwoCases$Study", name := "fillRest", desc := "(LOrderTwoCases$Operator;)V" } : Jvm.MethodName) ∈ tT := tT_p 1 (by decide +kernel) (by decide +kernel)
theorem p_Stu_takeBothPlain : Jvm.Cond.selects "OrderTwoCases$Study" ({ cls := "OrderTwoCases$Study", name := "takeBothPlain", desc := "(LOrderTwoCases$Operator;)V" } : Jvm.MethodName) ({ cls := "OrderTwoCases$Study", name := "takeBothPlain", desc := "(LOrderTwoCases$Operator;)V" } : Jvm.MethodName) ∈ tT := tT_p 2 (by decide +kernel) (by decide +kernel)
theorem p_Stu_tryRoot : Jvm.Cond.selects "OrderTwoCases$Study" ({ cls := "OrderTwoCases$Study", name := "tryRoot", desc := "(LOrderTwoCases$Operator;II)I" } : Jvm.MethodName) ({ cls := "OrderTwoCases$Study", name := "tryRoot", desc := "(LOrderTwoCases$Operator;II)I" } : Jvm.MethodName) ∈ tT := tT_p 3 (by decide +kernel) (by decide +kernel)
theorem p_Stu_fillW : Jvm.Cond.selects "OrderTwoCases$Study" ({ cls := "OrderTwoCases$Study", name := "fillW", desc := "(II)V" } : Jvm.MethodName) ({ cls := "OrderTwoCases$Study", name := "fillW", desc := "(II)V" } : Jvm.MethodName) ∈ tT := tT_p 4 (by decide +kernel) (by decide +kernel)
theorem p_Otc_expand : Jvm.Cond.selects "OrderTwoCases" ({ cls := "OrderTwoCases", name := "expand", desc := "(JJI)I" } : Jvm.MethodName) ({ cls := "OrderTwoCases", name := "expand", desc := "(JJI)I" } : Jvm.MethodName) ∈ tT := tT_p 6 (by decide +kernel) (by decide +kernel)
theorem p_Mod_findRest : Jvm.Cond.selects "OrderTwoCasesModel" ({ cls := "OrderTwoCasesModel", name := "findRest", desc := "()V" } : Jvm.MethodName) ({ cls := "OrderTwoCasesModel", name := "findRest", desc := "()V" } : Jvm.MethodName) ∈ tT := tT_p 7 (by decide +kernel) (by decide +kernel)
theorem p_Mod_find : Jvm.Cond.selects "OrderTwoCasesModel" ({ cls := "OrderTwoCasesModel", name := "find", desc := "()I" } : Jvm.MethodName) ({ cls := "OrderTwoCasesModel", name := "find", desc := "()I" } : Jvm.MethodName) ∈ tT := tT_p 8 (by decide +kernel) (by decide +kernel)
theorem p_Mod_high : Jvm.Cond.selects "OrderTwoCasesModel" ({ cls := "OrderTwoCasesModel", name := "high", desc := "()I" } : Jvm.MethodName) ({ cls := "OrderTwoCasesModel", name := "high", desc := "()I" } : Jvm.MethodName) ∈ tT := tT_p 9 (by decide +kernel) (by decide +kernel)
theorem p_Mod_raise : Jvm.Cond.selects "OrderTwoCasesModel" ({ cls := "OrderTwoCasesModel", name := "raise", desc := "(I)I" } : Jvm.MethodName) ({ cls := "OrderTwoCasesModel", name := "raise", desc := "(I)I" } : Jvm.MethodName) ∈ tT := tT_p 10 (by decide +kernel) (by decide +kernel)
theorem p_Mod_take : Jvm.Cond.selects "OrderTwoCasesModel" ({ cls := "OrderTwoCasesModel", name := "take", desc := "(I)V" } : Jvm.MethodName) ({ cls := "OrderTwoCasesModel", name := "take", desc := "(I)V" } : Jvm.MethodName) ∈ tT := tT_p 11 (by decide +kernel) (by decide +kernel)
theorem p_Mod_findAnswers : Jvm.Cond.selects "OrderTwoCasesModel" ({ cls := "OrderTwoCasesModel", name := "findAnswers", desc := "()V" } : Jvm.MethodName) ({ cls := "OrderTwoCasesModel", name := "findAnswers", desc := "()V" } : Jvm.MethodName) ∈ tT := tT_p 12 (by decide +kernel) (by decide +kernel)
theorem p_Mod_keep : Jvm.Cond.selects "OrderTwoCasesModel" ({ cls := "OrderTwoCasesModel", name := "keep", desc := "()V" } : Jvm.MethodName) ({ cls := "OrderTwoCasesModel", name := "keep", desc := "()V" } : Jvm.MethodName) ∈ tT := tT_p 13 (by decide +kernel) (by decide +kernel)
theorem p_Mod_solve : Jvm.Cond.selects "OrderTwoCasesModel" ({ cls := "OrderTwoCasesModel", name := "solve", desc := "()Z" } : Jvm.MethodName) ({ cls := "OrderTwoCasesModel", name := "solve", desc := "()Z" } : Jvm.MethodName) ∈ tT := tT_p 14 (by decide +kernel) (by decide +kernel)
theorem p_Mod_make : Jvm.Cond.selects "OrderTwoCasesModel" ({ cls := "OrderTwoCasesModel", name := "make", desc := "()V" } : Jvm.MethodName) ({ cls := "OrderTwoCasesModel", name := "make", desc := "()V" } : Jvm.MethodName) ∈ tT := tT_p 15 (by decide +kernel) (by decide +kernel)
theorem p_Mod_isAnswer : Jvm.Cond.selects "OrderTwoCasesModel" ({ cls := "OrderTwoCasesModel", name := "isAnswer", desc := "(III)Z" } : Jvm.MethodName) ({ cls := "OrderTwoCasesModel", name := "isAnswer", desc := "(III)Z" } : Jvm.MethodName) ∈ tT := tT_p 16 (by decide +kernel) (by decide +kernel)
theorem p_Mod_seriesAt : Jvm.Cond.selects "OrderTwoCasesModel" ({ cls := "OrderTwoCasesModel", name := "seriesAt", desc := "(JJI)I" } : Jvm.MethodName) ({ cls := "OrderTwoCasesModel", name := "seriesAt", desc := "(JJI)I" } : Jvm.MethodName) ∈ tT := tT_p 17 (by decide +kernel) (by decide +kernel)
def F_Row : u_T := fun k => match k with
  | _ => ("OrderTwoCases$Row", "numbers", "[I", true)
def t_Row : Nat → FieldType := fun k => match k with
  | _ => .array .int
theorem nm_Row : ∀ a, a < 1 → ∀ b, b < 1 → a ≠ b → (F_Row a).2.1 ≠ (F_Row b).2.1 := by decide +kernel
theorem tok_Row : ∀ k, k < 1 → parseFieldDescriptor (F_Row k).2.2.1 = some (t_Row k) := by decide +kernel
theorem la_Row : ∀ w ∈ u_ws "OrderTwoCases$Row" F_Row 1, w ∈ tT := by
  show ∀ w ∈ [u_lay "OrderTwoCases$Row" F_Row 0], w ∈ tT
  exact List.forall_mem_cons.mpr ⟨k_36, fun _ h => absurd h List.not_mem_nil⟩
def F_Opr : u_T := fun k => match k with
  | 0 => ("OrderTwoCases$Operator", "first", "LOrderTwoCases$Row;", true)
  | _ => ("OrderTwoCases$Operator", "zeroth", "LOrderTwoCases$Row;", true)
def t_Opr : Nat → FieldType := fun k => match k with
  | 0 => .object "OrderTwoCases$Row"
  | _ => .object "OrderTwoCases$Row"
theorem nm_Opr : ∀ a, a < 2 → ∀ b, b < 2 → a ≠ b → (F_Opr a).2.1 ≠ (F_Opr b).2.1 := by decide +kernel
theorem tok_Opr : ∀ k, k < 2 → parseFieldDescriptor (F_Opr k).2.2.1 = some (t_Opr k) := by decide +kernel
theorem la_Opr : ∀ w ∈ u_ws "OrderTwoCases$Operator" F_Opr 2, w ∈ tT := by
  show ∀ w ∈ [u_lay "OrderTwoCases$Operator" F_Opr 0, u_lay "OrderTwoCases$Operator" F_Opr 1], w ∈ tT
  exact List.forall_mem_cons.mpr ⟨k_48, List.forall_mem_cons.mpr ⟨k_50, fun _ h => absurd h List.not_mem_nil⟩⟩
def F_Pai : u_T := fun k => match k with
  | 0 => ("OrderTwoCases$Pair", "u", "LOrderTwoCases$Row;", true)
  | 1 => ("OrderTwoCases$Pair", "p", "LOrderTwoCases$Row;", true)
  | _ => ("OrderTwoCases$Pair", "turned", "LOrderTwoCases$Operator;", true)
def t_Pai : Nat → FieldType := fun k => match k with
  | 0 => .object "OrderTwoCases$Row"
  | 1 => .object "OrderTwoCases$Row"
  | _ => .object "OrderTwoCases$Operator"
theorem nm_Pai : ∀ a, a < 3 → ∀ b, b < 3 → a ≠ b → (F_Pai a).2.1 ≠ (F_Pai b).2.1 := by decide +kernel
theorem tok_Pai : ∀ k, k < 3 → parseFieldDescriptor (F_Pai k).2.2.1 = some (t_Pai k) := by decide +kernel
theorem la_Pai : ∀ w ∈ u_ws "OrderTwoCases$Pair" F_Pai 3, w ∈ tT := by
  show ∀ w ∈ [u_lay "OrderTwoCases$Pair" F_Pai 0, u_lay "OrderTwoCases$Pair" F_Pai 1, u_lay "OrderTwoCases$Pair" F_Pai 2], w ∈ tT
  exact List.forall_mem_cons.mpr ⟨k_76, List.forall_mem_cons.mpr ⟨k_78, List.forall_mem_cons.mpr ⟨k_80, fun _ h => absurd h List.not_mem_nil⟩⟩⟩
def F_Stu : u_T := fun k => match k with
  | 0 => ("OrderTwoCases$Study", "rest", "LOrderTwoCases$Row;", true)
  | 1 => ("OrderTwoCases$Study", "kindFound", "I", false)
  | 2 => ("OrderTwoCases$Study", "triedOfLess", "I", false)
  | 3 => ("OrderTwoCases$Study", "triedOfGreater", "I", false)
  | 4 => ("OrderTwoCases$Study", "count", "I", false)
  | 5 => ("OrderTwoCases$Study", "w", "LOrderTwoCases$Row;", true)
  | 6 => ("OrderTwoCases$Study", "earlier", "LOrderTwoCases$Pair;", true)
  | _ => ("OrderTwoCases$Study", "later", "LOrderTwoCases$Pair;", true)
def t_Stu : Nat → FieldType := fun k => match k with
  | 0 => .object "OrderTwoCases$Row"
  | 1 => .int
  | 2 => .int
  | 3 => .int
  | 4 => .int
  | 5 => .object "OrderTwoCases$Row"
  | 6 => .object "OrderTwoCases$Pair"
  | _ => .object "OrderTwoCases$Pair"
theorem nm_Stu : ∀ a, a < 8 → ∀ b, b < 8 → a ≠ b → (F_Stu a).2.1 ≠ (F_Stu b).2.1 := by decide +kernel
theorem tok_Stu : ∀ k, k < 8 → parseFieldDescriptor (F_Stu k).2.2.1 = some (t_Stu k) := by decide +kernel
theorem la_Stu : ∀ w ∈ u_ws "OrderTwoCases$Study" F_Stu 8, w ∈ tT := by
  show ∀ w ∈ [u_lay "OrderTwoCases$Study" F_Stu 0, u_lay "OrderTwoCases$Study" F_Stu 1, u_lay "OrderTwoCases$Study" F_Stu 2, u_lay "OrderTwoCases$Study" F_Stu 3, u_lay "OrderTwoCases$Study" F_Stu 4, u_lay "OrderTwoCases$Study" F_Stu 5, u_lay "OrderTwoCases$Study" F_Stu 6, u_lay "OrderTwoCases$Study" F_Stu 7], w ∈ tT
  exact List.forall_mem_cons.mpr ⟨k_96, List.forall_mem_cons.mpr ⟨k_98, List.forall_mem_cons.mpr ⟨k_100, List.forall_mem_cons.mpr ⟨k_102, List.forall_mem_cons.mpr ⟨k_104, List.forall_mem_cons.mpr ⟨k_106, List.forall_mem_cons.mpr ⟨k_108, List.forall_mem_cons.mpr ⟨k_110, fun _ h => absurd h List.not_mem_nil⟩⟩⟩⟩⟩⟩⟩⟩
def F_Otc : u_T := fun k => match k with
  | 0 => ("OrderTwoCases", "equation", "LOrderTwoCases$Operator;", true)
  | 1 => ("OrderTwoCases", "study", "LOrderTwoCases$Study;", true)
  | 2 => ("OrderTwoCases", "asked", "LOrderTwoCases$Pair;", true)
  | 3 => ("OrderTwoCases", "line", "LOrderTwoCases$Row;", true)
  | _ => ("OrderTwoCases", "studied", "Z", false)
def t_Otc : Nat → FieldType := fun k => match k with
  | 0 => .object "OrderTwoCases$Operator"
  | 1 => .object "OrderTwoCases$Study"
  | 2 => .object "OrderTwoCases$Pair"
  | 3 => .object "OrderTwoCases$Row"
  | _ => .boolean
theorem nm_Otc : ∀ a, a < 5 → ∀ b, b < 5 → a ≠ b → (F_Otc a).2.1 ≠ (F_Otc b).2.1 := by decide +kernel
theorem tok_Otc : ∀ k, k < 5 → parseFieldDescriptor (F_Otc k).2.2.1 = some (t_Otc k) := by decide +kernel
theorem la_Otc : ∀ w ∈ u_ws "OrderTwoCases" F_Otc 5, w ∈ tT := by
  show ∀ w ∈ [u_lay "OrderTwoCases" F_Otc 0, u_lay "OrderTwoCases" F_Otc 1, u_lay "OrderTwoCases" F_Otc 2, u_lay "OrderTwoCases" F_Otc 3, u_lay "OrderTwoCases" F_Otc 4], w ∈ tT
  exact List.forall_mem_cons.mpr ⟨k_122, List.forall_mem_cons.mpr ⟨k_124, List.forall_mem_cons.mpr ⟨k_126, List.forall_mem_cons.mpr ⟨k_128, List.forall_mem_cons.mpr ⟨k_130, fun _ h => absurd h List.not_mem_nil⟩⟩⟩⟩⟩
def F_Mod : u_T := fun k => match k with
  | 0 => ("OrderTwoCasesModel", "code", "I", false)
  | 1 => ("OrderTwoCasesModel", "f", "[I", true)
  | 2 => ("OrderTwoCasesModel", "g", "[I", true)
  | 3 => ("OrderTwoCasesModel", "rest", "[J", true)
  | 4 => ("OrderTwoCasesModel", "w", "[J", true)
  | 5 => ("OrderTwoCasesModel", "more", "[J", true)
  | 6 => ("OrderTwoCasesModel", "tried", "I", false)
  | 7 => ("OrderTwoCasesModel", "many", "I", false)
  | 8 => ("OrderTwoCasesModel", "degrees", "[I", true)
  | 9 => ("OrderTwoCasesModel", "polynomials", "[J", true)
  | 10 => ("OrderTwoCasesModel", "slopes", "[J", true)
  | 11 => ("OrderTwoCasesModel", "left", "[J", true)
  | 12 => ("OrderTwoCasesModel", "trial", "[J", true)
  | 13 => ("OrderTwoCasesModel", "row", "[J", true)
  | _ => ("OrderTwoCasesModel", "roots", "[I", true)
def t_Mod : Nat → FieldType := fun k => match k with
  | 0 => .int
  | 1 => .array .int
  | 2 => .array .int
  | 3 => .array .long
  | 4 => .array .long
  | 5 => .array .long
  | 6 => .int
  | 7 => .int
  | 8 => .array .int
  | 9 => .array .long
  | 10 => .array .long
  | 11 => .array .long
  | 12 => .array .long
  | 13 => .array .long
  | _ => .array .int
theorem nm_Mod : ∀ a, a < 15 → ∀ b, b < 15 → a ≠ b → (F_Mod a).2.1 ≠ (F_Mod b).2.1 := by decide +kernel
theorem tok_Mod : ∀ k, k < 15 → parseFieldDescriptor (F_Mod k).2.2.1 = some (t_Mod k) := by decide +kernel
theorem la_Mod : ∀ w ∈ u_ws "OrderTwoCasesModel" F_Mod 15, w ∈ tT := by
  show ∀ w ∈ [u_lay "OrderTwoCasesModel" F_Mod 0, u_lay "OrderTwoCasesModel" F_Mod 1, u_lay "OrderTwoCasesModel" F_Mod 2, u_lay "OrderTwoCasesModel" F_Mod 3, u_lay "OrderTwoCasesModel" F_Mod 4, u_lay "OrderTwoCasesModel" F_Mod 5, u_lay "OrderTwoCasesModel" F_Mod 6, u_lay "OrderTwoCasesModel" F_Mod 7, u_lay "OrderTwoCasesModel" F_Mod 8, u_lay "OrderTwoCasesModel" F_Mod 9, u_lay "OrderTwoCasesModel" F_Mod 10, u_lay "OrderTwoCasesModel" F_Mod 11, u_lay "OrderTwoCasesModel" F_Mod 12, u_lay "OrderTwoCasesModel" F_Mod 13, u_lay "OrderTwoCasesModel" F_Mod 14], w ∈ tT
  exact List.forall_mem_cons.mpr ⟨k_479, List.forall_mem_cons.mpr ⟨k_481, List.forall_mem_cons.mpr ⟨k_483, List.forall_mem_cons.mpr ⟨k_485, List.forall_mem_cons.mpr ⟨k_487, List.forall_mem_cons.mpr ⟨k_489, List.forall_mem_cons.mpr ⟨k_491, List.forall_mem_cons.mpr ⟨k_493, List.forall_mem_cons.mpr ⟨k_495, List.forall_mem_cons.mpr ⟨k_497, List.forall_mem_cons.mpr ⟨k_499, List.forall_mem_cons.mpr ⟨k_501, List.forall_mem_cons.mpr ⟨k_503, List.forall_mem_cons.mpr ⟨k_505, List.forall_mem_cons.mpr ⟨k_507, fun _ h => absurd h List.not_mem_nil⟩⟩⟩⟩⟩⟩⟩⟩⟩⟩⟩⟩⟩⟩⟩
abbrev vC : List vw_C := [("OrderTwoCases$Row", F_Row, 1), ("OrderTwoCases$Operator", F_Opr, 2), ("OrderTwoCases$Pair", F_Pai, 3), ("OrderTwoCases$Study", F_Stu, 8), ("OrderTwoCases", F_Otc, 5), ("OrderTwoCasesModel", F_Mod, 15)]
abbrev y_Otc_init : MethodName := ({ cls := "OrderTwoCases", name := "<init>", desc := "()V" } : Jvm.MethodName)
abbrev b_Otc_init : ByteArray := prog_1_method_1_code
abbrev w_Otc_init : List Cond := wc y_Otc_init b_Otc_init 1 (Option.none : Option Jvm.ClassFile.FieldType)
abbrev y_Opr_init : MethodName := ({ cls := "OrderTwoCases$Operator", name := "<init>", desc := "()V" } : Jvm.MethodName)
abbrev b_Opr_init : ByteArray := prog_3_method_1_code
abbrev w_Opr_init : List Cond := wc y_Opr_init b_Opr_init 1 (Option.none : Option Jvm.ClassFile.FieldType)
abbrev y_Row_init : MethodName := ({ cls := "OrderTwoCases$Row", name := "<init>", desc := "(I)V" } : Jvm.MethodName)
abbrev b_Row_init : ByteArray := prog_5_method_1_code
abbrev w_Row_init : List Cond := wc y_Row_init b_Row_init 2 (Option.none : Option Jvm.ClassFile.FieldType)
abbrev y_Stu_init : MethodName := ({ cls := "OrderTwoCases$Study", name := "<init>", desc := "()V" } : Jvm.MethodName)
abbrev b_Stu_init : ByteArray := prog_6_method_1_code
abbrev w_Stu_init : List Cond := wc y_Stu_init b_Stu_init 1 (Option.none : Option Jvm.ClassFile.FieldType)
abbrev y_Pai_init : MethodName := ({ cls := "OrderTwoCases$Pair", name := "<init>", desc := "()V" } : Jvm.MethodName)
abbrev b_Pai_init : ByteArray := prog_4_method_1_code
abbrev w_Pai_init : List Cond := wc y_Pai_init b_Pai_init 1 (Option.none : Option Jvm.ClassFile.FieldType)
abbrev y_Otc_move : MethodName := ({ cls := "OrderTwoCases", name := "move", desc := "(J)V" } : Jvm.MethodName)
abbrev b_Otc_move : ByteArray := prog_1_method_4_code
abbrev w_Otc_move : List Cond := wc y_Otc_move b_Otc_move 3 (Option.none : Option Jvm.ClassFile.FieldType)
abbrev y_Row_shift : MethodName := ({ cls := "OrderTwoCases$Row", name := "shift", desc := "(J)V" } : Jvm.MethodName)
abbrev b_Row_shift : ByteArray := prog_5_method_7_code
abbrev w_Row_shift : List Cond := wc y_Row_shift b_Row_shift 7 (Option.none : Option Jvm.ClassFile.FieldType)
abbrev y_Num_of : MethodName := ({ cls := "OrderTwoCases$Numbers", name := "of", desc := "(J)I" } : Jvm.MethodName)
abbrev b_Num_of : ByteArray := prog_2_method_2_code
abbrev w_Num_of : List Cond := wc y_Num_of b_Num_of 3 (Option.some Jvm.ClassFile.FieldType.int)
abbrev y_Row_get : MethodName := ({ cls := "OrderTwoCases$Row", name := "get", desc := "(I)I" } : Jvm.MethodName)
abbrev b_Row_get : ByteArray := prog_5_method_3_code
abbrev w_Row_get : List Cond := wc y_Row_get b_Row_get 2 (Option.some Jvm.ClassFile.FieldType.int)
abbrev y_Row_set : MethodName := ({ cls := "OrderTwoCases$Row", name := "set", desc := "(IJ)V" } : Jvm.MethodName)
abbrev b_Row_set : ByteArray := prog_5_method_4_code
abbrev w_Row_set : List Cond := wc y_Row_set b_Row_set 4 (Option.none : Option Jvm.ClassFile.FieldType)
abbrev y_Otc_kind : MethodName := ({ cls := "OrderTwoCases", name := "kind", desc := "()I" } : Jvm.MethodName)
abbrev b_Otc_kind : ByteArray := prog_1_method_5_code
abbrev w_Otc_kind : List Cond := wc y_Otc_kind b_Otc_kind 1 (Option.some Jvm.ClassFile.FieldType.int)
abbrev y_Otc_current : MethodName := ({ cls := "OrderTwoCases", name := "current", desc := "()LOrderTwoCases$Study;" } : Jvm.MethodName)
abbrev b_Otc_current : ByteArray := prog_1_method_15_code
abbrev w_Otc_current : List Cond := wc y_Otc_current b_Otc_current 1 (Option.some (Jvm.ClassFile.FieldType.object "OrderTwoCases$Study"))
abbrev y_Stu_begin : MethodName := ({ cls := "OrderTwoCases$Study", name := "begin", desc := "(LOrderTwoCases$Operator;)V" } : Jvm.MethodName)
abbrev b_Stu_begin : ByteArray := prog_6_method_4_code
abbrev w_Stu_begin : List Cond := wc y_Stu_begin b_Stu_begin 4 (Option.none : Option Jvm.ClassFile.FieldType)
abbrev y_Stu_fillRest : MethodName := ({ cls := "OrderTwoCases$Study", name := "fillRest", desc := "(LOrderTwoCases$Operator;)V" } : Jvm.MethodName)
abbrev b_Stu_fillRest : ByteArray := prog_6_method_5_code
abbrev w_Stu_fillRest : List Cond := wc y_Stu_fillRest b_Stu_fillRest 6 (Option.none : Option Jvm.ClassFile.FieldType)
abbrev y_Row_timesAt : MethodName := ({ cls := "OrderTwoCases$Row", name := "timesAt", desc := "(LOrderTwoCases$Row;I)I" } : Jvm.MethodName)
abbrev b_Row_timesAt : ByteArray := prog_5_method_9_code
abbrev w_Row_timesAt : List Cond := wc y_Row_timesAt b_Row_timesAt 6 (Option.some Jvm.ClassFile.FieldType.int)
abbrev y_Row_slopeAt : MethodName := ({ cls := "OrderTwoCases$Row", name := "slopeAt", desc := "(I)J" } : Jvm.MethodName)
abbrev b_Row_slopeAt : ByteArray := prog_5_method_8_code
abbrev w_Row_slopeAt : List Cond := wc y_Row_slopeAt b_Row_slopeAt 3 (Option.some Jvm.ClassFile.FieldType.long)
abbrev y_Row_top : MethodName := ({ cls := "OrderTwoCases$Row", name := "top", desc := "()I" } : Jvm.MethodName)
abbrev b_Row_top : ByteArray := prog_5_method_6_code
abbrev w_Row_top : List Cond := wc y_Row_top b_Row_top 2 (Option.some Jvm.ClassFile.FieldType.int)
abbrev y_Num_lessRoot : MethodName := ({ cls := "OrderTwoCases$Numbers", name := "lessRoot", desc := "(I)I" } : Jvm.MethodName)
abbrev b_Num_lessRoot : ByteArray := prog_2_method_5_code
abbrev w_Num_lessRoot : List Cond := wc y_Num_lessRoot b_Num_lessRoot 2 (Option.some Jvm.ClassFile.FieldType.int)
abbrev y_Num_raise : MethodName := ({ cls := "OrderTwoCases$Numbers", name := "raise", desc := "(II)I" } : Jvm.MethodName)
abbrev b_Num_raise : ByteArray := prog_2_method_3_code
abbrev w_Num_raise : List Cond := wc y_Num_raise b_Num_raise 7 (Option.some Jvm.ClassFile.FieldType.int)
abbrev y_Stu_takeBothPlain : MethodName := ({ cls := "OrderTwoCases$Study", name := "takeBothPlain", desc := "(LOrderTwoCases$Operator;)V" } : Jvm.MethodName)
abbrev b_Stu_takeBothPlain : ByteArray := prog_6_method_6_code
abbrev w_Stu_takeBothPlain : List Cond := wc y_Stu_takeBothPlain b_Stu_takeBothPlain 4 (Option.none : Option Jvm.ClassFile.FieldType)
abbrev y_Row_wipe : MethodName := ({ cls := "OrderTwoCases$Row", name := "wipe", desc := "()V" } : Jvm.MethodName)
abbrev b_Row_wipe : ByteArray := prog_5_method_5_code
abbrev w_Row_wipe : List Cond := wc y_Row_wipe b_Row_wipe 2 (Option.none : Option Jvm.ClassFile.FieldType)
abbrev y_Stu_pair : MethodName := ({ cls := "OrderTwoCases$Study", name := "pair", desc := "(I)LOrderTwoCases$Pair;" } : Jvm.MethodName)
abbrev b_Stu_pair : ByteArray := prog_6_method_3_code
abbrev w_Stu_pair : List Cond := wc y_Stu_pair b_Stu_pair 2 (Option.some (Jvm.ClassFile.FieldType.object "OrderTwoCases$Pair"))
abbrev y_Pai_takeSum : MethodName := ({ cls := "OrderTwoCases$Pair", name := "takeSum", desc := "(LOrderTwoCases$Row;LOrderTwoCases$Operator;)V" } : Jvm.MethodName)
abbrev b_Pai_takeSum : ByteArray := prog_4_method_5_code
abbrev w_Pai_takeSum : List Cond := wc y_Pai_takeSum b_Pai_takeSum 4 (Option.none : Option Jvm.ClassFile.FieldType)
abbrev y_Pai_takePower : MethodName := ({ cls := "OrderTwoCases$Pair", name := "takePower", desc := "(I)V" } : Jvm.MethodName)
abbrev b_Pai_takePower : ByteArray := prog_4_method_4_code
abbrev w_Pai_takePower : List Cond := wc y_Pai_takePower b_Pai_takePower 2 (Option.none : Option Jvm.ClassFile.FieldType)
abbrev y_Stu_tryRoot : MethodName := ({ cls := "OrderTwoCases$Study", name := "tryRoot", desc := "(LOrderTwoCases$Operator;II)I" } : Jvm.MethodName)
abbrev b_Stu_tryRoot : ByteArray := prog_6_method_7_code
abbrev w_Stu_tryRoot : List Cond := wc y_Stu_tryRoot b_Stu_tryRoot 8 (Option.some Jvm.ClassFile.FieldType.int)
abbrev y_Stu_fillW : MethodName := ({ cls := "OrderTwoCases$Study", name := "fillW", desc := "(II)V" } : Jvm.MethodName)
abbrev b_Stu_fillW : ByteArray := prog_6_method_8_code
abbrev w_Stu_fillW : List Cond := wc y_Stu_fillW b_Stu_fillW 6 (Option.none : Option Jvm.ClassFile.FieldType)
abbrev y_Num_inverse : MethodName := ({ cls := "OrderTwoCases$Numbers", name := "inverse", desc := "(I)I" } : Jvm.MethodName)
abbrev b_Num_inverse : ByteArray := prog_2_method_4_code
abbrev w_Num_inverse : List Cond := wc y_Num_inverse b_Num_inverse 1 (Option.some Jvm.ClassFile.FieldType.int)
abbrev y_Pai_turn : MethodName := ({ cls := "OrderTwoCases$Pair", name := "turn", desc := "(LOrderTwoCases$Operator;)V" } : Jvm.MethodName)
abbrev b_Pai_turn : ByteArray := prog_4_method_2_code
abbrev w_Pai_turn : List Cond := wc y_Pai_turn b_Pai_turn 5 (Option.none : Option Jvm.ClassFile.FieldType)
abbrev y_Pai_solve : MethodName := ({ cls := "OrderTwoCases$Pair", name := "solve", desc := "(III)V" } : Jvm.MethodName)
abbrev b_Pai_solve : ByteArray := prog_4_method_6_code
abbrev w_Pai_solve : List Cond := wc y_Pai_solve b_Pai_solve 6 (Option.none : Option Jvm.ClassFile.FieldType)
abbrev y_Opr_allTerms : MethodName := ({ cls := "OrderTwoCases$Operator", name := "allTerms", desc := "(LOrderTwoCases$Row;I)I" } : Jvm.MethodName)
abbrev b_Opr_allTerms : ByteArray := prog_3_method_3_code
abbrev w_Opr_allTerms : List Cond := wc y_Opr_allTerms b_Opr_allTerms 3 (Option.some Jvm.ClassFile.FieldType.int)
abbrev y_Opr_lowerTerms : MethodName := ({ cls := "OrderTwoCases$Operator", name := "lowerTerms", desc := "(LOrderTwoCases$Row;I)I" } : Jvm.MethodName)
abbrev b_Opr_lowerTerms : ByteArray := prog_3_method_2_code
abbrev w_Opr_lowerTerms : List Cond := wc y_Opr_lowerTerms b_Opr_lowerTerms 6 (Option.some Jvm.ClassFile.FieldType.int)
abbrev y_Pai_holds : MethodName := ({ cls := "OrderTwoCases$Pair", name := "holds", desc := "()Z" } : Jvm.MethodName)
abbrev b_Pai_holds : ByteArray := prog_4_method_3_code
abbrev w_Pai_holds : List Cond := wc y_Pai_holds b_Pai_holds 2 (Option.some Jvm.ClassFile.FieldType.boolean)
abbrev y_Otc_answers : MethodName := ({ cls := "OrderTwoCases", name := "answers", desc := "()I" } : Jvm.MethodName)
abbrev b_Otc_answers : ByteArray := prog_1_method_7_code
abbrev w_Otc_answers : List Cond := wc y_Otc_answers b_Otc_answers 1 (Option.some Jvm.ClassFile.FieldType.int)
abbrev y_Otc_proves : MethodName := ({ cls := "OrderTwoCases", name := "proves", desc := "(IIIIII)Z" } : Jvm.MethodName)
abbrev b_Otc_proves : ByteArray := prog_1_method_13_code
abbrev w_Otc_proves : List Cond := wc y_Otc_proves b_Otc_proves 7 (Option.some Jvm.ClassFile.FieldType.boolean)
abbrev y_Otc_clear : MethodName := ({ cls := "OrderTwoCases", name := "clear", desc := "()V" } : Jvm.MethodName)
abbrev b_Otc_clear : ByteArray := prog_1_method_14_code
abbrev w_Otc_clear : List Cond := wc y_Otc_clear b_Otc_clear 1 (Option.none : Option Jvm.ClassFile.FieldType)
abbrev y_Otc_put : MethodName := ({ cls := "OrderTwoCases", name := "put", desc := "(IIJ)Z" } : Jvm.MethodName)
abbrev b_Otc_put : ByteArray := prog_1_method_2_code
abbrev w_Otc_put : List Cond := wc y_Otc_put b_Otc_put 7 (Option.some Jvm.ClassFile.FieldType.boolean)
abbrev y_Row_has : MethodName := ({ cls := "OrderTwoCases$Row", name := "has", desc := "(I)Z" } : Jvm.MethodName)
abbrev b_Row_has : ByteArray := prog_5_method_2_code
abbrev w_Row_has : List Cond := wc y_Row_has b_Row_has 2 (Option.some Jvm.ClassFile.FieldType.boolean)
abbrev y_Otc_at : MethodName := ({ cls := "OrderTwoCases", name := "at", desc := "(II)I" } : Jvm.MethodName)
abbrev b_Otc_at : ByteArray := prog_1_method_3_code
abbrev w_Otc_at : List Cond := wc y_Otc_at b_Otc_at 4 (Option.some Jvm.ClassFile.FieldType.int)
abbrev y_Otc_tried : MethodName := ({ cls := "OrderTwoCases", name := "tried", desc := "(I)I" } : Jvm.MethodName)
abbrev b_Otc_tried : ByteArray := prog_1_method_6_code
abbrev w_Otc_tried : List Cond := wc y_Otc_tried b_Otc_tried 3 (Option.some Jvm.ClassFile.FieldType.int)
abbrev y_Otc_degree : MethodName := ({ cls := "OrderTwoCases", name := "degree", desc := "(I)I" } : Jvm.MethodName)
abbrev b_Otc_degree : ByteArray := prog_1_method_8_code
abbrev w_Otc_degree : List Cond := wc y_Otc_degree b_Otc_degree 3 (Option.some Jvm.ClassFile.FieldType.int)
abbrev y_Stu_hasPair : MethodName := ({ cls := "OrderTwoCases$Study", name := "hasPair", desc := "(I)Z" } : Jvm.MethodName)
abbrev b_Stu_hasPair : ByteArray := prog_6_method_2_code
abbrev w_Stu_hasPair : List Cond := wc y_Stu_hasPair b_Stu_hasPair 2 (Option.some Jvm.ClassFile.FieldType.boolean)
abbrev y_Otc_polynomial : MethodName := ({ cls := "OrderTwoCases", name := "polynomial", desc := "(II)I" } : Jvm.MethodName)
abbrev b_Otc_polynomial : ByteArray := prog_1_method_9_code
abbrev w_Otc_polynomial : List Cond := wc y_Otc_polynomial b_Otc_polynomial 4 (Option.some Jvm.ClassFile.FieldType.int)
abbrev y_Otc_slope : MethodName := ({ cls := "OrderTwoCases", name := "slope", desc := "(II)I" } : Jvm.MethodName)
abbrev b_Otc_slope : ByteArray := prog_1_method_10_code
abbrev w_Otc_slope : List Cond := wc y_Otc_slope b_Otc_slope 4 (Option.some Jvm.ClassFile.FieldType.int)
abbrev y_Otc_series : MethodName := ({ cls := "OrderTwoCases", name := "series", desc := "(JJI)I" } : Jvm.MethodName)
abbrev b_Otc_series : ByteArray := prog_1_method_11_code
abbrev w_Otc_series : List Cond := wc y_Otc_series b_Otc_series 6 (Option.some Jvm.ClassFile.FieldType.int)
abbrev y_Otc_expand : MethodName := ({ cls := "OrderTwoCases", name := "expand", desc := "(JJI)I" } : Jvm.MethodName)
abbrev b_Otc_expand : ByteArray := prog_1_method_16_code
abbrev w_Otc_expand : List Cond := wc y_Otc_expand b_Otc_expand 8 (Option.some Jvm.ClassFile.FieldType.int)
abbrev y_Otc_answer : MethodName := ({ cls := "OrderTwoCases", name := "answer", desc := "(II)I" } : Jvm.MethodName)
abbrev b_Otc_answer : ByteArray := prog_1_method_12_code
abbrev w_Otc_answer : List Cond := wc y_Otc_answer b_Otc_answer 7 (Option.some Jvm.ClassFile.FieldType.int)
abbrev y_Mod_init : MethodName := ({ cls := "OrderTwoCasesModel", name := "<init>", desc := "()V" } : Jvm.MethodName)
abbrev b_Mod_init : ByteArray := prog_8_method_1_code
abbrev w_Mod_init : List Cond := wc y_Mod_init b_Mod_init 1 (Option.none : Option Jvm.ClassFile.FieldType)
abbrev y_Mod_thrown : MethodName := ({ cls := "OrderTwoCasesModel", name := "thrown", desc := "()I" } : Jvm.MethodName)
abbrev b_Mod_thrown : ByteArray := prog_8_method_2_code
abbrev w_Mod_thrown : List Cond := wc y_Mod_thrown b_Mod_thrown 1 (Option.some Jvm.ClassFile.FieldType.int)
abbrev y_Mod_put : MethodName := ({ cls := "OrderTwoCasesModel", name := "put", desc := "(IIJ)Z" } : Jvm.MethodName)
abbrev b_Mod_put : ByteArray := prog_8_method_7_code
abbrev w_Mod_put : List Cond := wc y_Mod_put b_Mod_put 7 (Option.some Jvm.ClassFile.FieldType.boolean)
abbrev y_Mod_in : MethodName := ({ cls := "OrderTwoCasesModel", name := "in", desc := "(JJJ)Z" } : Jvm.MethodName)
abbrev b_Mod_in : ByteArray := prog_8_method_4_code
abbrev w_Mod_in : List Cond := wc y_Mod_in b_Mod_in 6 (Option.some Jvm.ClassFile.FieldType.boolean)
abbrev y_Mod_modulo : MethodName := ({ cls := "OrderTwoCasesModel", name := "modulo", desc := "(J)J" } : Jvm.MethodName)
abbrev b_Mod_modulo : ByteArray := prog_8_method_5_code
abbrev w_Mod_modulo : List Cond := wc y_Mod_modulo b_Mod_modulo 4 (Option.some Jvm.ClassFile.FieldType.long)
abbrev y_Mod_at : MethodName := ({ cls := "OrderTwoCasesModel", name := "at", desc := "(II)I" } : Jvm.MethodName)
abbrev b_Mod_at : ByteArray := prog_8_method_8_code
abbrev w_Mod_at : List Cond := wc y_Mod_at b_Mod_at 3 (Option.some Jvm.ClassFile.FieldType.int)
abbrev y_Mod_findRest : MethodName := ({ cls := "OrderTwoCasesModel", name := "findRest", desc := "()V" } : Jvm.MethodName)
abbrev b_Mod_findRest : ByteArray := prog_8_method_11_code
abbrev w_Mod_findRest : List Cond := wc y_Mod_findRest b_Mod_findRest 10 (Option.none : Option Jvm.ClassFile.FieldType)
abbrev y_Mod_inverse : MethodName := ({ cls := "OrderTwoCasesModel", name := "inverse", desc := "(J)J" } : Jvm.MethodName)
abbrev b_Mod_inverse : ByteArray := prog_8_method_6_code
abbrev w_Mod_inverse : List Cond := wc y_Mod_inverse b_Mod_inverse 7 (Option.some Jvm.ClassFile.FieldType.long)
abbrev y_Mod_clear : MethodName := ({ cls := "OrderTwoCasesModel", name := "clear", desc := "()V" } : Jvm.MethodName)
abbrev b_Mod_clear : ByteArray := prog_8_method_9_code
abbrev w_Mod_clear : List Cond := wc y_Mod_clear b_Mod_clear 2 (Option.none : Option Jvm.ClassFile.FieldType)
abbrev y_Mod_move : MethodName := ({ cls := "OrderTwoCasesModel", name := "move", desc := "(J)V" } : Jvm.MethodName)
abbrev b_Mod_move : ByteArray := prog_8_method_10_code
abbrev w_Mod_move : List Cond := wc y_Mod_move b_Mod_move 7 (Option.none : Option Jvm.ClassFile.FieldType)
abbrev y_Mod_kind : MethodName := ({ cls := "OrderTwoCasesModel", name := "kind", desc := "()I" } : Jvm.MethodName)
abbrev b_Mod_kind : ByteArray := prog_8_method_14_code
abbrev w_Mod_kind : List Cond := wc y_Mod_kind b_Mod_kind 1 (Option.some Jvm.ClassFile.FieldType.int)
abbrev y_Mod_find : MethodName := ({ cls := "OrderTwoCasesModel", name := "find", desc := "()I" } : Jvm.MethodName)
abbrev b_Mod_find : ByteArray := prog_8_method_13_code
abbrev w_Mod_find : List Cond := wc y_Mod_find b_Mod_find 4 (Option.some Jvm.ClassFile.FieldType.int)
abbrev y_Mod_high : MethodName := ({ cls := "OrderTwoCasesModel", name := "high", desc := "()I" } : Jvm.MethodName)
abbrev b_Mod_high : ByteArray := prog_8_method_12_code
abbrev w_Mod_high : List Cond := wc y_Mod_high b_Mod_high 2 (Option.some Jvm.ClassFile.FieldType.int)
abbrev y_Mod_tried : MethodName := ({ cls := "OrderTwoCasesModel", name := "tried", desc := "(I)I" } : Jvm.MethodName)
abbrev b_Mod_tried : ByteArray := prog_8_method_16_code
abbrev w_Mod_tried : List Cond := wc y_Mod_tried b_Mod_tried 2 (Option.some Jvm.ClassFile.FieldType.int)
abbrev y_Mod_raise : MethodName := ({ cls := "OrderTwoCasesModel", name := "raise", desc := "(I)I" } : Jvm.MethodName)
abbrev b_Mod_raise : ByteArray := prog_8_method_3_code
abbrev w_Mod_raise : List Cond := wc y_Mod_raise b_Mod_raise 2 (Option.some Jvm.ClassFile.FieldType.int)
abbrev y_Mod_take : MethodName := ({ cls := "OrderTwoCasesModel", name := "take", desc := "(I)V" } : Jvm.MethodName)
abbrev b_Mod_take : ByteArray := prog_8_method_15_code
abbrev w_Mod_take : List Cond := wc y_Mod_take b_Mod_take 11 (Option.none : Option Jvm.ClassFile.FieldType)
abbrev y_Mod_answers : MethodName := ({ cls := "OrderTwoCasesModel", name := "answers", desc := "()I" } : Jvm.MethodName)
abbrev b_Mod_answers : ByteArray := prog_8_method_21_code
abbrev w_Mod_answers : List Cond := wc y_Mod_answers b_Mod_answers 1 (Option.some Jvm.ClassFile.FieldType.int)
abbrev y_Mod_findAnswers : MethodName := ({ cls := "OrderTwoCasesModel", name := "findAnswers", desc := "()V" } : Jvm.MethodName)
abbrev b_Mod_findAnswers : ByteArray := prog_8_method_20_code
abbrev w_Mod_findAnswers : List Cond := wc y_Mod_findAnswers b_Mod_findAnswers 4 (Option.none : Option Jvm.ClassFile.FieldType)
abbrev y_Mod_keep : MethodName := ({ cls := "OrderTwoCasesModel", name := "keep", desc := "()V" } : Jvm.MethodName)
abbrev b_Mod_keep : ByteArray := prog_8_method_19_code
abbrev w_Mod_keep : List Cond := wc y_Mod_keep b_Mod_keep 5 (Option.none : Option Jvm.ClassFile.FieldType)
abbrev y_Mod_solve : MethodName := ({ cls := "OrderTwoCasesModel", name := "solve", desc := "()Z" } : Jvm.MethodName)
abbrev b_Mod_solve : ByteArray := prog_8_method_18_code
abbrev w_Mod_solve : List Cond := wc y_Mod_solve b_Mod_solve 5 (Option.some Jvm.ClassFile.FieldType.boolean)
abbrev y_Mod_make : MethodName := ({ cls := "OrderTwoCasesModel", name := "make", desc := "()V" } : Jvm.MethodName)
abbrev b_Mod_make : ByteArray := prog_8_method_17_code
abbrev w_Mod_make : List Cond := wc y_Mod_make b_Mod_make 5 (Option.none : Option Jvm.ClassFile.FieldType)
abbrev y_Mod_degree : MethodName := ({ cls := "OrderTwoCasesModel", name := "degree", desc := "(I)I" } : Jvm.MethodName)
abbrev b_Mod_degree : ByteArray := prog_8_method_23_code
abbrev w_Mod_degree : List Cond := wc y_Mod_degree b_Mod_degree 2 (Option.some Jvm.ClassFile.FieldType.int)
abbrev y_Mod_isAnswer : MethodName := ({ cls := "OrderTwoCasesModel", name := "isAnswer", desc := "(III)Z" } : Jvm.MethodName)
abbrev b_Mod_isAnswer : ByteArray := prog_8_method_22_code
abbrev w_Mod_isAnswer : List Cond := wc y_Mod_isAnswer b_Mod_isAnswer 4 (Option.some Jvm.ClassFile.FieldType.boolean)
abbrev y_Mod_polynomial : MethodName := ({ cls := "OrderTwoCasesModel", name := "polynomial", desc := "(II)I" } : Jvm.MethodName)
abbrev b_Mod_polynomial : ByteArray := prog_8_method_24_code
abbrev w_Mod_polynomial : List Cond := wc y_Mod_polynomial b_Mod_polynomial 3 (Option.some Jvm.ClassFile.FieldType.int)
abbrev y_Mod_slope : MethodName := ({ cls := "OrderTwoCasesModel", name := "slope", desc := "(II)I" } : Jvm.MethodName)
abbrev b_Mod_slope : ByteArray := prog_8_method_25_code
abbrev w_Mod_slope : List Cond := wc y_Mod_slope b_Mod_slope 3 (Option.some Jvm.ClassFile.FieldType.int)
abbrev y_Mod_series : MethodName := ({ cls := "OrderTwoCasesModel", name := "series", desc := "(JJI)I" } : Jvm.MethodName)
abbrev b_Mod_series : ByteArray := prog_8_method_27_code
abbrev w_Mod_series : List Cond := wc y_Mod_series b_Mod_series 6 (Option.some Jvm.ClassFile.FieldType.int)
abbrev y_Mod_seriesAt : MethodName := ({ cls := "OrderTwoCasesModel", name := "seriesAt", desc := "(JJI)I" } : Jvm.MethodName)
abbrev b_Mod_seriesAt : ByteArray := prog_8_method_26_code
abbrev w_Mod_seriesAt : List Cond := wc y_Mod_seriesAt b_Mod_seriesAt 10 (Option.some Jvm.ClassFile.FieldType.int)
abbrev y_Mod_answer : MethodName := ({ cls := "OrderTwoCasesModel", name := "answer", desc := "(II)I" } : Jvm.MethodName)
abbrev b_Mod_answer : ByteArray := prog_8_method_28_code
abbrev w_Mod_answer : List Cond := wc y_Mod_answer b_Mod_answer 5 (Option.some Jvm.ClassFile.FieldType.int)
abbrev y_Mod_proves : MethodName := ({ cls := "OrderTwoCasesModel", name := "proves", desc := "(IIIIII)Z" } : Jvm.MethodName)
abbrev b_Mod_proves : ByteArray := prog_8_method_29_code
abbrev w_Mod_proves : List Cond := wc y_Mod_proves b_Mod_proves 13 (Option.some Jvm.ClassFile.FieldType.boolean)
theorem g_Law_43 : GoodIn tT w_Otc_init := tT_good (wc_in k_19)
theorem g_Otc_9 : GoodIn tT w_Opr_init := tT_good (wc_in k_27)
theorem g_Opr_11 : GoodIn tT w_Row_init := tT_good (wc_in k_33)
theorem g_Otc_18 : GoodIn tT w_Stu_init := tT_good (wc_in k_57)
theorem g_Stu_11 : GoodIn tT w_Row_init := tT_good (wc_in k_33)
theorem g_Stu_38 : GoodIn tT w_Pai_init := tT_good (wc_in k_65)
theorem g_Pai_11 : GoodIn tT w_Row_init := tT_good (wc_in k_33)
theorem g_Pai_25 : GoodIn tT w_Opr_init := tT_good (wc_in k_27)
theorem g_Otc_25 : GoodIn tT w_Pai_init := tT_good (wc_in k_65)
theorem g_Otc_32 : GoodIn tT w_Row_init := tT_good (wc_in k_33)
theorem g_Law_63 : GoodIn tT (wsV "OrderTwoCasesLaw" 63 "OrderTwoCases" y_Otc_move w_Otc_move) := gV k_133 k_134 k_135 k_1 k_136
theorem g_Otc_82 : GoodIn tT (wsV "OrderTwoCases" 82 "OrderTwoCases$Row" y_Row_shift w_Row_shift) := gV k_137 k_138 k_139 k_3 k_140
theorem g_Row_15 : GoodIn tT (va_wsS "OrderTwoCases$Row" 15 y_Num_of w_Num_of) := gS k_141 k_142 k_12 k_143
theorem g_Row_21 : GoodIn tT (wsV "OrderTwoCases$Row" 21 "OrderTwoCases$Row" y_Row_get w_Row_get) := gV k_145 k_146 k_147 k_3 k_148
theorem g_Row_25 : GoodIn tT (wsV "OrderTwoCases$Row" 25 "OrderTwoCases$Row" y_Row_set w_Row_set) := gV k_149 k_150 k_151 k_3 k_152
theorem g_Law_68 : GoodIn tT (wsV "OrderTwoCasesLaw" 68 "OrderTwoCases" y_Otc_kind w_Otc_kind) := gV k_153 k_154 k_155 k_1 k_156
theorem g_Otc_75 : GoodIn tT (wsV "OrderTwoCases" 75 "OrderTwoCases" y_Otc_current w_Otc_current) := gV k_157 k_159 p_Otc_current k_1 k_160
theorem g_Otc_142 : GoodIn tT (wsV "OrderTwoCases" 142 "OrderTwoCases$Study" y_Stu_begin w_Stu_begin) := gV k_161 k_162 k_163 k_4 k_164
theorem g_Stu_46 : GoodIn tT (wsV "OrderTwoCases$Study" 46 "OrderTwoCases$Study" y_Stu_fillRest w_Stu_fillRest) := gV k_165 k_167 p_Stu_fillRest k_4 k_168
theorem g_Stu_77 : GoodIn tT (wsV "OrderTwoCases$Study" 77 "OrderTwoCases$Row" y_Row_timesAt w_Row_timesAt) := gV k_170 k_171 k_172 k_3 k_173
theorem g_Stu_83 : GoodIn tT (wsV "OrderTwoCases$Study" 83 "OrderTwoCases$Row" y_Row_slopeAt w_Row_slopeAt) := gV k_175 k_176 k_177 k_3 k_178
theorem g_Stu_54 : GoodIn tT (wsV "OrderTwoCases$Study" 54 "OrderTwoCases$Row" y_Row_get w_Row_get) := gV k_179 k_146 k_147 k_3 k_148
theorem g_Stu_90 : GoodIn tT (wsV "OrderTwoCases$Study" 90 "OrderTwoCases$Row" y_Row_set w_Row_set) := gV k_180 k_150 k_151 k_3 k_152
theorem g_Stu_50 : GoodIn tT (wsV "OrderTwoCases$Study" 50 "OrderTwoCases$Row" y_Row_top w_Row_top) := gV k_181 k_182 k_183 k_3 k_184
theorem g_Stu_58 : GoodIn tT (va_wsS "OrderTwoCases$Study" 58 y_Num_lessRoot w_Num_lessRoot) := gS k_185 k_186 k_12 k_187
theorem g_Num_17 : GoodIn tT (va_wsS "OrderTwoCases$Numbers" 17 y_Num_raise w_Num_raise) := gS k_188 k_189 k_12 k_190
theorem g_Num_11 : GoodIn tT (va_wsS "OrderTwoCases$Numbers" 11 y_Num_of w_Num_of) := gS k_191 k_142 k_12 k_143
theorem g_Stu_63 : GoodIn tT (wsV "OrderTwoCases$Study" 63 "OrderTwoCases$Study" y_Stu_takeBothPlain w_Stu_takeBothPlain) := gV k_195 k_197 p_Stu_takeBothPlain k_4 k_198
theorem g_Stu_94 : GoodIn tT (wsV "OrderTwoCases$Study" 94 "OrderTwoCases$Row" y_Row_wipe w_Row_wipe) := gV k_199 k_200 k_201 k_3 k_202
theorem g_Stu_97 : GoodIn tT (wsV "OrderTwoCases$Study" 97 "OrderTwoCases$Study" y_Stu_pair w_Stu_pair) := gV k_203 k_204 k_205 k_4 k_206
theorem g_Stu_101 : GoodIn tT (wsV "OrderTwoCases$Study" 101 "OrderTwoCases$Pair" y_Pai_takeSum w_Pai_takeSum) := gV k_207 k_208 k_209 k_5 k_210
theorem g_Pai_35 : GoodIn tT (wsV "OrderTwoCases$Pair" 35 "OrderTwoCases$Row" y_Row_get w_Row_get) := gV k_211 k_146 k_147 k_3 k_148
theorem g_Pai_39 : GoodIn tT (wsV "OrderTwoCases$Pair" 39 "OrderTwoCases$Row" y_Row_set w_Row_set) := gV k_213 k_150 k_151 k_3 k_152
theorem g_Stu_105 : GoodIn tT (wsV "OrderTwoCases$Study" 105 "OrderTwoCases$Pair" y_Pai_takePower w_Pai_takePower) := gV k_214 k_215 k_216 k_5 k_217
theorem g_Pai_57 : GoodIn tT (wsV "OrderTwoCases$Pair" 57 "OrderTwoCases$Row" y_Row_wipe w_Row_wipe) := gV k_218 k_200 k_201 k_3 k_202
theorem g_Stu_66 : GoodIn tT (wsV "OrderTwoCases$Study" 66 "OrderTwoCases$Study" y_Stu_tryRoot w_Stu_tryRoot) := gV k_219 k_221 p_Stu_tryRoot k_4 k_222
theorem g_Stu_108 : GoodIn tT (wsV "OrderTwoCases$Study" 108 "OrderTwoCases$Study" y_Stu_fillW w_Stu_fillW) := gV k_223 k_225 p_Stu_fillW k_4 k_226
theorem g_Stu_112 : GoodIn tT (va_wsS "OrderTwoCases$Study" 112 y_Num_of w_Num_of) := gS k_228 k_142 k_12 k_143
theorem g_Stu_116 : GoodIn tT (va_wsS "OrderTwoCases$Study" 116 y_Num_inverse w_Num_inverse) := gS k_229 k_230 k_12 k_231
theorem g_Stu_119 : GoodIn tT (wsV "OrderTwoCases$Study" 119 "OrderTwoCases$Pair" y_Pai_turn w_Pai_turn) := gV k_232 k_233 k_234 k_5 k_235
theorem g_Pai_43 : GoodIn tT (wsV "OrderTwoCases$Pair" 43 "OrderTwoCases$Row" y_Row_slopeAt w_Row_slopeAt) := gV k_237 k_176 k_177 k_3 k_178
theorem g_Pai_47 : GoodIn tT (wsV "OrderTwoCases$Pair" 47 "OrderTwoCases$Row" y_Row_timesAt w_Row_timesAt) := gV k_238 k_171 k_172 k_3 k_173
theorem g_Stu_122 : GoodIn tT (wsV "OrderTwoCases$Study" 122 "OrderTwoCases$Pair" y_Pai_solve w_Pai_solve) := gV k_239 k_240 k_241 k_5 k_242
theorem g_Pai_62 : GoodIn tT (wsV "OrderTwoCases$Pair" 62 "OrderTwoCases$Pair" y_Pai_takePower w_Pai_takePower) := gV k_243 k_215 k_216 k_5 k_217
theorem g_Pai_65 : GoodIn tT (va_wsS "OrderTwoCases$Pair" 65 y_Num_of w_Num_of) := gS k_244 k_142 k_12 k_143
theorem g_Pai_54 : GoodIn tT (wsV "OrderTwoCases$Pair" 54 "OrderTwoCases$Operator" y_Opr_allTerms w_Opr_allTerms) := gV k_245 k_246 k_247 k_2 k_248
theorem g_Opr_23 : GoodIn tT (wsV "OrderTwoCases$Operator" 23 "OrderTwoCases$Row" y_Row_get w_Row_get) := gV k_250 k_146 k_147 k_3 k_148
theorem g_Opr_39 : GoodIn tT (wsV "OrderTwoCases$Operator" 39 "OrderTwoCases$Operator" y_Opr_lowerTerms w_Opr_lowerTerms) := gV k_251 k_252 k_253 k_2 k_254
theorem g_Opr_27 : GoodIn tT (wsV "OrderTwoCases$Operator" 27 "OrderTwoCases$Row" y_Row_slopeAt w_Row_slopeAt) := gV k_255 k_176 k_177 k_3 k_178
theorem g_Opr_31 : GoodIn tT (va_wsS "OrderTwoCases$Operator" 31 y_Num_of w_Num_of) := gS k_256 k_142 k_12 k_143
theorem g_Pai_71 : GoodIn tT (va_wsS "OrderTwoCases$Pair" 71 y_Num_inverse w_Num_inverse) := gS k_257 k_230 k_12 k_231
theorem g_Stu_126 : GoodIn tT (wsV "OrderTwoCases$Study" 126 "OrderTwoCases$Pair" y_Pai_holds w_Pai_holds) := gV k_258 k_259 k_260 k_5 k_261
theorem g_Law_76 : GoodIn tT (wsV "OrderTwoCasesLaw" 76 "OrderTwoCases" y_Otc_answers w_Otc_answers) := gV k_262 k_263 k_264 k_1 k_265
theorem g_Law_96 : GoodIn tT (wsV "OrderTwoCasesLaw" 96 "OrderTwoCases" y_Otc_proves w_Otc_proves) := gV k_266 k_267 k_268 k_1 k_269
theorem g_Otc_69 : GoodIn tT (wsV "OrderTwoCases" 69 "OrderTwoCases$Row" y_Row_set w_Row_set) := gV k_270 k_150 k_151 k_3 k_152
theorem g_Otc_131 : GoodIn tT (wsV "OrderTwoCases" 131 "OrderTwoCases$Pair" y_Pai_turn w_Pai_turn) := gV k_271 k_233 k_234 k_5 k_235
theorem g_Otc_135 : GoodIn tT (wsV "OrderTwoCases" 135 "OrderTwoCases$Pair" y_Pai_holds w_Pai_holds) := gV k_272 k_259 k_260 k_5 k_261
theorem g_Law_101 : GoodIn tT (wsV "OrderTwoCasesLaw" 101 "OrderTwoCases" y_Otc_clear w_Otc_clear) := gV k_273 k_274 k_275 k_1 k_276
theorem g_Otc_139 : GoodIn tT (wsV "OrderTwoCases" 139 "OrderTwoCases$Row" y_Row_wipe w_Row_wipe) := gV k_277 k_200 k_201 k_3 k_202
theorem g_Law_7 : GoodIn tT (wsV "OrderTwoCasesLaw" 7 "OrderTwoCases" y_Otc_put w_Otc_put) := gV k_283 k_284 k_285 k_1 k_286
theorem g_Otc_56 : GoodIn tT (wsV "OrderTwoCases" 56 "OrderTwoCases$Row" y_Row_has w_Row_has) := gV k_355 k_356 k_357 k_3 k_358
theorem g_Otc_65 : GoodIn tT (wsV "OrderTwoCases" 65 "OrderTwoCases$Row" y_Row_get w_Row_get) := gV k_375 k_146 k_147 k_3 k_148
theorem g_Law_17 : GoodIn tT (wsV "OrderTwoCasesLaw" 17 "OrderTwoCases" y_Otc_at w_Otc_at) := gV k_379 k_380 k_381 k_1 k_382
theorem g_Law_21 : GoodIn tT (wsV "OrderTwoCasesLaw" 21 "OrderTwoCases" y_Otc_tried w_Otc_tried) := gV k_388 k_389 k_390 k_1 k_391
theorem g_Law_27 : GoodIn tT (wsV "OrderTwoCasesLaw" 27 "OrderTwoCases" y_Otc_degree w_Otc_degree) := gV k_412 k_413 k_414 k_1 k_415
theorem g_Otc_106 : GoodIn tT (wsV "OrderTwoCases" 106 "OrderTwoCases$Study" y_Stu_hasPair w_Stu_hasPair) := gV k_416 k_417 k_418 k_4 k_419
theorem g_Otc_111 : GoodIn tT (wsV "OrderTwoCases" 111 "OrderTwoCases$Study" y_Stu_pair w_Stu_pair) := gV k_421 k_204 k_205 k_4 k_206
theorem g_Otc_118 : GoodIn tT (wsV "OrderTwoCases" 118 "OrderTwoCases$Row" y_Row_top w_Row_top) := gV k_422 k_182 k_183 k_3 k_184
theorem g_Law_30 : GoodIn tT (wsV "OrderTwoCasesLaw" 30 "OrderTwoCases" y_Otc_polynomial w_Otc_polynomial) := gV k_426 k_427 k_428 k_1 k_429
theorem g_Law_33 : GoodIn tT (wsV "OrderTwoCasesLaw" 33 "OrderTwoCases" y_Otc_slope w_Otc_slope) := gV k_434 k_435 k_436 k_1 k_437
theorem g_Law_36 : GoodIn tT (wsV "OrderTwoCasesLaw" 36 "OrderTwoCases" y_Otc_series w_Otc_series) := gV k_441 k_442 k_443 k_1 k_444
theorem g_Otc_127 : GoodIn tT (wsV "OrderTwoCases" 127 "OrderTwoCases" y_Otc_expand w_Otc_expand) := gV k_445 k_447 p_Otc_expand k_1 k_448
theorem g_Otc_145 : GoodIn tT (wsV "OrderTwoCases" 145 "OrderTwoCases$Operator" y_Opr_lowerTerms w_Opr_lowerTerms) := gV k_449 k_252 k_253 k_2 k_254
theorem g_Otc_149 : GoodIn tT (va_wsS "OrderTwoCases" 149 y_Num_inverse w_Num_inverse) := gS k_450 k_230 k_12 k_231
theorem g_Law_40 : GoodIn tT (wsV "OrderTwoCasesLaw" 40 "OrderTwoCases" y_Otc_answer w_Otc_answer) := gV k_454 k_455 k_456 k_1 k_457
theorem g_Law_46 : GoodIn tT w_Mod_init := tT_good (wc_in k_462)
theorem g_Law_55 : GoodIn tT (wsV "OrderTwoCasesLaw" 55 "OrderTwoCasesModel" y_Mod_thrown w_Mod_thrown) := gV k_511 k_512 k_513 k_6 k_514
theorem g_Law_54 : GoodIn tT (wsV "OrderTwoCasesLaw" 54 "OrderTwoCasesModel" y_Mod_put w_Mod_put) := gV k_515 k_516 k_517 k_6 k_518
theorem g_Mod_53 : GoodIn tT (va_wsS "OrderTwoCasesModel" 53 y_Mod_in w_Mod_in) := gS k_519 k_520 k_6 k_521
theorem g_Mod_61 : GoodIn tT (va_wsS "OrderTwoCasesModel" 61 y_Mod_modulo w_Mod_modulo) := gS k_524 k_525 k_6 k_526
theorem g_Law_62 : GoodIn tT (wsV "OrderTwoCasesLaw" 62 "OrderTwoCasesModel" y_Mod_at w_Mod_at) := gV k_528 k_529 k_530 k_6 k_531
theorem g_Mod_65 : GoodIn tT (wsV "OrderTwoCasesModel" 65 "OrderTwoCasesModel" y_Mod_findRest w_Mod_findRest) := gV k_532 k_534 p_Mod_findRest k_6 k_535
theorem g_Mod_68 : GoodIn tT (va_wsS "OrderTwoCasesModel" 68 y_Mod_inverse w_Mod_inverse) := gS k_536 k_537 k_6 k_538
theorem g_Law_104 : GoodIn tT (wsV "OrderTwoCasesLaw" 104 "OrderTwoCasesModel" y_Mod_clear w_Mod_clear) := gV k_539 k_540 k_541 k_6 k_542
theorem g_Law_67 : GoodIn tT (wsV "OrderTwoCasesLaw" 67 "OrderTwoCasesModel" y_Mod_move w_Mod_move) := gV k_543 k_544 k_545 k_6 k_546
theorem g_Law_71 : GoodIn tT (wsV "OrderTwoCasesLaw" 71 "OrderTwoCasesModel" y_Mod_kind w_Mod_kind) := gV k_547 k_548 k_549 k_6 k_550
theorem g_Mod_75 : GoodIn tT (wsV "OrderTwoCasesModel" 75 "OrderTwoCasesModel" y_Mod_find w_Mod_find) := gV k_551 k_553 p_Mod_find k_6 k_554
theorem g_Mod_71 : GoodIn tT (wsV "OrderTwoCasesModel" 71 "OrderTwoCasesModel" y_Mod_high w_Mod_high) := gV k_555 k_557 p_Mod_high k_6 k_558
theorem g_Law_75 : GoodIn tT (wsV "OrderTwoCasesLaw" 75 "OrderTwoCasesModel" y_Mod_tried w_Mod_tried) := gV k_559 k_560 k_561 k_6 k_562
theorem g_Mod_81 : GoodIn tT (wsV "OrderTwoCasesModel" 81 "OrderTwoCasesModel" y_Mod_raise w_Mod_raise) := gV k_563 k_565 p_Mod_raise k_6 k_566
theorem g_Mod_85 : GoodIn tT (wsV "OrderTwoCasesModel" 85 "OrderTwoCasesModel" y_Mod_take w_Mod_take) := gV k_567 k_569 p_Mod_take k_6 k_570
theorem g_Law_79 : GoodIn tT (wsV "OrderTwoCasesLaw" 79 "OrderTwoCasesModel" y_Mod_answers w_Mod_answers) := gV k_571 k_572 k_573 k_6 k_574
theorem g_Mod_102 : GoodIn tT (wsV "OrderTwoCasesModel" 102 "OrderTwoCasesModel" y_Mod_findAnswers w_Mod_findAnswers) := gV k_575 k_577 p_Mod_findAnswers k_6 k_578
theorem g_Mod_95 : GoodIn tT (wsV "OrderTwoCasesModel" 95 "OrderTwoCasesModel" y_Mod_keep w_Mod_keep) := gV k_579 k_581 p_Mod_keep k_6 k_582
theorem g_Mod_98 : GoodIn tT (wsV "OrderTwoCasesModel" 98 "OrderTwoCasesModel" y_Mod_solve w_Mod_solve) := gV k_583 k_585 p_Mod_solve k_6 k_586
theorem g_Mod_89 : GoodIn tT (wsV "OrderTwoCasesModel" 89 "OrderTwoCasesModel" y_Mod_make w_Mod_make) := gV k_587 k_589 p_Mod_make k_6 k_590
theorem g_Law_82 : GoodIn tT (wsV "OrderTwoCasesLaw" 82 "OrderTwoCasesModel" y_Mod_degree w_Mod_degree) := gV k_591 k_592 k_593 k_6 k_594
theorem g_Mod_105 : GoodIn tT (wsV "OrderTwoCasesModel" 105 "OrderTwoCasesModel" y_Mod_isAnswer w_Mod_isAnswer) := gV k_595 k_597 p_Mod_isAnswer k_6 k_598
theorem g_Law_85 : GoodIn tT (wsV "OrderTwoCasesLaw" 85 "OrderTwoCasesModel" y_Mod_polynomial w_Mod_polynomial) := gV k_599 k_600 k_601 k_6 k_602
theorem g_Law_88 : GoodIn tT (wsV "OrderTwoCasesLaw" 88 "OrderTwoCasesModel" y_Mod_slope w_Mod_slope) := gV k_603 k_604 k_605 k_6 k_606
theorem g_Law_92 : GoodIn tT (wsV "OrderTwoCasesLaw" 92 "OrderTwoCasesModel" y_Mod_series w_Mod_series) := gV k_607 k_608 k_609 k_6 k_610
theorem g_Mod_111 : GoodIn tT (wsV "OrderTwoCasesModel" 111 "OrderTwoCasesModel" y_Mod_seriesAt w_Mod_seriesAt) := gV k_612 k_614 p_Mod_seriesAt k_6 k_615
theorem g_Law_95 : GoodIn tT (wsV "OrderTwoCasesLaw" 95 "OrderTwoCasesModel" y_Mod_answer w_Mod_answer) := gV k_616 k_617 k_618 k_6 k_619
theorem g_Law_100 : GoodIn tT (wsV "OrderTwoCasesLaw" 100 "OrderTwoCasesModel" y_Mod_proves w_Mod_proves) := gV k_620 k_621 k_622 k_6 k_623
