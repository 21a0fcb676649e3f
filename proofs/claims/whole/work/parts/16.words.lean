set_option maxRecDepth 100000 in
theorem tw_0 : (Jvm.Cond.initialized "BakeHouseLaw") ∈ tg := tgT 0 rfl rfl
set_option maxRecDepth 100000 in
theorem tw_1 : (Jvm.Cond.initialized "BakeHouse") ∈ tg := tgT 1 rfl rfl
set_option maxRecDepth 100000 in
theorem tw_2 : (Jvm.Cond.initialized "BakeHouse$Book") ∈ tg := tgT 2 rfl rfl
set_option maxRecDepth 100000 in
theorem tw_3 : (Jvm.Cond.initialized "BakeHouse$Shelf") ∈ tg := tgT 3 rfl rfl
set_option maxRecDepth 100000 in
theorem tw_4 : (Jvm.Cond.initialized "BakeHouseModel") ∈ tg := tgT 4 rfl rfl
set_option maxRecDepth 100000 in
theorem tw_5 : (Jvm.Cond.initialized "BakeHouse$Dough") ∈ tg := tgT 5 rfl rfl
set_option maxRecDepth 100000 in
theorem tw_6 : (Jvm.Cond.initialized "BakeHouse$Leavened") ∈ tg := tgT 6 rfl rfl
set_option maxRecDepth 100000 in
theorem tw_7 : (Jvm.Cond.initialized "BakeHouse$Rye") ∈ tg := tgT 7 rfl rfl
set_option maxRecDepth 100000 in
theorem tw_8 : (Jvm.Cond.initialized "BakeHouse$Sweet") ∈ tg := tgT 8 rfl rfl
set_option maxRecDepth 100000 in
theorem tw_9 : (Jvm.Cond.initialized "BakeHouse$Sour") ∈ tg := tgT 9 rfl rfl
set_option maxRecDepth 100000 in
theorem tw_10 : (Jvm.Cond.initialized "BakeHouse$Brioche") ∈ tg := tgT 10 rfl rfl
set_option maxRecDepth 100000 in
theorem tw_11 : (Jvm.Cond.initialized "BakeHouse$Flat") ∈ tg := tgT 11 rfl rfl
set_option maxRecDepth 100000 in
theorem tw_12 : (Jvm.Cond.initialized "BakeHouse$Levain") ∈ tg := tgT 12 rfl rfl
set_option maxRecDepth 100000 in
theorem tw_13 : (Jvm.Cond.initialized "java/lang/Throwable") ∈ tg := tgT 13 rfl rfl
set_option maxRecDepth 100000 in
theorem tw_14 : (Jvm.Cond.initialized "java/lang/Exception") ∈ tg := tgT 14 rfl rfl
set_option maxRecDepth 100000 in
theorem tw_15 : (Jvm.Cond.initialized "java/lang/RuntimeException") ∈ tg := tgT 15 rfl rfl
set_option maxRecDepth 100000 in
theorem tw_16 : (Jvm.Cond.initialized "java/lang/NegativeArraySizeException") ∈ tg := tgT 16 rfl rfl
set_option maxRecDepth 100000 in
theorem tw_17 : (Jvm.Cond.initialized "java/lang/String") ∈ tg := tgT 17 rfl rfl
set_option maxRecDepth 100000 in
theorem tw_18 : (Jvm.Cond.initialized "java/lang/Math") ∈ tg := tgT 18 rfl rfl
set_option maxRecDepth 100000 in
theorem tw_19 : (Jvm.Cond.initialized "java/lang/IllegalStateException") ∈ tg := tgT 19 rfl rfl
set_option maxRecDepth 100000 in
theorem tw_20 : (Jvm.Cond.initialized "java/lang/NullPointerException") ∈ tg := tgT 20 rfl rfl
set_option maxRecDepth 100000 in
theorem tw_21 : (Jvm.Cond.initialized "java/lang/IndexOutOfBoundsException") ∈ tg := tgT 21 rfl rfl
set_option maxRecDepth 100000 in
theorem tw_22 : (Jvm.Cond.initialized "java/lang/ArrayIndexOutOfBoundsException") ∈ tg := tgT 22 rfl rfl
set_option maxRecDepth 100000 in
theorem tw_23 : (Jvm.Cond.initialized "java/lang/ArithmeticException") ∈ tg := tgT 23 rfl rfl
set_option maxRecDepth 100000 in
theorem tw_24 : (Jvm.Cond.classLink "BakeHouseLaw" (8 : Nat) "BakeHouse") ∈ tg := tgT 24 rfl rfl
set_option maxRecDepth 100000 in
theorem tw_25 : (Jvm.Cond.instantiable "BakeHouse" (4 : Nat)) ∈ tg := tgT 25 rfl rfl
set_option maxRecDepth 100000 in
theorem tw_26 : (Jvm.Cond.methodLink "BakeHouseLaw" (40 : Nat) ({ cls := "BakeHouse", name := "<init>", desc := "()V" } : Jvm.MethodName)) ∈ tg := tgT 26 rfl rfl
set_option maxRecDepth 100000 in
theorem tw_27 : (Jvm.Cond.instanceMethod ({ cls := "BakeHouse", name := "<init>", desc := "()V" } : Jvm.MethodName)) ∈ tg := tgT 27 rfl rfl
set_option maxRecDepth 100000 in
theorem tw_28 : (Jvm.Cond.code ({ cls := "BakeHouse", name := "<init>", desc := "()V" } : Jvm.MethodName) prog_1_method_1_code (2 : Nat) (Option.none : Option Jvm.ClassFile.FieldType)) ∈ tg := tgT 28 rfl rfl
set_option maxRecDepth 100000 in
theorem tw_29 : (Jvm.Cond.methodLink "BakeHouse" (1 : Nat) ({ cls := "java/lang/Object", name := "<init>", desc := "()V" } : Jvm.MethodName)) ∈ tg := tgT 29 rfl rfl
set_option maxRecDepth 100000 in
theorem tw_30 : (Jvm.Cond.instanceMethod ({ cls := "java/lang/Object", name := "<init>", desc := "()V" } : Jvm.MethodName)) ∈ tg := tgT 30 rfl rfl
set_option maxRecDepth 100000 in
theorem tw_31 : (Jvm.Cond.code ({ cls := "java/lang/Object", name := "<init>", desc := "()V" } : Jvm.MethodName) object_method_1_code (1 : Nat) (Option.none : Option Jvm.ClassFile.FieldType)) ∈ tg := tgT 31 rfl rfl
set_option maxRecDepth 100000 in
theorem tw_32 : (Jvm.Cond.classLink "BakeHouse" (7 : Nat) "BakeHouse$Book") ∈ tg := tgT 32 rfl rfl
set_option maxRecDepth 100000 in
theorem tw_33 : (Jvm.Cond.instantiable "BakeHouse$Book" (7 : Nat)) ∈ tg := tgT 33 rfl rfl
set_option maxRecDepth 100000 in
theorem tw_35 : (Jvm.Cond.instanceMethod ({ cls := "BakeHouse$Book", name := "<init>", desc := "()V" } : Jvm.MethodName)) ∈ tg := tgT 35 rfl rfl
set_option maxRecDepth 100000 in
theorem tw_36 : (Jvm.Cond.code ({ cls := "BakeHouse$Book", name := "<init>", desc := "()V" } : Jvm.MethodName) prog_2_method_1_code (1 : Nat) (Option.none : Option Jvm.ClassFile.FieldType)) ∈ tg := tgT 36 rfl rfl
set_option maxRecDepth 100000 in
theorem tw_37 : (Jvm.Cond.methodLink "BakeHouse$Book" (3 : Nat) ({ cls := "java/lang/Object", name := "<init>", desc := "()V" } : Jvm.MethodName)) ∈ tg := tgT 37 rfl rfl
set_option maxRecDepth 100000 in
theorem tw_38 : (Jvm.Cond.fieldLink "BakeHouse$Book" (9 : Nat) "BakeHouse$Book" "rows" "[I") ∈ tg := tgT 38 rfl rfl
set_option maxRecDepth 100000 in
theorem tw_39 : (Jvm.Cond.fieldLink "BakeHouse$Book" (15 : Nat) "BakeHouse$Book" "next" "I") ∈ tg := tgT 39 rfl rfl
set_option maxRecDepth 100000 in
theorem tw_40 : (Jvm.Cond.fieldLink "BakeHouse$Book" (19 : Nat) "BakeHouse$Book" "kept" "I") ∈ tg := tgT 40 rfl rfl
set_option maxRecDepth 100000 in
theorem tw_41 : (Jvm.Cond.fieldLink "BakeHouse$Book" (22 : Nat) "BakeHouse$Book" "begun" "I") ∈ tg := tgT 41 rfl rfl
set_option maxRecDepth 100000 in
theorem tw_42 : (Jvm.Cond.fieldLink "BakeHouse" (133 : Nat) "BakeHouse$Book" "begun" "I") ∈ tg := tgT 42 rfl rfl
set_option maxRecDepth 100000 in
theorem tw_43 : (Jvm.Cond.fieldLink "BakeHouse$Book" (25 : Nat) "BakeHouse$Book" "fallen" "I") ∈ tg := tgT 43 rfl rfl
set_option maxRecDepth 100000 in
theorem tw_44 : (Jvm.Cond.fieldLink "BakeHouse$Brioche" (29 : Nat) "BakeHouse$Book" "fallen" "I") ∈ tg := tgT 44 rfl rfl
set_option maxRecDepth 100000 in
theorem tw_45 : (Jvm.Cond.fieldLink "BakeHouse" (136 : Nat) "BakeHouse$Book" "fallen" "I") ∈ tg := tgT 45 rfl rfl
set_option maxRecDepth 100000 in
theorem tw_46 : (Jvm.Cond.fieldLink "BakeHouse$Book" (28 : Nat) "BakeHouse$Book" "missed" "I") ∈ tg := tgT 46 rfl rfl
set_option maxRecDepth 100000 in
theorem tw_47 : (Jvm.Cond.fieldLink "BakeHouse$Dough" (55 : Nat) "BakeHouse$Book" "missed" "I") ∈ tg := tgT 47 rfl rfl
set_option maxRecDepth 100000 in
theorem tw_48 : (Jvm.Cond.fieldLink "BakeHouse" (139 : Nat) "BakeHouse$Book" "missed" "I") ∈ tg := tgT 48 rfl rfl
set_option maxRecDepth 100000 in
theorem tw_49 : (Jvm.Cond.fieldLink "BakeHouse$Book" (31 : Nat) "BakeHouse$Book" "byZero" "I") ∈ tg := tgT 49 rfl rfl
set_option maxRecDepth 100000 in
theorem tw_50 : (Jvm.Cond.fieldLink "BakeHouse$Flat" (36 : Nat) "BakeHouse$Book" "byZero" "I") ∈ tg := tgT 50 rfl rfl
set_option maxRecDepth 100000 in
theorem tw_51 : (Jvm.Cond.fieldLink "BakeHouse" (142 : Nat) "BakeHouse$Book" "byZero" "I") ∈ tg := tgT 51 rfl rfl
set_option maxRecDepth 100000 in
theorem tw_52 : (Jvm.Cond.laysFinal "BakeHouse$Book" "BakeHouse$Book" "rows" "[I") ∈ tg := tgT 52 rfl rfl
set_option maxRecDepth 100000 in
theorem tw_53 : (Jvm.Cond.soleField "BakeHouse$Book" "rows") ∈ tg := tgT 53 rfl rfl
set_option maxRecDepth 100000 in
theorem tw_54 : (Jvm.Cond.lays "BakeHouse$Book" "BakeHouse$Book" "next" "I") ∈ tg := tgT 54 rfl rfl
set_option maxRecDepth 100000 in
theorem tw_55 : (Jvm.Cond.soleField "BakeHouse$Book" "next") ∈ tg := tgT 55 rfl rfl
set_option maxRecDepth 100000 in
theorem tw_56 : (Jvm.Cond.lays "BakeHouse$Book" "BakeHouse$Book" "kept" "I") ∈ tg := tgT 56 rfl rfl
set_option maxRecDepth 100000 in
theorem tw_57 : (Jvm.Cond.soleField "BakeHouse$Book" "kept") ∈ tg := tgT 57 rfl rfl
set_option maxRecDepth 100000 in
theorem tw_58 : (Jvm.Cond.lays "BakeHouse$Book" "BakeHouse$Book" "begun" "I") ∈ tg := tgT 58 rfl rfl
set_option maxRecDepth 100000 in
theorem tw_59 : (Jvm.Cond.soleField "BakeHouse$Book" "begun") ∈ tg := tgT 59 rfl rfl
set_option maxRecDepth 100000 in
theorem tw_60 : (Jvm.Cond.lays "BakeHouse$Book" "BakeHouse$Book" "fallen" "I") ∈ tg := tgT 60 rfl rfl
set_option maxRecDepth 100000 in
theorem tw_61 : (Jvm.Cond.soleField "BakeHouse$Book" "fallen") ∈ tg := tgT 61 rfl rfl
set_option maxRecDepth 100000 in
theorem tw_62 : (Jvm.Cond.lays "BakeHouse$Book" "BakeHouse$Book" "missed" "I") ∈ tg := tgT 62 rfl rfl
set_option maxRecDepth 100000 in
theorem tw_63 : (Jvm.Cond.soleField "BakeHouse$Book" "missed") ∈ tg := tgT 63 rfl rfl
set_option maxRecDepth 100000 in
theorem tw_64 : (Jvm.Cond.lays "BakeHouse$Book" "BakeHouse$Book" "byZero" "I") ∈ tg := tgT 64 rfl rfl
set_option maxRecDepth 100000 in
theorem tw_65 : (Jvm.Cond.soleField "BakeHouse$Book" "byZero") ∈ tg := tgT 65 rfl rfl
set_option maxRecDepth 100000 in
theorem tw_66 : (Jvm.Cond.superclass "BakeHouse$Book" "java/lang/Object") ∈ tg := tgT 66 rfl rfl
set_option maxRecDepth 100000 in
theorem tw_67 : (Jvm.Cond.arrayClass Jvm.ClassFile.FieldType.int) ∈ tg := tgT 67 rfl rfl
set_option maxRecDepth 100000 in
theorem tw_68 : (Jvm.Cond.classLink "BakeHouse" (16 : Nat) "BakeHouse$Shelf") ∈ tg := tgT 68 rfl rfl
set_option maxRecDepth 100000 in
theorem tw_70 : (Jvm.Cond.instantiable "BakeHouse$Shelf" (2 : Nat)) ∈ tg := tgT 70 rfl rfl
set_option maxRecDepth 100000 in
theorem tw_72 : (Jvm.Cond.instanceMethod ({ cls := "BakeHouse$Shelf", name := "<init>", desc := "()V" } : Jvm.MethodName)) ∈ tg := tgT 72 rfl rfl
set_option maxRecDepth 100000 in
theorem tw_73 : (Jvm.Cond.code ({ cls := "BakeHouse$Shelf", name := "<init>", desc := "()V" } : Jvm.MethodName) prog_9_method_1_code (1 : Nat) (Option.none : Option Jvm.ClassFile.FieldType)) ∈ tg := tgT 73 rfl rfl
set_option maxRecDepth 100000 in
theorem tw_74 : (Jvm.Cond.methodLink "BakeHouse$Shelf" (3 : Nat) ({ cls := "java/lang/Object", name := "<init>", desc := "()V" } : Jvm.MethodName)) ∈ tg := tgT 74 rfl rfl
set_option maxRecDepth 100000 in
theorem tw_75 : (Jvm.Cond.fieldLink "BakeHouse$Shelf" (9 : Nat) "BakeHouse$Shelf" "row" "[I") ∈ tg := tgT 75 rfl rfl
set_option maxRecDepth 100000 in
theorem tw_76 : (Jvm.Cond.fieldLink "BakeHouse$Shelf" (15 : Nat) "BakeHouse$Shelf" "size" "I") ∈ tg := tgT 76 rfl rfl
set_option maxRecDepth 100000 in
theorem tw_77 : (Jvm.Cond.fieldLink "BakeHouse" (112 : Nat) "BakeHouse$Shelf" "size" "I") ∈ tg := tgT 77 rfl rfl
set_option maxRecDepth 100000 in
theorem tw_78 : (Jvm.Cond.laysFinal "BakeHouse$Shelf" "BakeHouse$Shelf" "row" "[I") ∈ tg := tgT 78 rfl rfl
set_option maxRecDepth 100000 in
theorem tw_79 : (Jvm.Cond.soleField "BakeHouse$Shelf" "row") ∈ tg := tgT 79 rfl rfl
set_option maxRecDepth 100000 in
theorem tw_80 : (Jvm.Cond.lays "BakeHouse$Shelf" "BakeHouse$Shelf" "size" "I") ∈ tg := tgT 80 rfl rfl
set_option maxRecDepth 100000 in
theorem tw_81 : (Jvm.Cond.soleField "BakeHouse$Shelf" "size") ∈ tg := tgT 81 rfl rfl
set_option maxRecDepth 100000 in
theorem tw_82 : (Jvm.Cond.superclass "BakeHouse$Shelf" "java/lang/Object") ∈ tg := tgT 82 rfl rfl
set_option maxRecDepth 100000 in
theorem tw_83 : (Jvm.Cond.classLink "BakeHouse" (23 : Nat) "BakeHouse$Dough") ∈ tg := tgT 83 rfl rfl
set_option maxRecDepth 100000 in
theorem tw_85 : (Jvm.Cond.fieldLink "BakeHouse" (10 : Nat) "BakeHouse" "book" "LBakeHouse$Book;") ∈ tg := tgT 85 rfl rfl
set_option maxRecDepth 100000 in
theorem tw_86 : (Jvm.Cond.fieldLink "BakeHouse" (18 : Nat) "BakeHouse" "oven" "[LBakeHouse$Shelf;") ∈ tg := tgT 86 rfl rfl
set_option maxRecDepth 100000 in
theorem tw_87 : (Jvm.Cond.fieldLink "BakeHouse" (25 : Nat) "BakeHouse" "loaves" "[LBakeHouse$Dough;") ∈ tg := tgT 87 rfl rfl
set_option maxRecDepth 100000 in
theorem tw_88 : (Jvm.Cond.fieldLink "BakeHouse" (29 : Nat) "BakeHouse" "loafCount" "I") ∈ tg := tgT 88 rfl rfl
set_option maxRecDepth 100000 in
theorem tw_89 : (Jvm.Cond.laysFinal "BakeHouse" "BakeHouse" "book" "LBakeHouse$Book;") ∈ tg := tgT 89 rfl rfl
set_option maxRecDepth 100000 in
theorem tw_90 : (Jvm.Cond.soleField "BakeHouse" "book") ∈ tg := tgT 90 rfl rfl
set_option maxRecDepth 100000 in
theorem tw_91 : (Jvm.Cond.laysFinal "BakeHouse" "BakeHouse" "oven" "[LBakeHouse$Shelf;") ∈ tg := tgT 91 rfl rfl
set_option maxRecDepth 100000 in
theorem tw_92 : (Jvm.Cond.soleField "BakeHouse" "oven") ∈ tg := tgT 92 rfl rfl
set_option maxRecDepth 100000 in
theorem tw_93 : (Jvm.Cond.laysFinal "BakeHouse" "BakeHouse" "loaves" "[LBakeHouse$Dough;") ∈ tg := tgT 93 rfl rfl
set_option maxRecDepth 100000 in
theorem tw_94 : (Jvm.Cond.soleField "BakeHouse" "loaves") ∈ tg := tgT 94 rfl rfl
set_option maxRecDepth 100000 in
theorem tw_95 : (Jvm.Cond.lays "BakeHouse" "BakeHouse" "loafCount" "I") ∈ tg := tgT 95 rfl rfl
set_option maxRecDepth 100000 in
theorem tw_96 : (Jvm.Cond.soleField "BakeHouse" "loafCount") ∈ tg := tgT 96 rfl rfl
set_option maxRecDepth 100000 in
theorem tw_97 : (Jvm.Cond.superclass "BakeHouse" "java/lang/Object") ∈ tg := tgT 97 rfl rfl
set_option maxRecDepth 100000 in
theorem tw_98 : (Jvm.Cond.methodLink "BakeHouseLaw" (44 : Nat) ({ cls := "BakeHouse", name := "loaf", desc := "(II)I" } : Jvm.MethodName)) ∈ tg := tgT 98 rfl rfl
set_option maxRecDepth 100000 in
theorem tw_99 : (Jvm.Cond.instanceMethod ({ cls := "BakeHouse", name := "loaf", desc := "(II)I" } : Jvm.MethodName)) ∈ tg := tgT 99 rfl rfl
set_option maxRecDepth 100000 in
theorem tw_100 : (Jvm.Cond.selects "BakeHouse" ({ cls := "BakeHouse", name := "loaf", desc := "(II)I" } : Jvm.MethodName) ({ cls := "BakeHouse", name := "loaf", desc := "(II)I" } : Jvm.MethodName)) ∈ tg := tgT 100 rfl rfl
set_option maxRecDepth 100000 in
theorem tw_101 : (Jvm.Cond.code ({ cls := "BakeHouse", name := "loaf", desc := "(II)I" } : Jvm.MethodName) prog_1_method_2_code (4 : Nat) (Option.some Jvm.ClassFile.FieldType.int)) ∈ tg := tgT 101 rfl rfl
set_option maxRecDepth 100000 in
theorem tw_102 : (Jvm.Cond.methodLink "BakeHouse" (33 : Nat) ({ cls := "BakeHouse", name := "within", desc := "(III)Z" } : Jvm.MethodName)) ∈ tg := tgT 102 rfl rfl
set_option maxRecDepth 100000 in
theorem tw_103 : (Jvm.Cond.static ({ cls := "BakeHouse", name := "within", desc := "(III)Z" } : Jvm.MethodName)) ∈ tg := tgT 103 rfl rfl
set_option maxRecDepth 100000 in
theorem tw_104 : (Jvm.Cond.code ({ cls := "BakeHouse", name := "within", desc := "(III)Z" } : Jvm.MethodName) prog_1_method_19_code (3 : Nat) (Option.some Jvm.ClassFile.FieldType.boolean)) ∈ tg := tgT 104 rfl rfl
set_option maxRecDepth 100000 in
theorem tw_105 : (Jvm.Cond.methodLink "BakeHouse" (37 : Nat) ({ cls := "BakeHouse", name := "knead", desc := "(III)LBakeHouse$Dough;" } : Jvm.MethodName)) ∈ tg := tgT 105 rfl rfl
set_option maxRecDepth 100000 in
theorem tw_107 : (Jvm.Cond.instanceMethod ({ cls := "BakeHouse", name := "knead", desc := "(III)LBakeHouse$Dough;" } : Jvm.MethodName)) ∈ tg := tgT 107 rfl rfl
set_option maxRecDepth 100000 in
theorem tw_108 : (Jvm.Cond.code ({ cls := "BakeHouse", name := "knead", desc := "(III)LBakeHouse$Dough;" } : Jvm.MethodName) prog_1_method_22_code (4 : Nat) (Option.some (Jvm.ClassFile.FieldType.object "BakeHouse$Dough"))) ∈ tg := tgT 108 rfl rfl
set_option maxRecDepth 100000 in
theorem tw_109 : (Jvm.Cond.classLink "BakeHouse" (145 : Nat) "BakeHouse$Leavened") ∈ tg := tgT 109 rfl rfl
set_option maxRecDepth 100000 in
theorem tw_110 : (Jvm.Cond.instantiable "BakeHouse$Leavened" (8 : Nat)) ∈ tg := tgT 110 rfl rfl
set_option maxRecDepth 100000 in
theorem tw_111 : (Jvm.Cond.methodLink "BakeHouse" (147 : Nat) ({ cls := "BakeHouse$Leavened", name := "<init>", desc := "(LBakeHouse$Book;III)V" } : Jvm.MethodName)) ∈ tg := tgT 111 rfl rfl
set_option maxRecDepth 100000 in
theorem tw_112 : (Jvm.Cond.instanceMethod ({ cls := "BakeHouse$Leavened", name := "<init>", desc := "(LBakeHouse$Book;III)V" } : Jvm.MethodName)) ∈ tg := tgT 112 rfl rfl
set_option maxRecDepth 100000 in
theorem tw_113 : (Jvm.Cond.code ({ cls := "BakeHouse$Leavened", name := "<init>", desc := "(LBakeHouse$Book;III)V" } : Jvm.MethodName) prog_6_method_1_code (5 : Nat) (Option.none : Option Jvm.ClassFile.FieldType)) ∈ tg := tgT 113 rfl rfl
set_option maxRecDepth 100000 in
theorem tw_114 : (Jvm.Cond.methodLink "BakeHouse$Leavened" (1 : Nat) ({ cls := "BakeHouse$Dough", name := "<init>", desc := "(LBakeHouse$Book;III)V" } : Jvm.MethodName)) ∈ tg := tgT 114 rfl rfl
set_option maxRecDepth 100000 in
theorem tw_115 : (Jvm.Cond.instanceMethod ({ cls := "BakeHouse$Dough", name := "<init>", desc := "(LBakeHouse$Book;III)V" } : Jvm.MethodName)) ∈ tg := tgT 115 rfl rfl
set_option maxRecDepth 100000 in
theorem tw_116 : (Jvm.Cond.code ({ cls := "BakeHouse$Dough", name := "<init>", desc := "(LBakeHouse$Book;III)V" } : Jvm.MethodName) prog_4_method_1_code (5 : Nat) (Option.none : Option Jvm.ClassFile.FieldType)) ∈ tg := tgT 116 rfl rfl
set_option maxRecDepth 100000 in
theorem tw_117 : (Jvm.Cond.methodLink "BakeHouse$Dough" (3 : Nat) ({ cls := "java/lang/Object", name := "<init>", desc := "()V" } : Jvm.MethodName)) ∈ tg := tgT 117 rfl rfl
set_option maxRecDepth 100000 in
theorem tw_118 : (Jvm.Cond.fieldLink "BakeHouse$Dough" (24 : Nat) "BakeHouse$Dough" "book" "LBakeHouse$Book;") ∈ tg := tgT 118 rfl rfl
set_option maxRecDepth 100000 in
theorem tw_119 : (Jvm.Cond.fieldLink "BakeHouse$Brioche" (9 : Nat) "BakeHouse$Brioche" "book" "LBakeHouse$Book;") ∈ tg := tgT 119 rfl rfl
set_option maxRecDepth 100000 in
theorem tw_120 : (Jvm.Cond.sameField "BakeHouse$Brioche" "BakeHouse$Dough" "book" "LBakeHouse$Book;") ∈ tg := tgT 120 rfl rfl
set_option maxRecDepth 100000 in
theorem tw_121 : (Jvm.Cond.fieldLink "BakeHouse$Levain" (9 : Nat) "BakeHouse$Levain" "book" "LBakeHouse$Book;") ∈ tg := tgT 121 rfl rfl
set_option maxRecDepth 100000 in
theorem tw_122 : (Jvm.Cond.sameField "BakeHouse$Levain" "BakeHouse$Dough" "book" "LBakeHouse$Book;") ∈ tg := tgT 122 rfl rfl
set_option maxRecDepth 100000 in
theorem tw_123 : (Jvm.Cond.fieldLink "BakeHouse$Sour" (9 : Nat) "BakeHouse$Sour" "book" "LBakeHouse$Book;") ∈ tg := tgT 123 rfl rfl
set_option maxRecDepth 100000 in
theorem tw_124 : (Jvm.Cond.sameField "BakeHouse$Sour" "BakeHouse$Dough" "book" "LBakeHouse$Book;") ∈ tg := tgT 124 rfl rfl
set_option maxRecDepth 100000 in
theorem tw_125 : (Jvm.Cond.fieldLink "BakeHouse$Rye" (9 : Nat) "BakeHouse$Rye" "book" "LBakeHouse$Book;") ∈ tg := tgT 125 rfl rfl
set_option maxRecDepth 100000 in
theorem tw_126 : (Jvm.Cond.sameField "BakeHouse$Rye" "BakeHouse$Dough" "book" "LBakeHouse$Book;") ∈ tg := tgT 126 rfl rfl
set_option maxRecDepth 100000 in
theorem tw_127 : (Jvm.Cond.fieldLink "BakeHouse$Sweet" (9 : Nat) "BakeHouse$Sweet" "book" "LBakeHouse$Book;") ∈ tg := tgT 127 rfl rfl
set_option maxRecDepth 100000 in
theorem tw_128 : (Jvm.Cond.sameField "BakeHouse$Sweet" "BakeHouse$Dough" "book" "LBakeHouse$Book;") ∈ tg := tgT 128 rfl rfl
set_option maxRecDepth 100000 in
theorem tw_129 : (Jvm.Cond.fieldLink "BakeHouse$Flat" (9 : Nat) "BakeHouse$Flat" "book" "LBakeHouse$Book;") ∈ tg := tgT 129 rfl rfl
set_option maxRecDepth 100000 in
theorem tw_130 : (Jvm.Cond.sameField "BakeHouse$Flat" "BakeHouse$Dough" "book" "LBakeHouse$Book;") ∈ tg := tgT 130 rfl rfl
set_option maxRecDepth 100000 in
theorem tw_131 : (Jvm.Cond.fieldLink "BakeHouse$Dough" (28 : Nat) "BakeHouse$Dough" "number" "I") ∈ tg := tgT 131 rfl rfl
set_option maxRecDepth 100000 in
theorem tw_132 : (Jvm.Cond.fieldLink "BakeHouse$Dough" (31 : Nat) "BakeHouse$Dough" "kind" "I") ∈ tg := tgT 132 rfl rfl
set_option maxRecDepth 100000 in
theorem tw_133 : (Jvm.Cond.fieldLink "BakeHouse" (115 : Nat) "BakeHouse$Dough" "kind" "I") ∈ tg := tgT 133 rfl rfl
set_option maxRecDepth 100000 in
theorem tw_134 : (Jvm.Cond.fieldLink "BakeHouse$Dough" (34 : Nat) "BakeHouse$Dough" "mass" "I") ∈ tg := tgT 134 rfl rfl
set_option maxRecDepth 100000 in
theorem tw_135 : (Jvm.Cond.fieldLink "BakeHouse" (118 : Nat) "BakeHouse$Dough" "mass" "I") ∈ tg := tgT 135 rfl rfl
set_option maxRecDepth 100000 in
theorem tw_136 : (Jvm.Cond.fieldLink "BakeHouse$Dough" (9 : Nat) "BakeHouse$Dough" "air" "I") ∈ tg := tgT 136 rfl rfl
set_option maxRecDepth 100000 in
theorem tw_137 : (Jvm.Cond.fieldLink "BakeHouse$Brioche" (25 : Nat) "BakeHouse$Brioche" "air" "I") ∈ tg := tgT 137 rfl rfl
set_option maxRecDepth 100000 in
theorem tw_138 : (Jvm.Cond.sameField "BakeHouse$Brioche" "BakeHouse$Dough" "air" "I") ∈ tg := tgT 138 rfl rfl
set_option maxRecDepth 100000 in
theorem tw_139 : (Jvm.Cond.fieldLink "BakeHouse" (121 : Nat) "BakeHouse$Dough" "air" "I") ∈ tg := tgT 139 rfl rfl
set_option maxRecDepth 100000 in
theorem tw_140 : (Jvm.Cond.fieldLink "BakeHouse$Dough" (15 : Nat) "BakeHouse$Dough" "folds" "I") ∈ tg := tgT 140 rfl rfl
set_option maxRecDepth 100000 in
theorem tw_141 : (Jvm.Cond.fieldLink "BakeHouse$Flat" (21 : Nat) "BakeHouse$Flat" "folds" "I") ∈ tg := tgT 141 rfl rfl
set_option maxRecDepth 100000 in
theorem tw_142 : (Jvm.Cond.sameField "BakeHouse$Flat" "BakeHouse$Dough" "folds" "I") ∈ tg := tgT 142 rfl rfl
set_option maxRecDepth 100000 in
theorem tw_143 : (Jvm.Cond.fieldLink "BakeHouse" (74 : Nat) "BakeHouse$Dough" "folds" "I") ∈ tg := tgT 143 rfl rfl
set_option maxRecDepth 100000 in
theorem tw_144 : (Jvm.Cond.fieldLink "BakeHouse$Dough" (18 : Nat) "BakeHouse$Dough" "acid" "I") ∈ tg := tgT 144 rfl rfl
set_option maxRecDepth 100000 in
theorem tw_145 : (Jvm.Cond.fieldLink "BakeHouse$Sour" (21 : Nat) "BakeHouse$Sour" "acid" "I") ∈ tg := tgT 145 rfl rfl
set_option maxRecDepth 100000 in
theorem tw_146 : (Jvm.Cond.sameField "BakeHouse$Sour" "BakeHouse$Dough" "acid" "I") ∈ tg := tgT 146 rfl rfl
set_option maxRecDepth 100000 in
theorem tw_147 : (Jvm.Cond.fieldLink "BakeHouse$Levain" (21 : Nat) "BakeHouse$Levain" "acid" "I") ∈ tg := tgT 147 rfl rfl
set_option maxRecDepth 100000 in
theorem tw_148 : (Jvm.Cond.sameField "BakeHouse$Levain" "BakeHouse$Dough" "acid" "I") ∈ tg := tgT 148 rfl rfl
set_option maxRecDepth 100000 in
theorem tw_149 : (Jvm.Cond.fieldLink "BakeHouse" (124 : Nat) "BakeHouse$Dough" "acid" "I") ∈ tg := tgT 149 rfl rfl
set_option maxRecDepth 100000 in
theorem tw_150 : (Jvm.Cond.fieldLink "BakeHouse$Dough" (21 : Nat) "BakeHouse$Dough" "crust" "I") ∈ tg := tgT 150 rfl rfl
set_option maxRecDepth 100000 in
theorem tw_151 : (Jvm.Cond.fieldLink "BakeHouse$Sweet" (29 : Nat) "BakeHouse$Sweet" "crust" "I") ∈ tg := tgT 151 rfl rfl
set_option maxRecDepth 100000 in
theorem tw_152 : (Jvm.Cond.sameField "BakeHouse$Sweet" "BakeHouse$Dough" "crust" "I") ∈ tg := tgT 152 rfl rfl
set_option maxRecDepth 100000 in
theorem tw_153 : (Jvm.Cond.fieldLink "BakeHouse$Flat" (33 : Nat) "BakeHouse$Flat" "crust" "I") ∈ tg := tgT 153 rfl rfl
set_option maxRecDepth 100000 in
theorem tw_154 : (Jvm.Cond.sameField "BakeHouse$Flat" "BakeHouse$Dough" "crust" "I") ∈ tg := tgT 154 rfl rfl
set_option maxRecDepth 100000 in
theorem tw_155 : (Jvm.Cond.fieldLink "BakeHouse" (127 : Nat) "BakeHouse$Dough" "crust" "I") ∈ tg := tgT 155 rfl rfl
set_option maxRecDepth 100000 in
theorem tw_156 : (Jvm.Cond.laysFinal "BakeHouse$Leavened" "BakeHouse$Dough" "book" "LBakeHouse$Book;") ∈ tg := tgT 156 rfl rfl
set_option maxRecDepth 100000 in
theorem tw_157 : (Jvm.Cond.soleField "BakeHouse$Dough" "book") ∈ tg := tgT 157 rfl rfl
set_option maxRecDepth 100000 in
theorem tw_158 : (Jvm.Cond.laysFinal "BakeHouse$Leavened" "BakeHouse$Dough" "number" "I") ∈ tg := tgT 158 rfl rfl
set_option maxRecDepth 100000 in
theorem tw_159 : (Jvm.Cond.soleField "BakeHouse$Dough" "number") ∈ tg := tgT 159 rfl rfl
set_option maxRecDepth 100000 in
theorem tw_160 : (Jvm.Cond.laysFinal "BakeHouse$Leavened" "BakeHouse$Dough" "kind" "I") ∈ tg := tgT 160 rfl rfl
set_option maxRecDepth 100000 in
theorem tw_161 : (Jvm.Cond.soleField "BakeHouse$Dough" "kind") ∈ tg := tgT 161 rfl rfl
set_option maxRecDepth 100000 in
theorem tw_162 : (Jvm.Cond.laysFinal "BakeHouse$Leavened" "BakeHouse$Dough" "mass" "I") ∈ tg := tgT 162 rfl rfl
set_option maxRecDepth 100000 in
theorem tw_163 : (Jvm.Cond.soleField "BakeHouse$Dough" "mass") ∈ tg := tgT 163 rfl rfl
set_option maxRecDepth 100000 in
theorem tw_164 : (Jvm.Cond.lays "BakeHouse$Leavened" "BakeHouse$Dough" "air" "I") ∈ tg := tgT 164 rfl rfl
set_option maxRecDepth 100000 in
theorem tw_165 : (Jvm.Cond.soleField "BakeHouse$Dough" "air") ∈ tg := tgT 165 rfl rfl
set_option maxRecDepth 100000 in
theorem tw_166 : (Jvm.Cond.lays "BakeHouse$Leavened" "BakeHouse$Dough" "folds" "I") ∈ tg := tgT 166 rfl rfl
set_option maxRecDepth 100000 in
theorem tw_167 : (Jvm.Cond.soleField "BakeHouse$Dough" "folds") ∈ tg := tgT 167 rfl rfl
set_option maxRecDepth 100000 in
theorem tw_168 : (Jvm.Cond.lays "BakeHouse$Leavened" "BakeHouse$Dough" "acid" "I") ∈ tg := tgT 168 rfl rfl
set_option maxRecDepth 100000 in
theorem tw_169 : (Jvm.Cond.soleField "BakeHouse$Dough" "acid") ∈ tg := tgT 169 rfl rfl
set_option maxRecDepth 100000 in
theorem tw_170 : (Jvm.Cond.lays "BakeHouse$Leavened" "BakeHouse$Dough" "crust" "I") ∈ tg := tgT 170 rfl rfl
set_option maxRecDepth 100000 in
theorem tw_171 : (Jvm.Cond.soleField "BakeHouse$Dough" "crust") ∈ tg := tgT 171 rfl rfl
set_option maxRecDepth 100000 in
theorem tw_172 : (Jvm.Cond.superclass "BakeHouse$Leavened" "BakeHouse$Dough") ∈ tg := tgT 172 rfl rfl
set_option maxRecDepth 100000 in
theorem tw_173 : (Jvm.Cond.classLink "BakeHouse" (150 : Nat) "BakeHouse$Rye") ∈ tg := tgT 173 rfl rfl
set_option maxRecDepth 100000 in
theorem tw_174 : (Jvm.Cond.instantiable "BakeHouse$Rye" (8 : Nat)) ∈ tg := tgT 174 rfl rfl
set_option maxRecDepth 100000 in
theorem tw_175 : (Jvm.Cond.methodLink "BakeHouse" (152 : Nat) ({ cls := "BakeHouse$Rye", name := "<init>", desc := "(LBakeHouse$Book;III)V" } : Jvm.MethodName)) ∈ tg := tgT 175 rfl rfl
set_option maxRecDepth 100000 in
theorem tw_176 : (Jvm.Cond.instanceMethod ({ cls := "BakeHouse$Rye", name := "<init>", desc := "(LBakeHouse$Book;III)V" } : Jvm.MethodName)) ∈ tg := tgT 176 rfl rfl
set_option maxRecDepth 100000 in
theorem tw_177 : (Jvm.Cond.code ({ cls := "BakeHouse$Rye", name := "<init>", desc := "(LBakeHouse$Book;III)V" } : Jvm.MethodName) prog_8_method_1_code (5 : Nat) (Option.none : Option Jvm.ClassFile.FieldType)) ∈ tg := tgT 177 rfl rfl
set_option maxRecDepth 100000 in
theorem tw_178 : (Jvm.Cond.methodLink "BakeHouse$Rye" (3 : Nat) ({ cls := "BakeHouse$Leavened", name := "<init>", desc := "(LBakeHouse$Book;III)V" } : Jvm.MethodName)) ∈ tg := tgT 178 rfl rfl
set_option maxRecDepth 100000 in
theorem tw_179 : (Jvm.Cond.laysFinal "BakeHouse$Rye" "BakeHouse$Dough" "book" "LBakeHouse$Book;") ∈ tg := tgT 179 rfl rfl
set_option maxRecDepth 100000 in
theorem tw_180 : (Jvm.Cond.laysFinal "BakeHouse$Rye" "BakeHouse$Dough" "number" "I") ∈ tg := tgT 180 rfl rfl
set_option maxRecDepth 100000 in
theorem tw_181 : (Jvm.Cond.laysFinal "BakeHouse$Rye" "BakeHouse$Dough" "kind" "I") ∈ tg := tgT 181 rfl rfl
set_option maxRecDepth 100000 in
theorem tw_182 : (Jvm.Cond.laysFinal "BakeHouse$Rye" "BakeHouse$Dough" "mass" "I") ∈ tg := tgT 182 rfl rfl
set_option maxRecDepth 100000 in
theorem tw_183 : (Jvm.Cond.lays "BakeHouse$Rye" "BakeHouse$Dough" "air" "I") ∈ tg := tgT 183 rfl rfl
set_option maxRecDepth 100000 in
theorem tw_184 : (Jvm.Cond.lays "BakeHouse$Rye" "BakeHouse$Dough" "folds" "I") ∈ tg := tgT 184 rfl rfl
set_option maxRecDepth 100000 in
theorem tw_185 : (Jvm.Cond.lays "BakeHouse$Rye" "BakeHouse$Dough" "acid" "I") ∈ tg := tgT 185 rfl rfl
set_option maxRecDepth 100000 in
theorem tw_186 : (Jvm.Cond.lays "BakeHouse$Rye" "BakeHouse$Dough" "crust" "I") ∈ tg := tgT 186 rfl rfl
set_option maxRecDepth 100000 in
theorem tw_187 : (Jvm.Cond.superclass "BakeHouse$Rye" "BakeHouse$Leavened") ∈ tg := tgT 187 rfl rfl
set_option maxRecDepth 100000 in
theorem tw_188 : (Jvm.Cond.classLink "BakeHouse" (153 : Nat) "BakeHouse$Sweet") ∈ tg := tgT 188 rfl rfl
set_option maxRecDepth 100000 in
theorem tw_189 : (Jvm.Cond.instantiable "BakeHouse$Sweet" (8 : Nat)) ∈ tg := tgT 189 rfl rfl
set_option maxRecDepth 100000 in
theorem tw_190 : (Jvm.Cond.methodLink "BakeHouse" (155 : Nat) ({ cls := "BakeHouse$Sweet", name := "<init>", desc := "(LBakeHouse$Book;III)V" } : Jvm.MethodName)) ∈ tg := tgT 190 rfl rfl
set_option maxRecDepth 100000 in
theorem tw_191 : (Jvm.Cond.instanceMethod ({ cls := "BakeHouse$Sweet", name := "<init>", desc := "(LBakeHouse$Book;III)V" } : Jvm.MethodName)) ∈ tg := tgT 191 rfl rfl
set_option maxRecDepth 100000 in
theorem tw_192 : (Jvm.Cond.code ({ cls := "BakeHouse$Sweet", name := "<init>", desc := "(LBakeHouse$Book;III)V" } : Jvm.MethodName) prog_11_method_1_code (5 : Nat) (Option.none : Option Jvm.ClassFile.FieldType)) ∈ tg := tgT 192 rfl rfl
set_option maxRecDepth 100000 in
theorem tw_193 : (Jvm.Cond.methodLink "BakeHouse$Sweet" (3 : Nat) ({ cls := "BakeHouse$Leavened", name := "<init>", desc := "(LBakeHouse$Book;III)V" } : Jvm.MethodName)) ∈ tg := tgT 193 rfl rfl
set_option maxRecDepth 100000 in
theorem tw_194 : (Jvm.Cond.laysFinal "BakeHouse$Sweet" "BakeHouse$Dough" "book" "LBakeHouse$Book;") ∈ tg := tgT 194 rfl rfl
set_option maxRecDepth 100000 in
theorem tw_195 : (Jvm.Cond.laysFinal "BakeHouse$Sweet" "BakeHouse$Dough" "number" "I") ∈ tg := tgT 195 rfl rfl
set_option maxRecDepth 100000 in
theorem tw_196 : (Jvm.Cond.laysFinal "BakeHouse$Sweet" "BakeHouse$Dough" "kind" "I") ∈ tg := tgT 196 rfl rfl
set_option maxRecDepth 100000 in
theorem tw_197 : (Jvm.Cond.laysFinal "BakeHouse$Sweet" "BakeHouse$Dough" "mass" "I") ∈ tg := tgT 197 rfl rfl
set_option maxRecDepth 100000 in
theorem tw_198 : (Jvm.Cond.lays "BakeHouse$Sweet" "BakeHouse$Dough" "air" "I") ∈ tg := tgT 198 rfl rfl
set_option maxRecDepth 100000 in
theorem tw_199 : (Jvm.Cond.lays "BakeHouse$Sweet" "BakeHouse$Dough" "folds" "I") ∈ tg := tgT 199 rfl rfl
set_option maxRecDepth 100000 in
theorem tw_200 : (Jvm.Cond.lays "BakeHouse$Sweet" "BakeHouse$Dough" "acid" "I") ∈ tg := tgT 200 rfl rfl
set_option maxRecDepth 100000 in
theorem tw_201 : (Jvm.Cond.lays "BakeHouse$Sweet" "BakeHouse$Dough" "crust" "I") ∈ tg := tgT 201 rfl rfl
set_option maxRecDepth 100000 in
theorem tw_202 : (Jvm.Cond.superclass "BakeHouse$Sweet" "BakeHouse$Leavened") ∈ tg := tgT 202 rfl rfl
set_option maxRecDepth 100000 in
theorem tw_203 : (Jvm.Cond.classLink "BakeHouse" (156 : Nat) "BakeHouse$Sour") ∈ tg := tgT 203 rfl rfl
set_option maxRecDepth 100000 in
theorem tw_204 : (Jvm.Cond.instantiable "BakeHouse$Sour" (8 : Nat)) ∈ tg := tgT 204 rfl rfl
set_option maxRecDepth 100000 in
theorem tw_205 : (Jvm.Cond.methodLink "BakeHouse" (158 : Nat) ({ cls := "BakeHouse$Sour", name := "<init>", desc := "(LBakeHouse$Book;III)V" } : Jvm.MethodName)) ∈ tg := tgT 205 rfl rfl
set_option maxRecDepth 100000 in
theorem tw_206 : (Jvm.Cond.instanceMethod ({ cls := "BakeHouse$Sour", name := "<init>", desc := "(LBakeHouse$Book;III)V" } : Jvm.MethodName)) ∈ tg := tgT 206 rfl rfl
set_option maxRecDepth 100000 in
theorem tw_207 : (Jvm.Cond.code ({ cls := "BakeHouse$Sour", name := "<init>", desc := "(LBakeHouse$Book;III)V" } : Jvm.MethodName) prog_10_method_1_code (5 : Nat) (Option.none : Option Jvm.ClassFile.FieldType)) ∈ tg := tgT 207 rfl rfl
set_option maxRecDepth 100000 in
theorem tw_208 : (Jvm.Cond.methodLink "BakeHouse$Sour" (3 : Nat) ({ cls := "BakeHouse$Rye", name := "<init>", desc := "(LBakeHouse$Book;III)V" } : Jvm.MethodName)) ∈ tg := tgT 208 rfl rfl
set_option maxRecDepth 100000 in
theorem tw_209 : (Jvm.Cond.laysFinal "BakeHouse$Sour" "BakeHouse$Dough" "book" "LBakeHouse$Book;") ∈ tg := tgT 209 rfl rfl
set_option maxRecDepth 100000 in
theorem tw_210 : (Jvm.Cond.laysFinal "BakeHouse$Sour" "BakeHouse$Dough" "number" "I") ∈ tg := tgT 210 rfl rfl
set_option maxRecDepth 100000 in
theorem tw_211 : (Jvm.Cond.laysFinal "BakeHouse$Sour" "BakeHouse$Dough" "kind" "I") ∈ tg := tgT 211 rfl rfl
set_option maxRecDepth 100000 in
theorem tw_212 : (Jvm.Cond.laysFinal "BakeHouse$Sour" "BakeHouse$Dough" "mass" "I") ∈ tg := tgT 212 rfl rfl
set_option maxRecDepth 100000 in
theorem tw_213 : (Jvm.Cond.lays "BakeHouse$Sour" "BakeHouse$Dough" "air" "I") ∈ tg := tgT 213 rfl rfl
set_option maxRecDepth 100000 in
theorem tw_214 : (Jvm.Cond.lays "BakeHouse$Sour" "BakeHouse$Dough" "folds" "I") ∈ tg := tgT 214 rfl rfl
set_option maxRecDepth 100000 in
theorem tw_215 : (Jvm.Cond.lays "BakeHouse$Sour" "BakeHouse$Dough" "acid" "I") ∈ tg := tgT 215 rfl rfl
set_option maxRecDepth 100000 in
theorem tw_216 : (Jvm.Cond.lays "BakeHouse$Sour" "BakeHouse$Dough" "crust" "I") ∈ tg := tgT 216 rfl rfl
set_option maxRecDepth 100000 in
theorem tw_217 : (Jvm.Cond.superclass "BakeHouse$Sour" "BakeHouse$Rye") ∈ tg := tgT 217 rfl rfl
set_option maxRecDepth 100000 in
theorem tw_218 : (Jvm.Cond.classLink "BakeHouse" (159 : Nat) "BakeHouse$Brioche") ∈ tg := tgT 218 rfl rfl
set_option maxRecDepth 100000 in
theorem tw_219 : (Jvm.Cond.instantiable "BakeHouse$Brioche" (8 : Nat)) ∈ tg := tgT 219 rfl rfl
set_option maxRecDepth 100000 in
theorem tw_220 : (Jvm.Cond.methodLink "BakeHouse" (161 : Nat) ({ cls := "BakeHouse$Brioche", name := "<init>", desc := "(LBakeHouse$Book;III)V" } : Jvm.MethodName)) ∈ tg := tgT 220 rfl rfl
set_option maxRecDepth 100000 in
theorem tw_221 : (Jvm.Cond.instanceMethod ({ cls := "BakeHouse$Brioche", name := "<init>", desc := "(LBakeHouse$Book;III)V" } : Jvm.MethodName)) ∈ tg := tgT 221 rfl rfl
set_option maxRecDepth 100000 in
theorem tw_222 : (Jvm.Cond.code ({ cls := "BakeHouse$Brioche", name := "<init>", desc := "(LBakeHouse$Book;III)V" } : Jvm.MethodName) prog_3_method_1_code (5 : Nat) (Option.none : Option Jvm.ClassFile.FieldType)) ∈ tg := tgT 222 rfl rfl
set_option maxRecDepth 100000 in
theorem tw_223 : (Jvm.Cond.methodLink "BakeHouse$Brioche" (3 : Nat) ({ cls := "BakeHouse$Sweet", name := "<init>", desc := "(LBakeHouse$Book;III)V" } : Jvm.MethodName)) ∈ tg := tgT 223 rfl rfl
set_option maxRecDepth 100000 in
theorem tw_224 : (Jvm.Cond.laysFinal "BakeHouse$Brioche" "BakeHouse$Dough" "book" "LBakeHouse$Book;") ∈ tg := tgT 224 rfl rfl
set_option maxRecDepth 100000 in
theorem tw_225 : (Jvm.Cond.laysFinal "BakeHouse$Brioche" "BakeHouse$Dough" "number" "I") ∈ tg := tgT 225 rfl rfl
set_option maxRecDepth 100000 in
theorem tw_226 : (Jvm.Cond.laysFinal "BakeHouse$Brioche" "BakeHouse$Dough" "kind" "I") ∈ tg := tgT 226 rfl rfl
set_option maxRecDepth 100000 in
theorem tw_227 : (Jvm.Cond.laysFinal "BakeHouse$Brioche" "BakeHouse$Dough" "mass" "I") ∈ tg := tgT 227 rfl rfl
set_option maxRecDepth 100000 in
theorem tw_228 : (Jvm.Cond.lays "BakeHouse$Brioche" "BakeHouse$Dough" "air" "I") ∈ tg := tgT 228 rfl rfl
set_option maxRecDepth 100000 in
theorem tw_229 : (Jvm.Cond.lays "BakeHouse$Brioche" "BakeHouse$Dough" "folds" "I") ∈ tg := tgT 229 rfl rfl
set_option maxRecDepth 100000 in
theorem tw_230 : (Jvm.Cond.lays "BakeHouse$Brioche" "BakeHouse$Dough" "acid" "I") ∈ tg := tgT 230 rfl rfl
set_option maxRecDepth 100000 in
theorem tw_231 : (Jvm.Cond.lays "BakeHouse$Brioche" "BakeHouse$Dough" "crust" "I") ∈ tg := tgT 231 rfl rfl
set_option maxRecDepth 100000 in
theorem tw_232 : (Jvm.Cond.superclass "BakeHouse$Brioche" "BakeHouse$Sweet") ∈ tg := tgT 232 rfl rfl
set_option maxRecDepth 100000 in
theorem tw_233 : (Jvm.Cond.classLink "BakeHouse" (162 : Nat) "BakeHouse$Flat") ∈ tg := tgT 233 rfl rfl
set_option maxRecDepth 100000 in
theorem tw_234 : (Jvm.Cond.instantiable "BakeHouse$Flat" (8 : Nat)) ∈ tg := tgT 234 rfl rfl
set_option maxRecDepth 100000 in
theorem tw_235 : (Jvm.Cond.methodLink "BakeHouse" (164 : Nat) ({ cls := "BakeHouse$Flat", name := "<init>", desc := "(LBakeHouse$Book;III)V" } : Jvm.MethodName)) ∈ tg := tgT 235 rfl rfl
set_option maxRecDepth 100000 in
theorem tw_236 : (Jvm.Cond.instanceMethod ({ cls := "BakeHouse$Flat", name := "<init>", desc := "(LBakeHouse$Book;III)V" } : Jvm.MethodName)) ∈ tg := tgT 236 rfl rfl
set_option maxRecDepth 100000 in
theorem tw_237 : (Jvm.Cond.code ({ cls := "BakeHouse$Flat", name := "<init>", desc := "(LBakeHouse$Book;III)V" } : Jvm.MethodName) prog_5_method_1_code (5 : Nat) (Option.none : Option Jvm.ClassFile.FieldType)) ∈ tg := tgT 237 rfl rfl
set_option maxRecDepth 100000 in
theorem tw_238 : (Jvm.Cond.methodLink "BakeHouse$Flat" (3 : Nat) ({ cls := "BakeHouse$Dough", name := "<init>", desc := "(LBakeHouse$Book;III)V" } : Jvm.MethodName)) ∈ tg := tgT 238 rfl rfl
set_option maxRecDepth 100000 in
theorem tw_239 : (Jvm.Cond.laysFinal "BakeHouse$Flat" "BakeHouse$Dough" "book" "LBakeHouse$Book;") ∈ tg := tgT 239 rfl rfl
set_option maxRecDepth 100000 in
theorem tw_240 : (Jvm.Cond.laysFinal "BakeHouse$Flat" "BakeHouse$Dough" "number" "I") ∈ tg := tgT 240 rfl rfl
set_option maxRecDepth 100000 in
theorem tw_241 : (Jvm.Cond.laysFinal "BakeHouse$Flat" "BakeHouse$Dough" "kind" "I") ∈ tg := tgT 241 rfl rfl
set_option maxRecDepth 100000 in
theorem tw_242 : (Jvm.Cond.laysFinal "BakeHouse$Flat" "BakeHouse$Dough" "mass" "I") ∈ tg := tgT 242 rfl rfl
set_option maxRecDepth 100000 in
theorem tw_243 : (Jvm.Cond.lays "BakeHouse$Flat" "BakeHouse$Dough" "air" "I") ∈ tg := tgT 243 rfl rfl
set_option maxRecDepth 100000 in
theorem tw_244 : (Jvm.Cond.lays "BakeHouse$Flat" "BakeHouse$Dough" "folds" "I") ∈ tg := tgT 244 rfl rfl
set_option maxRecDepth 100000 in
theorem tw_245 : (Jvm.Cond.lays "BakeHouse$Flat" "BakeHouse$Dough" "acid" "I") ∈ tg := tgT 245 rfl rfl
set_option maxRecDepth 100000 in
theorem tw_246 : (Jvm.Cond.lays "BakeHouse$Flat" "BakeHouse$Dough" "crust" "I") ∈ tg := tgT 246 rfl rfl
set_option maxRecDepth 100000 in
theorem tw_247 : (Jvm.Cond.superclass "BakeHouse$Flat" "BakeHouse$Dough") ∈ tg := tgT 247 rfl rfl
set_option maxRecDepth 100000 in
theorem tw_248 : (Jvm.Cond.classLink "BakeHouse" (165 : Nat) "BakeHouse$Levain") ∈ tg := tgT 248 rfl rfl
set_option maxRecDepth 100000 in
theorem tw_249 : (Jvm.Cond.instantiable "BakeHouse$Levain" (8 : Nat)) ∈ tg := tgT 249 rfl rfl
set_option maxRecDepth 100000 in
theorem tw_250 : (Jvm.Cond.methodLink "BakeHouse" (167 : Nat) ({ cls := "BakeHouse$Levain", name := "<init>", desc := "(LBakeHouse$Book;III)V" } : Jvm.MethodName)) ∈ tg := tgT 250 rfl rfl
set_option maxRecDepth 100000 in
theorem tw_251 : (Jvm.Cond.instanceMethod ({ cls := "BakeHouse$Levain", name := "<init>", desc := "(LBakeHouse$Book;III)V" } : Jvm.MethodName)) ∈ tg := tgT 251 rfl rfl
set_option maxRecDepth 100000 in
theorem tw_252 : (Jvm.Cond.code ({ cls := "BakeHouse$Levain", name := "<init>", desc := "(LBakeHouse$Book;III)V" } : Jvm.MethodName) prog_7_method_1_code (5 : Nat) (Option.none : Option Jvm.ClassFile.FieldType)) ∈ tg := tgT 252 rfl rfl
set_option maxRecDepth 100000 in
theorem tw_253 : (Jvm.Cond.methodLink "BakeHouse$Levain" (3 : Nat) ({ cls := "BakeHouse$Sour", name := "<init>", desc := "(LBakeHouse$Book;III)V" } : Jvm.MethodName)) ∈ tg := tgT 253 rfl rfl
set_option maxRecDepth 100000 in
theorem tw_254 : (Jvm.Cond.laysFinal "BakeHouse$Levain" "BakeHouse$Dough" "book" "LBakeHouse$Book;") ∈ tg := tgT 254 rfl rfl
set_option maxRecDepth 100000 in
theorem tw_255 : (Jvm.Cond.laysFinal "BakeHouse$Levain" "BakeHouse$Dough" "number" "I") ∈ tg := tgT 255 rfl rfl
set_option maxRecDepth 100000 in
theorem tw_256 : (Jvm.Cond.laysFinal "BakeHouse$Levain" "BakeHouse$Dough" "kind" "I") ∈ tg := tgT 256 rfl rfl
set_option maxRecDepth 100000 in
theorem tw_257 : (Jvm.Cond.laysFinal "BakeHouse$Levain" "BakeHouse$Dough" "mass" "I") ∈ tg := tgT 257 rfl rfl
set_option maxRecDepth 100000 in
theorem tw_258 : (Jvm.Cond.lays "BakeHouse$Levain" "BakeHouse$Dough" "air" "I") ∈ tg := tgT 258 rfl rfl
set_option maxRecDepth 100000 in
theorem tw_259 : (Jvm.Cond.lays "BakeHouse$Levain" "BakeHouse$Dough" "folds" "I") ∈ tg := tgT 259 rfl rfl
set_option maxRecDepth 100000 in
theorem tw_260 : (Jvm.Cond.lays "BakeHouse$Levain" "BakeHouse$Dough" "acid" "I") ∈ tg := tgT 260 rfl rfl
set_option maxRecDepth 100000 in
theorem tw_261 : (Jvm.Cond.lays "BakeHouse$Levain" "BakeHouse$Dough" "crust" "I") ∈ tg := tgT 261 rfl rfl
set_option maxRecDepth 100000 in
theorem tw_262 : (Jvm.Cond.superclass "BakeHouse$Levain" "BakeHouse$Sour") ∈ tg := tgT 262 rfl rfl
set_option maxRecDepth 100000 in
theorem tw_263 : (Jvm.Cond.instantiable "BakeHouse$Dough" (8 : Nat)) ∈ tg := tgT 263 rfl rfl
set_option maxRecDepth 100000 in
theorem tw_264 : (Jvm.Cond.methodLink "BakeHouse" (168 : Nat) ({ cls := "BakeHouse$Dough", name := "<init>", desc := "(LBakeHouse$Book;III)V" } : Jvm.MethodName)) ∈ tg := tgT 264 rfl rfl
set_option maxRecDepth 100000 in
theorem tw_265 : (Jvm.Cond.laysFinal "BakeHouse$Dough" "BakeHouse$Dough" "book" "LBakeHouse$Book;") ∈ tg := tgT 265 rfl rfl
set_option maxRecDepth 100000 in
theorem tw_266 : (Jvm.Cond.laysFinal "BakeHouse$Dough" "BakeHouse$Dough" "number" "I") ∈ tg := tgT 266 rfl rfl
set_option maxRecDepth 100000 in
theorem tw_267 : (Jvm.Cond.laysFinal "BakeHouse$Dough" "BakeHouse$Dough" "kind" "I") ∈ tg := tgT 267 rfl rfl
set_option maxRecDepth 100000 in
theorem tw_268 : (Jvm.Cond.laysFinal "BakeHouse$Dough" "BakeHouse$Dough" "mass" "I") ∈ tg := tgT 268 rfl rfl
set_option maxRecDepth 100000 in
theorem tw_269 : (Jvm.Cond.lays "BakeHouse$Dough" "BakeHouse$Dough" "air" "I") ∈ tg := tgT 269 rfl rfl
set_option maxRecDepth 100000 in
theorem tw_270 : (Jvm.Cond.lays "BakeHouse$Dough" "BakeHouse$Dough" "folds" "I") ∈ tg := tgT 270 rfl rfl
set_option maxRecDepth 100000 in
theorem tw_271 : (Jvm.Cond.lays "BakeHouse$Dough" "BakeHouse$Dough" "acid" "I") ∈ tg := tgT 271 rfl rfl
set_option maxRecDepth 100000 in
theorem tw_272 : (Jvm.Cond.lays "BakeHouse$Dough" "BakeHouse$Dough" "crust" "I") ∈ tg := tgT 272 rfl rfl
set_option maxRecDepth 100000 in
theorem tw_273 : (Jvm.Cond.superclass "BakeHouse$Dough" "java/lang/Object") ∈ tg := tgT 273 rfl rfl
set_option maxRecDepth 100000 in
theorem tw_274 : (Jvm.Cond.methodLink "BakeHouseLaw" (58 : Nat) ({ cls := "BakeHouse", name := "out", desc := "(I)I" } : Jvm.MethodName)) ∈ tg := tgT 274 rfl rfl
set_option maxRecDepth 100000 in
theorem tw_275 : (Jvm.Cond.instanceMethod ({ cls := "BakeHouse", name := "out", desc := "(I)I" } : Jvm.MethodName)) ∈ tg := tgT 275 rfl rfl
set_option maxRecDepth 100000 in
theorem tw_276 : (Jvm.Cond.selects "BakeHouse" ({ cls := "BakeHouse", name := "out", desc := "(I)I" } : Jvm.MethodName) ({ cls := "BakeHouse", name := "out", desc := "(I)I" } : Jvm.MethodName)) ∈ tg := tgT 276 rfl rfl
set_option maxRecDepth 100000 in
theorem tw_277 : (Jvm.Cond.code ({ cls := "BakeHouse", name := "out", desc := "(I)I" } : Jvm.MethodName) prog_1_method_4_code (3 : Nat) (Option.some Jvm.ClassFile.FieldType.int)) ∈ tg := tgT 277 rfl rfl
set_option maxRecDepth 100000 in
theorem tw_278 : (Jvm.Cond.methodLink "BakeHouse" (41 : Nat) ({ cls := "BakeHouse", name := "findShelf", desc := "(I)LBakeHouse$Shelf;" } : Jvm.MethodName)) ∈ tg := tgT 278 rfl rfl
set_option maxRecDepth 100000 in
theorem tw_280 : (Jvm.Cond.instanceMethod ({ cls := "BakeHouse", name := "findShelf", desc := "(I)LBakeHouse$Shelf;" } : Jvm.MethodName)) ∈ tg := tgT 280 rfl rfl
set_option maxRecDepth 100000 in
theorem tw_281 : (Jvm.Cond.code ({ cls := "BakeHouse", name := "findShelf", desc := "(I)LBakeHouse$Shelf;" } : Jvm.MethodName) prog_1_method_21_code (2 : Nat) (Option.some (Jvm.ClassFile.FieldType.object "BakeHouse$Shelf"))) ∈ tg := tgT 281 rfl rfl
set_option maxRecDepth 100000 in
theorem tw_282 : (Jvm.Cond.methodLink "BakeHouse" (56 : Nat) ({ cls := "BakeHouse$Shelf", name := "isOut", desc := "()Z" } : Jvm.MethodName)) ∈ tg := tgT 282 rfl rfl
set_option maxRecDepth 100000 in
theorem tw_283 : (Jvm.Cond.instanceMethod ({ cls := "BakeHouse$Shelf", name := "isOut", desc := "()Z" } : Jvm.MethodName)) ∈ tg := tgT 283 rfl rfl
set_option maxRecDepth 100000 in
theorem tw_284 : (Jvm.Cond.selects "BakeHouse$Shelf" ({ cls := "BakeHouse$Shelf", name := "isOut", desc := "()Z" } : Jvm.MethodName) ({ cls := "BakeHouse$Shelf", name := "isOut", desc := "()Z" } : Jvm.MethodName)) ∈ tg := tgT 284 rfl rfl
set_option maxRecDepth 100000 in
theorem tw_285 : (Jvm.Cond.code ({ cls := "BakeHouse$Shelf", name := "isOut", desc := "()Z" } : Jvm.MethodName) prog_9_method_2_code (1 : Nat) (Option.some Jvm.ClassFile.FieldType.boolean)) ∈ tg := tgT 285 rfl rfl
set_option maxRecDepth 100000 in
theorem tw_286 : (Jvm.Cond.methodLink "BakeHouse" (60 : Nat) ({ cls := "BakeHouse$Shelf", name := "takeOut", desc := "()V" } : Jvm.MethodName)) ∈ tg := tgT 286 rfl rfl
set_option maxRecDepth 100000 in
theorem tw_287 : (Jvm.Cond.instanceMethod ({ cls := "BakeHouse$Shelf", name := "takeOut", desc := "()V" } : Jvm.MethodName)) ∈ tg := tgT 287 rfl rfl
set_option maxRecDepth 100000 in
theorem tw_288 : (Jvm.Cond.selects "BakeHouse$Shelf" ({ cls := "BakeHouse$Shelf", name := "takeOut", desc := "()V" } : Jvm.MethodName) ({ cls := "BakeHouse$Shelf", name := "takeOut", desc := "()V" } : Jvm.MethodName)) ∈ tg := tgT 288 rfl rfl
set_option maxRecDepth 100000 in
theorem tw_289 : (Jvm.Cond.code ({ cls := "BakeHouse$Shelf", name := "takeOut", desc := "()V" } : Jvm.MethodName) prog_9_method_4_code (1 : Nat) (Option.none : Option Jvm.ClassFile.FieldType)) ∈ tg := tgT 289 rfl rfl
set_option maxRecDepth 100000 in
theorem tw_290 : (Jvm.Cond.methodLink "BakeHouseLaw" (65 : Nat) ({ cls := "BakeHouse", name := "fold", desc := "(I)I" } : Jvm.MethodName)) ∈ tg := tgT 290 rfl rfl
set_option maxRecDepth 100000 in
theorem tw_291 : (Jvm.Cond.instanceMethod ({ cls := "BakeHouse", name := "fold", desc := "(I)I" } : Jvm.MethodName)) ∈ tg := tgT 291 rfl rfl
set_option maxRecDepth 100000 in
theorem tw_292 : (Jvm.Cond.selects "BakeHouse" ({ cls := "BakeHouse", name := "fold", desc := "(I)I" } : Jvm.MethodName) ({ cls := "BakeHouse", name := "fold", desc := "(I)I" } : Jvm.MethodName)) ∈ tg := tgT 292 rfl rfl
set_option maxRecDepth 100000 in
theorem tw_293 : (Jvm.Cond.code ({ cls := "BakeHouse", name := "fold", desc := "(I)I" } : Jvm.MethodName) prog_1_method_6_code (3 : Nat) (Option.some Jvm.ClassFile.FieldType.int)) ∈ tg := tgT 293 rfl rfl
set_option maxRecDepth 100000 in
theorem tw_294 : (Jvm.Cond.methodLink "BakeHouse" (63 : Nat) ({ cls := "BakeHouse", name := "findLoaf", desc := "(I)LBakeHouse$Dough;" } : Jvm.MethodName)) ∈ tg := tgT 294 rfl rfl
set_option maxRecDepth 100000 in
theorem tw_296 : (Jvm.Cond.instanceMethod ({ cls := "BakeHouse", name := "findLoaf", desc := "(I)LBakeHouse$Dough;" } : Jvm.MethodName)) ∈ tg := tgT 296 rfl rfl
set_option maxRecDepth 100000 in
theorem tw_297 : (Jvm.Cond.code ({ cls := "BakeHouse", name := "findLoaf", desc := "(I)LBakeHouse$Dough;" } : Jvm.MethodName) prog_1_method_20_code (2 : Nat) (Option.some (Jvm.ClassFile.FieldType.object "BakeHouse$Dough"))) ∈ tg := tgT 297 rfl rfl
set_option maxRecDepth 100000 in
theorem tw_298 : (Jvm.Cond.methodLink "BakeHouse" (71 : Nat) ({ cls := "BakeHouse$Dough", name := "doFold", desc := "()V" } : Jvm.MethodName)) ∈ tg := tgT 298 rfl rfl
set_option maxRecDepth 100000 in
theorem tw_299 : (Jvm.Cond.instanceMethod ({ cls := "BakeHouse$Dough", name := "doFold", desc := "()V" } : Jvm.MethodName)) ∈ tg := tgT 299 rfl rfl
set_option maxRecDepth 100000 in
theorem tw_300 : (Jvm.Cond.selects "BakeHouse$Dough" ({ cls := "BakeHouse$Dough", name := "doFold", desc := "()V" } : Jvm.MethodName) ({ cls := "BakeHouse$Dough", name := "doFold", desc := "()V" } : Jvm.MethodName)) ∈ tg := tgT 300 rfl rfl
set_option maxRecDepth 100000 in
theorem tw_301 : (Jvm.Cond.sameMethod "BakeHouse$Dough" "BakeHouse$Dough" "doFold" "()V") ∈ tg := tgT 301 rfl rfl
set_option maxRecDepth 100000 in
theorem tw_302 : (Jvm.Cond.selects "BakeHouse$Brioche" ({ cls := "BakeHouse$Dough", name := "doFold", desc := "()V" } : Jvm.MethodName) ({ cls := "BakeHouse$Sweet", name := "doFold", desc := "()V" } : Jvm.MethodName)) ∈ tg := tgT 302 rfl rfl
set_option maxRecDepth 100000 in
theorem tw_303 : (Jvm.Cond.instanceMethod ({ cls := "BakeHouse$Sweet", name := "doFold", desc := "()V" } : Jvm.MethodName)) ∈ tg := tgT 303 rfl rfl
set_option maxRecDepth 100000 in
theorem tw_304 : (Jvm.Cond.code ({ cls := "BakeHouse$Sweet", name := "doFold", desc := "()V" } : Jvm.MethodName) prog_11_method_2_code (1 : Nat) (Option.none : Option Jvm.ClassFile.FieldType)) ∈ tg := tgT 304 rfl rfl
set_option maxRecDepth 100000 in
theorem tw_305 : (Jvm.Cond.methodLink "BakeHouse$Sweet" (15 : Nat) ({ cls := "BakeHouse$Book", name := "begin", desc := "(II)V" } : Jvm.MethodName)) ∈ tg := tgT 305 rfl rfl
set_option maxRecDepth 100000 in
theorem tw_306 : (Jvm.Cond.instanceMethod ({ cls := "BakeHouse$Book", name := "begin", desc := "(II)V" } : Jvm.MethodName)) ∈ tg := tgT 306 rfl rfl
set_option maxRecDepth 100000 in
theorem tw_307 : (Jvm.Cond.selects "BakeHouse$Book" ({ cls := "BakeHouse$Book", name := "begin", desc := "(II)V" } : Jvm.MethodName) ({ cls := "BakeHouse$Book", name := "begin", desc := "(II)V" } : Jvm.MethodName)) ∈ tg := tgT 307 rfl rfl
set_option maxRecDepth 100000 in
theorem tw_308 : (Jvm.Cond.code ({ cls := "BakeHouse$Book", name := "begin", desc := "(II)V" } : Jvm.MethodName) prog_2_method_2_code (3 : Nat) (Option.none : Option Jvm.ClassFile.FieldType)) ∈ tg := tgT 308 rfl rfl
set_option maxRecDepth 100000 in
theorem tw_309 : (Jvm.Cond.methodLink "BakeHouse$Sweet" (21 : Nat) ({ cls := "BakeHouse$Leavened", name := "doFold", desc := "()V" } : Jvm.MethodName)) ∈ tg := tgT 309 rfl rfl
set_option maxRecDepth 100000 in
theorem tw_310 : (Jvm.Cond.sameMethod "BakeHouse$Leavened" "BakeHouse$Dough" "doFold" "()V") ∈ tg := tgT 310 rfl rfl
set_option maxRecDepth 100000 in
theorem tw_312 : (Jvm.Cond.selects "BakeHouse$Flat" ({ cls := "BakeHouse$Dough", name := "doFold", desc := "()V" } : Jvm.MethodName) ({ cls := "BakeHouse$Flat", name := "doFold", desc := "()V" } : Jvm.MethodName)) ∈ tg := tgT 312 rfl rfl
set_option maxRecDepth 100000 in
theorem tw_313 : (Jvm.Cond.instanceMethod ({ cls := "BakeHouse$Flat", name := "doFold", desc := "()V" } : Jvm.MethodName)) ∈ tg := tgT 313 rfl rfl
set_option maxRecDepth 100000 in
theorem tw_314 : (Jvm.Cond.code ({ cls := "BakeHouse$Flat", name := "doFold", desc := "()V" } : Jvm.MethodName) prog_5_method_2_code (1 : Nat) (Option.none : Option Jvm.ClassFile.FieldType)) ∈ tg := tgT 314 rfl rfl
set_option maxRecDepth 100000 in
theorem tw_315 : (Jvm.Cond.methodLink "BakeHouse$Flat" (15 : Nat) ({ cls := "BakeHouse$Book", name := "begin", desc := "(II)V" } : Jvm.MethodName)) ∈ tg := tgT 315 rfl rfl
set_option maxRecDepth 100000 in
theorem tw_316 : (Jvm.Cond.selects "BakeHouse$Leavened" ({ cls := "BakeHouse$Dough", name := "doFold", desc := "()V" } : Jvm.MethodName) ({ cls := "BakeHouse$Dough", name := "doFold", desc := "()V" } : Jvm.MethodName)) ∈ tg := tgT 316 rfl rfl
set_option maxRecDepth 100000 in
theorem tw_317 : (Jvm.Cond.selects "BakeHouse$Levain" ({ cls := "BakeHouse$Dough", name := "doFold", desc := "()V" } : Jvm.MethodName) ({ cls := "BakeHouse$Sour", name := "doFold", desc := "()V" } : Jvm.MethodName)) ∈ tg := tgT 317 rfl rfl
set_option maxRecDepth 100000 in
theorem tw_318 : (Jvm.Cond.instanceMethod ({ cls := "BakeHouse$Sour", name := "doFold", desc := "()V" } : Jvm.MethodName)) ∈ tg := tgT 318 rfl rfl
set_option maxRecDepth 100000 in
theorem tw_319 : (Jvm.Cond.code ({ cls := "BakeHouse$Sour", name := "doFold", desc := "()V" } : Jvm.MethodName) prog_10_method_3_code (1 : Nat) (Option.none : Option Jvm.ClassFile.FieldType)) ∈ tg := tgT 319 rfl rfl
set_option maxRecDepth 100000 in
theorem tw_320 : (Jvm.Cond.methodLink "BakeHouse$Sour" (15 : Nat) ({ cls := "BakeHouse$Book", name := "begin", desc := "(II)V" } : Jvm.MethodName)) ∈ tg := tgT 320 rfl rfl
set_option maxRecDepth 100000 in
theorem tw_321 : (Jvm.Cond.methodLink "BakeHouse$Sour" (29 : Nat) ({ cls := "BakeHouse$Rye", name := "doFold", desc := "()V" } : Jvm.MethodName)) ∈ tg := tgT 321 rfl rfl
set_option maxRecDepth 100000 in
theorem tw_322 : (Jvm.Cond.sameMethod "BakeHouse$Rye" "BakeHouse$Dough" "doFold" "()V") ∈ tg := tgT 322 rfl rfl
set_option maxRecDepth 100000 in
theorem tw_323 : (Jvm.Cond.methodLink "BakeHouse$Sour" (33 : Nat) ({ cls := "java/lang/Math", name := "max", desc := "(II)I" } : Jvm.MethodName)) ∈ tg := tgT 323 rfl rfl
set_option maxRecDepth 100000 in
theorem tw_324 : (Jvm.Cond.static ({ cls := "java/lang/Math", name := "max", desc := "(II)I" } : Jvm.MethodName)) ∈ tg := tgT 324 rfl rfl
set_option maxRecDepth 100000 in
theorem tw_325 : (Jvm.Cond.code ({ cls := "java/lang/Math", name := "max", desc := "(II)I" } : Jvm.MethodName) prog_19_method_65_code (2 : Nat) (Option.some Jvm.ClassFile.FieldType.int)) ∈ tg := tgT 325 rfl rfl
set_option maxRecDepth 100000 in
theorem tw_326 : (Jvm.Cond.selects "BakeHouse$Rye" ({ cls := "BakeHouse$Dough", name := "doFold", desc := "()V" } : Jvm.MethodName) ({ cls := "BakeHouse$Dough", name := "doFold", desc := "()V" } : Jvm.MethodName)) ∈ tg := tgT 326 rfl rfl
set_option maxRecDepth 100000 in
theorem tw_327 : (Jvm.Cond.selects "BakeHouse$Sour" ({ cls := "BakeHouse$Dough", name := "doFold", desc := "()V" } : Jvm.MethodName) ({ cls := "BakeHouse$Sour", name := "doFold", desc := "()V" } : Jvm.MethodName)) ∈ tg := tgT 327 rfl rfl
set_option maxRecDepth 100000 in
theorem tw_328 : (Jvm.Cond.selects "BakeHouse$Sweet" ({ cls := "BakeHouse$Dough", name := "doFold", desc := "()V" } : Jvm.MethodName) ({ cls := "BakeHouse$Sweet", name := "doFold", desc := "()V" } : Jvm.MethodName)) ∈ tg := tgT 328 rfl rfl
set_option maxRecDepth 100000 in
theorem tw_329 : (Jvm.Cond.code ({ cls := "BakeHouse$Dough", name := "doFold", desc := "()V" } : Jvm.MethodName) prog_4_method_3_code (1 : Nat) (Option.none : Option Jvm.ClassFile.FieldType)) ∈ tg := tgT 329 rfl rfl
set_option maxRecDepth 100000 in
theorem tw_330 : (Jvm.Cond.methodLink "BakeHouse$Dough" (37 : Nat) ({ cls := "BakeHouse$Book", name := "begin", desc := "(II)V" } : Jvm.MethodName)) ∈ tg := tgT 330 rfl rfl
set_option maxRecDepth 100000 in
theorem tw_331 : (Jvm.Cond.methodLink "BakeHouseLaw" (73 : Nat) ({ cls := "BakeHouse", name := "bake", desc := "(II)I" } : Jvm.MethodName)) ∈ tg := tgT 331 rfl rfl
set_option maxRecDepth 100000 in
theorem tw_332 : (Jvm.Cond.instanceMethod ({ cls := "BakeHouse", name := "bake", desc := "(II)I" } : Jvm.MethodName)) ∈ tg := tgT 332 rfl rfl
set_option maxRecDepth 100000 in
theorem tw_333 : (Jvm.Cond.selects "BakeHouse" ({ cls := "BakeHouse", name := "bake", desc := "(II)I" } : Jvm.MethodName) ({ cls := "BakeHouse", name := "bake", desc := "(II)I" } : Jvm.MethodName)) ∈ tg := tgT 333 rfl rfl
set_option maxRecDepth 100000 in
theorem tw_334 : (Jvm.Cond.code ({ cls := "BakeHouse", name := "bake", desc := "(II)I" } : Jvm.MethodName) prog_1_method_8_code (4 : Nat) (Option.some Jvm.ClassFile.FieldType.int)) ∈ tg := tgT 334 rfl rfl
set_option maxRecDepth 100000 in
theorem tw_335 : (Jvm.Cond.methodLink "BakeHouse" (84 : Nat) ({ cls := "BakeHouse$Dough", name := "doBake", desc := "(I)Z" } : Jvm.MethodName)) ∈ tg := tgT 335 rfl rfl
set_option maxRecDepth 100000 in
theorem tw_336 : (Jvm.Cond.instanceMethod ({ cls := "BakeHouse$Dough", name := "doBake", desc := "(I)Z" } : Jvm.MethodName)) ∈ tg := tgT 336 rfl rfl
set_option maxRecDepth 100000 in
theorem tw_337 : (Jvm.Cond.selects "BakeHouse$Dough" ({ cls := "BakeHouse$Dough", name := "doBake", desc := "(I)Z" } : Jvm.MethodName) ({ cls := "BakeHouse$Dough", name := "doBake", desc := "(I)Z" } : Jvm.MethodName)) ∈ tg := tgT 337 rfl rfl
set_option maxRecDepth 100000 in
theorem tw_338 : (Jvm.Cond.sameMethod "BakeHouse$Dough" "BakeHouse$Dough" "doBake" "(I)Z") ∈ tg := tgT 338 rfl rfl
set_option maxRecDepth 100000 in
theorem tw_339 : (Jvm.Cond.selects "BakeHouse$Brioche" ({ cls := "BakeHouse$Dough", name := "doBake", desc := "(I)Z" } : Jvm.MethodName) ({ cls := "BakeHouse$Sweet", name := "doBake", desc := "(I)Z" } : Jvm.MethodName)) ∈ tg := tgT 339 rfl rfl
set_option maxRecDepth 100000 in
theorem tw_340 : (Jvm.Cond.instanceMethod ({ cls := "BakeHouse$Sweet", name := "doBake", desc := "(I)Z" } : Jvm.MethodName)) ∈ tg := tgT 340 rfl rfl
set_option maxRecDepth 100000 in
theorem tw_341 : (Jvm.Cond.code ({ cls := "BakeHouse$Sweet", name := "doBake", desc := "(I)Z" } : Jvm.MethodName) prog_11_method_3_code (2 : Nat) (Option.some Jvm.ClassFile.FieldType.boolean)) ∈ tg := tgT 341 rfl rfl
set_option maxRecDepth 100000 in
theorem tw_342 : (Jvm.Cond.methodLink "BakeHouse$Sweet" (25 : Nat) ({ cls := "BakeHouse$Leavened", name := "doBake", desc := "(I)Z" } : Jvm.MethodName)) ∈ tg := tgT 342 rfl rfl
set_option maxRecDepth 100000 in
theorem tw_343 : (Jvm.Cond.sameMethod "BakeHouse$Leavened" "BakeHouse$Dough" "doBake" "(I)Z") ∈ tg := tgT 343 rfl rfl
set_option maxRecDepth 100000 in
theorem tw_345 : (Jvm.Cond.selects "BakeHouse$Flat" ({ cls := "BakeHouse$Dough", name := "doBake", desc := "(I)Z" } : Jvm.MethodName) ({ cls := "BakeHouse$Flat", name := "doBake", desc := "(I)Z" } : Jvm.MethodName)) ∈ tg := tgT 345 rfl rfl
set_option maxRecDepth 100000 in
theorem tw_346 : (Jvm.Cond.instanceMethod ({ cls := "BakeHouse$Flat", name := "doBake", desc := "(I)Z" } : Jvm.MethodName)) ∈ tg := tgT 346 rfl rfl
set_option maxRecDepth 100000 in
theorem tw_347 : (Jvm.Cond.code ({ cls := "BakeHouse$Flat", name := "doBake", desc := "(I)Z" } : Jvm.MethodName) prog_5_method_4_code (2 : Nat) (Option.some Jvm.ClassFile.FieldType.boolean)) ∈ tg := tgT 347 rfl rfl
set_option maxRecDepth 100000 in
theorem tw_348 : (Jvm.Cond.methodLink "BakeHouse$Flat" (29 : Nat) ({ cls := "BakeHouse$Dough", name := "doBake", desc := "(I)Z" } : Jvm.MethodName)) ∈ tg := tgT 348 rfl rfl
set_option maxRecDepth 100000 in
theorem tw_349 : (Jvm.Cond.selects "BakeHouse$Leavened" ({ cls := "BakeHouse$Dough", name := "doBake", desc := "(I)Z" } : Jvm.MethodName) ({ cls := "BakeHouse$Dough", name := "doBake", desc := "(I)Z" } : Jvm.MethodName)) ∈ tg := tgT 349 rfl rfl
set_option maxRecDepth 100000 in
theorem tw_350 : (Jvm.Cond.selects "BakeHouse$Levain" ({ cls := "BakeHouse$Dough", name := "doBake", desc := "(I)Z" } : Jvm.MethodName) ({ cls := "BakeHouse$Sour", name := "doBake", desc := "(I)Z" } : Jvm.MethodName)) ∈ tg := tgT 350 rfl rfl
set_option maxRecDepth 100000 in
theorem tw_351 : (Jvm.Cond.instanceMethod ({ cls := "BakeHouse$Sour", name := "doBake", desc := "(I)Z" } : Jvm.MethodName)) ∈ tg := tgT 351 rfl rfl
set_option maxRecDepth 100000 in
theorem tw_352 : (Jvm.Cond.code ({ cls := "BakeHouse$Sour", name := "doBake", desc := "(I)Z" } : Jvm.MethodName) prog_10_method_4_code (3 : Nat) (Option.some Jvm.ClassFile.FieldType.boolean)) ∈ tg := tgT 352 rfl rfl
set_option maxRecDepth 100000 in
theorem tw_353 : (Jvm.Cond.methodLink "BakeHouse$Sour" (39 : Nat) ({ cls := "BakeHouse$Rye", name := "doBake", desc := "(I)Z" } : Jvm.MethodName)) ∈ tg := tgT 353 rfl rfl
set_option maxRecDepth 100000 in
theorem tw_354 : (Jvm.Cond.instanceMethod ({ cls := "BakeHouse$Rye", name := "doBake", desc := "(I)Z" } : Jvm.MethodName)) ∈ tg := tgT 354 rfl rfl
set_option maxRecDepth 100000 in
theorem tw_355 : (Jvm.Cond.code ({ cls := "BakeHouse$Rye", name := "doBake", desc := "(I)Z" } : Jvm.MethodName) prog_8_method_3_code (2 : Nat) (Option.some Jvm.ClassFile.FieldType.boolean)) ∈ tg := tgT 355 rfl rfl
set_option maxRecDepth 100000 in
theorem tw_356 : (Jvm.Cond.methodLink "BakeHouse$Rye" (15 : Nat) ({ cls := "BakeHouse$Book", name := "begin", desc := "(II)V" } : Jvm.MethodName)) ∈ tg := tgT 356 rfl rfl
set_option maxRecDepth 100000 in
theorem tw_357 : (Jvm.Cond.methodLink "BakeHouse$Rye" (25 : Nat) ({ cls := "BakeHouse$Leavened", name := "doBake", desc := "(I)Z" } : Jvm.MethodName)) ∈ tg := tgT 357 rfl rfl
set_option maxRecDepth 100000 in
theorem tw_358 : (Jvm.Cond.selects "BakeHouse$Rye" ({ cls := "BakeHouse$Dough", name := "doBake", desc := "(I)Z" } : Jvm.MethodName) ({ cls := "BakeHouse$Rye", name := "doBake", desc := "(I)Z" } : Jvm.MethodName)) ∈ tg := tgT 358 rfl rfl
set_option maxRecDepth 100000 in
theorem tw_359 : (Jvm.Cond.selects "BakeHouse$Sour" ({ cls := "BakeHouse$Dough", name := "doBake", desc := "(I)Z" } : Jvm.MethodName) ({ cls := "BakeHouse$Sour", name := "doBake", desc := "(I)Z" } : Jvm.MethodName)) ∈ tg := tgT 359 rfl rfl
set_option maxRecDepth 100000 in
theorem tw_360 : (Jvm.Cond.selects "BakeHouse$Sweet" ({ cls := "BakeHouse$Dough", name := "doBake", desc := "(I)Z" } : Jvm.MethodName) ({ cls := "BakeHouse$Sweet", name := "doBake", desc := "(I)Z" } : Jvm.MethodName)) ∈ tg := tgT 360 rfl rfl
set_option maxRecDepth 100000 in
theorem tw_361 : (Jvm.Cond.code ({ cls := "BakeHouse$Dough", name := "doBake", desc := "(I)Z" } : Jvm.MethodName) prog_4_method_5_code (2 : Nat) (Option.some Jvm.ClassFile.FieldType.boolean)) ∈ tg := tgT 361 rfl rfl
set_option maxRecDepth 100000 in
theorem tw_362 : (Jvm.Cond.methodLink "BakeHouse$Dough" (77 : Nat) ({ cls := "BakeHouse$Dough", name := "isDoneByCrust", desc := "()Z" } : Jvm.MethodName)) ∈ tg := tgT 362 rfl rfl
set_option maxRecDepth 100000 in
theorem tw_363 : (Jvm.Cond.instanceMethod ({ cls := "BakeHouse$Dough", name := "isDoneByCrust", desc := "()Z" } : Jvm.MethodName)) ∈ tg := tgT 363 rfl rfl
set_option maxRecDepth 100000 in
theorem tw_364 : (Jvm.Cond.selects "BakeHouse$Dough" ({ cls := "BakeHouse$Dough", name := "isDoneByCrust", desc := "()Z" } : Jvm.MethodName) ({ cls := "BakeHouse$Dough", name := "isDoneByCrust", desc := "()Z" } : Jvm.MethodName)) ∈ tg := tgT 364 rfl rfl
set_option maxRecDepth 100000 in
theorem tw_365 : (Jvm.Cond.sameMethod "BakeHouse$Dough" "BakeHouse$Dough" "isDoneByCrust" "()Z") ∈ tg := tgT 365 rfl rfl
set_option maxRecDepth 100000 in
theorem tw_366 : (Jvm.Cond.selects "BakeHouse$Brioche" ({ cls := "BakeHouse$Dough", name := "isDoneByCrust", desc := "()Z" } : Jvm.MethodName) ({ cls := "BakeHouse$Dough", name := "isDoneByCrust", desc := "()Z" } : Jvm.MethodName)) ∈ tg := tgT 366 rfl rfl
set_option maxRecDepth 100000 in
theorem tw_367 : (Jvm.Cond.selects "BakeHouse$Flat" ({ cls := "BakeHouse$Dough", name := "isDoneByCrust", desc := "()Z" } : Jvm.MethodName) ({ cls := "BakeHouse$Dough", name := "isDoneByCrust", desc := "()Z" } : Jvm.MethodName)) ∈ tg := tgT 367 rfl rfl
set_option maxRecDepth 100000 in
theorem tw_368 : (Jvm.Cond.selects "BakeHouse$Leavened" ({ cls := "BakeHouse$Dough", name := "isDoneByCrust", desc := "()Z" } : Jvm.MethodName) ({ cls := "BakeHouse$Dough", name := "isDoneByCrust", desc := "()Z" } : Jvm.MethodName)) ∈ tg := tgT 368 rfl rfl
set_option maxRecDepth 100000 in
theorem tw_369 : (Jvm.Cond.selects "BakeHouse$Levain" ({ cls := "BakeHouse$Dough", name := "isDoneByCrust", desc := "()Z" } : Jvm.MethodName) ({ cls := "BakeHouse$Dough", name := "isDoneByCrust", desc := "()Z" } : Jvm.MethodName)) ∈ tg := tgT 369 rfl rfl
set_option maxRecDepth 100000 in
theorem tw_370 : (Jvm.Cond.selects "BakeHouse$Rye" ({ cls := "BakeHouse$Dough", name := "isDoneByCrust", desc := "()Z" } : Jvm.MethodName) ({ cls := "BakeHouse$Dough", name := "isDoneByCrust", desc := "()Z" } : Jvm.MethodName)) ∈ tg := tgT 370 rfl rfl
set_option maxRecDepth 100000 in
theorem tw_371 : (Jvm.Cond.selects "BakeHouse$Sour" ({ cls := "BakeHouse$Dough", name := "isDoneByCrust", desc := "()Z" } : Jvm.MethodName) ({ cls := "BakeHouse$Dough", name := "isDoneByCrust", desc := "()Z" } : Jvm.MethodName)) ∈ tg := tgT 371 rfl rfl
set_option maxRecDepth 100000 in
theorem tw_372 : (Jvm.Cond.selects "BakeHouse$Sweet" ({ cls := "BakeHouse$Dough", name := "isDoneByCrust", desc := "()Z" } : Jvm.MethodName) ({ cls := "BakeHouse$Dough", name := "isDoneByCrust", desc := "()Z" } : Jvm.MethodName)) ∈ tg := tgT 372 rfl rfl
set_option maxRecDepth 100000 in
theorem tw_373 : (Jvm.Cond.code ({ cls := "BakeHouse$Dough", name := "isDoneByCrust", desc := "()Z" } : Jvm.MethodName) prog_4_method_7_code (1 : Nat) (Option.some Jvm.ClassFile.FieldType.boolean)) ∈ tg := tgT 373 rfl rfl
set_option maxRecDepth 100000 in
theorem tw_374 : (Jvm.Cond.methodLink "BakeHouseLaw" (87 : Nat) ({ cls := "BakeHouse", name := "fire", desc := "(I)I" } : Jvm.MethodName)) ∈ tg := tgT 374 rfl rfl
set_option maxRecDepth 100000 in
theorem tw_375 : (Jvm.Cond.instanceMethod ({ cls := "BakeHouse", name := "fire", desc := "(I)I" } : Jvm.MethodName)) ∈ tg := tgT 375 rfl rfl
set_option maxRecDepth 100000 in
theorem tw_376 : (Jvm.Cond.selects "BakeHouse" ({ cls := "BakeHouse", name := "fire", desc := "(I)I" } : Jvm.MethodName) ({ cls := "BakeHouse", name := "fire", desc := "(I)I" } : Jvm.MethodName)) ∈ tg := tgT 376 rfl rfl
set_option maxRecDepth 100000 in
theorem tw_377 : (Jvm.Cond.code ({ cls := "BakeHouse", name := "fire", desc := "(I)I" } : Jvm.MethodName) prog_1_method_12_code (4 : Nat) (Option.some Jvm.ClassFile.FieldType.int)) ∈ tg := tgT 377 rfl rfl
set_option maxRecDepth 100000 in
theorem tw_378 : (Jvm.Cond.methodLink "BakeHouse" (101 : Nat) ({ cls := "BakeHouse", name := "bakeShelf", desc := "(II)I" } : Jvm.MethodName)) ∈ tg := tgT 378 rfl rfl
set_option maxRecDepth 100000 in
theorem tw_380 : (Jvm.Cond.instanceMethod ({ cls := "BakeHouse", name := "bakeShelf", desc := "(II)I" } : Jvm.MethodName)) ∈ tg := tgT 380 rfl rfl
set_option maxRecDepth 100000 in
theorem tw_381 : (Jvm.Cond.code ({ cls := "BakeHouse", name := "bakeShelf", desc := "(II)I" } : Jvm.MethodName) prog_1_method_24_code (6 : Nat) (Option.some Jvm.ClassFile.FieldType.int)) ∈ tg := tgT 381 rfl rfl
set_option maxRecDepth 100000 in
theorem tw_382 : (Jvm.Cond.methodLink "BakeHouse" (169 : Nat) ({ cls := "BakeHouse", name := "at", desc := "(II)I" } : Jvm.MethodName)) ∈ tg := tgT 382 rfl rfl
set_option maxRecDepth 100000 in
theorem tw_383 : (Jvm.Cond.instanceMethod ({ cls := "BakeHouse", name := "at", desc := "(II)I" } : Jvm.MethodName)) ∈ tg := tgT 383 rfl rfl
set_option maxRecDepth 100000 in
theorem tw_384 : (Jvm.Cond.selects "BakeHouse" ({ cls := "BakeHouse", name := "at", desc := "(II)I" } : Jvm.MethodName) ({ cls := "BakeHouse", name := "at", desc := "(II)I" } : Jvm.MethodName)) ∈ tg := tgT 384 rfl rfl
set_option maxRecDepth 100000 in
theorem tw_385 : (Jvm.Cond.code ({ cls := "BakeHouse", name := "at", desc := "(II)I" } : Jvm.MethodName) prog_1_method_14_code (4 : Nat) (Option.some Jvm.ClassFile.FieldType.int)) ∈ tg := tgT 385 rfl rfl
set_option maxRecDepth 100000 in
theorem tw_386 : (Jvm.Cond.methodLink "BakeHouse" (109 : Nat) ({ cls := "BakeHouse$Shelf", name := "loafIn", desc := "(I)I" } : Jvm.MethodName)) ∈ tg := tgT 386 rfl rfl
set_option maxRecDepth 100000 in
theorem tw_387 : (Jvm.Cond.instanceMethod ({ cls := "BakeHouse$Shelf", name := "loafIn", desc := "(I)I" } : Jvm.MethodName)) ∈ tg := tgT 387 rfl rfl
set_option maxRecDepth 100000 in
theorem tw_388 : (Jvm.Cond.selects "BakeHouse$Shelf" ({ cls := "BakeHouse$Shelf", name := "loafIn", desc := "(I)I" } : Jvm.MethodName) ({ cls := "BakeHouse$Shelf", name := "loafIn", desc := "(I)I" } : Jvm.MethodName)) ∈ tg := tgT 388 rfl rfl
set_option maxRecDepth 100000 in
theorem tw_389 : (Jvm.Cond.code ({ cls := "BakeHouse$Shelf", name := "loafIn", desc := "(I)I" } : Jvm.MethodName) prog_9_method_6_code (2 : Nat) (Option.some Jvm.ClassFile.FieldType.int)) ∈ tg := tgT 389 rfl rfl
set_option maxRecDepth 100000 in
theorem tw_390 : (Jvm.Cond.methodLink "BakeHouse$Shelf" (19 : Nat) ({ cls := "BakeHouse$Shelf", name := "has", desc := "(I)Z" } : Jvm.MethodName)) ∈ tg := tgT 390 rfl rfl
set_option maxRecDepth 100000 in
theorem tw_391 : (Jvm.Cond.instanceMethod ({ cls := "BakeHouse$Shelf", name := "has", desc := "(I)Z" } : Jvm.MethodName)) ∈ tg := tgT 391 rfl rfl
set_option maxRecDepth 100000 in
theorem tw_392 : (Jvm.Cond.selects "BakeHouse$Shelf" ({ cls := "BakeHouse$Shelf", name := "has", desc := "(I)Z" } : Jvm.MethodName) ({ cls := "BakeHouse$Shelf", name := "has", desc := "(I)Z" } : Jvm.MethodName)) ∈ tg := tgT 392 rfl rfl
set_option maxRecDepth 100000 in
theorem tw_393 : (Jvm.Cond.code ({ cls := "BakeHouse$Shelf", name := "has", desc := "(I)Z" } : Jvm.MethodName) prog_9_method_5_code (2 : Nat) (Option.some Jvm.ClassFile.FieldType.boolean)) ∈ tg := tgT 393 rfl rfl
set_option maxRecDepth 100000 in
theorem tw_394 : (Jvm.Cond.methodLink "BakeHouseLaw" (91 : Nat) ({ cls := "BakeHouse", name := "night", desc := "(I)I" } : Jvm.MethodName)) ∈ tg := tgT 394 rfl rfl
set_option maxRecDepth 100000 in
theorem tw_395 : (Jvm.Cond.instanceMethod ({ cls := "BakeHouse", name := "night", desc := "(I)I" } : Jvm.MethodName)) ∈ tg := tgT 395 rfl rfl
set_option maxRecDepth 100000 in
theorem tw_396 : (Jvm.Cond.selects "BakeHouse" ({ cls := "BakeHouse", name := "night", desc := "(I)I" } : Jvm.MethodName) ({ cls := "BakeHouse", name := "night", desc := "(I)I" } : Jvm.MethodName)) ∈ tg := tgT 396 rfl rfl
set_option maxRecDepth 100000 in
theorem tw_397 : (Jvm.Cond.code ({ cls := "BakeHouse", name := "night", desc := "(I)I" } : Jvm.MethodName) prog_1_method_13_code (5 : Nat) (Option.some Jvm.ClassFile.FieldType.int)) ∈ tg := tgT 397 rfl rfl
set_option maxRecDepth 100000 in
theorem tw_398 : (Jvm.Cond.methodLink "BakeHouse" (105 : Nat) ({ cls := "BakeHouse", name := "fallsAtRest", desc := "(LBakeHouse$Dough;I)Z" } : Jvm.MethodName)) ∈ tg := tgT 398 rfl rfl
set_option maxRecDepth 100000 in
theorem tw_399 : (Jvm.Cond.static ({ cls := "BakeHouse", name := "fallsAtRest", desc := "(LBakeHouse$Dough;I)Z" } : Jvm.MethodName)) ∈ tg := tgT 399 rfl rfl
set_option maxRecDepth 100000 in
theorem tw_400 : (Jvm.Cond.codeWith ({ cls := "BakeHouse", name := "fallsAtRest", desc := "(LBakeHouse$Dough;I)Z" } : Jvm.MethodName) prog_1_method_25_code (3 : Nat) (Option.some Jvm.ClassFile.FieldType.boolean) [((0 : Nat), (7 : Nat), (8 : Nat), (172 : Nat))]) ∈ tg := tgT 400 rfl rfl
set_option maxRecDepth 100000 in
theorem tw_401 : (Jvm.Cond.classLink "BakeHouse" (172 : Nat) "java/lang/IllegalStateException") ∈ tg := tgT 401 rfl rfl
set_option maxRecDepth 100000 in
theorem tw_402 : (Jvm.Cond.methodLink "BakeHouse" (67 : Nat) ({ cls := "BakeHouse$Dough", name := "doRest", desc := "(I)I" } : Jvm.MethodName)) ∈ tg := tgT 402 rfl rfl
set_option maxRecDepth 100000 in
theorem tw_403 : (Jvm.Cond.instanceMethod ({ cls := "BakeHouse$Dough", name := "doRest", desc := "(I)I" } : Jvm.MethodName)) ∈ tg := tgT 403 rfl rfl
set_option maxRecDepth 100000 in
theorem tw_404 : (Jvm.Cond.selects "BakeHouse$Dough" ({ cls := "BakeHouse$Dough", name := "doRest", desc := "(I)I" } : Jvm.MethodName) ({ cls := "BakeHouse$Dough", name := "doRest", desc := "(I)I" } : Jvm.MethodName)) ∈ tg := tgT 404 rfl rfl
set_option maxRecDepth 100000 in
theorem tw_405 : (Jvm.Cond.sameMethod "BakeHouse$Dough" "BakeHouse$Dough" "doRest" "(I)I") ∈ tg := tgT 405 rfl rfl
set_option maxRecDepth 100000 in
theorem tw_406 : (Jvm.Cond.selects "BakeHouse$Brioche" ({ cls := "BakeHouse$Dough", name := "doRest", desc := "(I)I" } : Jvm.MethodName) ({ cls := "BakeHouse$Brioche", name := "doRest", desc := "(I)I" } : Jvm.MethodName)) ∈ tg := tgT 406 rfl rfl
set_option maxRecDepth 100000 in
theorem tw_407 : (Jvm.Cond.instanceMethod ({ cls := "BakeHouse$Brioche", name := "doRest", desc := "(I)I" } : Jvm.MethodName)) ∈ tg := tgT 407 rfl rfl
set_option maxRecDepth 100000 in
theorem tw_408 : (Jvm.Cond.code ({ cls := "BakeHouse$Brioche", name := "doRest", desc := "(I)I" } : Jvm.MethodName) prog_3_method_2_code (3 : Nat) (Option.some Jvm.ClassFile.FieldType.int)) ∈ tg := tgT 408 rfl rfl
set_option maxRecDepth 100000 in
theorem tw_409 : (Jvm.Cond.methodLink "BakeHouse$Brioche" (15 : Nat) ({ cls := "BakeHouse$Book", name := "begin", desc := "(II)V" } : Jvm.MethodName)) ∈ tg := tgT 409 rfl rfl
set_option maxRecDepth 100000 in
theorem tw_410 : (Jvm.Cond.methodLink "BakeHouse$Brioche" (21 : Nat) ({ cls := "BakeHouse$Sweet", name := "doRest", desc := "(I)I" } : Jvm.MethodName)) ∈ tg := tgT 410 rfl rfl
set_option maxRecDepth 100000 in
theorem tw_411 : (Jvm.Cond.sameMethod "BakeHouse$Sweet" "BakeHouse$Dough" "doRest" "(I)I") ∈ tg := tgT 411 rfl rfl
set_option maxRecDepth 100000 in
theorem tw_413 : (Jvm.Cond.classLink "BakeHouse$Brioche" (32 : Nat) "java/lang/IllegalStateException") ∈ tg := tgT 413 rfl rfl
set_option maxRecDepth 100000 in
theorem tw_414 : (Jvm.Cond.instantiable "java/lang/IllegalStateException" (6 : Nat)) ∈ tg := tgT 414 rfl rfl
set_option maxRecDepth 100000 in
theorem tw_422 : (Jvm.Cond.selects "java/lang/IllegalStateException" ({ cls := "java/lang/Throwable", name := "fillInStackTrace", desc := "(I)Ljava/lang/Throwable;" } : Jvm.MethodName) ({ cls := "java/lang/Throwable", name := "fillInStackTrace", desc := "(I)Ljava/lang/Throwable;" } : Jvm.MethodName)) ∈ tg := tgT 422 rfl rfl
set_option maxRecDepth 100000 in
theorem tw_423 : (Jvm.Cond.selects "java/lang/IllegalStateException" ({ cls := "java/lang/Throwable", name := "fillInStackTrace", desc := "()Ljava/lang/Throwable;" } : Jvm.MethodName) ({ cls := "java/lang/Throwable", name := "fillInStackTrace", desc := "()Ljava/lang/Throwable;" } : Jvm.MethodName)) ∈ tg := tgT 423 rfl rfl
set_option maxRecDepth 100000 in
theorem tw_424 : (Jvm.Cond.lays "java/lang/IllegalStateException" "java/lang/Throwable" "cause" "Ljava/lang/Throwable;") ∈ tg := tgT 424 rfl rfl
set_option maxRecDepth 100000 in
theorem tw_425 : (Jvm.Cond.lays "java/lang/Throwable" "java/lang/Throwable" "cause" "Ljava/lang/Throwable;") ∈ tg := tgT 425 rfl rfl
set_option maxRecDepth 100000 in
theorem tw_426 : (Jvm.Cond.lays "java/lang/IllegalStateException" "java/lang/Throwable" "stackTrace" "[Ljava/lang/StackTraceElement;") ∈ tg := tgT 426 rfl rfl
set_option maxRecDepth 100000 in
theorem tw_427 : (Jvm.Cond.lays "java/lang/Throwable" "java/lang/Throwable" "stackTrace" "[Ljava/lang/StackTraceElement;") ∈ tg := tgT 427 rfl rfl
set_option maxRecDepth 100000 in
theorem tw_428 : (Jvm.Cond.lays "java/lang/IllegalStateException" "java/lang/Throwable" "suppressedExceptions" "Ljava/util/List;") ∈ tg := tgT 428 rfl rfl
set_option maxRecDepth 100000 in
theorem tw_429 : (Jvm.Cond.lays "java/lang/Throwable" "java/lang/Throwable" "suppressedExceptions" "Ljava/util/List;") ∈ tg := tgT 429 rfl rfl
set_option maxRecDepth 100000 in
theorem tw_430 : (Jvm.Cond.lays "java/lang/IllegalStateException" "java/lang/Throwable" "detailMessage" "Ljava/lang/String;") ∈ tg := tgT 430 rfl rfl
set_option maxRecDepth 100000 in
theorem tw_431 : (Jvm.Cond.lays "java/lang/Throwable" "java/lang/Throwable" "detailMessage" "Ljava/lang/String;") ∈ tg := tgT 431 rfl rfl
set_option maxRecDepth 100000 in
theorem tw_432 : (Jvm.Cond.lays "java/lang/IllegalStateException" "java/lang/Throwable" "backtrace" "Ljava/lang/Object;") ∈ tg := tgT 432 rfl rfl
set_option maxRecDepth 100000 in
theorem tw_433 : (Jvm.Cond.lays "java/lang/Throwable" "java/lang/Throwable" "backtrace" "Ljava/lang/Object;") ∈ tg := tgT 433 rfl rfl
set_option maxRecDepth 100000 in
theorem tw_434 : (Jvm.Cond.fieldLink "java/lang/Throwable" (198 : Nat) "java/lang/Throwable" "backtrace" "Ljava/lang/Object;") ∈ tg := tgT 434 rfl rfl
set_option maxRecDepth 100000 in
theorem tw_435 : (Jvm.Cond.superclass "java/lang/Throwable" "java/lang/Object") ∈ tg := tgT 435 rfl rfl
set_option maxRecDepth 100000 in
theorem tw_436 : (Jvm.Cond.instanceMethod ({ cls := "java/lang/Throwable", name := "<init>", desc := "()V" } : Jvm.MethodName)) ∈ tg := tgT 436 rfl rfl
set_option maxRecDepth 100000 in
theorem tw_437 : (Jvm.Cond.code ({ cls := "java/lang/Throwable", name := "<init>", desc := "()V" } : Jvm.MethodName) prog_24_method_1_code (1 : Nat) (Option.none : Option Jvm.ClassFile.FieldType)) ∈ tg := tgT 437 rfl rfl
set_option maxRecDepth 100000 in
theorem tw_438 : (Jvm.Cond.methodLink "java/lang/Throwable" (1 : Nat) ({ cls := "java/lang/Object", name := "<init>", desc := "()V" } : Jvm.MethodName)) ∈ tg := tgT 438 rfl rfl
set_option maxRecDepth 100000 in
theorem tw_439 : (Jvm.Cond.fieldLink "java/lang/Throwable" (13 : Nat) "java/lang/Throwable" "UNASSIGNED_STACK" "[Ljava/lang/StackTraceElement;") ∈ tg := tgT 439 rfl rfl
set_option maxRecDepth 100000 in
theorem tw_441 : (Jvm.Cond.fieldLink "java/lang/Throwable" (20 : Nat) "java/lang/Throwable" "SUPPRESSED_SENTINEL" "Ljava/util/List;") ∈ tg := tgT 441 rfl rfl
set_option maxRecDepth 100000 in
theorem tw_443 : (Jvm.Cond.methodLink "java/lang/Throwable" (27 : Nat) ({ cls := "java/lang/Throwable", name := "fillInStackTrace", desc := "()Ljava/lang/Throwable;" } : Jvm.MethodName)) ∈ tg := tgT 443 rfl rfl
set_option maxRecDepth 100000 in
theorem tw_444 : (Jvm.Cond.instanceMethod ({ cls := "java/lang/Throwable", name := "fillInStackTrace", desc := "()Ljava/lang/Throwable;" } : Jvm.MethodName)) ∈ tg := tgT 444 rfl rfl
set_option maxRecDepth 100000 in
theorem tw_445 : (Jvm.Cond.sameMethod "java/lang/Throwable" "java/lang/Throwable" "fillInStackTrace" "()Ljava/lang/Throwable;") ∈ tg := tgT 445 rfl rfl
set_option maxRecDepth 100000 in
theorem tw_446 : (Jvm.Cond.selects "java/lang/ArithmeticException" ({ cls := "java/lang/Throwable", name := "fillInStackTrace", desc := "()Ljava/lang/Throwable;" } : Jvm.MethodName) ({ cls := "java/lang/Throwable", name := "fillInStackTrace", desc := "()Ljava/lang/Throwable;" } : Jvm.MethodName)) ∈ tg := tgT 446 rfl rfl
set_option maxRecDepth 100000 in
theorem tw_447 : (Jvm.Cond.selects "java/lang/ArrayIndexOutOfBoundsException" ({ cls := "java/lang/Throwable", name := "fillInStackTrace", desc := "()Ljava/lang/Throwable;" } : Jvm.MethodName) ({ cls := "java/lang/Throwable", name := "fillInStackTrace", desc := "()Ljava/lang/Throwable;" } : Jvm.MethodName)) ∈ tg := tgT 447 rfl rfl
set_option maxRecDepth 100000 in
theorem tw_448 : (Jvm.Cond.selects "java/lang/NegativeArraySizeException" ({ cls := "java/lang/Throwable", name := "fillInStackTrace", desc := "()Ljava/lang/Throwable;" } : Jvm.MethodName) ({ cls := "java/lang/Throwable", name := "fillInStackTrace", desc := "()Ljava/lang/Throwable;" } : Jvm.MethodName)) ∈ tg := tgT 448 rfl rfl
set_option maxRecDepth 100000 in
theorem tw_449 : (Jvm.Cond.selects "java/lang/NullPointerException" ({ cls := "java/lang/Throwable", name := "fillInStackTrace", desc := "()Ljava/lang/Throwable;" } : Jvm.MethodName) ({ cls := "java/lang/NullPointerException", name := "fillInStackTrace", desc := "()Ljava/lang/Throwable;" } : Jvm.MethodName)) ∈ tg := tgT 449 rfl rfl
set_option maxRecDepth 100000 in
theorem tw_450 : (Jvm.Cond.instanceMethod ({ cls := "java/lang/NullPointerException", name := "fillInStackTrace", desc := "()Ljava/lang/Throwable;" } : Jvm.MethodName)) ∈ tg := tgT 450 rfl rfl
set_option maxRecDepth 100000 in
theorem tw_451 : (Jvm.Cond.codeSync ({ cls := "java/lang/NullPointerException", name := "fillInStackTrace", desc := "()Ljava/lang/Throwable;" } : Jvm.MethodName) prog_21_method_3_code (1 : Nat) (Option.some (Jvm.ClassFile.FieldType.object "java/lang/Throwable"))) ∈ tg := tgT 451 rfl rfl
set_option maxRecDepth 100000 in
theorem tw_452 : (Jvm.Cond.methodLink "java/lang/NullPointerException" (16 : Nat) ({ cls := "java/lang/NullPointerException", name := "getExtendedNPEMessage", desc := "()Ljava/lang/String;" } : Jvm.MethodName)) ∈ tg := tgT 452 rfl rfl
set_option maxRecDepth 100000 in
theorem tw_454 : (Jvm.Cond.instanceMethod ({ cls := "java/lang/NullPointerException", name := "getExtendedNPEMessage", desc := "()Ljava/lang/String;" } : Jvm.MethodName)) ∈ tg := tgT 454 rfl rfl
set_option maxRecDepth 100000 in
theorem tw_455 : (Jvm.Cond.instantiable "java/lang/NullPointerException" (8 : Nat)) ∈ tg := tgT 455 rfl rfl
set_option maxRecDepth 100000 in
theorem tw_456 : (Jvm.Cond.native ({ cls := "java/lang/NullPointerException", name := "getExtendedNPEMessage", desc := "()Ljava/lang/String;" } : Jvm.MethodName)) ∈ tg := tgT 456 rfl rfl
set_option maxRecDepth 100000 in
theorem tw_457 : (Jvm.Cond.methodLink "java/lang/NullPointerException" (24 : Nat) ({ cls := "java/lang/RuntimeException", name := "fillInStackTrace", desc := "()Ljava/lang/Throwable;" } : Jvm.MethodName)) ∈ tg := tgT 457 rfl rfl
set_option maxRecDepth 100000 in
theorem tw_458 : (Jvm.Cond.sameMethod "java/lang/RuntimeException" "java/lang/Throwable" "fillInStackTrace" "()Ljava/lang/Throwable;") ∈ tg := tgT 458 rfl rfl
set_option maxRecDepth 100000 in
theorem tw_460 : (Jvm.Cond.codeSync ({ cls := "java/lang/Throwable", name := "fillInStackTrace", desc := "()Ljava/lang/Throwable;" } : Jvm.MethodName) prog_24_method_18_code (1 : Nat) (Option.some (Jvm.ClassFile.FieldType.object "java/lang/Throwable"))) ∈ tg := tgT 460 rfl rfl
set_option maxRecDepth 100000 in
theorem tw_461 : (Jvm.Cond.methodLink "java/lang/Throwable" (202 : Nat) ({ cls := "java/lang/Throwable", name := "fillInStackTrace", desc := "(I)Ljava/lang/Throwable;" } : Jvm.MethodName)) ∈ tg := tgT 461 rfl rfl
set_option maxRecDepth 100000 in
theorem tw_463 : (Jvm.Cond.instanceMethod ({ cls := "java/lang/Throwable", name := "fillInStackTrace", desc := "(I)Ljava/lang/Throwable;" } : Jvm.MethodName)) ∈ tg := tgT 463 rfl rfl
set_option maxRecDepth 100000 in
theorem tw_464 : (Jvm.Cond.instantiable "java/lang/Throwable" (6 : Nat)) ∈ tg := tgT 464 rfl rfl
set_option maxRecDepth 100000 in
theorem tw_465 : (Jvm.Cond.native ({ cls := "java/lang/Throwable", name := "fillInStackTrace", desc := "(I)Ljava/lang/Throwable;" } : Jvm.MethodName)) ∈ tg := tgT 465 rfl rfl
set_option maxRecDepth 100000 in
theorem tw_467 : (Jvm.Cond.methodLink "BakeHouse$Brioche" (36 : Nat) ({ cls := "java/lang/IllegalStateException", name := "<init>", desc := "(Ljava/lang/String;)V" } : Jvm.MethodName)) ∈ tg := tgT 467 rfl rfl
set_option maxRecDepth 100000 in
theorem tw_468 : (Jvm.Cond.instanceMethod ({ cls := "java/lang/IllegalStateException", name := "<init>", desc := "(Ljava/lang/String;)V" } : Jvm.MethodName)) ∈ tg := tgT 468 rfl rfl
set_option maxRecDepth 100000 in
theorem tw_469 : (Jvm.Cond.code ({ cls := "java/lang/IllegalStateException", name := "<init>", desc := "(Ljava/lang/String;)V" } : Jvm.MethodName) prog_17_method_2_code (2 : Nat) (Option.none : Option Jvm.ClassFile.FieldType)) ∈ tg := tgT 469 rfl rfl
set_option maxRecDepth 100000 in
theorem tw_470 : (Jvm.Cond.methodLink "java/lang/IllegalStateException" (7 : Nat) ({ cls := "java/lang/RuntimeException", name := "<init>", desc := "(Ljava/lang/String;)V" } : Jvm.MethodName)) ∈ tg := tgT 470 rfl rfl
set_option maxRecDepth 100000 in
theorem tw_471 : (Jvm.Cond.instanceMethod ({ cls := "java/lang/RuntimeException", name := "<init>", desc := "(Ljava/lang/String;)V" } : Jvm.MethodName)) ∈ tg := tgT 471 rfl rfl
set_option maxRecDepth 100000 in
theorem tw_472 : (Jvm.Cond.code ({ cls := "java/lang/RuntimeException", name := "<init>", desc := "(Ljava/lang/String;)V" } : Jvm.MethodName) prog_22_method_2_code (2 : Nat) (Option.none : Option Jvm.ClassFile.FieldType)) ∈ tg := tgT 472 rfl rfl
set_option maxRecDepth 100000 in
theorem tw_473 : (Jvm.Cond.methodLink "java/lang/RuntimeException" (7 : Nat) ({ cls := "java/lang/Exception", name := "<init>", desc := "(Ljava/lang/String;)V" } : Jvm.MethodName)) ∈ tg := tgT 473 rfl rfl
set_option maxRecDepth 100000 in
theorem tw_474 : (Jvm.Cond.instanceMethod ({ cls := "java/lang/Exception", name := "<init>", desc := "(Ljava/lang/String;)V" } : Jvm.MethodName)) ∈ tg := tgT 474 rfl rfl
set_option maxRecDepth 100000 in
theorem tw_475 : (Jvm.Cond.code ({ cls := "java/lang/Exception", name := "<init>", desc := "(Ljava/lang/String;)V" } : Jvm.MethodName) prog_16_method_2_code (2 : Nat) (Option.none : Option Jvm.ClassFile.FieldType)) ∈ tg := tgT 475 rfl rfl
set_option maxRecDepth 100000 in
theorem tw_476 : (Jvm.Cond.methodLink "java/lang/Exception" (7 : Nat) ({ cls := "java/lang/Throwable", name := "<init>", desc := "(Ljava/lang/String;)V" } : Jvm.MethodName)) ∈ tg := tgT 476 rfl rfl
set_option maxRecDepth 100000 in
theorem tw_477 : (Jvm.Cond.instanceMethod ({ cls := "java/lang/Throwable", name := "<init>", desc := "(Ljava/lang/String;)V" } : Jvm.MethodName)) ∈ tg := tgT 477 rfl rfl
set_option maxRecDepth 100000 in
theorem tw_478 : (Jvm.Cond.code ({ cls := "java/lang/Throwable", name := "<init>", desc := "(Ljava/lang/String;)V" } : Jvm.MethodName) prog_24_method_2_code (2 : Nat) (Option.none : Option Jvm.ClassFile.FieldType)) ∈ tg := tgT 478 rfl rfl
set_option maxRecDepth 100000 in
theorem tw_479 : (Jvm.Cond.fieldLink "java/lang/Throwable" (198 : Nat) "java/lang/Throwable" "backtrace" "Ljava/lang/Object;") ∈ tg := tgT 479 rfl rfl
set_option maxRecDepth 100000 in
theorem tw_480 : (Jvm.Cond.fieldLink "java/lang/Throwable" (31 : Nat) "java/lang/Throwable" "detailMessage" "Ljava/lang/String;") ∈ tg := tgT 480 rfl rfl
set_option maxRecDepth 100000 in
theorem tw_481 : (Jvm.Cond.fieldLink "java/lang/Throwable" (7 : Nat) "java/lang/Throwable" "cause" "Ljava/lang/Throwable;") ∈ tg := tgT 481 rfl rfl
set_option maxRecDepth 100000 in
theorem tw_482 : (Jvm.Cond.fieldLink "java/lang/Throwable" (17 : Nat) "java/lang/Throwable" "stackTrace" "[Ljava/lang/StackTraceElement;") ∈ tg := tgT 482 rfl rfl
set_option maxRecDepth 100000 in
theorem tw_483 : (Jvm.Cond.fieldLink "java/lang/Throwable" (24 : Nat) "java/lang/Throwable" "suppressedExceptions" "Ljava/util/List;") ∈ tg := tgT 483 rfl rfl
set_option maxRecDepth 100000 in
theorem tw_484 : (Jvm.Cond.soleField "java/lang/Throwable" "backtrace") ∈ tg := tgT 484 rfl rfl
set_option maxRecDepth 100000 in
theorem tw_485 : (Jvm.Cond.soleField "java/lang/Throwable" "detailMessage") ∈ tg := tgT 485 rfl rfl
set_option maxRecDepth 100000 in
theorem tw_486 : (Jvm.Cond.soleField "java/lang/Throwable" "cause") ∈ tg := tgT 486 rfl rfl
set_option maxRecDepth 100000 in
theorem tw_487 : (Jvm.Cond.soleField "java/lang/Throwable" "stackTrace") ∈ tg := tgT 487 rfl rfl
set_option maxRecDepth 100000 in
theorem tw_488 : (Jvm.Cond.lays "java/lang/IllegalStateException" "java/lang/Throwable" "depth" "I") ∈ tg := tgT 488 rfl rfl
set_option maxRecDepth 100000 in
theorem tw_489 : (Jvm.Cond.soleField "java/lang/Throwable" "depth") ∈ tg := tgT 489 rfl rfl
set_option maxRecDepth 100000 in
theorem tw_490 : (Jvm.Cond.soleField "java/lang/Throwable" "suppressedExceptions") ∈ tg := tgT 490 rfl rfl
set_option maxRecDepth 100000 in
theorem tw_491 : (Jvm.Cond.superclass "java/lang/IllegalStateException" "java/lang/RuntimeException") ∈ tg := tgT 491 rfl rfl
set_option maxRecDepth 100000 in
theorem tw_492 : (Jvm.Cond.arrayClass Jvm.ClassFile.FieldType.byte) ∈ tg := tgT 492 rfl rfl
set_option maxRecDepth 100000 in
theorem tw_493 : (Jvm.Cond.selects "BakeHouse$Flat" ({ cls := "BakeHouse$Dough", name := "doRest", desc := "(I)I" } : Jvm.MethodName) ({ cls := "BakeHouse$Dough", name := "doRest", desc := "(I)I" } : Jvm.MethodName)) ∈ tg := tgT 493 rfl rfl
set_option maxRecDepth 100000 in
theorem tw_494 : (Jvm.Cond.selects "BakeHouse$Leavened" ({ cls := "BakeHouse$Dough", name := "doRest", desc := "(I)I" } : Jvm.MethodName) ({ cls := "BakeHouse$Dough", name := "doRest", desc := "(I)I" } : Jvm.MethodName)) ∈ tg := tgT 494 rfl rfl
set_option maxRecDepth 100000 in
theorem tw_495 : (Jvm.Cond.selects "BakeHouse$Levain" ({ cls := "BakeHouse$Dough", name := "doRest", desc := "(I)I" } : Jvm.MethodName) ({ cls := "BakeHouse$Levain", name := "doRest", desc := "(I)I" } : Jvm.MethodName)) ∈ tg := tgT 495 rfl rfl
set_option maxRecDepth 100000 in
theorem tw_496 : (Jvm.Cond.instanceMethod ({ cls := "BakeHouse$Levain", name := "doRest", desc := "(I)I" } : Jvm.MethodName)) ∈ tg := tgT 496 rfl rfl
set_option maxRecDepth 100000 in
theorem tw_497 : (Jvm.Cond.code ({ cls := "BakeHouse$Levain", name := "doRest", desc := "(I)I" } : Jvm.MethodName) prog_7_method_2_code (2 : Nat) (Option.some Jvm.ClassFile.FieldType.int)) ∈ tg := tgT 497 rfl rfl
set_option maxRecDepth 100000 in
theorem tw_498 : (Jvm.Cond.methodLink "BakeHouse$Levain" (15 : Nat) ({ cls := "BakeHouse$Book", name := "begin", desc := "(II)V" } : Jvm.MethodName)) ∈ tg := tgT 498 rfl rfl
set_option maxRecDepth 100000 in
theorem tw_499 : (Jvm.Cond.methodLink "BakeHouse$Levain" (25 : Nat) ({ cls := "BakeHouse$Sour", name := "doRest", desc := "(I)I" } : Jvm.MethodName)) ∈ tg := tgT 499 rfl rfl
set_option maxRecDepth 100000 in
theorem tw_500 : (Jvm.Cond.instanceMethod ({ cls := "BakeHouse$Sour", name := "doRest", desc := "(I)I" } : Jvm.MethodName)) ∈ tg := tgT 500 rfl rfl
set_option maxRecDepth 100000 in
theorem tw_501 : (Jvm.Cond.code ({ cls := "BakeHouse$Sour", name := "doRest", desc := "(I)I" } : Jvm.MethodName) prog_10_method_2_code (2 : Nat) (Option.some Jvm.ClassFile.FieldType.int)) ∈ tg := tgT 501 rfl rfl
set_option maxRecDepth 100000 in
theorem tw_502 : (Jvm.Cond.methodLink "BakeHouse$Sour" (25 : Nat) ({ cls := "BakeHouse$Rye", name := "doRest", desc := "(I)I" } : Jvm.MethodName)) ∈ tg := tgT 502 rfl rfl
set_option maxRecDepth 100000 in
theorem tw_503 : (Jvm.Cond.instanceMethod ({ cls := "BakeHouse$Rye", name := "doRest", desc := "(I)I" } : Jvm.MethodName)) ∈ tg := tgT 503 rfl rfl
set_option maxRecDepth 100000 in
theorem tw_504 : (Jvm.Cond.code ({ cls := "BakeHouse$Rye", name := "doRest", desc := "(I)I" } : Jvm.MethodName) prog_8_method_2_code (2 : Nat) (Option.some Jvm.ClassFile.FieldType.int)) ∈ tg := tgT 504 rfl rfl
set_option maxRecDepth 100000 in
theorem tw_505 : (Jvm.Cond.methodLink "BakeHouse$Rye" (21 : Nat) ({ cls := "BakeHouse$Leavened", name := "doRest", desc := "(I)I" } : Jvm.MethodName)) ∈ tg := tgT 505 rfl rfl
set_option maxRecDepth 100000 in
theorem tw_506 : (Jvm.Cond.sameMethod "BakeHouse$Leavened" "BakeHouse$Dough" "doRest" "(I)I") ∈ tg := tgT 506 rfl rfl
set_option maxRecDepth 100000 in
theorem tw_507 : (Jvm.Cond.selects "BakeHouse$Rye" ({ cls := "BakeHouse$Dough", name := "doRest", desc := "(I)I" } : Jvm.MethodName) ({ cls := "BakeHouse$Rye", name := "doRest", desc := "(I)I" } : Jvm.MethodName)) ∈ tg := tgT 507 rfl rfl
set_option maxRecDepth 100000 in
theorem tw_508 : (Jvm.Cond.selects "BakeHouse$Sour" ({ cls := "BakeHouse$Dough", name := "doRest", desc := "(I)I" } : Jvm.MethodName) ({ cls := "BakeHouse$Sour", name := "doRest", desc := "(I)I" } : Jvm.MethodName)) ∈ tg := tgT 508 rfl rfl
set_option maxRecDepth 100000 in
theorem tw_509 : (Jvm.Cond.selects "BakeHouse$Sweet" ({ cls := "BakeHouse$Dough", name := "doRest", desc := "(I)I" } : Jvm.MethodName) ({ cls := "BakeHouse$Dough", name := "doRest", desc := "(I)I" } : Jvm.MethodName)) ∈ tg := tgT 509 rfl rfl
set_option maxRecDepth 100000 in
theorem tw_510 : (Jvm.Cond.code ({ cls := "BakeHouse$Dough", name := "doRest", desc := "(I)I" } : Jvm.MethodName) prog_4_method_2_code (2 : Nat) (Option.some Jvm.ClassFile.FieldType.int)) ∈ tg := tgT 510 rfl rfl
set_option maxRecDepth 100000 in
theorem tw_511 : (Jvm.Cond.methodLink "BakeHouse$Dough" (43 : Nat) ({ cls := "java/lang/Math", name := "min", desc := "(II)I" } : Jvm.MethodName)) ∈ tg := tgT 511 rfl rfl
set_option maxRecDepth 100000 in
theorem tw_512 : (Jvm.Cond.static ({ cls := "java/lang/Math", name := "min", desc := "(II)I" } : Jvm.MethodName)) ∈ tg := tgT 512 rfl rfl
set_option maxRecDepth 100000 in
theorem tw_513 : (Jvm.Cond.code ({ cls := "java/lang/Math", name := "min", desc := "(II)I" } : Jvm.MethodName) prog_19_method_69_code (2 : Nat) (Option.some Jvm.ClassFile.FieldType.int)) ∈ tg := tgT 513 rfl rfl
set_option maxRecDepth 100000 in
theorem tw_514 : (Jvm.Cond.methodLink "BakeHouseLaw" (95 : Nat) ({ cls := "BakeHouse", name := "at", desc := "(II)I" } : Jvm.MethodName)) ∈ tg := tgT 514 rfl rfl
set_option maxRecDepth 100000 in
theorem tw_515 : (Jvm.Cond.methodLink "BakeHouseLaw" (99 : Nat) ({ cls := "BakeHouse", name := "places", desc := "(I)I" } : Jvm.MethodName)) ∈ tg := tgT 515 rfl rfl
set_option maxRecDepth 100000 in
theorem tw_516 : (Jvm.Cond.instanceMethod ({ cls := "BakeHouse", name := "places", desc := "(I)I" } : Jvm.MethodName)) ∈ tg := tgT 516 rfl rfl
set_option maxRecDepth 100000 in
theorem tw_517 : (Jvm.Cond.selects "BakeHouse" ({ cls := "BakeHouse", name := "places", desc := "(I)I" } : Jvm.MethodName) ({ cls := "BakeHouse", name := "places", desc := "(I)I" } : Jvm.MethodName)) ∈ tg := tgT 517 rfl rfl
set_option maxRecDepth 100000 in
theorem tw_518 : (Jvm.Cond.code ({ cls := "BakeHouse", name := "places", desc := "(I)I" } : Jvm.MethodName) prog_1_method_15_code (3 : Nat) (Option.some Jvm.ClassFile.FieldType.int)) ∈ tg := tgT 518 rfl rfl
set_option maxRecDepth 100000 in
theorem tw_519 : (Jvm.Cond.methodLink "BakeHouseLaw" (103 : Nat) ({ cls := "BakeHouse", name := "tell", desc := "(II)I" } : Jvm.MethodName)) ∈ tg := tgT 519 rfl rfl
set_option maxRecDepth 100000 in
theorem tw_520 : (Jvm.Cond.instanceMethod ({ cls := "BakeHouse", name := "tell", desc := "(II)I" } : Jvm.MethodName)) ∈ tg := tgT 520 rfl rfl
set_option maxRecDepth 100000 in
theorem tw_521 : (Jvm.Cond.selects "BakeHouse" ({ cls := "BakeHouse", name := "tell", desc := "(II)I" } : Jvm.MethodName) ({ cls := "BakeHouse", name := "tell", desc := "(II)I" } : Jvm.MethodName)) ∈ tg := tgT 521 rfl rfl
set_option maxRecDepth 100000 in
theorem tw_522 : (Jvm.Cond.code ({ cls := "BakeHouse", name := "tell", desc := "(II)I" } : Jvm.MethodName) prog_1_method_16_code (4 : Nat) (Option.some Jvm.ClassFile.FieldType.int)) ∈ tg := tgT 522 rfl rfl
set_option maxRecDepth 100000 in
theorem tw_523 : (Jvm.Cond.methodLink "BakeHouseLaw" (107 : Nat) ({ cls := "BakeHouse", name := "book", desc := "(I)I" } : Jvm.MethodName)) ∈ tg := tgT 523 rfl rfl
set_option maxRecDepth 100000 in
theorem tw_524 : (Jvm.Cond.instanceMethod ({ cls := "BakeHouse", name := "book", desc := "(I)I" } : Jvm.MethodName)) ∈ tg := tgT 524 rfl rfl
set_option maxRecDepth 100000 in
theorem tw_525 : (Jvm.Cond.selects "BakeHouse" ({ cls := "BakeHouse", name := "book", desc := "(I)I" } : Jvm.MethodName) ({ cls := "BakeHouse", name := "book", desc := "(I)I" } : Jvm.MethodName)) ∈ tg := tgT 525 rfl rfl
set_option maxRecDepth 100000 in
theorem tw_526 : (Jvm.Cond.code ({ cls := "BakeHouse", name := "book", desc := "(I)I" } : Jvm.MethodName) prog_1_method_17_code (2 : Nat) (Option.some Jvm.ClassFile.FieldType.int)) ∈ tg := tgT 526 rfl rfl
set_option maxRecDepth 100000 in
theorem tw_527 : (Jvm.Cond.methodLink "BakeHouse" (130 : Nat) ({ cls := "BakeHouse$Book", name := "row", desc := "(I)I" } : Jvm.MethodName)) ∈ tg := tgT 527 rfl rfl
set_option maxRecDepth 100000 in
theorem tw_528 : (Jvm.Cond.instanceMethod ({ cls := "BakeHouse$Book", name := "row", desc := "(I)I" } : Jvm.MethodName)) ∈ tg := tgT 528 rfl rfl
set_option maxRecDepth 100000 in
theorem tw_529 : (Jvm.Cond.selects "BakeHouse$Book" ({ cls := "BakeHouse$Book", name := "row", desc := "(I)I" } : Jvm.MethodName) ({ cls := "BakeHouse$Book", name := "row", desc := "(I)I" } : Jvm.MethodName)) ∈ tg := tgT 529 rfl rfl
set_option maxRecDepth 100000 in
theorem tw_530 : (Jvm.Cond.code ({ cls := "BakeHouse$Book", name := "row", desc := "(I)I" } : Jvm.MethodName) prog_2_method_3_code (3 : Nat) (Option.some Jvm.ClassFile.FieldType.int)) ∈ tg := tgT 530 rfl rfl
set_option maxRecDepth 100000 in
theorem tw_532 : (Jvm.Cond.methodLink "BakeHouseLaw" (111 : Nat) ({ cls := "BakeHouse", name := "count", desc := "(I)I" } : Jvm.MethodName)) ∈ tg := tgT 532 rfl rfl
set_option maxRecDepth 100000 in
theorem tw_533 : (Jvm.Cond.instanceMethod ({ cls := "BakeHouse", name := "count", desc := "(I)I" } : Jvm.MethodName)) ∈ tg := tgT 533 rfl rfl
set_option maxRecDepth 100000 in
theorem tw_534 : (Jvm.Cond.selects "BakeHouse" ({ cls := "BakeHouse", name := "count", desc := "(I)I" } : Jvm.MethodName) ({ cls := "BakeHouse", name := "count", desc := "(I)I" } : Jvm.MethodName)) ∈ tg := tgT 534 rfl rfl
set_option maxRecDepth 100000 in
theorem tw_535 : (Jvm.Cond.code ({ cls := "BakeHouse", name := "count", desc := "(I)I" } : Jvm.MethodName) prog_1_method_18_code (2 : Nat) (Option.some Jvm.ClassFile.FieldType.int)) ∈ tg := tgT 535 rfl rfl
set_option maxRecDepth 100000 in
theorem tw_536 : (Jvm.Cond.methodLink "BakeHouseLaw" (48 : Nat) ({ cls := "BakeHouseLaw", name := "shelf", desc := "(LBakeHouse;II[J)I" } : Jvm.MethodName)) ∈ tg := tgT 536 rfl rfl
set_option maxRecDepth 100000 in
theorem tw_537 : (Jvm.Cond.static ({ cls := "BakeHouseLaw", name := "shelf", desc := "(LBakeHouse;II[J)I" } : Jvm.MethodName)) ∈ tg := tgT 537 rfl rfl
set_option maxRecDepth 100000 in
theorem tw_538 : (Jvm.Cond.codeWith ({ cls := "BakeHouseLaw", name := "shelf", desc := "(LBakeHouse;II[J)I" } : Jvm.MethodName) method_3_code (5 : Nat) (Option.some Jvm.ClassFile.FieldType.int) [((0 : Nat), (10 : Nat), (13 : Nat), (13 : Nat))]) ∈ tg := tgT 538 rfl rfl
set_option maxRecDepth 100000 in
theorem tw_539 : (Jvm.Cond.classLink "BakeHouseLaw" (13 : Nat) "java/lang/NegativeArraySizeException") ∈ tg := tgT 539 rfl rfl
set_option maxRecDepth 100000 in
theorem tw_540 : (Jvm.Cond.instantiable "java/lang/NegativeArraySizeException" (6 : Nat)) ∈ tg := tgT 540 rfl rfl
set_option maxRecDepth 100000 in
theorem tw_541 : (Jvm.Cond.instanceMethod ({ cls := "java/lang/NegativeArraySizeException", name := "<init>", desc := "(Ljava/lang/String;)V" } : Jvm.MethodName)) ∈ tg := tgT 541 rfl rfl
set_option maxRecDepth 100000 in
theorem tw_542 : (Jvm.Cond.code ({ cls := "java/lang/NegativeArraySizeException", name := "<init>", desc := "(Ljava/lang/String;)V" } : Jvm.MethodName) prog_20_method_2_code (2 : Nat) (Option.none : Option Jvm.ClassFile.FieldType)) ∈ tg := tgT 542 rfl rfl
set_option maxRecDepth 100000 in
theorem tw_543 : (Jvm.Cond.methodLink "java/lang/NegativeArraySizeException" (7 : Nat) ({ cls := "java/lang/RuntimeException", name := "<init>", desc := "(Ljava/lang/String;)V" } : Jvm.MethodName)) ∈ tg := tgT 543 rfl rfl
set_option maxRecDepth 100000 in
theorem tw_544 : (Jvm.Cond.lays "java/lang/NegativeArraySizeException" "java/lang/Throwable" "backtrace" "Ljava/lang/Object;") ∈ tg := tgT 544 rfl rfl
set_option maxRecDepth 100000 in
theorem tw_545 : (Jvm.Cond.lays "java/lang/NegativeArraySizeException" "java/lang/Throwable" "detailMessage" "Ljava/lang/String;") ∈ tg := tgT 545 rfl rfl
set_option maxRecDepth 100000 in
theorem tw_546 : (Jvm.Cond.lays "java/lang/NegativeArraySizeException" "java/lang/Throwable" "cause" "Ljava/lang/Throwable;") ∈ tg := tgT 546 rfl rfl
set_option maxRecDepth 100000 in
theorem tw_547 : (Jvm.Cond.lays "java/lang/NegativeArraySizeException" "java/lang/Throwable" "stackTrace" "[Ljava/lang/StackTraceElement;") ∈ tg := tgT 547 rfl rfl
set_option maxRecDepth 100000 in
theorem tw_548 : (Jvm.Cond.lays "java/lang/NegativeArraySizeException" "java/lang/Throwable" "depth" "I") ∈ tg := tgT 548 rfl rfl
set_option maxRecDepth 100000 in
theorem tw_549 : (Jvm.Cond.lays "java/lang/NegativeArraySizeException" "java/lang/Throwable" "suppressedExceptions" "Ljava/util/List;") ∈ tg := tgT 549 rfl rfl
set_option maxRecDepth 100000 in
theorem tw_550 : (Jvm.Cond.superclass "java/lang/NegativeArraySizeException" "java/lang/RuntimeException") ∈ tg := tgT 550 rfl rfl
set_option maxRecDepth 100000 in
theorem tw_552 : (Jvm.Cond.selects "java/lang/NegativeArraySizeException" ({ cls := "java/lang/Throwable", name := "fillInStackTrace", desc := "(I)Ljava/lang/Throwable;" } : Jvm.MethodName) ({ cls := "java/lang/Throwable", name := "fillInStackTrace", desc := "(I)Ljava/lang/Throwable;" } : Jvm.MethodName)) ∈ tg := tgT 552 rfl rfl
set_option maxRecDepth 100000 in
theorem tw_553 : (Jvm.Cond.instantiable "java/lang/String" (4 : Nat)) ∈ tg := tgT 553 rfl rfl
set_option maxRecDepth 100000 in
theorem tw_554 : (Jvm.Cond.laysFinal "java/lang/String" "java/lang/String" "value" "[B") ∈ tg := tgT 554 rfl rfl
set_option maxRecDepth 100000 in
theorem tw_555 : (Jvm.Cond.soleField "java/lang/String" "value") ∈ tg := tgT 555 rfl rfl
set_option maxRecDepth 100000 in
theorem tw_556 : (Jvm.Cond.laysFinal "java/lang/String" "java/lang/String" "coder" "B") ∈ tg := tgT 556 rfl rfl
set_option maxRecDepth 100000 in
theorem tw_557 : (Jvm.Cond.soleField "java/lang/String" "coder") ∈ tg := tgT 557 rfl rfl
set_option maxRecDepth 100000 in
theorem tw_558 : (Jvm.Cond.methodLink "BakeHouseLaw" (7 : Nat) ({ cls := "BakeHouse", name := "shelf", desc := "(II)I" } : Jvm.MethodName)) ∈ tg := tgT 558 rfl rfl
set_option maxRecDepth 100000 in
theorem tw_559 : (Jvm.Cond.instanceMethod ({ cls := "BakeHouse", name := "shelf", desc := "(II)I" } : Jvm.MethodName)) ∈ tg := tgT 559 rfl rfl
set_option maxRecDepth 100000 in
theorem tw_560 : (Jvm.Cond.selects "BakeHouse" ({ cls := "BakeHouse", name := "shelf", desc := "(II)I" } : Jvm.MethodName) ({ cls := "BakeHouse", name := "shelf", desc := "(II)I" } : Jvm.MethodName)) ∈ tg := tgT 560 rfl rfl
set_option maxRecDepth 100000 in
theorem tw_561 : (Jvm.Cond.code ({ cls := "BakeHouse", name := "shelf", desc := "(II)I" } : Jvm.MethodName) prog_1_method_3_code (4 : Nat) (Option.some Jvm.ClassFile.FieldType.int)) ∈ tg := tgT 561 rfl rfl
set_option maxRecDepth 100000 in
theorem tw_562 : (Jvm.Cond.classLink "BakeHouse" (45 : Nat) "java/lang/NegativeArraySizeException") ∈ tg := tgT 562 rfl rfl
set_option maxRecDepth 100000 in
theorem tw_564 : (Jvm.Cond.methodLink "BakeHouse" (49 : Nat) ({ cls := "java/lang/NegativeArraySizeException", name := "<init>", desc := "(Ljava/lang/String;)V" } : Jvm.MethodName)) ∈ tg := tgT 564 rfl rfl
set_option maxRecDepth 100000 in
theorem tw_565 : (Jvm.Cond.methodLink "BakeHouse" (52 : Nat) ({ cls := "BakeHouse$Shelf", name := "bringIn", desc := "(I)V" } : Jvm.MethodName)) ∈ tg := tgT 565 rfl rfl
set_option maxRecDepth 100000 in
theorem tw_566 : (Jvm.Cond.instanceMethod ({ cls := "BakeHouse$Shelf", name := "bringIn", desc := "(I)V" } : Jvm.MethodName)) ∈ tg := tgT 566 rfl rfl
set_option maxRecDepth 100000 in
theorem tw_567 : (Jvm.Cond.selects "BakeHouse$Shelf" ({ cls := "BakeHouse$Shelf", name := "bringIn", desc := "(I)V" } : Jvm.MethodName) ({ cls := "BakeHouse$Shelf", name := "bringIn", desc := "(I)V" } : Jvm.MethodName)) ∈ tg := tgT 567 rfl rfl
set_option maxRecDepth 100000 in
theorem tw_568 : (Jvm.Cond.code ({ cls := "BakeHouse$Shelf", name := "bringIn", desc := "(I)V" } : Jvm.MethodName) prog_9_method_3_code (3 : Nat) (Option.none : Option Jvm.ClassFile.FieldType)) ∈ tg := tgT 568 rfl rfl
set_option maxRecDepth 100000 in
theorem tw_569 : (Jvm.Cond.methodLink "BakeHouseLaw" (62 : Nat) ({ cls := "BakeHouseLaw", name := "rest", desc := "(LBakeHouse;II[J)I" } : Jvm.MethodName)) ∈ tg := tgT 569 rfl rfl
set_option maxRecDepth 100000 in
theorem tw_570 : (Jvm.Cond.static ({ cls := "BakeHouseLaw", name := "rest", desc := "(LBakeHouse;II[J)I" } : Jvm.MethodName)) ∈ tg := tgT 570 rfl rfl
set_option maxRecDepth 100000 in
theorem tw_571 : (Jvm.Cond.codeWith ({ cls := "BakeHouseLaw", name := "rest", desc := "(LBakeHouse;II[J)I" } : Jvm.MethodName) method_4_code (5 : Nat) (Option.some Jvm.ClassFile.FieldType.int) [((0 : Nat), (10 : Nat), (13 : Nat), (18 : Nat))]) ∈ tg := tgT 571 rfl rfl
set_option maxRecDepth 100000 in
theorem tw_572 : (Jvm.Cond.classLink "BakeHouseLaw" (18 : Nat) "java/lang/IllegalStateException") ∈ tg := tgT 572 rfl rfl
set_option maxRecDepth 100000 in
theorem tw_573 : (Jvm.Cond.methodLink "BakeHouseLaw" (15 : Nat) ({ cls := "BakeHouse", name := "rest", desc := "(II)I" } : Jvm.MethodName)) ∈ tg := tgT 573 rfl rfl
set_option maxRecDepth 100000 in
theorem tw_574 : (Jvm.Cond.instanceMethod ({ cls := "BakeHouse", name := "rest", desc := "(II)I" } : Jvm.MethodName)) ∈ tg := tgT 574 rfl rfl
set_option maxRecDepth 100000 in
theorem tw_575 : (Jvm.Cond.selects "BakeHouse" ({ cls := "BakeHouse", name := "rest", desc := "(II)I" } : Jvm.MethodName) ({ cls := "BakeHouse", name := "rest", desc := "(II)I" } : Jvm.MethodName)) ∈ tg := tgT 575 rfl rfl
set_option maxRecDepth 100000 in
theorem tw_576 : (Jvm.Cond.code ({ cls := "BakeHouse", name := "rest", desc := "(II)I" } : Jvm.MethodName) prog_1_method_5_code (4 : Nat) (Option.some Jvm.ClassFile.FieldType.int)) ∈ tg := tgT 576 rfl rfl
set_option maxRecDepth 100000 in
theorem tw_577 : (Jvm.Cond.methodLink "BakeHouseLaw" (69 : Nat) ({ cls := "BakeHouseLaw", name := "lay", desc := "(LBakeHouse;III[J)I" } : Jvm.MethodName)) ∈ tg := tgT 577 rfl rfl
set_option maxRecDepth 100000 in
theorem tw_578 : (Jvm.Cond.static ({ cls := "BakeHouseLaw", name := "lay", desc := "(LBakeHouse;III[J)I" } : Jvm.MethodName)) ∈ tg := tgT 578 rfl rfl
set_option maxRecDepth 100000 in
theorem tw_579 : (Jvm.Cond.codeWith ({ cls := "BakeHouseLaw", name := "lay", desc := "(LBakeHouse;III[J)I" } : Jvm.MethodName) method_5_code (6 : Nat) (Option.some Jvm.ClassFile.FieldType.int) [((0 : Nat), (12 : Nat), (15 : Nat), (24 : Nat)), ((0 : Nat), (12 : Nat), (19 : Nat), (26 : Nat))]) ∈ tg := tgT 579 rfl rfl
set_option maxRecDepth 100000 in
theorem tw_580 : (Jvm.Cond.classLink "BakeHouseLaw" (24 : Nat) "java/lang/NullPointerException") ∈ tg := tgT 580 rfl rfl
set_option maxRecDepth 100000 in
theorem tw_581 : (Jvm.Cond.instanceMethod ({ cls := "java/lang/NullPointerException", name := "<init>", desc := "()V" } : Jvm.MethodName)) ∈ tg := tgT 581 rfl rfl
set_option maxRecDepth 100000 in
theorem tw_582 : (Jvm.Cond.code ({ cls := "java/lang/NullPointerException", name := "<init>", desc := "()V" } : Jvm.MethodName) prog_21_method_1_code (1 : Nat) (Option.none : Option Jvm.ClassFile.FieldType)) ∈ tg := tgT 582 rfl rfl
set_option maxRecDepth 100000 in
theorem tw_583 : (Jvm.Cond.methodLink "java/lang/NullPointerException" (1 : Nat) ({ cls := "java/lang/RuntimeException", name := "<init>", desc := "()V" } : Jvm.MethodName)) ∈ tg := tgT 583 rfl rfl
set_option maxRecDepth 100000 in
theorem tw_584 : (Jvm.Cond.instanceMethod ({ cls := "java/lang/RuntimeException", name := "<init>", desc := "()V" } : Jvm.MethodName)) ∈ tg := tgT 584 rfl rfl
set_option maxRecDepth 100000 in
theorem tw_585 : (Jvm.Cond.code ({ cls := "java/lang/RuntimeException", name := "<init>", desc := "()V" } : Jvm.MethodName) prog_22_method_1_code (1 : Nat) (Option.none : Option Jvm.ClassFile.FieldType)) ∈ tg := tgT 585 rfl rfl
set_option maxRecDepth 100000 in
theorem tw_586 : (Jvm.Cond.methodLink "java/lang/RuntimeException" (1 : Nat) ({ cls := "java/lang/Exception", name := "<init>", desc := "()V" } : Jvm.MethodName)) ∈ tg := tgT 586 rfl rfl
set_option maxRecDepth 100000 in
theorem tw_587 : (Jvm.Cond.instanceMethod ({ cls := "java/lang/Exception", name := "<init>", desc := "()V" } : Jvm.MethodName)) ∈ tg := tgT 587 rfl rfl
set_option maxRecDepth 100000 in
theorem tw_588 : (Jvm.Cond.code ({ cls := "java/lang/Exception", name := "<init>", desc := "()V" } : Jvm.MethodName) prog_16_method_1_code (1 : Nat) (Option.none : Option Jvm.ClassFile.FieldType)) ∈ tg := tgT 588 rfl rfl
set_option maxRecDepth 100000 in
theorem tw_589 : (Jvm.Cond.methodLink "java/lang/Exception" (1 : Nat) ({ cls := "java/lang/Throwable", name := "<init>", desc := "()V" } : Jvm.MethodName)) ∈ tg := tgT 589 rfl rfl
set_option maxRecDepth 100000 in
theorem tw_590 : (Jvm.Cond.fieldLink "java/lang/NullPointerException" (10 : Nat) "java/lang/NullPointerException" "extendedMessageState" "I") ∈ tg := tgT 590 rfl rfl
set_option maxRecDepth 100000 in
theorem tw_591 : (Jvm.Cond.fieldLink "java/lang/NullPointerException" (20 : Nat) "java/lang/NullPointerException" "extendedMessage" "Ljava/lang/String;") ∈ tg := tgT 591 rfl rfl
set_option maxRecDepth 100000 in
theorem tw_592 : (Jvm.Cond.lays "java/lang/NullPointerException" "java/lang/NullPointerException" "extendedMessageState" "I") ∈ tg := tgT 592 rfl rfl
set_option maxRecDepth 100000 in
theorem tw_593 : (Jvm.Cond.soleField "java/lang/NullPointerException" "extendedMessageState") ∈ tg := tgT 593 rfl rfl
set_option maxRecDepth 100000 in
theorem tw_594 : (Jvm.Cond.lays "java/lang/NullPointerException" "java/lang/NullPointerException" "extendedMessage" "Ljava/lang/String;") ∈ tg := tgT 594 rfl rfl
set_option maxRecDepth 100000 in
theorem tw_595 : (Jvm.Cond.soleField "java/lang/NullPointerException" "extendedMessage") ∈ tg := tgT 595 rfl rfl
set_option maxRecDepth 100000 in
theorem tw_596 : (Jvm.Cond.lays "java/lang/NullPointerException" "java/lang/Throwable" "backtrace" "Ljava/lang/Object;") ∈ tg := tgT 596 rfl rfl
set_option maxRecDepth 100000 in
theorem tw_597 : (Jvm.Cond.lays "java/lang/NullPointerException" "java/lang/Throwable" "detailMessage" "Ljava/lang/String;") ∈ tg := tgT 597 rfl rfl
set_option maxRecDepth 100000 in
theorem tw_598 : (Jvm.Cond.lays "java/lang/NullPointerException" "java/lang/Throwable" "cause" "Ljava/lang/Throwable;") ∈ tg := tgT 598 rfl rfl
set_option maxRecDepth 100000 in
theorem tw_599 : (Jvm.Cond.lays "java/lang/NullPointerException" "java/lang/Throwable" "stackTrace" "[Ljava/lang/StackTraceElement;") ∈ tg := tgT 599 rfl rfl
set_option maxRecDepth 100000 in
theorem tw_600 : (Jvm.Cond.lays "java/lang/NullPointerException" "java/lang/Throwable" "depth" "I") ∈ tg := tgT 600 rfl rfl
set_option maxRecDepth 100000 in
theorem tw_601 : (Jvm.Cond.lays "java/lang/NullPointerException" "java/lang/Throwable" "suppressedExceptions" "Ljava/util/List;") ∈ tg := tgT 601 rfl rfl
set_option maxRecDepth 100000 in
theorem tw_602 : (Jvm.Cond.superclass "java/lang/NullPointerException" "java/lang/RuntimeException") ∈ tg := tgT 602 rfl rfl
set_option maxRecDepth 100000 in
theorem tw_604 : (Jvm.Cond.selects "java/lang/NullPointerException" ({ cls := "java/lang/Throwable", name := "fillInStackTrace", desc := "(I)Ljava/lang/Throwable;" } : Jvm.MethodName) ({ cls := "java/lang/Throwable", name := "fillInStackTrace", desc := "(I)Ljava/lang/Throwable;" } : Jvm.MethodName)) ∈ tg := tgT 604 rfl rfl
set_option maxRecDepth 100000 in
theorem tw_606 : (Jvm.Cond.classLink "BakeHouseLaw" (26 : Nat) "java/lang/ArrayIndexOutOfBoundsException") ∈ tg := tgT 606 rfl rfl
set_option maxRecDepth 100000 in
theorem tw_607 : (Jvm.Cond.instantiable "java/lang/ArrayIndexOutOfBoundsException" (6 : Nat)) ∈ tg := tgT 607 rfl rfl
set_option maxRecDepth 100000 in
theorem tw_608 : (Jvm.Cond.instanceMethod ({ cls := "java/lang/ArrayIndexOutOfBoundsException", name := "<init>", desc := "(Ljava/lang/String;)V" } : Jvm.MethodName)) ∈ tg := tgT 608 rfl rfl
set_option maxRecDepth 100000 in
theorem tw_609 : (Jvm.Cond.code ({ cls := "java/lang/ArrayIndexOutOfBoundsException", name := "<init>", desc := "(Ljava/lang/String;)V" } : Jvm.MethodName) prog_15_method_2_code (2 : Nat) (Option.none : Option Jvm.ClassFile.FieldType)) ∈ tg := tgT 609 rfl rfl
set_option maxRecDepth 100000 in
theorem tw_610 : (Jvm.Cond.methodLink "java/lang/ArrayIndexOutOfBoundsException" (7 : Nat) ({ cls := "java/lang/IndexOutOfBoundsException", name := "<init>", desc := "(Ljava/lang/String;)V" } : Jvm.MethodName)) ∈ tg := tgT 610 rfl rfl
set_option maxRecDepth 100000 in
theorem tw_611 : (Jvm.Cond.instanceMethod ({ cls := "java/lang/IndexOutOfBoundsException", name := "<init>", desc := "(Ljava/lang/String;)V" } : Jvm.MethodName)) ∈ tg := tgT 611 rfl rfl
set_option maxRecDepth 100000 in
theorem tw_612 : (Jvm.Cond.code ({ cls := "java/lang/IndexOutOfBoundsException", name := "<init>", desc := "(Ljava/lang/String;)V" } : Jvm.MethodName) prog_18_method_2_code (2 : Nat) (Option.none : Option Jvm.ClassFile.FieldType)) ∈ tg := tgT 612 rfl rfl
set_option maxRecDepth 100000 in
theorem tw_613 : (Jvm.Cond.methodLink "java/lang/IndexOutOfBoundsException" (7 : Nat) ({ cls := "java/lang/RuntimeException", name := "<init>", desc := "(Ljava/lang/String;)V" } : Jvm.MethodName)) ∈ tg := tgT 613 rfl rfl
set_option maxRecDepth 100000 in
theorem tw_614 : (Jvm.Cond.lays "java/lang/ArrayIndexOutOfBoundsException" "java/lang/Throwable" "backtrace" "Ljava/lang/Object;") ∈ tg := tgT 614 rfl rfl
set_option maxRecDepth 100000 in
theorem tw_615 : (Jvm.Cond.lays "java/lang/ArrayIndexOutOfBoundsException" "java/lang/Throwable" "detailMessage" "Ljava/lang/String;") ∈ tg := tgT 615 rfl rfl
set_option maxRecDepth 100000 in
theorem tw_616 : (Jvm.Cond.lays "java/lang/ArrayIndexOutOfBoundsException" "java/lang/Throwable" "cause" "Ljava/lang/Throwable;") ∈ tg := tgT 616 rfl rfl
set_option maxRecDepth 100000 in
theorem tw_617 : (Jvm.Cond.lays "java/lang/ArrayIndexOutOfBoundsException" "java/lang/Throwable" "stackTrace" "[Ljava/lang/StackTraceElement;") ∈ tg := tgT 617 rfl rfl
set_option maxRecDepth 100000 in
theorem tw_618 : (Jvm.Cond.lays "java/lang/ArrayIndexOutOfBoundsException" "java/lang/Throwable" "depth" "I") ∈ tg := tgT 618 rfl rfl
set_option maxRecDepth 100000 in
theorem tw_619 : (Jvm.Cond.lays "java/lang/ArrayIndexOutOfBoundsException" "java/lang/Throwable" "suppressedExceptions" "Ljava/util/List;") ∈ tg := tgT 619 rfl rfl
set_option maxRecDepth 100000 in
theorem tw_620 : (Jvm.Cond.superclass "java/lang/ArrayIndexOutOfBoundsException" "java/lang/IndexOutOfBoundsException") ∈ tg := tgT 620 rfl rfl
set_option maxRecDepth 100000 in
theorem tw_624 : (Jvm.Cond.selects "java/lang/ArrayIndexOutOfBoundsException" ({ cls := "java/lang/Throwable", name := "fillInStackTrace", desc := "(I)Ljava/lang/Throwable;" } : Jvm.MethodName) ({ cls := "java/lang/Throwable", name := "fillInStackTrace", desc := "(I)Ljava/lang/Throwable;" } : Jvm.MethodName)) ∈ tg := tgT 624 rfl rfl
set_option maxRecDepth 100000 in
theorem tw_625 : (Jvm.Cond.methodLink "BakeHouseLaw" (20 : Nat) ({ cls := "BakeHouse", name := "lay", desc := "(III)I" } : Jvm.MethodName)) ∈ tg := tgT 625 rfl rfl
set_option maxRecDepth 100000 in
theorem tw_626 : (Jvm.Cond.instanceMethod ({ cls := "BakeHouse", name := "lay", desc := "(III)I" } : Jvm.MethodName)) ∈ tg := tgT 626 rfl rfl
set_option maxRecDepth 100000 in
theorem tw_627 : (Jvm.Cond.selects "BakeHouse" ({ cls := "BakeHouse", name := "lay", desc := "(III)I" } : Jvm.MethodName) ({ cls := "BakeHouse", name := "lay", desc := "(III)I" } : Jvm.MethodName)) ∈ tg := tgT 627 rfl rfl
set_option maxRecDepth 100000 in
theorem tw_628 : (Jvm.Cond.code ({ cls := "BakeHouse", name := "lay", desc := "(III)I" } : Jvm.MethodName) prog_1_method_7_code (6 : Nat) (Option.some Jvm.ClassFile.FieldType.int)) ∈ tg := tgT 628 rfl rfl
set_option maxRecDepth 100000 in
theorem tw_629 : (Jvm.Cond.methodLink "BakeHouse" (77 : Nat) ({ cls := "BakeHouse$Dough", name := "doLay", desc := "(LBakeHouse$Shelf;I)V" } : Jvm.MethodName)) ∈ tg := tgT 629 rfl rfl
set_option maxRecDepth 100000 in
theorem tw_630 : (Jvm.Cond.instanceMethod ({ cls := "BakeHouse$Dough", name := "doLay", desc := "(LBakeHouse$Shelf;I)V" } : Jvm.MethodName)) ∈ tg := tgT 630 rfl rfl
set_option maxRecDepth 100000 in
theorem tw_631 : (Jvm.Cond.selects "BakeHouse$Dough" ({ cls := "BakeHouse$Dough", name := "doLay", desc := "(LBakeHouse$Shelf;I)V" } : Jvm.MethodName) ({ cls := "BakeHouse$Dough", name := "doLay", desc := "(LBakeHouse$Shelf;I)V" } : Jvm.MethodName)) ∈ tg := tgT 631 rfl rfl
set_option maxRecDepth 100000 in
theorem tw_632 : (Jvm.Cond.sameMethod "BakeHouse$Dough" "BakeHouse$Dough" "doLay" "(LBakeHouse$Shelf;I)V") ∈ tg := tgT 632 rfl rfl
set_option maxRecDepth 100000 in
theorem tw_633 : (Jvm.Cond.selects "BakeHouse$Brioche" ({ cls := "BakeHouse$Dough", name := "doLay", desc := "(LBakeHouse$Shelf;I)V" } : Jvm.MethodName) ({ cls := "BakeHouse$Brioche", name := "doLay", desc := "(LBakeHouse$Shelf;I)V" } : Jvm.MethodName)) ∈ tg := tgT 633 rfl rfl
set_option maxRecDepth 100000 in
theorem tw_634 : (Jvm.Cond.instanceMethod ({ cls := "BakeHouse$Brioche", name := "doLay", desc := "(LBakeHouse$Shelf;I)V" } : Jvm.MethodName)) ∈ tg := tgT 634 rfl rfl
set_option maxRecDepth 100000 in
theorem tw_635 : (Jvm.Cond.code ({ cls := "BakeHouse$Brioche", name := "doLay", desc := "(LBakeHouse$Shelf;I)V" } : Jvm.MethodName) prog_3_method_3_code (3 : Nat) (Option.none : Option Jvm.ClassFile.FieldType)) ∈ tg := tgT 635 rfl rfl
set_option maxRecDepth 100000 in
theorem tw_636 : (Jvm.Cond.methodLink "BakeHouse$Brioche" (39 : Nat) ({ cls := "BakeHouse$Sweet", name := "doLay", desc := "(LBakeHouse$Shelf;I)V" } : Jvm.MethodName)) ∈ tg := tgT 636 rfl rfl
set_option maxRecDepth 100000 in
theorem tw_637 : (Jvm.Cond.sameMethod "BakeHouse$Sweet" "BakeHouse$Dough" "doLay" "(LBakeHouse$Shelf;I)V") ∈ tg := tgT 637 rfl rfl
set_option maxRecDepth 100000 in
theorem tw_639 : (Jvm.Cond.selects "BakeHouse$Flat" ({ cls := "BakeHouse$Dough", name := "doLay", desc := "(LBakeHouse$Shelf;I)V" } : Jvm.MethodName) ({ cls := "BakeHouse$Flat", name := "doLay", desc := "(LBakeHouse$Shelf;I)V" } : Jvm.MethodName)) ∈ tg := tgT 639 rfl rfl
set_option maxRecDepth 100000 in
theorem tw_640 : (Jvm.Cond.instanceMethod ({ cls := "BakeHouse$Flat", name := "doLay", desc := "(LBakeHouse$Shelf;I)V" } : Jvm.MethodName)) ∈ tg := tgT 640 rfl rfl
set_option maxRecDepth 100000 in
theorem tw_641 : (Jvm.Cond.code ({ cls := "BakeHouse$Flat", name := "doLay", desc := "(LBakeHouse$Shelf;I)V" } : Jvm.MethodName) prog_5_method_3_code (3 : Nat) (Option.none : Option Jvm.ClassFile.FieldType)) ∈ tg := tgT 641 rfl rfl
set_option maxRecDepth 100000 in
theorem tw_642 : (Jvm.Cond.methodLink "BakeHouse$Flat" (25 : Nat) ({ cls := "BakeHouse$Dough", name := "doLay", desc := "(LBakeHouse$Shelf;I)V" } : Jvm.MethodName)) ∈ tg := tgT 642 rfl rfl
set_option maxRecDepth 100000 in
theorem tw_643 : (Jvm.Cond.selects "BakeHouse$Leavened" ({ cls := "BakeHouse$Dough", name := "doLay", desc := "(LBakeHouse$Shelf;I)V" } : Jvm.MethodName) ({ cls := "BakeHouse$Dough", name := "doLay", desc := "(LBakeHouse$Shelf;I)V" } : Jvm.MethodName)) ∈ tg := tgT 643 rfl rfl
set_option maxRecDepth 100000 in
theorem tw_644 : (Jvm.Cond.selects "BakeHouse$Levain" ({ cls := "BakeHouse$Dough", name := "doLay", desc := "(LBakeHouse$Shelf;I)V" } : Jvm.MethodName) ({ cls := "BakeHouse$Levain", name := "doLay", desc := "(LBakeHouse$Shelf;I)V" } : Jvm.MethodName)) ∈ tg := tgT 644 rfl rfl
set_option maxRecDepth 100000 in
theorem tw_645 : (Jvm.Cond.instanceMethod ({ cls := "BakeHouse$Levain", name := "doLay", desc := "(LBakeHouse$Shelf;I)V" } : Jvm.MethodName)) ∈ tg := tgT 645 rfl rfl
set_option maxRecDepth 100000 in
theorem tw_646 : (Jvm.Cond.code ({ cls := "BakeHouse$Levain", name := "doLay", desc := "(LBakeHouse$Shelf;I)V" } : Jvm.MethodName) prog_7_method_3_code (3 : Nat) (Option.none : Option Jvm.ClassFile.FieldType)) ∈ tg := tgT 646 rfl rfl
set_option maxRecDepth 100000 in
theorem tw_647 : (Jvm.Cond.methodLink "BakeHouse$Levain" (29 : Nat) ({ cls := "BakeHouse$Levain", name := "doFold", desc := "()V" } : Jvm.MethodName)) ∈ tg := tgT 647 rfl rfl
set_option maxRecDepth 100000 in
theorem tw_648 : (Jvm.Cond.sameMethod "BakeHouse$Levain" "BakeHouse$Sour" "doFold" "()V") ∈ tg := tgT 648 rfl rfl
set_option maxRecDepth 100000 in
theorem tw_650 : (Jvm.Cond.selects "BakeHouse$Levain" ({ cls := "BakeHouse$Levain", name := "doFold", desc := "()V" } : Jvm.MethodName) ({ cls := "BakeHouse$Sour", name := "doFold", desc := "()V" } : Jvm.MethodName)) ∈ tg := tgT 650 rfl rfl
set_option maxRecDepth 100000 in
theorem tw_651 : (Jvm.Cond.methodLink "BakeHouse$Levain" (33 : Nat) ({ cls := "BakeHouse$Sour", name := "doLay", desc := "(LBakeHouse$Shelf;I)V" } : Jvm.MethodName)) ∈ tg := tgT 651 rfl rfl
set_option maxRecDepth 100000 in
theorem tw_652 : (Jvm.Cond.sameMethod "BakeHouse$Sour" "BakeHouse$Dough" "doLay" "(LBakeHouse$Shelf;I)V") ∈ tg := tgT 652 rfl rfl
set_option maxRecDepth 100000 in
theorem tw_653 : (Jvm.Cond.selects "BakeHouse$Rye" ({ cls := "BakeHouse$Dough", name := "doLay", desc := "(LBakeHouse$Shelf;I)V" } : Jvm.MethodName) ({ cls := "BakeHouse$Dough", name := "doLay", desc := "(LBakeHouse$Shelf;I)V" } : Jvm.MethodName)) ∈ tg := tgT 653 rfl rfl
set_option maxRecDepth 100000 in
theorem tw_654 : (Jvm.Cond.selects "BakeHouse$Sour" ({ cls := "BakeHouse$Dough", name := "doLay", desc := "(LBakeHouse$Shelf;I)V" } : Jvm.MethodName) ({ cls := "BakeHouse$Dough", name := "doLay", desc := "(LBakeHouse$Shelf;I)V" } : Jvm.MethodName)) ∈ tg := tgT 654 rfl rfl
set_option maxRecDepth 100000 in
theorem tw_655 : (Jvm.Cond.selects "BakeHouse$Sweet" ({ cls := "BakeHouse$Dough", name := "doLay", desc := "(LBakeHouse$Shelf;I)V" } : Jvm.MethodName) ({ cls := "BakeHouse$Dough", name := "doLay", desc := "(LBakeHouse$Shelf;I)V" } : Jvm.MethodName)) ∈ tg := tgT 655 rfl rfl
set_option maxRecDepth 100000 in
theorem tw_656 : (Jvm.Cond.code ({ cls := "BakeHouse$Dough", name := "doLay", desc := "(LBakeHouse$Shelf;I)V" } : Jvm.MethodName) prog_4_method_4_code (3 : Nat) (Option.none : Option Jvm.ClassFile.FieldType)) ∈ tg := tgT 656 rfl rfl
set_option maxRecDepth 100000 in
theorem tw_657 : (Jvm.Cond.methodLink "BakeHouse$Dough" (49 : Nat) ({ cls := "BakeHouse$Shelf", name := "isOut", desc := "()Z" } : Jvm.MethodName)) ∈ tg := tgT 657 rfl rfl
set_option maxRecDepth 100000 in
theorem tw_658 : (Jvm.Cond.classLink "BakeHouse$Dough" (58 : Nat) "java/lang/NullPointerException") ∈ tg := tgT 658 rfl rfl
set_option maxRecDepth 100000 in
theorem tw_660 : (Jvm.Cond.methodLink "BakeHouse$Dough" (62 : Nat) ({ cls := "java/lang/NullPointerException", name := "<init>", desc := "(Ljava/lang/String;)V" } : Jvm.MethodName)) ∈ tg := tgT 660 rfl rfl
set_option maxRecDepth 100000 in
theorem tw_661 : (Jvm.Cond.instanceMethod ({ cls := "java/lang/NullPointerException", name := "<init>", desc := "(Ljava/lang/String;)V" } : Jvm.MethodName)) ∈ tg := tgT 661 rfl rfl
set_option maxRecDepth 100000 in
theorem tw_662 : (Jvm.Cond.code ({ cls := "java/lang/NullPointerException", name := "<init>", desc := "(Ljava/lang/String;)V" } : Jvm.MethodName) prog_21_method_2_code (2 : Nat) (Option.none : Option Jvm.ClassFile.FieldType)) ∈ tg := tgT 662 rfl rfl
set_option maxRecDepth 100000 in
theorem tw_663 : (Jvm.Cond.methodLink "java/lang/NullPointerException" (7 : Nat) ({ cls := "java/lang/RuntimeException", name := "<init>", desc := "(Ljava/lang/String;)V" } : Jvm.MethodName)) ∈ tg := tgT 663 rfl rfl
set_option maxRecDepth 100000 in
theorem tw_664 : (Jvm.Cond.methodLink "BakeHouse$Dough" (65 : Nat) ({ cls := "BakeHouse$Shelf", name := "has", desc := "(I)Z" } : Jvm.MethodName)) ∈ tg := tgT 664 rfl rfl
set_option maxRecDepth 100000 in
theorem tw_665 : (Jvm.Cond.classLink "BakeHouse$Dough" (69 : Nat) "java/lang/ArrayIndexOutOfBoundsException") ∈ tg := tgT 665 rfl rfl
set_option maxRecDepth 100000 in
theorem tw_667 : (Jvm.Cond.methodLink "BakeHouse$Dough" (73 : Nat) ({ cls := "java/lang/ArrayIndexOutOfBoundsException", name := "<init>", desc := "(Ljava/lang/String;)V" } : Jvm.MethodName)) ∈ tg := tgT 667 rfl rfl
set_option maxRecDepth 100000 in
theorem tw_668 : (Jvm.Cond.methodLink "BakeHouse$Dough" (74 : Nat) ({ cls := "BakeHouse$Shelf", name := "put", desc := "(II)V" } : Jvm.MethodName)) ∈ tg := tgT 668 rfl rfl
set_option maxRecDepth 100000 in
theorem tw_669 : (Jvm.Cond.instanceMethod ({ cls := "BakeHouse$Shelf", name := "put", desc := "(II)V" } : Jvm.MethodName)) ∈ tg := tgT 669 rfl rfl
set_option maxRecDepth 100000 in
theorem tw_670 : (Jvm.Cond.selects "BakeHouse$Shelf" ({ cls := "BakeHouse$Shelf", name := "put", desc := "(II)V" } : Jvm.MethodName) ({ cls := "BakeHouse$Shelf", name := "put", desc := "(II)V" } : Jvm.MethodName)) ∈ tg := tgT 670 rfl rfl
set_option maxRecDepth 100000 in
theorem tw_671 : (Jvm.Cond.code ({ cls := "BakeHouse$Shelf", name := "put", desc := "(II)V" } : Jvm.MethodName) prog_9_method_7_code (3 : Nat) (Option.none : Option Jvm.ClassFile.FieldType)) ∈ tg := tgT 671 rfl rfl
set_option maxRecDepth 100000 in
theorem tw_672 : (Jvm.Cond.methodLink "BakeHouse" (81 : Nat) ({ cls := "BakeHouse", name := "placesOfLoaf", desc := "(I)I" } : Jvm.MethodName)) ∈ tg := tgT 672 rfl rfl
set_option maxRecDepth 100000 in
theorem tw_674 : (Jvm.Cond.instanceMethod ({ cls := "BakeHouse", name := "placesOfLoaf", desc := "(I)I" } : Jvm.MethodName)) ∈ tg := tgT 674 rfl rfl
set_option maxRecDepth 100000 in
theorem tw_675 : (Jvm.Cond.code ({ cls := "BakeHouse", name := "placesOfLoaf", desc := "(I)I" } : Jvm.MethodName) prog_1_method_23_code (5 : Nat) (Option.some Jvm.ClassFile.FieldType.int)) ∈ tg := tgT 675 rfl rfl
set_option maxRecDepth 100000 in
theorem tw_676 : (Jvm.Cond.methodLink "BakeHouseLaw" (77 : Nat) ({ cls := "BakeHouseLaw", name := "worth", desc := "(LBakeHouse;I[J)I" } : Jvm.MethodName)) ∈ tg := tgT 676 rfl rfl
set_option maxRecDepth 100000 in
theorem tw_677 : (Jvm.Cond.static ({ cls := "BakeHouseLaw", name := "worth", desc := "(LBakeHouse;I[J)I" } : Jvm.MethodName)) ∈ tg := tgT 677 rfl rfl
set_option maxRecDepth 100000 in
theorem tw_678 : (Jvm.Cond.codeWith ({ cls := "BakeHouseLaw", name := "worth", desc := "(LBakeHouse;I[J)I" } : Jvm.MethodName) method_6_code (4 : Nat) (Option.some Jvm.ClassFile.FieldType.int) [((0 : Nat), (9 : Nat), (12 : Nat), (32 : Nat))]) ∈ tg := tgT 678 rfl rfl
set_option maxRecDepth 100000 in
theorem tw_679 : (Jvm.Cond.classLink "BakeHouseLaw" (32 : Nat) "java/lang/ArithmeticException") ∈ tg := tgT 679 rfl rfl
set_option maxRecDepth 100000 in
theorem tw_680 : (Jvm.Cond.instantiable "java/lang/ArithmeticException" (6 : Nat)) ∈ tg := tgT 680 rfl rfl
set_option maxRecDepth 100000 in
theorem tw_681 : (Jvm.Cond.instanceMethod ({ cls := "java/lang/ArithmeticException", name := "<init>", desc := "(Ljava/lang/String;)V" } : Jvm.MethodName)) ∈ tg := tgT 681 rfl rfl
set_option maxRecDepth 100000 in
theorem tw_682 : (Jvm.Cond.code ({ cls := "java/lang/ArithmeticException", name := "<init>", desc := "(Ljava/lang/String;)V" } : Jvm.MethodName) prog_14_method_2_code (2 : Nat) (Option.none : Option Jvm.ClassFile.FieldType)) ∈ tg := tgT 682 rfl rfl
set_option maxRecDepth 100000 in
theorem tw_683 : (Jvm.Cond.methodLink "java/lang/ArithmeticException" (7 : Nat) ({ cls := "java/lang/RuntimeException", name := "<init>", desc := "(Ljava/lang/String;)V" } : Jvm.MethodName)) ∈ tg := tgT 683 rfl rfl
set_option maxRecDepth 100000 in
theorem tw_684 : (Jvm.Cond.lays "java/lang/ArithmeticException" "java/lang/Throwable" "backtrace" "Ljava/lang/Object;") ∈ tg := tgT 684 rfl rfl
set_option maxRecDepth 100000 in
theorem tw_685 : (Jvm.Cond.lays "java/lang/ArithmeticException" "java/lang/Throwable" "detailMessage" "Ljava/lang/String;") ∈ tg := tgT 685 rfl rfl
set_option maxRecDepth 100000 in
theorem tw_686 : (Jvm.Cond.lays "java/lang/ArithmeticException" "java/lang/Throwable" "cause" "Ljava/lang/Throwable;") ∈ tg := tgT 686 rfl rfl
set_option maxRecDepth 100000 in
theorem tw_687 : (Jvm.Cond.lays "java/lang/ArithmeticException" "java/lang/Throwable" "stackTrace" "[Ljava/lang/StackTraceElement;") ∈ tg := tgT 687 rfl rfl
set_option maxRecDepth 100000 in
theorem tw_688 : (Jvm.Cond.lays "java/lang/ArithmeticException" "java/lang/Throwable" "depth" "I") ∈ tg := tgT 688 rfl rfl
set_option maxRecDepth 100000 in
theorem tw_689 : (Jvm.Cond.lays "java/lang/ArithmeticException" "java/lang/Throwable" "suppressedExceptions" "Ljava/util/List;") ∈ tg := tgT 689 rfl rfl
set_option maxRecDepth 100000 in
theorem tw_690 : (Jvm.Cond.superclass "java/lang/ArithmeticException" "java/lang/RuntimeException") ∈ tg := tgT 690 rfl rfl
set_option maxRecDepth 100000 in
theorem tw_692 : (Jvm.Cond.selects "java/lang/ArithmeticException" ({ cls := "java/lang/Throwable", name := "fillInStackTrace", desc := "(I)Ljava/lang/Throwable;" } : Jvm.MethodName) ({ cls := "java/lang/Throwable", name := "fillInStackTrace", desc := "(I)Ljava/lang/Throwable;" } : Jvm.MethodName)) ∈ tg := tgT 692 rfl rfl
set_option maxRecDepth 100000 in
theorem tw_693 : (Jvm.Cond.methodLink "BakeHouseLaw" (28 : Nat) ({ cls := "BakeHouse", name := "worth", desc := "(I)I" } : Jvm.MethodName)) ∈ tg := tgT 693 rfl rfl
set_option maxRecDepth 100000 in
theorem tw_694 : (Jvm.Cond.instanceMethod ({ cls := "BakeHouse", name := "worth", desc := "(I)I" } : Jvm.MethodName)) ∈ tg := tgT 694 rfl rfl
set_option maxRecDepth 100000 in
theorem tw_695 : (Jvm.Cond.selects "BakeHouse" ({ cls := "BakeHouse", name := "worth", desc := "(I)I" } : Jvm.MethodName) ({ cls := "BakeHouse", name := "worth", desc := "(I)I" } : Jvm.MethodName)) ∈ tg := tgT 695 rfl rfl
set_option maxRecDepth 100000 in
theorem tw_696 : (Jvm.Cond.code ({ cls := "BakeHouse", name := "worth", desc := "(I)I" } : Jvm.MethodName) prog_1_method_9_code (3 : Nat) (Option.some Jvm.ClassFile.FieldType.int)) ∈ tg := tgT 696 rfl rfl
set_option maxRecDepth 100000 in
theorem tw_697 : (Jvm.Cond.methodLink "BakeHouse" (88 : Nat) ({ cls := "BakeHouse$Dough", name := "askWorth", desc := "()I" } : Jvm.MethodName)) ∈ tg := tgT 697 rfl rfl
set_option maxRecDepth 100000 in
theorem tw_698 : (Jvm.Cond.instanceMethod ({ cls := "BakeHouse$Dough", name := "askWorth", desc := "()I" } : Jvm.MethodName)) ∈ tg := tgT 698 rfl rfl
set_option maxRecDepth 100000 in
theorem tw_699 : (Jvm.Cond.selects "BakeHouse$Dough" ({ cls := "BakeHouse$Dough", name := "askWorth", desc := "()I" } : Jvm.MethodName) ({ cls := "BakeHouse$Dough", name := "askWorth", desc := "()I" } : Jvm.MethodName)) ∈ tg := tgT 699 rfl rfl
set_option maxRecDepth 100000 in
theorem tw_700 : (Jvm.Cond.sameMethod "BakeHouse$Dough" "BakeHouse$Dough" "askWorth" "()I") ∈ tg := tgT 700 rfl rfl
set_option maxRecDepth 100000 in
theorem tw_701 : (Jvm.Cond.selects "BakeHouse$Brioche" ({ cls := "BakeHouse$Dough", name := "askWorth", desc := "()I" } : Jvm.MethodName) ({ cls := "BakeHouse$Brioche", name := "askWorth", desc := "()I" } : Jvm.MethodName)) ∈ tg := tgT 701 rfl rfl
set_option maxRecDepth 100000 in
theorem tw_702 : (Jvm.Cond.instanceMethod ({ cls := "BakeHouse$Brioche", name := "askWorth", desc := "()I" } : Jvm.MethodName)) ∈ tg := tgT 702 rfl rfl
set_option maxRecDepth 100000 in
theorem tw_703 : (Jvm.Cond.code ({ cls := "BakeHouse$Brioche", name := "askWorth", desc := "()I" } : Jvm.MethodName) prog_3_method_4_code (1 : Nat) (Option.some Jvm.ClassFile.FieldType.int)) ∈ tg := tgT 703 rfl rfl
set_option maxRecDepth 100000 in
theorem tw_704 : (Jvm.Cond.methodLink "BakeHouse$Brioche" (43 : Nat) ({ cls := "BakeHouse$Sweet", name := "askWorth", desc := "()I" } : Jvm.MethodName)) ∈ tg := tgT 704 rfl rfl
set_option maxRecDepth 100000 in
theorem tw_705 : (Jvm.Cond.sameMethod "BakeHouse$Sweet" "BakeHouse$Dough" "askWorth" "()I") ∈ tg := tgT 705 rfl rfl
set_option maxRecDepth 100000 in
theorem tw_707 : (Jvm.Cond.selects "BakeHouse$Flat" ({ cls := "BakeHouse$Dough", name := "askWorth", desc := "()I" } : Jvm.MethodName) ({ cls := "BakeHouse$Flat", name := "askWorth", desc := "()I" } : Jvm.MethodName)) ∈ tg := tgT 707 rfl rfl
set_option maxRecDepth 100000 in
theorem tw_708 : (Jvm.Cond.instanceMethod ({ cls := "BakeHouse$Flat", name := "askWorth", desc := "()I" } : Jvm.MethodName)) ∈ tg := tgT 708 rfl rfl
set_option maxRecDepth 100000 in
theorem tw_709 : (Jvm.Cond.code ({ cls := "BakeHouse$Flat", name := "askWorth", desc := "()I" } : Jvm.MethodName) prog_5_method_5_code (1 : Nat) (Option.some Jvm.ClassFile.FieldType.int)) ∈ tg := tgT 709 rfl rfl
set_option maxRecDepth 100000 in
theorem tw_710 : (Jvm.Cond.classLink "BakeHouse$Flat" (39 : Nat) "java/lang/ArithmeticException") ∈ tg := tgT 710 rfl rfl
set_option maxRecDepth 100000 in
theorem tw_712 : (Jvm.Cond.methodLink "BakeHouse$Flat" (43 : Nat) ({ cls := "java/lang/ArithmeticException", name := "<init>", desc := "(Ljava/lang/String;)V" } : Jvm.MethodName)) ∈ tg := tgT 712 rfl rfl
set_option maxRecDepth 100000 in
theorem tw_713 : (Jvm.Cond.selects "BakeHouse$Leavened" ({ cls := "BakeHouse$Dough", name := "askWorth", desc := "()I" } : Jvm.MethodName) ({ cls := "BakeHouse$Dough", name := "askWorth", desc := "()I" } : Jvm.MethodName)) ∈ tg := tgT 713 rfl rfl
set_option maxRecDepth 100000 in
theorem tw_714 : (Jvm.Cond.selects "BakeHouse$Levain" ({ cls := "BakeHouse$Dough", name := "askWorth", desc := "()I" } : Jvm.MethodName) ({ cls := "BakeHouse$Levain", name := "askWorth", desc := "()I" } : Jvm.MethodName)) ∈ tg := tgT 714 rfl rfl
set_option maxRecDepth 100000 in
theorem tw_715 : (Jvm.Cond.instanceMethod ({ cls := "BakeHouse$Levain", name := "askWorth", desc := "()I" } : Jvm.MethodName)) ∈ tg := tgT 715 rfl rfl
set_option maxRecDepth 100000 in
theorem tw_716 : (Jvm.Cond.code ({ cls := "BakeHouse$Levain", name := "askWorth", desc := "()I" } : Jvm.MethodName) prog_7_method_4_code (2 : Nat) (Option.some Jvm.ClassFile.FieldType.int)) ∈ tg := tgT 716 rfl rfl
set_option maxRecDepth 100000 in
theorem tw_717 : (Jvm.Cond.methodLink "BakeHouse$Levain" (37 : Nat) ({ cls := "BakeHouse$Levain", name := "isDoneByCrust", desc := "()Z" } : Jvm.MethodName)) ∈ tg := tgT 717 rfl rfl
set_option maxRecDepth 100000 in
theorem tw_718 : (Jvm.Cond.sameMethod "BakeHouse$Levain" "BakeHouse$Dough" "isDoneByCrust" "()Z") ∈ tg := tgT 718 rfl rfl
set_option maxRecDepth 100000 in
theorem tw_720 : (Jvm.Cond.selects "BakeHouse$Levain" ({ cls := "BakeHouse$Levain", name := "isDoneByCrust", desc := "()Z" } : Jvm.MethodName) ({ cls := "BakeHouse$Dough", name := "isDoneByCrust", desc := "()Z" } : Jvm.MethodName)) ∈ tg := tgT 720 rfl rfl
set_option maxRecDepth 100000 in
theorem tw_721 : (Jvm.Cond.methodLink "BakeHouse$Levain" (41 : Nat) ({ cls := "BakeHouse$Sour", name := "askWorth", desc := "()I" } : Jvm.MethodName)) ∈ tg := tgT 721 rfl rfl
set_option maxRecDepth 100000 in
theorem tw_722 : (Jvm.Cond.instanceMethod ({ cls := "BakeHouse$Sour", name := "askWorth", desc := "()I" } : Jvm.MethodName)) ∈ tg := tgT 722 rfl rfl
set_option maxRecDepth 100000 in
theorem tw_723 : (Jvm.Cond.code ({ cls := "BakeHouse$Sour", name := "askWorth", desc := "()I" } : Jvm.MethodName) prog_10_method_5_code (1 : Nat) (Option.some Jvm.ClassFile.FieldType.int)) ∈ tg := tgT 723 rfl rfl
set_option maxRecDepth 100000 in
theorem tw_724 : (Jvm.Cond.methodLink "BakeHouse$Sour" (43 : Nat) ({ cls := "BakeHouse$Rye", name := "askWorth", desc := "()I" } : Jvm.MethodName)) ∈ tg := tgT 724 rfl rfl
set_option maxRecDepth 100000 in
theorem tw_725 : (Jvm.Cond.sameMethod "BakeHouse$Rye" "BakeHouse$Dough" "askWorth" "()I") ∈ tg := tgT 725 rfl rfl
set_option maxRecDepth 100000 in
theorem tw_726 : (Jvm.Cond.selects "BakeHouse$Rye" ({ cls := "BakeHouse$Dough", name := "askWorth", desc := "()I" } : Jvm.MethodName) ({ cls := "BakeHouse$Dough", name := "askWorth", desc := "()I" } : Jvm.MethodName)) ∈ tg := tgT 726 rfl rfl
set_option maxRecDepth 100000 in
theorem tw_727 : (Jvm.Cond.selects "BakeHouse$Sour" ({ cls := "BakeHouse$Dough", name := "askWorth", desc := "()I" } : Jvm.MethodName) ({ cls := "BakeHouse$Sour", name := "askWorth", desc := "()I" } : Jvm.MethodName)) ∈ tg := tgT 727 rfl rfl
set_option maxRecDepth 100000 in
theorem tw_728 : (Jvm.Cond.selects "BakeHouse$Sweet" ({ cls := "BakeHouse$Dough", name := "askWorth", desc := "()I" } : Jvm.MethodName) ({ cls := "BakeHouse$Dough", name := "askWorth", desc := "()I" } : Jvm.MethodName)) ∈ tg := tgT 728 rfl rfl
set_option maxRecDepth 100000 in
theorem tw_729 : (Jvm.Cond.code ({ cls := "BakeHouse$Dough", name := "askWorth", desc := "()I" } : Jvm.MethodName) prog_4_method_6_code (1 : Nat) (Option.some Jvm.ClassFile.FieldType.int)) ∈ tg := tgT 729 rfl rfl
set_option maxRecDepth 100000 in
theorem tw_730 : (Jvm.Cond.methodLink "BakeHouseLaw" (81 : Nat) ({ cls := "BakeHouseLaw", name := "cost", desc := "(LBakeHouse;I[J)I" } : Jvm.MethodName)) ∈ tg := tgT 730 rfl rfl
set_option maxRecDepth 100000 in
theorem tw_731 : (Jvm.Cond.static ({ cls := "BakeHouseLaw", name := "cost", desc := "(LBakeHouse;I[J)I" } : Jvm.MethodName)) ∈ tg := tgT 731 rfl rfl
set_option maxRecDepth 100000 in
theorem tw_732 : (Jvm.Cond.codeWith ({ cls := "BakeHouseLaw", name := "cost", desc := "(LBakeHouse;I[J)I" } : Jvm.MethodName) method_7_code (4 : Nat) (Option.some Jvm.ClassFile.FieldType.int) [((0 : Nat), (9 : Nat), (12 : Nat), (32 : Nat))]) ∈ tg := tgT 732 rfl rfl
set_option maxRecDepth 100000 in
theorem tw_733 : (Jvm.Cond.methodLink "BakeHouseLaw" (34 : Nat) ({ cls := "BakeHouse", name := "cost", desc := "(I)I" } : Jvm.MethodName)) ∈ tg := tgT 733 rfl rfl
set_option maxRecDepth 100000 in
theorem tw_734 : (Jvm.Cond.instanceMethod ({ cls := "BakeHouse", name := "cost", desc := "(I)I" } : Jvm.MethodName)) ∈ tg := tgT 734 rfl rfl
set_option maxRecDepth 100000 in
theorem tw_735 : (Jvm.Cond.selects "BakeHouse" ({ cls := "BakeHouse", name := "cost", desc := "(I)I" } : Jvm.MethodName) ({ cls := "BakeHouse", name := "cost", desc := "(I)I" } : Jvm.MethodName)) ∈ tg := tgT 735 rfl rfl
set_option maxRecDepth 100000 in
theorem tw_736 : (Jvm.Cond.code ({ cls := "BakeHouse", name := "cost", desc := "(I)I" } : Jvm.MethodName) prog_1_method_10_code (3 : Nat) (Option.some Jvm.ClassFile.FieldType.int)) ∈ tg := tgT 736 rfl rfl
set_option maxRecDepth 100000 in
theorem tw_737 : (Jvm.Cond.methodLink "BakeHouse" (92 : Nat) ({ cls := "BakeHouse", name := "isSold", desc := "(LBakeHouse$Dough;)Z" } : Jvm.MethodName)) ∈ tg := tgT 737 rfl rfl
set_option maxRecDepth 100000 in
theorem tw_738 : (Jvm.Cond.static ({ cls := "BakeHouse", name := "isSold", desc := "(LBakeHouse$Dough;)Z" } : Jvm.MethodName)) ∈ tg := tgT 738 rfl rfl
set_option maxRecDepth 100000 in
theorem tw_739 : (Jvm.Cond.code ({ cls := "BakeHouse", name := "isSold", desc := "(LBakeHouse$Dough;)Z" } : Jvm.MethodName) prog_1_method_26_code (1 : Nat) (Option.some Jvm.ClassFile.FieldType.boolean)) ∈ tg := tgT 739 rfl rfl
set_option maxRecDepth 100000 in
theorem tw_740 : (Jvm.Cond.methodLink "BakeHouse" (96 : Nat) ({ cls := "BakeHouse", name := "priceOf", desc := "(LBakeHouse$Dough;)I" } : Jvm.MethodName)) ∈ tg := tgT 740 rfl rfl
set_option maxRecDepth 100000 in
theorem tw_741 : (Jvm.Cond.static ({ cls := "BakeHouse", name := "priceOf", desc := "(LBakeHouse$Dough;)I" } : Jvm.MethodName)) ∈ tg := tgT 741 rfl rfl
set_option maxRecDepth 100000 in
theorem tw_742 : (Jvm.Cond.code ({ cls := "BakeHouse", name := "priceOf", desc := "(LBakeHouse$Dough;)I" } : Jvm.MethodName) prog_1_method_27_code (2 : Nat) (Option.some Jvm.ClassFile.FieldType.int)) ∈ tg := tgT 742 rfl rfl
set_option maxRecDepth 100000 in
theorem tw_743 : (Jvm.Cond.methodLink "BakeHouseLaw" (84 : Nat) ({ cls := "BakeHouseLaw", name := "change", desc := "(LBakeHouse;II[J)I" } : Jvm.MethodName)) ∈ tg := tgT 743 rfl rfl
set_option maxRecDepth 100000 in
theorem tw_744 : (Jvm.Cond.static ({ cls := "BakeHouseLaw", name := "change", desc := "(LBakeHouse;II[J)I" } : Jvm.MethodName)) ∈ tg := tgT 744 rfl rfl
set_option maxRecDepth 100000 in
theorem tw_745 : (Jvm.Cond.codeWith ({ cls := "BakeHouseLaw", name := "change", desc := "(LBakeHouse;II[J)I" } : Jvm.MethodName) method_8_code (5 : Nat) (Option.some Jvm.ClassFile.FieldType.int) [((0 : Nat), (10 : Nat), (13 : Nat), (32 : Nat))]) ∈ tg := tgT 745 rfl rfl
set_option maxRecDepth 100000 in
theorem tw_746 : (Jvm.Cond.methodLink "BakeHouseLaw" (37 : Nat) ({ cls := "BakeHouse", name := "change", desc := "(II)I" } : Jvm.MethodName)) ∈ tg := tgT 746 rfl rfl
set_option maxRecDepth 100000 in
theorem tw_747 : (Jvm.Cond.instanceMethod ({ cls := "BakeHouse", name := "change", desc := "(II)I" } : Jvm.MethodName)) ∈ tg := tgT 747 rfl rfl
set_option maxRecDepth 100000 in
theorem tw_748 : (Jvm.Cond.selects "BakeHouse" ({ cls := "BakeHouse", name := "change", desc := "(II)I" } : Jvm.MethodName) ({ cls := "BakeHouse", name := "change", desc := "(II)I" } : Jvm.MethodName)) ∈ tg := tgT 748 rfl rfl
set_option maxRecDepth 100000 in
theorem tw_749 : (Jvm.Cond.code ({ cls := "BakeHouse", name := "change", desc := "(II)I" } : Jvm.MethodName) prog_1_method_11_code (5 : Nat) (Option.some Jvm.ClassFile.FieldType.int)) ∈ tg := tgT 749 rfl rfl
set_option maxRecDepth 100000 in
theorem tw_750 : (Jvm.Cond.constant "BakeHouse" (100 : Nat) (100000 : Int32)) ∈ tg := tgT 750 rfl rfl
set_option maxRecDepth 100000 in
theorem tw_751 : (Jvm.Cond.classLink "BakeHouseLaw" (41 : Nat) "BakeHouseModel") ∈ tg := tgT 751 rfl rfl
set_option maxRecDepth 100000 in
theorem tw_752 : (Jvm.Cond.instantiable "BakeHouseModel" (17 : Nat)) ∈ tg := tgT 752 rfl rfl
set_option maxRecDepth 100000 in
theorem tw_753 : (Jvm.Cond.methodLink "BakeHouseLaw" (43 : Nat) ({ cls := "BakeHouseModel", name := "<init>", desc := "()V" } : Jvm.MethodName)) ∈ tg := tgT 753 rfl rfl
set_option maxRecDepth 100000 in
theorem tw_754 : (Jvm.Cond.instanceMethod ({ cls := "BakeHouseModel", name := "<init>", desc := "()V" } : Jvm.MethodName)) ∈ tg := tgT 754 rfl rfl
set_option maxRecDepth 100000 in
theorem tw_755 : (Jvm.Cond.code ({ cls := "BakeHouseModel", name := "<init>", desc := "()V" } : Jvm.MethodName) prog_13_method_1_code (2 : Nat) (Option.none : Option Jvm.ClassFile.FieldType)) ∈ tg := tgT 755 rfl rfl
set_option maxRecDepth 100000 in
theorem tw_756 : (Jvm.Cond.methodLink "BakeHouseModel" (1 : Nat) ({ cls := "java/lang/Object", name := "<init>", desc := "()V" } : Jvm.MethodName)) ∈ tg := tgT 756 rfl rfl
set_option maxRecDepth 100000 in
theorem tw_757 : (Jvm.Cond.fieldLink "BakeHouseModel" (37 : Nat) "BakeHouseModel" "thrown" "I") ∈ tg := tgT 757 rfl rfl
set_option maxRecDepth 100000 in
theorem tw_758 : (Jvm.Cond.fieldLink "BakeHouseModel" (41 : Nat) "BakeHouseModel" "many" "I") ∈ tg := tgT 758 rfl rfl
set_option maxRecDepth 100000 in
theorem tw_759 : (Jvm.Cond.fieldLink "BakeHouseModel" (7 : Nat) "BakeHouseModel" "kind" "[I") ∈ tg := tgT 759 rfl rfl
set_option maxRecDepth 100000 in
theorem tw_760 : (Jvm.Cond.fieldLink "BakeHouseModel" (13 : Nat) "BakeHouseModel" "mass" "[I") ∈ tg := tgT 760 rfl rfl
set_option maxRecDepth 100000 in
theorem tw_761 : (Jvm.Cond.fieldLink "BakeHouseModel" (16 : Nat) "BakeHouseModel" "air" "[I") ∈ tg := tgT 761 rfl rfl
set_option maxRecDepth 100000 in
theorem tw_762 : (Jvm.Cond.fieldLink "BakeHouseModel" (19 : Nat) "BakeHouseModel" "folds" "[I") ∈ tg := tgT 762 rfl rfl
set_option maxRecDepth 100000 in
theorem tw_763 : (Jvm.Cond.fieldLink "BakeHouseModel" (22 : Nat) "BakeHouseModel" "acid" "[I") ∈ tg := tgT 763 rfl rfl
set_option maxRecDepth 100000 in
theorem tw_764 : (Jvm.Cond.fieldLink "BakeHouseModel" (25 : Nat) "BakeHouseModel" "crust" "[I") ∈ tg := tgT 764 rfl rfl
set_option maxRecDepth 100000 in
theorem tw_765 : (Jvm.Cond.fieldLink "BakeHouseModel" (28 : Nat) "BakeHouseModel" "places" "[I") ∈ tg := tgT 765 rfl rfl
set_option maxRecDepth 100000 in
theorem tw_766 : (Jvm.Cond.fieldLink "BakeHouseModel" (31 : Nat) "BakeHouseModel" "lies" "[I") ∈ tg := tgT 766 rfl rfl
set_option maxRecDepth 100000 in
theorem tw_767 : (Jvm.Cond.fieldLink "BakeHouseModel" (34 : Nat) "BakeHouseModel" "book" "[I") ∈ tg := tgT 767 rfl rfl
set_option maxRecDepth 100000 in
theorem tw_768 : (Jvm.Cond.fieldLink "BakeHouseModel" (48 : Nat) "BakeHouseModel" "began" "I") ∈ tg := tgT 768 rfl rfl
set_option maxRecDepth 100000 in
theorem tw_769 : (Jvm.Cond.fieldLink "BakeHouseModel" (68 : Nat) "BakeHouseModel" "fallen" "I") ∈ tg := tgT 769 rfl rfl
set_option maxRecDepth 100000 in
theorem tw_770 : (Jvm.Cond.fieldLink "BakeHouseModel" (112 : Nat) "BakeHouseModel" "missed" "I") ∈ tg := tgT 770 rfl rfl
set_option maxRecDepth 100000 in
theorem tw_771 : (Jvm.Cond.fieldLink "BakeHouseModel" (92 : Nat) "BakeHouseModel" "divided" "I") ∈ tg := tgT 771 rfl rfl
set_option maxRecDepth 100000 in
theorem tw_772 : (Jvm.Cond.fieldLink "BakeHouseModel" (61 : Nat) "BakeHouseModel" "isFallen" "Z") ∈ tg := tgT 772 rfl rfl
set_option maxRecDepth 100000 in
theorem tw_773 : (Jvm.Cond.fieldLink "BakeHouseModel" (85 : Nat) "BakeHouseModel" "isDivided" "Z") ∈ tg := tgT 773 rfl rfl
set_option maxRecDepth 100000 in
theorem tw_774 : (Jvm.Cond.lays "BakeHouseModel" "BakeHouseModel" "thrown" "I") ∈ tg := tgT 774 rfl rfl
set_option maxRecDepth 100000 in
theorem tw_775 : (Jvm.Cond.soleField "BakeHouseModel" "thrown") ∈ tg := tgT 775 rfl rfl
set_option maxRecDepth 100000 in
theorem tw_776 : (Jvm.Cond.lays "BakeHouseModel" "BakeHouseModel" "many" "I") ∈ tg := tgT 776 rfl rfl
set_option maxRecDepth 100000 in
theorem tw_777 : (Jvm.Cond.soleField "BakeHouseModel" "many") ∈ tg := tgT 777 rfl rfl
set_option maxRecDepth 100000 in
theorem tw_778 : (Jvm.Cond.laysFinal "BakeHouseModel" "BakeHouseModel" "kind" "[I") ∈ tg := tgT 778 rfl rfl
set_option maxRecDepth 100000 in
theorem tw_779 : (Jvm.Cond.soleField "BakeHouseModel" "kind") ∈ tg := tgT 779 rfl rfl
set_option maxRecDepth 100000 in
theorem tw_780 : (Jvm.Cond.laysFinal "BakeHouseModel" "BakeHouseModel" "mass" "[I") ∈ tg := tgT 780 rfl rfl
set_option maxRecDepth 100000 in
theorem tw_781 : (Jvm.Cond.soleField "BakeHouseModel" "mass") ∈ tg := tgT 781 rfl rfl
set_option maxRecDepth 100000 in
theorem tw_782 : (Jvm.Cond.laysFinal "BakeHouseModel" "BakeHouseModel" "air" "[I") ∈ tg := tgT 782 rfl rfl
set_option maxRecDepth 100000 in
theorem tw_783 : (Jvm.Cond.soleField "BakeHouseModel" "air") ∈ tg := tgT 783 rfl rfl
set_option maxRecDepth 100000 in
theorem tw_784 : (Jvm.Cond.laysFinal "BakeHouseModel" "BakeHouseModel" "folds" "[I") ∈ tg := tgT 784 rfl rfl
set_option maxRecDepth 100000 in
theorem tw_785 : (Jvm.Cond.soleField "BakeHouseModel" "folds") ∈ tg := tgT 785 rfl rfl
set_option maxRecDepth 100000 in
theorem tw_786 : (Jvm.Cond.laysFinal "BakeHouseModel" "BakeHouseModel" "acid" "[I") ∈ tg := tgT 786 rfl rfl
set_option maxRecDepth 100000 in
theorem tw_787 : (Jvm.Cond.soleField "BakeHouseModel" "acid") ∈ tg := tgT 787 rfl rfl
set_option maxRecDepth 100000 in
theorem tw_788 : (Jvm.Cond.laysFinal "BakeHouseModel" "BakeHouseModel" "crust" "[I") ∈ tg := tgT 788 rfl rfl
set_option maxRecDepth 100000 in
theorem tw_789 : (Jvm.Cond.soleField "BakeHouseModel" "crust") ∈ tg := tgT 789 rfl rfl
set_option maxRecDepth 100000 in
theorem tw_790 : (Jvm.Cond.laysFinal "BakeHouseModel" "BakeHouseModel" "places" "[I") ∈ tg := tgT 790 rfl rfl
set_option maxRecDepth 100000 in
theorem tw_791 : (Jvm.Cond.soleField "BakeHouseModel" "places") ∈ tg := tgT 791 rfl rfl
set_option maxRecDepth 100000 in
theorem tw_792 : (Jvm.Cond.laysFinal "BakeHouseModel" "BakeHouseModel" "lies" "[I") ∈ tg := tgT 792 rfl rfl
set_option maxRecDepth 100000 in
theorem tw_793 : (Jvm.Cond.soleField "BakeHouseModel" "lies") ∈ tg := tgT 793 rfl rfl
set_option maxRecDepth 100000 in
theorem tw_794 : (Jvm.Cond.laysFinal "BakeHouseModel" "BakeHouseModel" "book" "[I") ∈ tg := tgT 794 rfl rfl
set_option maxRecDepth 100000 in
theorem tw_795 : (Jvm.Cond.soleField "BakeHouseModel" "book") ∈ tg := tgT 795 rfl rfl
set_option maxRecDepth 100000 in
theorem tw_796 : (Jvm.Cond.lays "BakeHouseModel" "BakeHouseModel" "began" "I") ∈ tg := tgT 796 rfl rfl
set_option maxRecDepth 100000 in
theorem tw_797 : (Jvm.Cond.soleField "BakeHouseModel" "began") ∈ tg := tgT 797 rfl rfl
set_option maxRecDepth 100000 in
theorem tw_798 : (Jvm.Cond.lays "BakeHouseModel" "BakeHouseModel" "fallen" "I") ∈ tg := tgT 798 rfl rfl
set_option maxRecDepth 100000 in
theorem tw_799 : (Jvm.Cond.soleField "BakeHouseModel" "fallen") ∈ tg := tgT 799 rfl rfl
set_option maxRecDepth 100000 in
theorem tw_800 : (Jvm.Cond.lays "BakeHouseModel" "BakeHouseModel" "missed" "I") ∈ tg := tgT 800 rfl rfl
set_option maxRecDepth 100000 in
theorem tw_801 : (Jvm.Cond.soleField "BakeHouseModel" "missed") ∈ tg := tgT 801 rfl rfl
set_option maxRecDepth 100000 in
theorem tw_802 : (Jvm.Cond.lays "BakeHouseModel" "BakeHouseModel" "divided" "I") ∈ tg := tgT 802 rfl rfl
set_option maxRecDepth 100000 in
theorem tw_803 : (Jvm.Cond.soleField "BakeHouseModel" "divided") ∈ tg := tgT 803 rfl rfl
set_option maxRecDepth 100000 in
theorem tw_804 : (Jvm.Cond.lays "BakeHouseModel" "BakeHouseModel" "isFallen" "Z") ∈ tg := tgT 804 rfl rfl
set_option maxRecDepth 100000 in
theorem tw_805 : (Jvm.Cond.soleField "BakeHouseModel" "isFallen") ∈ tg := tgT 805 rfl rfl
set_option maxRecDepth 100000 in
theorem tw_806 : (Jvm.Cond.lays "BakeHouseModel" "BakeHouseModel" "isDivided" "Z") ∈ tg := tgT 806 rfl rfl
set_option maxRecDepth 100000 in
theorem tw_807 : (Jvm.Cond.soleField "BakeHouseModel" "isDivided") ∈ tg := tgT 807 rfl rfl
set_option maxRecDepth 100000 in
theorem tw_808 : (Jvm.Cond.superclass "BakeHouseModel" "java/lang/Object") ∈ tg := tgT 808 rfl rfl
set_option maxRecDepth 100000 in
theorem tw_809 : (Jvm.Cond.methodLink "BakeHouseLaw" (54 : Nat) ({ cls := "BakeHouseModel", name := "thrown", desc := "()I" } : Jvm.MethodName)) ∈ tg := tgT 809 rfl rfl
set_option maxRecDepth 100000 in
theorem tw_810 : (Jvm.Cond.instanceMethod ({ cls := "BakeHouseModel", name := "thrown", desc := "()I" } : Jvm.MethodName)) ∈ tg := tgT 810 rfl rfl
set_option maxRecDepth 100000 in
theorem tw_811 : (Jvm.Cond.selects "BakeHouseModel" ({ cls := "BakeHouseModel", name := "thrown", desc := "()I" } : Jvm.MethodName) ({ cls := "BakeHouseModel", name := "thrown", desc := "()I" } : Jvm.MethodName)) ∈ tg := tgT 811 rfl rfl
set_option maxRecDepth 100000 in
theorem tw_812 : (Jvm.Cond.code ({ cls := "BakeHouseModel", name := "thrown", desc := "()I" } : Jvm.MethodName) prog_13_method_2_code (1 : Nat) (Option.some Jvm.ClassFile.FieldType.int)) ∈ tg := tgT 812 rfl rfl
set_option maxRecDepth 100000 in
theorem tw_813 : (Jvm.Cond.methodLink "BakeHouseLaw" (47 : Nat) ({ cls := "BakeHouseModel", name := "loaf", desc := "(II)I" } : Jvm.MethodName)) ∈ tg := tgT 813 rfl rfl
set_option maxRecDepth 100000 in
theorem tw_814 : (Jvm.Cond.instanceMethod ({ cls := "BakeHouseModel", name := "loaf", desc := "(II)I" } : Jvm.MethodName)) ∈ tg := tgT 814 rfl rfl
set_option maxRecDepth 100000 in
theorem tw_815 : (Jvm.Cond.selects "BakeHouseModel" ({ cls := "BakeHouseModel", name := "loaf", desc := "(II)I" } : Jvm.MethodName) ({ cls := "BakeHouseModel", name := "loaf", desc := "(II)I" } : Jvm.MethodName)) ∈ tg := tgT 815 rfl rfl
set_option maxRecDepth 100000 in
theorem tw_816 : (Jvm.Cond.code ({ cls := "BakeHouseModel", name := "loaf", desc := "(II)I" } : Jvm.MethodName) prog_13_method_21_code (3 : Nat) (Option.some Jvm.ClassFile.FieldType.int)) ∈ tg := tgT 816 rfl rfl
set_option maxRecDepth 100000 in
theorem tw_817 : (Jvm.Cond.methodLink "BakeHouseModel" (44 : Nat) ({ cls := "BakeHouseModel", name := "within", desc := "(III)Z" } : Jvm.MethodName)) ∈ tg := tgT 817 rfl rfl
set_option maxRecDepth 100000 in
theorem tw_818 : (Jvm.Cond.static ({ cls := "BakeHouseModel", name := "within", desc := "(III)Z" } : Jvm.MethodName)) ∈ tg := tgT 818 rfl rfl
set_option maxRecDepth 100000 in
theorem tw_819 : (Jvm.Cond.code ({ cls := "BakeHouseModel", name := "within", desc := "(III)Z" } : Jvm.MethodName) prog_13_method_3_code (3 : Nat) (Option.some Jvm.ClassFile.FieldType.boolean)) ∈ tg := tgT 819 rfl rfl
set_option maxRecDepth 100000 in
theorem tw_820 : (Jvm.Cond.methodLink "BakeHouseLaw" (53 : Nat) ({ cls := "BakeHouseModel", name := "shelf", desc := "(II)I" } : Jvm.MethodName)) ∈ tg := tgT 820 rfl rfl
set_option maxRecDepth 100000 in
theorem tw_821 : (Jvm.Cond.instanceMethod ({ cls := "BakeHouseModel", name := "shelf", desc := "(II)I" } : Jvm.MethodName)) ∈ tg := tgT 821 rfl rfl
set_option maxRecDepth 100000 in
theorem tw_822 : (Jvm.Cond.selects "BakeHouseModel" ({ cls := "BakeHouseModel", name := "shelf", desc := "(II)I" } : Jvm.MethodName) ({ cls := "BakeHouseModel", name := "shelf", desc := "(II)I" } : Jvm.MethodName)) ∈ tg := tgT 822 rfl rfl
set_option maxRecDepth 100000 in
theorem tw_823 : (Jvm.Cond.code ({ cls := "BakeHouseModel", name := "shelf", desc := "(II)I" } : Jvm.MethodName) prog_13_method_22_code (4 : Nat) (Option.some Jvm.ClassFile.FieldType.int)) ∈ tg := tgT 823 rfl rfl
set_option maxRecDepth 100000 in
theorem tw_824 : (Jvm.Cond.methodLink "BakeHouseModel" (98 : Nat) ({ cls := "BakeHouseModel", name := "isShelf", desc := "(I)Z" } : Jvm.MethodName)) ∈ tg := tgT 824 rfl rfl
set_option maxRecDepth 100000 in
theorem tw_825 : (Jvm.Cond.static ({ cls := "BakeHouseModel", name := "isShelf", desc := "(I)Z" } : Jvm.MethodName)) ∈ tg := tgT 825 rfl rfl
set_option maxRecDepth 100000 in
theorem tw_826 : (Jvm.Cond.code ({ cls := "BakeHouseModel", name := "isShelf", desc := "(I)Z" } : Jvm.MethodName) prog_13_method_5_code (1 : Nat) (Option.some Jvm.ClassFile.FieldType.boolean)) ∈ tg := tgT 826 rfl rfl
set_option maxRecDepth 100000 in
theorem tw_827 : (Jvm.Cond.methodLink "BakeHouseLaw" (61 : Nat) ({ cls := "BakeHouseModel", name := "out", desc := "(I)I" } : Jvm.MethodName)) ∈ tg := tgT 827 rfl rfl
set_option maxRecDepth 100000 in
theorem tw_828 : (Jvm.Cond.instanceMethod ({ cls := "BakeHouseModel", name := "out", desc := "(I)I" } : Jvm.MethodName)) ∈ tg := tgT 828 rfl rfl
set_option maxRecDepth 100000 in
theorem tw_829 : (Jvm.Cond.selects "BakeHouseModel" ({ cls := "BakeHouseModel", name := "out", desc := "(I)I" } : Jvm.MethodName) ({ cls := "BakeHouseModel", name := "out", desc := "(I)I" } : Jvm.MethodName)) ∈ tg := tgT 829 rfl rfl
set_option maxRecDepth 100000 in
theorem tw_830 : (Jvm.Cond.code ({ cls := "BakeHouseModel", name := "out", desc := "(I)I" } : Jvm.MethodName) prog_13_method_23_code (3 : Nat) (Option.some Jvm.ClassFile.FieldType.int)) ∈ tg := tgT 830 rfl rfl
set_option maxRecDepth 100000 in
theorem tw_831 : (Jvm.Cond.methodLink "BakeHouseLaw" (64 : Nat) ({ cls := "BakeHouseModel", name := "rest", desc := "(II)I" } : Jvm.MethodName)) ∈ tg := tgT 831 rfl rfl
set_option maxRecDepth 100000 in
theorem tw_832 : (Jvm.Cond.instanceMethod ({ cls := "BakeHouseModel", name := "rest", desc := "(II)I" } : Jvm.MethodName)) ∈ tg := tgT 832 rfl rfl
set_option maxRecDepth 100000 in
theorem tw_833 : (Jvm.Cond.selects "BakeHouseModel" ({ cls := "BakeHouseModel", name := "rest", desc := "(II)I" } : Jvm.MethodName) ({ cls := "BakeHouseModel", name := "rest", desc := "(II)I" } : Jvm.MethodName)) ∈ tg := tgT 833 rfl rfl
set_option maxRecDepth 100000 in
theorem tw_834 : (Jvm.Cond.code ({ cls := "BakeHouseModel", name := "rest", desc := "(II)I" } : Jvm.MethodName) prog_13_method_24_code (4 : Nat) (Option.some Jvm.ClassFile.FieldType.int)) ∈ tg := tgT 834 rfl rfl
set_option maxRecDepth 100000 in
theorem tw_835 : (Jvm.Cond.methodLink "BakeHouseModel" (102 : Nat) ({ cls := "BakeHouseModel", name := "isLoaf", desc := "(I)Z" } : Jvm.MethodName)) ∈ tg := tgT 835 rfl rfl
set_option maxRecDepth 100000 in
theorem tw_837 : (Jvm.Cond.instanceMethod ({ cls := "BakeHouseModel", name := "isLoaf", desc := "(I)Z" } : Jvm.MethodName)) ∈ tg := tgT 837 rfl rfl
set_option maxRecDepth 100000 in
theorem tw_838 : (Jvm.Cond.code ({ cls := "BakeHouseModel", name := "isLoaf", desc := "(I)Z" } : Jvm.MethodName) prog_13_method_4_code (2 : Nat) (Option.some Jvm.ClassFile.FieldType.boolean)) ∈ tg := tgT 838 rfl rfl
set_option maxRecDepth 100000 in
theorem tw_839 : (Jvm.Cond.methodLink "BakeHouseModel" (105 : Nat) ({ cls := "BakeHouseModel", name := "rests", desc := "(II)I" } : Jvm.MethodName)) ∈ tg := tgT 839 rfl rfl
set_option maxRecDepth 100000 in
theorem tw_841 : (Jvm.Cond.instanceMethod ({ cls := "BakeHouseModel", name := "rests", desc := "(II)I" } : Jvm.MethodName)) ∈ tg := tgT 841 rfl rfl
set_option maxRecDepth 100000 in
theorem tw_842 : (Jvm.Cond.code ({ cls := "BakeHouseModel", name := "rests", desc := "(II)I" } : Jvm.MethodName) prog_13_method_10_code (3 : Nat) (Option.some Jvm.ClassFile.FieldType.int)) ∈ tg := tgT 842 rfl rfl
set_option maxRecDepth 100000 in
theorem tw_843 : (Jvm.Cond.methodLink "BakeHouseModel" (58 : Nat) ({ cls := "BakeHouseModel", name := "ryeRest", desc := "(II)V" } : Jvm.MethodName)) ∈ tg := tgT 843 rfl rfl
set_option maxRecDepth 100000 in
theorem tw_845 : (Jvm.Cond.instanceMethod ({ cls := "BakeHouseModel", name := "ryeRest", desc := "(II)V" } : Jvm.MethodName)) ∈ tg := tgT 845 rfl rfl
set_option maxRecDepth 100000 in
theorem tw_846 : (Jvm.Cond.code ({ cls := "BakeHouseModel", name := "ryeRest", desc := "(II)V" } : Jvm.MethodName) prog_13_method_8_code (3 : Nat) (Option.none : Option Jvm.ClassFile.FieldType)) ∈ tg := tgT 846 rfl rfl
set_option maxRecDepth 100000 in
theorem tw_847 : (Jvm.Cond.methodLink "BakeHouseModel" (51 : Nat) ({ cls := "BakeHouseModel", name := "begin", desc := "(II)V" } : Jvm.MethodName)) ∈ tg := tgT 847 rfl rfl
set_option maxRecDepth 100000 in
theorem tw_849 : (Jvm.Cond.instanceMethod ({ cls := "BakeHouseModel", name := "begin", desc := "(II)V" } : Jvm.MethodName)) ∈ tg := tgT 849 rfl rfl
set_option maxRecDepth 100000 in
theorem tw_850 : (Jvm.Cond.code ({ cls := "BakeHouseModel", name := "begin", desc := "(II)V" } : Jvm.MethodName) prog_13_method_6_code (3 : Nat) (Option.none : Option Jvm.ClassFile.FieldType)) ∈ tg := tgT 850 rfl rfl
set_option maxRecDepth 100000 in
theorem tw_851 : (Jvm.Cond.methodLink "BakeHouseModel" (55 : Nat) ({ cls := "BakeHouseModel", name := "plainRest", desc := "(II)V" } : Jvm.MethodName)) ∈ tg := tgT 851 rfl rfl
set_option maxRecDepth 100000 in
theorem tw_853 : (Jvm.Cond.instanceMethod ({ cls := "BakeHouseModel", name := "plainRest", desc := "(II)V" } : Jvm.MethodName)) ∈ tg := tgT 853 rfl rfl
set_option maxRecDepth 100000 in
theorem tw_854 : (Jvm.Cond.code ({ cls := "BakeHouseModel", name := "plainRest", desc := "(II)V" } : Jvm.MethodName) prog_13_method_7_code (3 : Nat) (Option.none : Option Jvm.ClassFile.FieldType)) ∈ tg := tgT 854 rfl rfl
set_option maxRecDepth 100000 in
theorem tw_855 : (Jvm.Cond.methodLink "BakeHouseModel" (65 : Nat) ({ cls := "BakeHouseModel", name := "sourRest", desc := "(II)V" } : Jvm.MethodName)) ∈ tg := tgT 855 rfl rfl
set_option maxRecDepth 100000 in
theorem tw_857 : (Jvm.Cond.instanceMethod ({ cls := "BakeHouseModel", name := "sourRest", desc := "(II)V" } : Jvm.MethodName)) ∈ tg := tgT 857 rfl rfl
set_option maxRecDepth 100000 in
theorem tw_858 : (Jvm.Cond.code ({ cls := "BakeHouseModel", name := "sourRest", desc := "(II)V" } : Jvm.MethodName) prog_13_method_9_code (3 : Nat) (Option.none : Option Jvm.ClassFile.FieldType)) ∈ tg := tgT 858 rfl rfl
set_option maxRecDepth 100000 in
theorem tw_859 : (Jvm.Cond.methodLink "BakeHouseLaw" (68 : Nat) ({ cls := "BakeHouseModel", name := "fold", desc := "(I)I" } : Jvm.MethodName)) ∈ tg := tgT 859 rfl rfl
set_option maxRecDepth 100000 in
theorem tw_860 : (Jvm.Cond.instanceMethod ({ cls := "BakeHouseModel", name := "fold", desc := "(I)I" } : Jvm.MethodName)) ∈ tg := tgT 860 rfl rfl
set_option maxRecDepth 100000 in
theorem tw_861 : (Jvm.Cond.selects "BakeHouseModel" ({ cls := "BakeHouseModel", name := "fold", desc := "(I)I" } : Jvm.MethodName) ({ cls := "BakeHouseModel", name := "fold", desc := "(I)I" } : Jvm.MethodName)) ∈ tg := tgT 861 rfl rfl
set_option maxRecDepth 100000 in
theorem tw_862 : (Jvm.Cond.code ({ cls := "BakeHouseModel", name := "fold", desc := "(I)I" } : Jvm.MethodName) prog_13_method_25_code (2 : Nat) (Option.some Jvm.ClassFile.FieldType.int)) ∈ tg := tgT 862 rfl rfl
set_option maxRecDepth 100000 in
theorem tw_863 : (Jvm.Cond.methodLink "BakeHouseModel" (79 : Nat) ({ cls := "BakeHouseModel", name := "folds", desc := "(I)V" } : Jvm.MethodName)) ∈ tg := tgT 863 rfl rfl
set_option maxRecDepth 100000 in
theorem tw_865 : (Jvm.Cond.instanceMethod ({ cls := "BakeHouseModel", name := "folds", desc := "(I)V" } : Jvm.MethodName)) ∈ tg := tgT 865 rfl rfl
set_option maxRecDepth 100000 in
theorem tw_866 : (Jvm.Cond.code ({ cls := "BakeHouseModel", name := "folds", desc := "(I)V" } : Jvm.MethodName) prog_13_method_12_code (2 : Nat) (Option.none : Option Jvm.ClassFile.FieldType)) ∈ tg := tgT 866 rfl rfl
set_option maxRecDepth 100000 in
theorem tw_867 : (Jvm.Cond.methodLink "BakeHouseModel" (71 : Nat) ({ cls := "BakeHouseModel", name := "plainFold", desc := "(I)V" } : Jvm.MethodName)) ∈ tg := tgT 867 rfl rfl
set_option maxRecDepth 100000 in
theorem tw_869 : (Jvm.Cond.instanceMethod ({ cls := "BakeHouseModel", name := "plainFold", desc := "(I)V" } : Jvm.MethodName)) ∈ tg := tgT 869 rfl rfl
set_option maxRecDepth 100000 in
theorem tw_870 : (Jvm.Cond.code ({ cls := "BakeHouseModel", name := "plainFold", desc := "(I)V" } : Jvm.MethodName) prog_13_method_11_code (2 : Nat) (Option.none : Option Jvm.ClassFile.FieldType)) ∈ tg := tgT 870 rfl rfl
set_option maxRecDepth 100000 in
theorem tw_871 : (Jvm.Cond.methodLink "BakeHouseLaw" (72 : Nat) ({ cls := "BakeHouseModel", name := "lay", desc := "(III)I" } : Jvm.MethodName)) ∈ tg := tgT 871 rfl rfl
set_option maxRecDepth 100000 in
theorem tw_872 : (Jvm.Cond.instanceMethod ({ cls := "BakeHouseModel", name := "lay", desc := "(III)I" } : Jvm.MethodName)) ∈ tg := tgT 872 rfl rfl
set_option maxRecDepth 100000 in
theorem tw_873 : (Jvm.Cond.selects "BakeHouseModel" ({ cls := "BakeHouseModel", name := "lay", desc := "(III)I" } : Jvm.MethodName) ({ cls := "BakeHouseModel", name := "lay", desc := "(III)I" } : Jvm.MethodName)) ∈ tg := tgT 873 rfl rfl
set_option maxRecDepth 100000 in
theorem tw_874 : (Jvm.Cond.code ({ cls := "BakeHouseModel", name := "lay", desc := "(III)I" } : Jvm.MethodName) prog_13_method_26_code (8 : Nat) (Option.some Jvm.ClassFile.FieldType.int)) ∈ tg := tgT 874 rfl rfl
set_option maxRecDepth 100000 in
theorem tw_875 : (Jvm.Cond.methodLink "BakeHouseModel" (109 : Nat) ({ cls := "BakeHouseModel", name := "lays", desc := "(III)I" } : Jvm.MethodName)) ∈ tg := tgT 875 rfl rfl
set_option maxRecDepth 100000 in
theorem tw_877 : (Jvm.Cond.instanceMethod ({ cls := "BakeHouseModel", name := "lays", desc := "(III)I" } : Jvm.MethodName)) ∈ tg := tgT 877 rfl rfl
set_option maxRecDepth 100000 in
theorem tw_878 : (Jvm.Cond.code ({ cls := "BakeHouseModel", name := "lays", desc := "(III)I" } : Jvm.MethodName) prog_13_method_14_code (5 : Nat) (Option.some Jvm.ClassFile.FieldType.int)) ∈ tg := tgT 878 rfl rfl
set_option maxRecDepth 100000 in
theorem tw_879 : (Jvm.Cond.methodLink "BakeHouseModel" (75 : Nat) ({ cls := "BakeHouseModel", name := "plainLay", desc := "(III)I" } : Jvm.MethodName)) ∈ tg := tgT 879 rfl rfl
set_option maxRecDepth 100000 in
theorem tw_881 : (Jvm.Cond.instanceMethod ({ cls := "BakeHouseModel", name := "plainLay", desc := "(III)I" } : Jvm.MethodName)) ∈ tg := tgT 881 rfl rfl
set_option maxRecDepth 100000 in
theorem tw_882 : (Jvm.Cond.code ({ cls := "BakeHouseModel", name := "plainLay", desc := "(III)I" } : Jvm.MethodName) prog_13_method_13_code (5 : Nat) (Option.some Jvm.ClassFile.FieldType.int)) ∈ tg := tgT 882 rfl rfl
set_option maxRecDepth 100000 in
theorem tw_883 : (Jvm.Cond.methodLink "BakeHouseLaw" (76 : Nat) ({ cls := "BakeHouseModel", name := "bake", desc := "(II)I" } : Jvm.MethodName)) ∈ tg := tgT 883 rfl rfl
set_option maxRecDepth 100000 in
theorem tw_884 : (Jvm.Cond.instanceMethod ({ cls := "BakeHouseModel", name := "bake", desc := "(II)I" } : Jvm.MethodName)) ∈ tg := tgT 884 rfl rfl
set_option maxRecDepth 100000 in
theorem tw_885 : (Jvm.Cond.selects "BakeHouseModel" ({ cls := "BakeHouseModel", name := "bake", desc := "(II)I" } : Jvm.MethodName) ({ cls := "BakeHouseModel", name := "bake", desc := "(II)I" } : Jvm.MethodName)) ∈ tg := tgT 885 rfl rfl
set_option maxRecDepth 100000 in
theorem tw_886 : (Jvm.Cond.code ({ cls := "BakeHouseModel", name := "bake", desc := "(II)I" } : Jvm.MethodName) prog_13_method_27_code (3 : Nat) (Option.some Jvm.ClassFile.FieldType.int)) ∈ tg := tgT 886 rfl rfl
set_option maxRecDepth 100000 in
theorem tw_887 : (Jvm.Cond.methodLink "BakeHouseModel" (115 : Nat) ({ cls := "BakeHouseModel", name := "bakes", desc := "(II)Z" } : Jvm.MethodName)) ∈ tg := tgT 887 rfl rfl
set_option maxRecDepth 100000 in
theorem tw_889 : (Jvm.Cond.instanceMethod ({ cls := "BakeHouseModel", name := "bakes", desc := "(II)Z" } : Jvm.MethodName)) ∈ tg := tgT 889 rfl rfl
set_option maxRecDepth 100000 in
theorem tw_890 : (Jvm.Cond.code ({ cls := "BakeHouseModel", name := "bakes", desc := "(II)Z" } : Jvm.MethodName) prog_13_method_16_code (4 : Nat) (Option.some Jvm.ClassFile.FieldType.boolean)) ∈ tg := tgT 890 rfl rfl
set_option maxRecDepth 100000 in
theorem tw_891 : (Jvm.Cond.methodLink "BakeHouseModel" (81 : Nat) ({ cls := "BakeHouseModel", name := "plainBake", desc := "(II)Z" } : Jvm.MethodName)) ∈ tg := tgT 891 rfl rfl
set_option maxRecDepth 100000 in
theorem tw_893 : (Jvm.Cond.instanceMethod ({ cls := "BakeHouseModel", name := "plainBake", desc := "(II)Z" } : Jvm.MethodName)) ∈ tg := tgT 893 rfl rfl
set_option maxRecDepth 100000 in
theorem tw_894 : (Jvm.Cond.code ({ cls := "BakeHouseModel", name := "plainBake", desc := "(II)Z" } : Jvm.MethodName) prog_13_method_15_code (3 : Nat) (Option.some Jvm.ClassFile.FieldType.boolean)) ∈ tg := tgT 894 rfl rfl
set_option maxRecDepth 100000 in
theorem tw_895 : (Jvm.Cond.methodLink "BakeHouseLaw" (80 : Nat) ({ cls := "BakeHouseModel", name := "worth", desc := "(I)I" } : Jvm.MethodName)) ∈ tg := tgT 895 rfl rfl
set_option maxRecDepth 100000 in
theorem tw_896 : (Jvm.Cond.instanceMethod ({ cls := "BakeHouseModel", name := "worth", desc := "(I)I" } : Jvm.MethodName)) ∈ tg := tgT 896 rfl rfl
set_option maxRecDepth 100000 in
theorem tw_897 : (Jvm.Cond.selects "BakeHouseModel" ({ cls := "BakeHouseModel", name := "worth", desc := "(I)I" } : Jvm.MethodName) ({ cls := "BakeHouseModel", name := "worth", desc := "(I)I" } : Jvm.MethodName)) ∈ tg := tgT 897 rfl rfl
set_option maxRecDepth 100000 in
theorem tw_898 : (Jvm.Cond.code ({ cls := "BakeHouseModel", name := "worth", desc := "(I)I" } : Jvm.MethodName) prog_13_method_28_code (3 : Nat) (Option.some Jvm.ClassFile.FieldType.int)) ∈ tg := tgT 898 rfl rfl
set_option maxRecDepth 100000 in
theorem tw_899 : (Jvm.Cond.methodLink "BakeHouseModel" (95 : Nat) ({ cls := "BakeHouseModel", name := "worthOf", desc := "(I)I" } : Jvm.MethodName)) ∈ tg := tgT 899 rfl rfl
set_option maxRecDepth 100000 in
theorem tw_901 : (Jvm.Cond.instanceMethod ({ cls := "BakeHouseModel", name := "worthOf", desc := "(I)I" } : Jvm.MethodName)) ∈ tg := tgT 901 rfl rfl
set_option maxRecDepth 100000 in
theorem tw_902 : (Jvm.Cond.code ({ cls := "BakeHouseModel", name := "worthOf", desc := "(I)I" } : Jvm.MethodName) prog_13_method_18_code (2 : Nat) (Option.some Jvm.ClassFile.FieldType.int)) ∈ tg := tgT 902 rfl rfl
set_option maxRecDepth 100000 in
theorem tw_903 : (Jvm.Cond.methodLink "BakeHouseModel" (88 : Nat) ({ cls := "BakeHouseModel", name := "plainWorth", desc := "(I)I" } : Jvm.MethodName)) ∈ tg := tgT 903 rfl rfl
set_option maxRecDepth 100000 in
theorem tw_905 : (Jvm.Cond.instanceMethod ({ cls := "BakeHouseModel", name := "plainWorth", desc := "(I)I" } : Jvm.MethodName)) ∈ tg := tgT 905 rfl rfl
set_option maxRecDepth 100000 in
theorem tw_906 : (Jvm.Cond.code ({ cls := "BakeHouseModel", name := "plainWorth", desc := "(I)I" } : Jvm.MethodName) prog_13_method_17_code (2 : Nat) (Option.some Jvm.ClassFile.FieldType.int)) ∈ tg := tgT 906 rfl rfl
set_option maxRecDepth 100000 in
theorem tw_907 : (Jvm.Cond.methodLink "BakeHouseLaw" (83 : Nat) ({ cls := "BakeHouseModel", name := "cost", desc := "(I)I" } : Jvm.MethodName)) ∈ tg := tgT 907 rfl rfl
set_option maxRecDepth 100000 in
theorem tw_908 : (Jvm.Cond.instanceMethod ({ cls := "BakeHouseModel", name := "cost", desc := "(I)I" } : Jvm.MethodName)) ∈ tg := tgT 908 rfl rfl
set_option maxRecDepth 100000 in
theorem tw_909 : (Jvm.Cond.selects "BakeHouseModel" ({ cls := "BakeHouseModel", name := "cost", desc := "(I)I" } : Jvm.MethodName) ({ cls := "BakeHouseModel", name := "cost", desc := "(I)I" } : Jvm.MethodName)) ∈ tg := tgT 909 rfl rfl
set_option maxRecDepth 100000 in
theorem tw_910 : (Jvm.Cond.code ({ cls := "BakeHouseModel", name := "cost", desc := "(I)I" } : Jvm.MethodName) prog_13_method_29_code (3 : Nat) (Option.some Jvm.ClassFile.FieldType.int)) ∈ tg := tgT 910 rfl rfl
set_option maxRecDepth 100000 in
theorem tw_911 : (Jvm.Cond.methodLink "BakeHouseModel" (118 : Nat) ({ cls := "BakeHouseModel", name := "isSold", desc := "(I)Z" } : Jvm.MethodName)) ∈ tg := tgT 911 rfl rfl
set_option maxRecDepth 100000 in
theorem tw_913 : (Jvm.Cond.instanceMethod ({ cls := "BakeHouseModel", name := "isSold", desc := "(I)Z" } : Jvm.MethodName)) ∈ tg := tgT 913 rfl rfl
set_option maxRecDepth 100000 in
theorem tw_914 : (Jvm.Cond.code ({ cls := "BakeHouseModel", name := "isSold", desc := "(I)Z" } : Jvm.MethodName) prog_13_method_19_code (2 : Nat) (Option.some Jvm.ClassFile.FieldType.boolean)) ∈ tg := tgT 914 rfl rfl
set_option maxRecDepth 100000 in
theorem tw_915 : (Jvm.Cond.methodLink "BakeHouseModel" (121 : Nat) ({ cls := "BakeHouseModel", name := "costOf", desc := "(I)I" } : Jvm.MethodName)) ∈ tg := tgT 915 rfl rfl
set_option maxRecDepth 100000 in
theorem tw_917 : (Jvm.Cond.instanceMethod ({ cls := "BakeHouseModel", name := "costOf", desc := "(I)I" } : Jvm.MethodName)) ∈ tg := tgT 917 rfl rfl
set_option maxRecDepth 100000 in
theorem tw_918 : (Jvm.Cond.code ({ cls := "BakeHouseModel", name := "costOf", desc := "(I)I" } : Jvm.MethodName) prog_13_method_20_code (3 : Nat) (Option.some Jvm.ClassFile.FieldType.int)) ∈ tg := tgT 918 rfl rfl
set_option maxRecDepth 100000 in
theorem tw_919 : (Jvm.Cond.methodLink "BakeHouseLaw" (86 : Nat) ({ cls := "BakeHouseModel", name := "change", desc := "(II)I" } : Jvm.MethodName)) ∈ tg := tgT 919 rfl rfl
set_option maxRecDepth 100000 in
theorem tw_920 : (Jvm.Cond.instanceMethod ({ cls := "BakeHouseModel", name := "change", desc := "(II)I" } : Jvm.MethodName)) ∈ tg := tgT 920 rfl rfl
set_option maxRecDepth 100000 in
theorem tw_921 : (Jvm.Cond.selects "BakeHouseModel" ({ cls := "BakeHouseModel", name := "change", desc := "(II)I" } : Jvm.MethodName) ({ cls := "BakeHouseModel", name := "change", desc := "(II)I" } : Jvm.MethodName)) ∈ tg := tgT 921 rfl rfl
set_option maxRecDepth 100000 in
theorem tw_922 : (Jvm.Cond.code ({ cls := "BakeHouseModel", name := "change", desc := "(II)I" } : Jvm.MethodName) prog_13_method_30_code (4 : Nat) (Option.some Jvm.ClassFile.FieldType.int)) ∈ tg := tgT 922 rfl rfl
set_option maxRecDepth 100000 in
theorem tw_923 : (Jvm.Cond.constant "BakeHouseModel" (124 : Nat) (100000 : Int32)) ∈ tg := tgT 923 rfl rfl
set_option maxRecDepth 100000 in
theorem tw_924 : (Jvm.Cond.methodLink "BakeHouseLaw" (90 : Nat) ({ cls := "BakeHouseModel", name := "fire", desc := "(I)I" } : Jvm.MethodName)) ∈ tg := tgT 924 rfl rfl
set_option maxRecDepth 100000 in
theorem tw_925 : (Jvm.Cond.instanceMethod ({ cls := "BakeHouseModel", name := "fire", desc := "(I)I" } : Jvm.MethodName)) ∈ tg := tgT 925 rfl rfl
set_option maxRecDepth 100000 in
theorem tw_926 : (Jvm.Cond.selects "BakeHouseModel" ({ cls := "BakeHouseModel", name := "fire", desc := "(I)I" } : Jvm.MethodName) ({ cls := "BakeHouseModel", name := "fire", desc := "(I)I" } : Jvm.MethodName)) ∈ tg := tgT 926 rfl rfl
set_option maxRecDepth 100000 in
theorem tw_927 : (Jvm.Cond.code ({ cls := "BakeHouseModel", name := "fire", desc := "(I)I" } : Jvm.MethodName) prog_13_method_31_code (6 : Nat) (Option.some Jvm.ClassFile.FieldType.int)) ∈ tg := tgT 927 rfl rfl
set_option maxRecDepth 100000 in
theorem tw_928 : (Jvm.Cond.methodLink "BakeHouseLaw" (94 : Nat) ({ cls := "BakeHouseModel", name := "night", desc := "(I)I" } : Jvm.MethodName)) ∈ tg := tgT 928 rfl rfl
set_option maxRecDepth 100000 in
theorem tw_929 : (Jvm.Cond.instanceMethod ({ cls := "BakeHouseModel", name := "night", desc := "(I)I" } : Jvm.MethodName)) ∈ tg := tgT 929 rfl rfl
set_option maxRecDepth 100000 in
theorem tw_930 : (Jvm.Cond.selects "BakeHouseModel" ({ cls := "BakeHouseModel", name := "night", desc := "(I)I" } : Jvm.MethodName) ({ cls := "BakeHouseModel", name := "night", desc := "(I)I" } : Jvm.MethodName)) ∈ tg := tgT 930 rfl rfl
set_option maxRecDepth 100000 in
theorem tw_931 : (Jvm.Cond.code ({ cls := "BakeHouseModel", name := "night", desc := "(I)I" } : Jvm.MethodName) prog_13_method_32_code (5 : Nat) (Option.some Jvm.ClassFile.FieldType.int)) ∈ tg := tgT 931 rfl rfl
set_option maxRecDepth 100000 in
theorem tw_932 : (Jvm.Cond.methodLink "BakeHouseLaw" (98 : Nat) ({ cls := "BakeHouseModel", name := "at", desc := "(II)I" } : Jvm.MethodName)) ∈ tg := tgT 932 rfl rfl
set_option maxRecDepth 100000 in
theorem tw_933 : (Jvm.Cond.instanceMethod ({ cls := "BakeHouseModel", name := "at", desc := "(II)I" } : Jvm.MethodName)) ∈ tg := tgT 933 rfl rfl
set_option maxRecDepth 100000 in
theorem tw_934 : (Jvm.Cond.selects "BakeHouseModel" ({ cls := "BakeHouseModel", name := "at", desc := "(II)I" } : Jvm.MethodName) ({ cls := "BakeHouseModel", name := "at", desc := "(II)I" } : Jvm.MethodName)) ∈ tg := tgT 934 rfl rfl
set_option maxRecDepth 100000 in
theorem tw_935 : (Jvm.Cond.code ({ cls := "BakeHouseModel", name := "at", desc := "(II)I" } : Jvm.MethodName) prog_13_method_33_code (3 : Nat) (Option.some Jvm.ClassFile.FieldType.int)) ∈ tg := tgT 935 rfl rfl
set_option maxRecDepth 100000 in
theorem tw_936 : (Jvm.Cond.methodLink "BakeHouseLaw" (102 : Nat) ({ cls := "BakeHouseModel", name := "places", desc := "(I)I" } : Jvm.MethodName)) ∈ tg := tgT 936 rfl rfl
set_option maxRecDepth 100000 in
theorem tw_937 : (Jvm.Cond.instanceMethod ({ cls := "BakeHouseModel", name := "places", desc := "(I)I" } : Jvm.MethodName)) ∈ tg := tgT 937 rfl rfl
set_option maxRecDepth 100000 in
theorem tw_938 : (Jvm.Cond.selects "BakeHouseModel" ({ cls := "BakeHouseModel", name := "places", desc := "(I)I" } : Jvm.MethodName) ({ cls := "BakeHouseModel", name := "places", desc := "(I)I" } : Jvm.MethodName)) ∈ tg := tgT 938 rfl rfl
set_option maxRecDepth 100000 in
theorem tw_939 : (Jvm.Cond.code ({ cls := "BakeHouseModel", name := "places", desc := "(I)I" } : Jvm.MethodName) prog_13_method_34_code (2 : Nat) (Option.some Jvm.ClassFile.FieldType.int)) ∈ tg := tgT 939 rfl rfl
set_option maxRecDepth 100000 in
theorem tw_940 : (Jvm.Cond.methodLink "BakeHouseLaw" (106 : Nat) ({ cls := "BakeHouseModel", name := "tell", desc := "(II)I" } : Jvm.MethodName)) ∈ tg := tgT 940 rfl rfl
set_option maxRecDepth 100000 in
theorem tw_941 : (Jvm.Cond.instanceMethod ({ cls := "BakeHouseModel", name := "tell", desc := "(II)I" } : Jvm.MethodName)) ∈ tg := tgT 941 rfl rfl
set_option maxRecDepth 100000 in
theorem tw_942 : (Jvm.Cond.selects "BakeHouseModel" ({ cls := "BakeHouseModel", name := "tell", desc := "(II)I" } : Jvm.MethodName) ({ cls := "BakeHouseModel", name := "tell", desc := "(II)I" } : Jvm.MethodName)) ∈ tg := tgT 942 rfl rfl
set_option maxRecDepth 100000 in
theorem tw_943 : (Jvm.Cond.code ({ cls := "BakeHouseModel", name := "tell", desc := "(II)I" } : Jvm.MethodName) prog_13_method_35_code (3 : Nat) (Option.some Jvm.ClassFile.FieldType.int)) ∈ tg := tgT 943 rfl rfl
set_option maxRecDepth 100000 in
theorem tw_944 : (Jvm.Cond.methodLink "BakeHouseLaw" (110 : Nat) ({ cls := "BakeHouseModel", name := "book", desc := "(I)I" } : Jvm.MethodName)) ∈ tg := tgT 944 rfl rfl
set_option maxRecDepth 100000 in
theorem tw_945 : (Jvm.Cond.instanceMethod ({ cls := "BakeHouseModel", name := "book", desc := "(I)I" } : Jvm.MethodName)) ∈ tg := tgT 945 rfl rfl
set_option maxRecDepth 100000 in
theorem tw_946 : (Jvm.Cond.selects "BakeHouseModel" ({ cls := "BakeHouseModel", name := "book", desc := "(I)I" } : Jvm.MethodName) ({ cls := "BakeHouseModel", name := "book", desc := "(I)I" } : Jvm.MethodName)) ∈ tg := tgT 946 rfl rfl
set_option maxRecDepth 100000 in
theorem tw_947 : (Jvm.Cond.code ({ cls := "BakeHouseModel", name := "book", desc := "(I)I" } : Jvm.MethodName) prog_13_method_36_code (2 : Nat) (Option.some Jvm.ClassFile.FieldType.int)) ∈ tg := tgT 947 rfl rfl
set_option maxRecDepth 100000 in
theorem tw_948 : (Jvm.Cond.methodLink "BakeHouseLaw" (114 : Nat) ({ cls := "BakeHouseModel", name := "count", desc := "(I)I" } : Jvm.MethodName)) ∈ tg := tgT 948 rfl rfl
set_option maxRecDepth 100000 in
theorem tw_949 : (Jvm.Cond.instanceMethod ({ cls := "BakeHouseModel", name := "count", desc := "(I)I" } : Jvm.MethodName)) ∈ tg := tgT 949 rfl rfl
set_option maxRecDepth 100000 in
theorem tw_950 : (Jvm.Cond.selects "BakeHouseModel" ({ cls := "BakeHouseModel", name := "count", desc := "(I)I" } : Jvm.MethodName) ({ cls := "BakeHouseModel", name := "count", desc := "(I)I" } : Jvm.MethodName)) ∈ tg := tgT 950 rfl rfl
set_option maxRecDepth 100000 in
theorem tw_951 : (Jvm.Cond.code ({ cls := "BakeHouseModel", name := "count", desc := "(I)I" } : Jvm.MethodName) prog_13_method_37_code (2 : Nat) (Option.some Jvm.ClassFile.FieldType.int)) ∈ tg := tgT 951 rfl rfl
set_option maxRecDepth 100000 in
theorem tw_952 : (Jvm.Cond.arrayClass Jvm.ClassFile.FieldType.long) ∈ tg := tgT 952 rfl rfl
set_option maxRecDepth 100000 in
theorem tw_953 : (Jvm.Cond.sameMethod "BakeHouse$Rye" "BakeHouse$Rye" "doBake" "(I)Z") ∈ tg := tgT 953 rfl rfl
set_option maxRecDepth 100000 in
theorem tw_954 : (Jvm.Cond.sameMethod "java/lang/Throwable" "java/lang/Throwable" "fillInStackTrace" "(I)Ljava/lang/Throwable;") ∈ tg := tgT 954 rfl rfl
set_option maxRecDepth 100000 in
theorem tw_955 : (Jvm.Cond.sameMethod "BakeHouse$Sour" "BakeHouse$Sour" "doRest" "(I)I") ∈ tg := tgT 955 rfl rfl
set_option maxRecDepth 100000 in
theorem tw_956 : (Jvm.Cond.sameMethod "BakeHouse$Rye" "BakeHouse$Rye" "doRest" "(I)I") ∈ tg := tgT 956 rfl rfl
set_option maxRecDepth 100000 in
theorem tw_957 : (Jvm.Cond.sameMethod "BakeHouse$Sour" "BakeHouse$Sour" "askWorth" "()I") ∈ tg := tgT 957 rfl rfl
theorem ts_0 : Cond.selects "BakeHouse" ⟨"BakeHouse", "knead", "(III)LBakeHouse$Dough;"⟩ ⟨"BakeHouse", "knead", "(III)LBakeHouse$Dough;"⟩ ∈ tg := tgS 0 rfl rfl
theorem ts_1 : Cond.selects "BakeHouse" ⟨"BakeHouse", "findShelf", "(I)LBakeHouse$Shelf;"⟩ ⟨"BakeHouse", "findShelf", "(I)LBakeHouse$Shelf;"⟩ ∈ tg := tgS 1 rfl rfl
theorem ts_2 : Cond.selects "BakeHouse" ⟨"BakeHouse", "findLoaf", "(I)LBakeHouse$Dough;"⟩ ⟨"BakeHouse", "findLoaf", "(I)LBakeHouse$Dough;"⟩ ∈ tg := tgS 2 rfl rfl
theorem ts_3 : Cond.selects "BakeHouse" ⟨"BakeHouse", "bakeShelf", "(II)I"⟩ ⟨"BakeHouse", "bakeShelf", "(II)I"⟩ ∈ tg := tgS 3 rfl rfl
theorem ts_4 : Cond.selects "java/lang/NullPointerException" ⟨"java/lang/NullPointerException", "getExtendedNPEMessage", "()Ljava/lang/String;"⟩ ⟨"java/lang/NullPointerException", "getExtendedNPEMessage", "()Ljava/lang/String;"⟩ ∈ tg := tgS 4 rfl rfl
theorem ts_5 : Cond.selects "java/lang/Throwable" ⟨"java/lang/Throwable", "fillInStackTrace", "(I)Ljava/lang/Throwable;"⟩ ⟨"java/lang/Throwable", "fillInStackTrace", "(I)Ljava/lang/Throwable;"⟩ ∈ tg := tgS 5 rfl rfl
theorem ts_6 : Cond.selects "BakeHouse" ⟨"BakeHouse", "placesOfLoaf", "(I)I"⟩ ⟨"BakeHouse", "placesOfLoaf", "(I)I"⟩ ∈ tg := tgS 6 rfl rfl
theorem ts_7 : Cond.selects "BakeHouseModel" ⟨"BakeHouseModel", "isLoaf", "(I)Z"⟩ ⟨"BakeHouseModel", "isLoaf", "(I)Z"⟩ ∈ tg := tgS 7 rfl rfl
theorem ts_8 : Cond.selects "BakeHouseModel" ⟨"BakeHouseModel", "rests", "(II)I"⟩ ⟨"BakeHouseModel", "rests", "(II)I"⟩ ∈ tg := tgS 8 rfl rfl
theorem ts_9 : Cond.selects "BakeHouseModel" ⟨"BakeHouseModel", "ryeRest", "(II)V"⟩ ⟨"BakeHouseModel", "ryeRest", "(II)V"⟩ ∈ tg := tgS 9 rfl rfl
theorem ts_10 : Cond.selects "BakeHouseModel" ⟨"BakeHouseModel", "begin", "(II)V"⟩ ⟨"BakeHouseModel", "begin", "(II)V"⟩ ∈ tg := tgS 10 rfl rfl
theorem ts_11 : Cond.selects "BakeHouseModel" ⟨"BakeHouseModel", "plainRest", "(II)V"⟩ ⟨"BakeHouseModel", "plainRest", "(II)V"⟩ ∈ tg := tgS 11 rfl rfl
theorem ts_12 : Cond.selects "BakeHouseModel" ⟨"BakeHouseModel", "sourRest", "(II)V"⟩ ⟨"BakeHouseModel", "sourRest", "(II)V"⟩ ∈ tg := tgS 12 rfl rfl
theorem ts_13 : Cond.selects "BakeHouseModel" ⟨"BakeHouseModel", "folds", "(I)V"⟩ ⟨"BakeHouseModel", "folds", "(I)V"⟩ ∈ tg := tgS 13 rfl rfl
theorem ts_14 : Cond.selects "BakeHouseModel" ⟨"BakeHouseModel", "plainFold", "(I)V"⟩ ⟨"BakeHouseModel", "plainFold", "(I)V"⟩ ∈ tg := tgS 14 rfl rfl
theorem ts_15 : Cond.selects "BakeHouseModel" ⟨"BakeHouseModel", "lays", "(III)I"⟩ ⟨"BakeHouseModel", "lays", "(III)I"⟩ ∈ tg := tgS 15 rfl rfl
theorem ts_16 : Cond.selects "BakeHouseModel" ⟨"BakeHouseModel", "plainLay", "(III)I"⟩ ⟨"BakeHouseModel", "plainLay", "(III)I"⟩ ∈ tg := tgS 16 rfl rfl
theorem ts_17 : Cond.selects "BakeHouseModel" ⟨"BakeHouseModel", "bakes", "(II)Z"⟩ ⟨"BakeHouseModel", "bakes", "(II)Z"⟩ ∈ tg := tgS 17 rfl rfl
theorem ts_18 : Cond.selects "BakeHouseModel" ⟨"BakeHouseModel", "plainBake", "(II)Z"⟩ ⟨"BakeHouseModel", "plainBake", "(II)Z"⟩ ∈ tg := tgS 18 rfl rfl
theorem ts_19 : Cond.selects "BakeHouseModel" ⟨"BakeHouseModel", "worthOf", "(I)I"⟩ ⟨"BakeHouseModel", "worthOf", "(I)I"⟩ ∈ tg := tgS 19 rfl rfl
theorem ts_20 : Cond.selects "BakeHouseModel" ⟨"BakeHouseModel", "plainWorth", "(I)I"⟩ ⟨"BakeHouseModel", "plainWorth", "(I)I"⟩ ∈ tg := tgS 20 rfl rfl
theorem ts_21 : Cond.selects "BakeHouseModel" ⟨"BakeHouseModel", "isSold", "(I)Z"⟩ ⟨"BakeHouseModel", "isSold", "(I)Z"⟩ ∈ tg := tgS 21 rfl rfl
theorem ts_22 : Cond.selects "BakeHouseModel" ⟨"BakeHouseModel", "costOf", "(I)I"⟩ ⟨"BakeHouseModel", "costOf", "(I)I"⟩ ∈ tg := tgS 22 rfl rfl
