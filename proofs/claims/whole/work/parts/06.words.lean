theorem fcons {c : Cond} {l : List Cond} (h : c ∈ lwg) (hl : ∀ w ∈ l, w ∈ lwg) : ∀ w ∈ c :: l, w ∈ lwg := fun w hw => (List.mem_cons.mp hw).elim (fun e => by rw [e]; exact h) (hl w)
set_option maxRecDepth 20000 in
theorem q0 : Cond.initialized "InsideOutLaw" ∈ lwg := tG 0 (by decide +kernel) (by decide +kernel)
set_option maxRecDepth 20000 in
theorem q1 : Cond.initialized "InsideOut" ∈ lwg := tG 1 (by decide +kernel) (by decide +kernel)
set_option maxRecDepth 20000 in
theorem q2 : Cond.initialized "InsideOut$World" ∈ lwg := tG 2 (by decide +kernel) (by decide +kernel)
set_option maxRecDepth 20000 in
theorem q3 : Cond.initialized "InsideOut$Street" ∈ lwg := tG 3 (by decide +kernel) (by decide +kernel)
set_option maxRecDepth 20000 in
theorem q4 : Cond.initialized "java/util/Arrays" ∈ lwg := tG 4 (by decide +kernel) (by decide +kernel)
set_option maxRecDepth 20000 in
theorem q5 : Cond.initialized "InsideOut$Umbrella" ∈ lwg := tG 5 (by decide +kernel) (by decide +kernel)
set_option maxRecDepth 20000 in
theorem q6 : Cond.initialized "InsideOut$Walk" ∈ lwg := tG 6 (by decide +kernel) (by decide +kernel)
set_option maxRecDepth 20000 in
theorem q7 : Cond.initialized "InsideOut$Tape" ∈ lwg := tG 7 (by decide +kernel) (by decide +kernel)
set_option maxRecDepth 20000 in
theorem q8 : Cond.initialized "InsideOut$Reader" ∈ lwg := tG 8 (by decide +kernel) (by decide +kernel)
set_option maxRecDepth 20000 in
theorem q9 : Cond.initialized "InsideOut$Sheet" ∈ lwg := tG 9 (by decide +kernel) (by decide +kernel)
set_option maxRecDepth 20000 in
theorem q10 : Cond.initialized "InsideOutModel" ∈ lwg := tG 10 (by decide +kernel) (by decide +kernel)
set_option maxRecDepth 20000 in
theorem q11 : Cond.initialized "java/lang/Math" ∈ lwg := tG 11 (by decide +kernel) (by decide +kernel)
set_option maxRecDepth 20000 in
theorem q12 : Cond.initialized "java/lang/System" ∈ lwg := tG 12 (by decide +kernel) (by decide +kernel)
set_option maxRecDepth 20000 in
theorem q13 : Cond.initialized "java/lang/Integer" ∈ lwg := tG 13 (by decide +kernel) (by decide +kernel)
set_option maxRecDepth 20000 in
theorem q14 : Cond.initialized "java/lang/String" ∈ lwg := tG 14 (by decide +kernel) (by decide +kernel)
set_option maxRecDepth 20000 in
theorem q15 : Cond.initialized "java/lang/StringLatin1" ∈ lwg := tG 15 (by decide +kernel) (by decide +kernel)
set_option maxRecDepth 20000 in
theorem q16 : Cond.initialized "jdk/internal/util/Preconditions" ∈ lwg := tG 16 (by decide +kernel) (by decide +kernel)
set_option maxRecDepth 20000 in
theorem q17 : Cond.initialized "java/lang/StringUTF16" ∈ lwg := tG 17 (by decide +kernel) (by decide +kernel)
set_option maxRecDepth 20000 in
theorem q18 : Cond.classLink "InsideOutLaw" 7 "InsideOut" ∈ lwg := tG 18 (by decide +kernel) (by decide +kernel)
set_option maxRecDepth 20000 in
theorem q19 : Cond.instantiable "InsideOut" 9 ∈ lwg := tG 19 (by decide +kernel) (by decide +kernel)
set_option maxRecDepth 20000 in
theorem q20 : Cond.methodLink "InsideOutLaw" 9 yX7_init ∈ lwg := tG 20 (by decide +kernel) (by decide +kernel)
set_option maxRecDepth 20000 in
theorem q21 : Cond.instanceMethod yX7_init ∈ lwg := tG 21 (by decide +kernel) (by decide +kernel)
set_option maxRecDepth 20000 in
theorem q22 : Cond.code yX7_init prog_1_method_1_code 2 (none : Option Jvm.ClassFile.FieldType) ∈ lwg := tG 22 rfl rfl
set_option maxRecDepth 20000 in
theorem q23 : Cond.methodLink "InsideOut" 1 ⟨"java/lang/Object", "<init>", "()V"⟩ ∈ lwg := tG 23 (by decide +kernel) (by decide +kernel)
set_option maxRecDepth 20000 in
theorem q25 : Cond.code ⟨"java/lang/Object", "<init>", "()V"⟩ object_method_1_code 1 (none : Option Jvm.ClassFile.FieldType) ∈ lwg := tG 25 rfl rfl
set_option maxRecDepth 20000 in
theorem q26 : Cond.classLink "InsideOut" 7 "InsideOut$World" ∈ lwg := tG 26 (by decide +kernel) (by decide +kernel)
set_option maxRecDepth 20000 in
theorem q27 : Cond.instantiable "InsideOut$World" 5 ∈ lwg := tG 27 (by decide +kernel) (by decide +kernel)
set_option maxRecDepth 20000 in
theorem q28 : Cond.methodLink "InsideOut" 9 yX6_init ∈ lwg := tG 28 (by decide +kernel) (by decide +kernel)
set_option maxRecDepth 20000 in
theorem q29 : Cond.instanceMethod yX6_init ∈ lwg := tG 29 (by decide +kernel) (by decide +kernel)
set_option maxRecDepth 20000 in
theorem q30 : Cond.code yX6_init prog_8_method_1_code 2 (none : Option Jvm.ClassFile.FieldType) ∈ lwg := tG 30 rfl rfl
set_option maxRecDepth 20000 in
theorem q31 : Cond.methodLink "InsideOut$World" 3 ⟨"java/lang/Object", "<init>", "()V"⟩ ∈ lwg := tG 31 (by decide +kernel) (by decide +kernel)
set_option maxRecDepth 20000 in
theorem q32 : Cond.classLink "InsideOut$World" 9 "InsideOut$Street" ∈ lwg := tG 32 (by decide +kernel) (by decide +kernel)
set_option maxRecDepth 20000 in
theorem q33 : Cond.instantiable "InsideOut$Street" 6 ∈ lwg := tG 33 (by decide +kernel) (by decide +kernel)
set_option maxRecDepth 20000 in
theorem q34 : Cond.methodLink "InsideOut$World" 11 yX2_init ∈ lwg := tG 34 (by decide +kernel) (by decide +kernel)
set_option maxRecDepth 20000 in
theorem q35 : Cond.instanceMethod yX2_init ∈ lwg := tG 35 (by decide +kernel) (by decide +kernel)
set_option maxRecDepth 20000 in
theorem q36 : Cond.code yX2_init prog_4_method_1_code 1 (none : Option Jvm.ClassFile.FieldType) ∈ lwg := tG 36 rfl rfl
set_option maxRecDepth 20000 in
theorem q37 : Cond.methodLink "InsideOut$Street" 3 ⟨"java/lang/Object", "<init>", "()V"⟩ ∈ lwg := tG 37 (by decide +kernel) (by decide +kernel)
set_option maxRecDepth 20000 in
theorem q38 : Cond.methodLink "InsideOut$Street" 31 yJ7_fill_53178 ∈ lwg := tG 38 (by decide +kernel) (by decide +kernel)
set_option maxRecDepth 20000 in
theorem q39 : Cond.static yJ7_fill_53178 ∈ lwg := tG 39 (by decide +kernel) (by decide +kernel)
set_option maxRecDepth 20000 in
theorem q40 : Cond.code yJ7_fill_53178 prog_17_method_103_code 4 (none : Option Jvm.ClassFile.FieldType) ∈ lwg := tG 40 rfl rfl
set_option maxRecDepth 20000 in
theorem q41 : Cond.fieldLink "InsideOut$Street" 9 "InsideOut$Street" "from" "[I" ∈ lwg := tG 41 (by decide +kernel) (by decide +kernel)
set_option maxRecDepth 20000 in
theorem q42 : Cond.fieldLink "InsideOut" 72 "InsideOut$Street" "from" "[I" ∈ lwg := tG 42 (by decide +kernel) (by decide +kernel)
set_option maxRecDepth 20000 in
theorem q43 : Cond.fieldLink "InsideOut$Reader" 116 "InsideOut$Street" "from" "[I" ∈ lwg := tG 43 (by decide +kernel) (by decide +kernel)
set_option maxRecDepth 20000 in
theorem q44 : Cond.fieldLink "InsideOut$Umbrella" 57 "InsideOut$Street" "from" "[I" ∈ lwg := tG 44 (by decide +kernel) (by decide +kernel)
set_option maxRecDepth 20000 in
theorem q45 : Cond.fieldLink "InsideOut$Street" 15 "InsideOut$Street" "strength" "[I" ∈ lwg := tG 45 (by decide +kernel) (by decide +kernel)
set_option maxRecDepth 20000 in
theorem q46 : Cond.fieldLink "InsideOut" 77 "InsideOut$Street" "strength" "[I" ∈ lwg := tG 46 (by decide +kernel) (by decide +kernel)
set_option maxRecDepth 20000 in
theorem q47 : Cond.fieldLink "InsideOut$Reader" 121 "InsideOut$Street" "strength" "[I" ∈ lwg := tG 47 (by decide +kernel) (by decide +kernel)
set_option maxRecDepth 20000 in
theorem q48 : Cond.fieldLink "InsideOut$Street" 18 "InsideOut$Street" "roof" "[I" ∈ lwg := tG 48 (by decide +kernel) (by decide +kernel)
set_option maxRecDepth 20000 in
theorem q49 : Cond.fieldLink "InsideOut" 80 "InsideOut$Street" "roof" "[I" ∈ lwg := tG 49 (by decide +kernel) (by decide +kernel)
set_option maxRecDepth 20000 in
theorem q50 : Cond.fieldLink "InsideOut$Walk" 36 "InsideOut$Street" "roof" "[I" ∈ lwg := tG 50 (by decide +kernel) (by decide +kernel)
set_option maxRecDepth 20000 in
theorem q51 : Cond.fieldLink "InsideOut$Reader" 124 "InsideOut$Street" "roof" "[I" ∈ lwg := tG 51 (by decide +kernel) (by decide +kernel)
set_option maxRecDepth 20000 in
theorem q52 : Cond.fieldLink "InsideOut$Umbrella" 81 "InsideOut$Street" "roof" "[I" ∈ lwg := tG 52 (by decide +kernel) (by decide +kernel)
set_option maxRecDepth 20000 in
theorem q53 : Cond.fieldLink "InsideOut$Street" 21 "InsideOut$Street" "rain" "I" ∈ lwg := tG 53 (by decide +kernel) (by decide +kernel)
set_option maxRecDepth 20000 in
theorem q54 : Cond.fieldLink "InsideOut" 94 "InsideOut$Street" "rain" "I" ∈ lwg := tG 54 (by decide +kernel) (by decide +kernel)
set_option maxRecDepth 20000 in
theorem q55 : Cond.fieldLink "InsideOut$Umbrella" 42 "InsideOut$Street" "rain" "I" ∈ lwg := tG 55 (by decide +kernel) (by decide +kernel)
set_option maxRecDepth 20000 in
theorem q56 : Cond.fieldLink "InsideOut$Reader" 126 "InsideOut$Street" "rain" "I" ∈ lwg := tG 56 (by decide +kernel) (by decide +kernel)
set_option maxRecDepth 20000 in
theorem q57 : Cond.fieldLink "InsideOut$Street" 25 "InsideOut$Street" "gust" "I" ∈ lwg := tG 57 (by decide +kernel) (by decide +kernel)
set_option maxRecDepth 20000 in
theorem q58 : Cond.fieldLink "InsideOut" 98 "InsideOut$Street" "gust" "I" ∈ lwg := tG 58 (by decide +kernel) (by decide +kernel)
set_option maxRecDepth 20000 in
theorem q59 : Cond.fieldLink "InsideOut$Reader" 128 "InsideOut$Street" "gust" "I" ∈ lwg := tG 59 (by decide +kernel) (by decide +kernel)
set_option maxRecDepth 20000 in
theorem q60 : Cond.fieldLink "InsideOut$Street" 28 "InsideOut$Street" "tick" "I" ∈ lwg := tG 60 (by decide +kernel) (by decide +kernel)
set_option maxRecDepth 20000 in
theorem q61 : Cond.fieldLink "InsideOut" 128 "InsideOut$Street" "tick" "I" ∈ lwg := tG 61 (by decide +kernel) (by decide +kernel)
set_option maxRecDepth 20000 in
theorem q62 : Cond.fieldLink "InsideOut$Umbrella" 50 "InsideOut$Street" "tick" "I" ∈ lwg := tG 62 (by decide +kernel) (by decide +kernel)
set_option maxRecDepth 20000 in
theorem q63 : Cond.laysFinal "InsideOut$Street" "InsideOut$Street" "from" "[I" ∈ lwg := tG 63 (by decide +kernel) (by decide +kernel)
set_option maxRecDepth 20000 in
theorem q65 : Cond.laysFinal "InsideOut$Street" "InsideOut$Street" "strength" "[I" ∈ lwg := tG 65 (by decide +kernel) (by decide +kernel)
set_option maxRecDepth 20000 in
theorem q67 : Cond.laysFinal "InsideOut$Street" "InsideOut$Street" "roof" "[I" ∈ lwg := tG 67 (by decide +kernel) (by decide +kernel)
set_option maxRecDepth 20000 in
theorem q69 : Cond.lays "InsideOut$Street" "InsideOut$Street" "rain" "I" ∈ lwg := tG 69 (by decide +kernel) (by decide +kernel)
set_option maxRecDepth 20000 in
theorem q71 : Cond.lays "InsideOut$Street" "InsideOut$Street" "gust" "I" ∈ lwg := tG 71 (by decide +kernel) (by decide +kernel)
set_option maxRecDepth 20000 in
theorem q73 : Cond.lays "InsideOut$Street" "InsideOut$Street" "tick" "I" ∈ lwg := tG 73 (by decide +kernel) (by decide +kernel)
set_option maxRecDepth 20000 in
theorem q76 : Cond.arrayClass .int ∈ lwg := tG 76 (by decide +kernel) (by decide +kernel)
set_option maxRecDepth 20000 in
theorem q77 : Cond.classLink "InsideOut$World" 18 "InsideOut$Umbrella" ∈ lwg := tG 77 (by decide +kernel) (by decide +kernel)
set_option maxRecDepth 20000 in
theorem q79 : Cond.instantiable "InsideOut$Umbrella" 8 ∈ lwg := tG 79 (by decide +kernel) (by decide +kernel)
set_option maxRecDepth 20000 in
theorem q81 : Cond.instanceMethod yX4_init ∈ lwg := tG 81 (by decide +kernel) (by decide +kernel)
set_option maxRecDepth 20000 in
theorem q82 : Cond.code yX4_init prog_6_method_1_code 1 (none : Option Jvm.ClassFile.FieldType) ∈ lwg := tG 82 rfl rfl
set_option maxRecDepth 20000 in
theorem q83 : Cond.methodLink "InsideOut$Umbrella" 3 ⟨"java/lang/Object", "<init>", "()V"⟩ ∈ lwg := tG 83 (by decide +kernel) (by decide +kernel)
set_option maxRecDepth 20000 in
theorem q84 : Cond.fieldLink "InsideOut$Umbrella" 9 "InsideOut$Umbrella" "kind" "I" ∈ lwg := tG 84 (by decide +kernel) (by decide +kernel)
set_option maxRecDepth 20000 in
theorem q85 : Cond.fieldLink "InsideOut" 223 "InsideOut$Umbrella" "kind" "I" ∈ lwg := tG 85 (by decide +kernel) (by decide +kernel)
set_option maxRecDepth 20000 in
theorem q86 : Cond.fieldLink "InsideOut$Umbrella" 15 "InsideOut$Umbrella" "at" "I" ∈ lwg := tG 86 (by decide +kernel) (by decide +kernel)
set_option maxRecDepth 20000 in
theorem q87 : Cond.fieldLink "InsideOut$Walk" 52 "InsideOut$Umbrella" "at" "I" ∈ lwg := tG 87 (by decide +kernel) (by decide +kernel)
set_option maxRecDepth 20000 in
theorem q88 : Cond.fieldLink "InsideOut$Umbrella" 18 "InsideOut$Umbrella" "held" "I" ∈ lwg := tG 88 (by decide +kernel) (by decide +kernel)
set_option maxRecDepth 20000 in
theorem q89 : Cond.fieldLink "InsideOut$Umbrella" 21 "InsideOut$Umbrella" "habit" "I" ∈ lwg := tG 89 (by decide +kernel) (by decide +kernel)
set_option maxRecDepth 20000 in
theorem q90 : Cond.fieldLink "InsideOut$Umbrella" 24 "InsideOut$Umbrella" "ribs" "I" ∈ lwg := tG 90 (by decide +kernel) (by decide +kernel)
set_option maxRecDepth 20000 in
theorem q91 : Cond.fieldLink "InsideOut" 185 "InsideOut$Umbrella" "ribs" "I" ∈ lwg := tG 91 (by decide +kernel) (by decide +kernel)
set_option maxRecDepth 20000 in
theorem q92 : Cond.fieldLink "InsideOut$Umbrella" 27 "InsideOut$Umbrella" "out" "I" ∈ lwg := tG 92 (by decide +kernel) (by decide +kernel)
set_option maxRecDepth 20000 in
theorem q93 : Cond.fieldLink "InsideOut$Umbrella" 30 "InsideOut$Umbrella" "turned" "I" ∈ lwg := tG 93 (by decide +kernel) (by decide +kernel)
set_option maxRecDepth 20000 in
theorem q94 : Cond.fieldLink "InsideOut$Walk" 59 "InsideOut$Umbrella" "turned" "I" ∈ lwg := tG 94 (by decide +kernel) (by decide +kernel)
set_option maxRecDepth 20000 in
theorem q95 : Cond.fieldLink "InsideOut$Umbrella" 33 "InsideOut$Umbrella" "wet" "I" ∈ lwg := tG 95 (by decide +kernel) (by decide +kernel)
set_option maxRecDepth 20000 in
theorem q96 : Cond.fieldLink "InsideOut" 271 "InsideOut$Umbrella" "wet" "I" ∈ lwg := tG 96 (by decide +kernel) (by decide +kernel)
set_option maxRecDepth 20000 in
theorem q97 : Cond.lays "InsideOut$Umbrella" "InsideOut$Umbrella" "kind" "I" ∈ lwg := tG 97 (by decide +kernel) (by decide +kernel)
set_option maxRecDepth 20000 in
theorem q99 : Cond.lays "InsideOut$Umbrella" "InsideOut$Umbrella" "at" "I" ∈ lwg := tG 99 (by decide +kernel) (by decide +kernel)
set_option maxRecDepth 20000 in
theorem q101 : Cond.lays "InsideOut$Umbrella" "InsideOut$Umbrella" "held" "I" ∈ lwg := tG 101 (by decide +kernel) (by decide +kernel)
set_option maxRecDepth 20000 in
theorem q103 : Cond.lays "InsideOut$Umbrella" "InsideOut$Umbrella" "habit" "I" ∈ lwg := tG 103 (by decide +kernel) (by decide +kernel)
set_option maxRecDepth 20000 in
theorem q105 : Cond.lays "InsideOut$Umbrella" "InsideOut$Umbrella" "ribs" "I" ∈ lwg := tG 105 (by decide +kernel) (by decide +kernel)
set_option maxRecDepth 20000 in
theorem q107 : Cond.lays "InsideOut$Umbrella" "InsideOut$Umbrella" "out" "I" ∈ lwg := tG 107 (by decide +kernel) (by decide +kernel)
set_option maxRecDepth 20000 in
theorem q109 : Cond.lays "InsideOut$Umbrella" "InsideOut$Umbrella" "turned" "I" ∈ lwg := tG 109 (by decide +kernel) (by decide +kernel)
set_option maxRecDepth 20000 in
theorem q111 : Cond.lays "InsideOut$Umbrella" "InsideOut$Umbrella" "wet" "I" ∈ lwg := tG 111 (by decide +kernel) (by decide +kernel)
set_option maxRecDepth 20000 in
theorem q114 : Cond.methodLink "InsideOut$World" 36 yJ7_fill_53178 ∈ lwg := tG 114 (by decide +kernel) (by decide +kernel)
set_option maxRecDepth 20000 in
theorem q115 : Cond.fieldLink "InsideOut$World" 12 "InsideOut$World" "street" "LInsideOut$Street;" ∈ lwg := tG 115 (by decide +kernel) (by decide +kernel)
set_option maxRecDepth 20000 in
theorem q116 : Cond.fieldLink "InsideOut" 68 "InsideOut$World" "street" "LInsideOut$Street;" ∈ lwg := tG 116 (by decide +kernel) (by decide +kernel)
set_option maxRecDepth 20000 in
theorem q117 : Cond.fieldLink "InsideOut$Reader" 50 "InsideOut$World" "street" "LInsideOut$Street;" ∈ lwg := tG 117 (by decide +kernel) (by decide +kernel)
set_option maxRecDepth 20000 in
theorem q118 : Cond.fieldLink "InsideOut$World" 20 "InsideOut$World" "umbrellas" "[LInsideOut$Umbrella;" ∈ lwg := tG 118 (by decide +kernel) (by decide +kernel)
set_option maxRecDepth 20000 in
theorem q119 : Cond.fieldLink "InsideOut$Reader" 79 "InsideOut$World" "umbrellas" "[LInsideOut$Umbrella;" ∈ lwg := tG 119 (by decide +kernel) (by decide +kernel)
set_option maxRecDepth 20000 in
theorem q120 : Cond.fieldLink "InsideOut" 114 "InsideOut$World" "umbrellas" "[LInsideOut$Umbrella;" ∈ lwg := tG 120 (by decide +kernel) (by decide +kernel)
set_option maxRecDepth 20000 in
theorem q121 : Cond.fieldLink "InsideOut$World" 24 "InsideOut$World" "size" "I" ∈ lwg := tG 121 (by decide +kernel) (by decide +kernel)
set_option maxRecDepth 20000 in
theorem q122 : Cond.fieldLink "InsideOut" 175 "InsideOut$World" "size" "I" ∈ lwg := tG 122 (by decide +kernel) (by decide +kernel)
set_option maxRecDepth 20000 in
theorem q123 : Cond.fieldLink "InsideOut$World" 28 "InsideOut$World" "spots" "[I" ∈ lwg := tG 123 (by decide +kernel) (by decide +kernel)
set_option maxRecDepth 20000 in
theorem q124 : Cond.fieldLink "InsideOut" 220 "InsideOut$World" "spots" "[I" ∈ lwg := tG 124 (by decide +kernel) (by decide +kernel)
set_option maxRecDepth 20000 in
theorem q125 : Cond.fieldLink "InsideOut$World" 32 "InsideOut$World" "z" "I" ∈ lwg := tG 125 (by decide +kernel) (by decide +kernel)
set_option maxRecDepth 20000 in
theorem q126 : Cond.fieldLink "InsideOut" 200 "InsideOut$World" "z" "I" ∈ lwg := tG 126 (by decide +kernel) (by decide +kernel)
set_option maxRecDepth 20000 in
theorem q127 : Cond.laysFinal "InsideOut$World" "InsideOut$World" "street" "LInsideOut$Street;" ∈ lwg := tG 127 (by decide +kernel) (by decide +kernel)
set_option maxRecDepth 20000 in
theorem q129 : Cond.laysFinal "InsideOut$World" "InsideOut$World" "umbrellas" "[LInsideOut$Umbrella;" ∈ lwg := tG 129 (by decide +kernel) (by decide +kernel)
set_option maxRecDepth 20000 in
theorem q131 : Cond.lays "InsideOut$World" "InsideOut$World" "size" "I" ∈ lwg := tG 131 (by decide +kernel) (by decide +kernel)
set_option maxRecDepth 20000 in
theorem q133 : Cond.laysFinal "InsideOut$World" "InsideOut$World" "spots" "[I" ∈ lwg := tG 133 (by decide +kernel) (by decide +kernel)
set_option maxRecDepth 20000 in
theorem q135 : Cond.lays "InsideOut$World" "InsideOut$World" "z" "I" ∈ lwg := tG 135 (by decide +kernel) (by decide +kernel)
set_option maxRecDepth 20000 in
theorem q138 : Cond.classLink "InsideOut" 26 "InsideOut$Walk" ∈ lwg := tG 138 (by decide +kernel) (by decide +kernel)
set_option maxRecDepth 20000 in
theorem q139 : Cond.instantiable "InsideOut$Walk" 2 ∈ lwg := tG 139 (by decide +kernel) (by decide +kernel)
set_option maxRecDepth 20000 in
theorem q141 : Cond.instanceMethod yX5_init ∈ lwg := tG 141 (by decide +kernel) (by decide +kernel)
set_option maxRecDepth 20000 in
theorem q142 : Cond.code yX5_init prog_7_method_1_code 1 (none : Option Jvm.ClassFile.FieldType) ∈ lwg := tG 142 rfl rfl
set_option maxRecDepth 20000 in
theorem q143 : Cond.methodLink "InsideOut$Walk" 3 ⟨"java/lang/Object", "<init>", "()V"⟩ ∈ lwg := tG 143 (by decide +kernel) (by decide +kernel)
set_option maxRecDepth 20000 in
theorem q144 : Cond.classLink "InsideOut$Walk" 9 "InsideOut$Street" ∈ lwg := tG 144 (by decide +kernel) (by decide +kernel)
set_option maxRecDepth 20000 in
theorem q145 : Cond.methodLink "InsideOut$Walk" 11 yX2_init ∈ lwg := tG 145 (by decide +kernel) (by decide +kernel)
set_option maxRecDepth 20000 in
theorem q146 : Cond.classLink "InsideOut$Walk" 18 "InsideOut$Umbrella" ∈ lwg := tG 146 (by decide +kernel) (by decide +kernel)
set_option maxRecDepth 20000 in
theorem q148 : Cond.fieldLink "InsideOut$Walk" 12 "InsideOut$Walk" "street" "LInsideOut$Street;" ∈ lwg := tG 148 (by decide +kernel) (by decide +kernel)
set_option maxRecDepth 20000 in
theorem q149 : Cond.fieldLink "InsideOut" 181 "InsideOut$Walk" "street" "LInsideOut$Street;" ∈ lwg := tG 149 (by decide +kernel) (by decide +kernel)
set_option maxRecDepth 20000 in
theorem q150 : Cond.fieldLink "InsideOut$Walk" 21 "InsideOut$Walk" "walker" "LInsideOut$Umbrella;" ∈ lwg := tG 150 (by decide +kernel) (by decide +kernel)
set_option maxRecDepth 20000 in
theorem q151 : Cond.fieldLink "InsideOut" 165 "InsideOut$Walk" "walker" "LInsideOut$Umbrella;" ∈ lwg := tG 151 (by decide +kernel) (by decide +kernel)
set_option maxRecDepth 20000 in
theorem q152 : Cond.laysFinal "InsideOut$Walk" "InsideOut$Walk" "street" "LInsideOut$Street;" ∈ lwg := tG 152 (by decide +kernel) (by decide +kernel)
set_option maxRecDepth 20000 in
theorem q154 : Cond.laysFinal "InsideOut$Walk" "InsideOut$Walk" "walker" "LInsideOut$Umbrella;" ∈ lwg := tG 154 (by decide +kernel) (by decide +kernel)
set_option maxRecDepth 20000 in
theorem q157 : Cond.classLink "InsideOut" 33 "InsideOut$Tape" ∈ lwg := tG 157 (by decide +kernel) (by decide +kernel)
set_option maxRecDepth 20000 in
theorem q158 : Cond.instantiable "InsideOut$Tape" 2 ∈ lwg := tG 158 (by decide +kernel) (by decide +kernel)
set_option maxRecDepth 20000 in
theorem q160 : Cond.instanceMethod yX3_init ∈ lwg := tG 160 (by decide +kernel) (by decide +kernel)
set_option maxRecDepth 20000 in
theorem q161 : Cond.code yX3_init prog_5_method_1_code 1 (none : Option Jvm.ClassFile.FieldType) ∈ lwg := tG 161 rfl rfl
set_option maxRecDepth 20000 in
theorem q162 : Cond.methodLink "InsideOut$Tape" 3 ⟨"java/lang/Object", "<init>", "()V"⟩ ∈ lwg := tG 162 (by decide +kernel) (by decide +kernel)
set_option maxRecDepth 20000 in
theorem q163 : Cond.fieldLink "InsideOut$Tape" 9 "InsideOut$Tape" "bytes" "[I" ∈ lwg := tG 163 (by decide +kernel) (by decide +kernel)
set_option maxRecDepth 20000 in
theorem q164 : Cond.fieldLink "InsideOut$Tape" 15 "InsideOut$Tape" "length" "I" ∈ lwg := tG 164 (by decide +kernel) (by decide +kernel)
set_option maxRecDepth 20000 in
theorem q165 : Cond.fieldLink "InsideOut$Reader" 145 "InsideOut$Tape" "length" "I" ∈ lwg := tG 165 (by decide +kernel) (by decide +kernel)
set_option maxRecDepth 20000 in
theorem q166 : Cond.fieldLink "InsideOut" 203 "InsideOut$Tape" "length" "I" ∈ lwg := tG 166 (by decide +kernel) (by decide +kernel)
set_option maxRecDepth 20000 in
theorem q167 : Cond.laysFinal "InsideOut$Tape" "InsideOut$Tape" "bytes" "[I" ∈ lwg := tG 167 (by decide +kernel) (by decide +kernel)
set_option maxRecDepth 20000 in
theorem q169 : Cond.lays "InsideOut$Tape" "InsideOut$Tape" "length" "I" ∈ lwg := tG 169 (by decide +kernel) (by decide +kernel)
set_option maxRecDepth 20000 in
theorem q172 : Cond.classLink "InsideOut" 40 "InsideOut$Reader" ∈ lwg := tG 172 (by decide +kernel) (by decide +kernel)
set_option maxRecDepth 20000 in
theorem q173 : Cond.instantiable "InsideOut$Reader" 5 ∈ lwg := tG 173 (by decide +kernel) (by decide +kernel)
set_option maxRecDepth 20000 in
theorem q174 : Cond.methodLink "InsideOut" 42 yX0_init ∈ lwg := tG 174 (by decide +kernel) (by decide +kernel)
set_option maxRecDepth 20000 in
theorem q175 : Cond.instanceMethod yX0_init ∈ lwg := tG 175 (by decide +kernel) (by decide +kernel)
set_option maxRecDepth 20000 in
theorem q176 : Cond.code yX0_init prog_2_method_1_code 2 (none : Option Jvm.ClassFile.FieldType) ∈ lwg := tG 176 rfl rfl
set_option maxRecDepth 20000 in
theorem q177 : Cond.methodLink "InsideOut$Reader" 3 ⟨"java/lang/Object", "<init>", "()V"⟩ ∈ lwg := tG 177 (by decide +kernel) (by decide +kernel)
set_option maxRecDepth 20000 in
theorem q178 : Cond.fieldLink "InsideOut$Reader" 24 "InsideOut$Reader" "tape" "LInsideOut$Tape;" ∈ lwg := tG 178 (by decide +kernel) (by decide +kernel)
set_option maxRecDepth 20000 in
theorem q179 : Cond.fieldLink "InsideOut$Reader" 9 "InsideOut$Reader" "place" "I" ∈ lwg := tG 179 (by decide +kernel) (by decide +kernel)
set_option maxRecDepth 20000 in
theorem q180 : Cond.fieldLink "InsideOut$Reader" 15 "InsideOut$Reader" "behind" "I" ∈ lwg := tG 180 (by decide +kernel) (by decide +kernel)
set_option maxRecDepth 20000 in
theorem q181 : Cond.fieldLink "InsideOut$Reader" 18 "InsideOut$Reader" "token" "I" ∈ lwg := tG 181 (by decide +kernel) (by decide +kernel)
set_option maxRecDepth 20000 in
theorem q182 : Cond.fieldLink "InsideOut$Reader" 21 "InsideOut$Reader" "number" "I" ∈ lwg := tG 182 (by decide +kernel) (by decide +kernel)
set_option maxRecDepth 20000 in
theorem q183 : Cond.laysFinal "InsideOut$Reader" "InsideOut$Reader" "tape" "LInsideOut$Tape;" ∈ lwg := tG 183 (by decide +kernel) (by decide +kernel)
set_option maxRecDepth 20000 in
theorem q185 : Cond.lays "InsideOut$Reader" "InsideOut$Reader" "place" "I" ∈ lwg := tG 185 (by decide +kernel) (by decide +kernel)
set_option maxRecDepth 20000 in
theorem q187 : Cond.lays "InsideOut$Reader" "InsideOut$Reader" "behind" "I" ∈ lwg := tG 187 (by decide +kernel) (by decide +kernel)
set_option maxRecDepth 20000 in
theorem q189 : Cond.lays "InsideOut$Reader" "InsideOut$Reader" "token" "I" ∈ lwg := tG 189 (by decide +kernel) (by decide +kernel)
set_option maxRecDepth 20000 in
theorem q191 : Cond.lays "InsideOut$Reader" "InsideOut$Reader" "number" "I" ∈ lwg := tG 191 (by decide +kernel) (by decide +kernel)
set_option maxRecDepth 20000 in
theorem q194 : Cond.classLink "InsideOut" 49 "InsideOut$Sheet" ∈ lwg := tG 194 (by decide +kernel) (by decide +kernel)
set_option maxRecDepth 20000 in
theorem q196 : Cond.instantiable "InsideOut$Sheet" 3 ∈ lwg := tG 196 (by decide +kernel) (by decide +kernel)
set_option maxRecDepth 20000 in
theorem q198 : Cond.instanceMethod yX1_init ∈ lwg := tG 198 (by decide +kernel) (by decide +kernel)
set_option maxRecDepth 20000 in
theorem q199 : Cond.code yX1_init prog_3_method_1_code 1 (none : Option Jvm.ClassFile.FieldType) ∈ lwg := tG 199 rfl rfl
set_option maxRecDepth 20000 in
theorem q200 : Cond.methodLink "InsideOut$Sheet" 3 ⟨"java/lang/Object", "<init>", "()V"⟩ ∈ lwg := tG 200 (by decide +kernel) (by decide +kernel)
set_option maxRecDepth 20000 in
theorem q201 : Cond.fieldLink "InsideOut$Sheet" 9 "InsideOut$Sheet" "numbers" "[I" ∈ lwg := tG 201 (by decide +kernel) (by decide +kernel)
set_option maxRecDepth 20000 in
theorem q202 : Cond.fieldLink "InsideOut$Walk" 67 "InsideOut$Sheet" "numbers" "[I" ∈ lwg := tG 202 (by decide +kernel) (by decide +kernel)
set_option maxRecDepth 20000 in
theorem q203 : Cond.fieldLink "InsideOut" 248 "InsideOut$Sheet" "numbers" "[I" ∈ lwg := tG 203 (by decide +kernel) (by decide +kernel)
set_option maxRecDepth 20000 in
theorem q204 : Cond.fieldLink "InsideOut$Sheet" 15 "InsideOut$Sheet" "bits" "I" ∈ lwg := tG 204 (by decide +kernel) (by decide +kernel)
set_option maxRecDepth 20000 in
theorem q205 : Cond.fieldLink "InsideOut" 242 "InsideOut$Sheet" "bits" "I" ∈ lwg := tG 205 (by decide +kernel) (by decide +kernel)
set_option maxRecDepth 20000 in
theorem q206 : Cond.fieldLink "InsideOut$Sheet" 19 "InsideOut$Sheet" "size" "I" ∈ lwg := tG 206 (by decide +kernel) (by decide +kernel)
set_option maxRecDepth 20000 in
theorem q207 : Cond.fieldLink "InsideOut$Walk" 62 "InsideOut$Sheet" "size" "I" ∈ lwg := tG 207 (by decide +kernel) (by decide +kernel)
set_option maxRecDepth 20000 in
theorem q208 : Cond.fieldLink "InsideOut" 235 "InsideOut$Sheet" "size" "I" ∈ lwg := tG 208 (by decide +kernel) (by decide +kernel)
set_option maxRecDepth 20000 in
theorem q209 : Cond.laysFinal "InsideOut$Sheet" "InsideOut$Sheet" "numbers" "[I" ∈ lwg := tG 209 (by decide +kernel) (by decide +kernel)
set_option maxRecDepth 20000 in
theorem q211 : Cond.lays "InsideOut$Sheet" "InsideOut$Sheet" "bits" "I" ∈ lwg := tG 211 (by decide +kernel) (by decide +kernel)
set_option maxRecDepth 20000 in
theorem q213 : Cond.lays "InsideOut$Sheet" "InsideOut$Sheet" "size" "I" ∈ lwg := tG 213 (by decide +kernel) (by decide +kernel)
set_option maxRecDepth 20000 in
theorem q216 : Cond.fieldLink "InsideOut" 10 "InsideOut" "world" "LInsideOut$World;" ∈ lwg := tG 216 (by decide +kernel) (by decide +kernel)
set_option maxRecDepth 20000 in
theorem q217 : Cond.fieldLink "InsideOut" 16 "InsideOut" "kept" "LInsideOut$World;" ∈ lwg := tG 217 (by decide +kernel) (by decide +kernel)
set_option maxRecDepth 20000 in
theorem q218 : Cond.fieldLink "InsideOut" 19 "InsideOut" "draft" "LInsideOut$World;" ∈ lwg := tG 218 (by decide +kernel) (by decide +kernel)
set_option maxRecDepth 20000 in
theorem q219 : Cond.fieldLink "InsideOut" 22 "InsideOut" "somethingKept" "Z" ∈ lwg := tG 219 (by decide +kernel) (by decide +kernel)
set_option maxRecDepth 20000 in
theorem q220 : Cond.fieldLink "InsideOut" 29 "InsideOut" "walk" "LInsideOut$Walk;" ∈ lwg := tG 220 (by decide +kernel) (by decide +kernel)
set_option maxRecDepth 20000 in
theorem q221 : Cond.fieldLink "InsideOut" 36 "InsideOut" "tape" "LInsideOut$Tape;" ∈ lwg := tG 221 (by decide +kernel) (by decide +kernel)
set_option maxRecDepth 20000 in
theorem q222 : Cond.fieldLink "InsideOut" 45 "InsideOut" "reader" "LInsideOut$Reader;" ∈ lwg := tG 222 (by decide +kernel) (by decide +kernel)
set_option maxRecDepth 20000 in
theorem q223 : Cond.fieldLink "InsideOut" 51 "InsideOut" "sheets" "[LInsideOut$Sheet;" ∈ lwg := tG 223 (by decide +kernel) (by decide +kernel)
set_option maxRecDepth 20000 in
theorem q224 : Cond.fieldLink "InsideOut" 55 "InsideOut" "findings" "[I" ∈ lwg := tG 224 (by decide +kernel) (by decide +kernel)
set_option maxRecDepth 20000 in
theorem q225 : Cond.laysFinal "InsideOut" "InsideOut" "world" "LInsideOut$World;" ∈ lwg := tG 225 (by decide +kernel) (by decide +kernel)
set_option maxRecDepth 20000 in
theorem q227 : Cond.laysFinal "InsideOut" "InsideOut" "kept" "LInsideOut$World;" ∈ lwg := tG 227 (by decide +kernel) (by decide +kernel)
set_option maxRecDepth 20000 in
theorem q229 : Cond.laysFinal "InsideOut" "InsideOut" "draft" "LInsideOut$World;" ∈ lwg := tG 229 (by decide +kernel) (by decide +kernel)
set_option maxRecDepth 20000 in
theorem q231 : Cond.lays "InsideOut" "InsideOut" "somethingKept" "Z" ∈ lwg := tG 231 (by decide +kernel) (by decide +kernel)
set_option maxRecDepth 20000 in
theorem q233 : Cond.laysFinal "InsideOut" "InsideOut" "walk" "LInsideOut$Walk;" ∈ lwg := tG 233 (by decide +kernel) (by decide +kernel)
set_option maxRecDepth 20000 in
theorem q235 : Cond.laysFinal "InsideOut" "InsideOut" "tape" "LInsideOut$Tape;" ∈ lwg := tG 235 (by decide +kernel) (by decide +kernel)
set_option maxRecDepth 20000 in
theorem q237 : Cond.laysFinal "InsideOut" "InsideOut" "reader" "LInsideOut$Reader;" ∈ lwg := tG 237 (by decide +kernel) (by decide +kernel)
set_option maxRecDepth 20000 in
theorem q239 : Cond.laysFinal "InsideOut" "InsideOut" "sheets" "[LInsideOut$Sheet;" ∈ lwg := tG 239 (by decide +kernel) (by decide +kernel)
set_option maxRecDepth 20000 in
theorem q241 : Cond.laysFinal "InsideOut" "InsideOut" "findings" "[I" ∈ lwg := tG 241 (by decide +kernel) (by decide +kernel)
set_option maxRecDepth 20000 in
theorem q244 : Cond.methodLink "InsideOutLaw" 13 yX7_step ∈ lwg := tG 244 (by decide +kernel) (by decide +kernel)
set_option maxRecDepth 20000 in
theorem q245 : Cond.instanceMethod yX7_step ∈ lwg := tG 245 (by decide +kernel) (by decide +kernel)
set_option maxRecDepth 20000 in
theorem q246 : Cond.selects "InsideOut" yX7_step yX7_step ∈ lwg := tG 246 (by decide +kernel) (by decide +kernel)
set_option maxRecDepth 20000 in
theorem q247 : Cond.code yX7_step prog_1_method_2_code 8 (some .int) ∈ lwg := tG 247 rfl rfl
set_option maxRecDepth 20000 in
theorem q248 : Cond.methodLink "InsideOut" 60 yX7_isStep ∈ lwg := tG 248 (by decide +kernel) (by decide +kernel)
set_option maxRecDepth 20000 in
theorem q249 : Cond.static yX7_isStep ∈ lwg := tG 249 (by decide +kernel) (by decide +kernel)
set_option maxRecDepth 20000 in
theorem q250 : Cond.code yX7_isStep prog_1_method_45_code 1 (some .boolean) ∈ lwg := tG 250 rfl rfl
set_option maxRecDepth 20000 in
theorem q251 : Cond.methodLink "InsideOut" 64 yX7_finding ∈ lwg := tG 251 (by decide +kernel) (by decide +kernel)
set_option maxRecDepth 20000 in
theorem q253 : Cond.instanceMethod yX7_finding ∈ lwg := tG 253 (by decide +kernel) (by decide +kernel)
set_option maxRecDepth 20000 in
theorem q254 : Cond.code yX7_finding prog_1_method_43_code 2 (some .int) ∈ lwg := tG 254 rfl rfl
set_option maxRecDepth 20000 in
theorem q255 : Cond.constant "InsideOut" 260 (-1000001 : Int32) ∈ lwg := tG 255 (by decide +kernel) (by decide +kernel)
set_option maxRecDepth 20000 in
theorem q256 : Cond.methodLink "InsideOut" 83 yX7_isWithin ∈ lwg := tG 256 (by decide +kernel) (by decide +kernel)
set_option maxRecDepth 20000 in
theorem q257 : Cond.static yX7_isWithin ∈ lwg := tG 257 (by decide +kernel) (by decide +kernel)
set_option maxRecDepth 20000 in
theorem q258 : Cond.code yX7_isWithin prog_1_method_44_code 2 (some .boolean) ∈ lwg := tG 258 rfl rfl
set_option maxRecDepth 20000 in
theorem q259 : Cond.methodLink "InsideOutLaw" 18 yX7_stepOf ∈ lwg := tG 259 (by decide +kernel) (by decide +kernel)
set_option maxRecDepth 20000 in
theorem q260 : Cond.instanceMethod yX7_stepOf ∈ lwg := tG 260 (by decide +kernel) (by decide +kernel)
set_option maxRecDepth 20000 in
theorem q261 : Cond.selects "InsideOut" yX7_stepOf yX7_stepOf ∈ lwg := tG 261 (by decide +kernel) (by decide +kernel)
set_option maxRecDepth 20000 in
theorem q262 : Cond.code yX7_stepOf prog_1_method_3_code 4 (some .int) ∈ lwg := tG 262 rfl rfl
set_option maxRecDepth 20000 in
theorem q263 : Cond.methodLink "InsideOut" 87 yX2_windOn ∈ lwg := tG 263 (by decide +kernel) (by decide +kernel)
set_option maxRecDepth 20000 in
theorem q264 : Cond.instanceMethod yX2_windOn ∈ lwg := tG 264 (by decide +kernel) (by decide +kernel)
set_option maxRecDepth 20000 in
theorem q265 : Cond.selects "InsideOut$Street" yX2_windOn yX2_windOn ∈ lwg := tG 265 (by decide +kernel) (by decide +kernel)
set_option maxRecDepth 20000 in
theorem q266 : Cond.code yX2_windOn prog_4_method_3_code 3 (some .int) ∈ lwg := tG 266 rfl rfl
set_option maxRecDepth 20000 in
theorem q268 : Cond.methodLink "InsideOut" 90 yX6_setOf ∈ lwg := tG 268 (by decide +kernel) (by decide +kernel)
set_option maxRecDepth 20000 in
theorem q269 : Cond.instanceMethod yX6_setOf ∈ lwg := tG 269 (by decide +kernel) (by decide +kernel)
set_option maxRecDepth 20000 in
theorem q270 : Cond.selects "InsideOut$World" yX6_setOf yX6_setOf ∈ lwg := tG 270 (by decide +kernel) (by decide +kernel)
set_option maxRecDepth 20000 in
theorem q271 : Cond.code yX6_setOf prog_8_method_7_code 5 (some .int) ∈ lwg := tG 271 rfl rfl
set_option maxRecDepth 20000 in
theorem q272 : Cond.methodLink "InsideOut$World" 67 yX4_mark ∈ lwg := tG 272 (by decide +kernel) (by decide +kernel)
set_option maxRecDepth 20000 in
theorem q273 : Cond.instanceMethod yX4_mark ∈ lwg := tG 273 (by decide +kernel) (by decide +kernel)
set_option maxRecDepth 20000 in
theorem q274 : Cond.selects "InsideOut$Umbrella" yX4_mark yX4_mark ∈ lwg := tG 274 (by decide +kernel) (by decide +kernel)
set_option maxRecDepth 20000 in
theorem q275 : Cond.code yX4_mark prog_6_method_4_code 2 (some .int) ∈ lwg := tG 275 rfl rfl
set_option maxRecDepth 20000 in
theorem q276 : Cond.methodLink "InsideOutLaw" 23 yX7_weather ∈ lwg := tG 276 (by decide +kernel) (by decide +kernel)
set_option maxRecDepth 20000 in
theorem q277 : Cond.instanceMethod yX7_weather ∈ lwg := tG 277 (by decide +kernel) (by decide +kernel)
set_option maxRecDepth 20000 in
theorem q278 : Cond.selects "InsideOut" yX7_weather yX7_weather ∈ lwg := tG 278 (by decide +kernel) (by decide +kernel)
set_option maxRecDepth 20000 in
theorem q279 : Cond.code yX7_weather prog_1_method_4_code 5 (some .int) ∈ lwg := tG 279 rfl rfl
set_option maxRecDepth 20000 in
theorem q280 : Cond.methodLink "InsideOutLaw" 27 yX7_umbrella ∈ lwg := tG 280 (by decide +kernel) (by decide +kernel)
set_option maxRecDepth 20000 in
theorem q281 : Cond.instanceMethod yX7_umbrella ∈ lwg := tG 281 (by decide +kernel) (by decide +kernel)
set_option maxRecDepth 20000 in
theorem q282 : Cond.selects "InsideOut" yX7_umbrella yX7_umbrella ∈ lwg := tG 282 (by decide +kernel) (by decide +kernel)
set_option maxRecDepth 20000 in
theorem q283 : Cond.code yX7_umbrella prog_1_method_5_code 2 (some .int) ∈ lwg := tG 283 rfl rfl
set_option maxRecDepth 20000 in
theorem q284 : Cond.methodLink "InsideOut" 101 yX7_isKind ∈ lwg := tG 284 (by decide +kernel) (by decide +kernel)
set_option maxRecDepth 20000 in
theorem q285 : Cond.static yX7_isKind ∈ lwg := tG 285 (by decide +kernel) (by decide +kernel)
set_option maxRecDepth 20000 in
theorem q286 : Cond.code yX7_isKind prog_1_method_46_code 1 (some .boolean) ∈ lwg := tG 286 rfl rfl
set_option maxRecDepth 20000 in
theorem q287 : Cond.methodLink "InsideOut" 104 yX6_isFull ∈ lwg := tG 287 (by decide +kernel) (by decide +kernel)
set_option maxRecDepth 20000 in
theorem q288 : Cond.instanceMethod yX6_isFull ∈ lwg := tG 288 (by decide +kernel) (by decide +kernel)
set_option maxRecDepth 20000 in
theorem q289 : Cond.selects "InsideOut$World" yX6_isFull yX6_isFull ∈ lwg := tG 289 (by decide +kernel) (by decide +kernel)
set_option maxRecDepth 20000 in
theorem q290 : Cond.code yX6_isFull prog_8_method_3_code 1 (some .boolean) ∈ lwg := tG 290 rfl rfl
set_option maxRecDepth 20000 in
theorem q291 : Cond.methodLink "InsideOut" 108 yX6_addUmbrella ∈ lwg := tG 291 (by decide +kernel) (by decide +kernel)
set_option maxRecDepth 20000 in
theorem q292 : Cond.instanceMethod yX6_addUmbrella ∈ lwg := tG 292 (by decide +kernel) (by decide +kernel)
set_option maxRecDepth 20000 in
theorem q293 : Cond.selects "InsideOut$World" yX6_addUmbrella yX6_addUmbrella ∈ lwg := tG 293 (by decide +kernel) (by decide +kernel)
set_option maxRecDepth 20000 in
theorem q294 : Cond.code yX6_addUmbrella prog_8_method_4_code 3 (some .int) ∈ lwg := tG 294 rfl rfl
set_option maxRecDepth 20000 in
theorem q295 : Cond.methodLink "InsideOut$World" 55 yX4_beNew ∈ lwg := tG 295 (by decide +kernel) (by decide +kernel)
set_option maxRecDepth 20000 in
theorem q296 : Cond.instanceMethod yX4_beNew ∈ lwg := tG 296 (by decide +kernel) (by decide +kernel)
set_option maxRecDepth 20000 in
theorem q297 : Cond.selects "InsideOut$Umbrella" yX4_beNew yX4_beNew ∈ lwg := tG 297 (by decide +kernel) (by decide +kernel)
set_option maxRecDepth 20000 in
theorem q298 : Cond.code yX4_beNew prog_6_method_2_code 2 (none : Option Jvm.ClassFile.FieldType) ∈ lwg := tG 298 rfl rfl
set_option maxRecDepth 20000 in
theorem q299 : Cond.methodLink "InsideOutLaw" 32 yX7_of ∈ lwg := tG 299 (by decide +kernel) (by decide +kernel)
set_option maxRecDepth 20000 in
theorem q300 : Cond.instanceMethod yX7_of ∈ lwg := tG 300 (by decide +kernel) (by decide +kernel)
set_option maxRecDepth 20000 in
theorem q301 : Cond.selects "InsideOut" yX7_of yX7_of ∈ lwg := tG 301 (by decide +kernel) (by decide +kernel)
set_option maxRecDepth 20000 in
theorem q302 : Cond.code yX7_of prog_1_method_6_code 4 (some .int) ∈ lwg := tG 302 rfl rfl
set_option maxRecDepth 20000 in
theorem q303 : Cond.methodLink "InsideOut" 111 yX7_isUmbrella ∈ lwg := tG 303 (by decide +kernel) (by decide +kernel)
set_option maxRecDepth 20000 in
theorem q305 : Cond.instanceMethod yX7_isUmbrella ∈ lwg := tG 305 (by decide +kernel) (by decide +kernel)
set_option maxRecDepth 20000 in
theorem q306 : Cond.code yX7_isUmbrella prog_1_method_49_code 2 (some .boolean) ∈ lwg := tG 306 rfl rfl
set_option maxRecDepth 20000 in
theorem q307 : Cond.methodLink "InsideOut" 118 yX4_stiff ∈ lwg := tG 307 (by decide +kernel) (by decide +kernel)
set_option maxRecDepth 20000 in
theorem q308 : Cond.instanceMethod yX4_stiff ∈ lwg := tG 308 (by decide +kernel) (by decide +kernel)
set_option maxRecDepth 20000 in
theorem q309 : Cond.selects "InsideOut$Umbrella" yX4_stiff yX4_stiff ∈ lwg := tG 309 (by decide +kernel) (by decide +kernel)
set_option maxRecDepth 20000 in
theorem q310 : Cond.code yX4_stiff prog_6_method_6_code 5 (some .int) ∈ lwg := tG 310 rfl rfl
set_option maxRecDepth 20000 in
theorem q311 : Cond.methodLink "InsideOut$Umbrella" 36 yJ9_max_7cf53 ∈ lwg := tG 311 (by decide +kernel) (by decide +kernel)
set_option maxRecDepth 20000 in
theorem q312 : Cond.static yJ9_max_7cf53 ∈ lwg := tG 312 (by decide +kernel) (by decide +kernel)
set_option maxRecDepth 20000 in
theorem q313 : Cond.code yJ9_max_7cf53 prog_12_method_65_code 2 (some .int) ∈ lwg := tG 313 rfl rfl
set_option maxRecDepth 20000 in
theorem q314 : Cond.methodLink "InsideOut" 124 yX4_covers ∈ lwg := tG 314 (by decide +kernel) (by decide +kernel)
set_option maxRecDepth 20000 in
theorem q315 : Cond.instanceMethod yX4_covers ∈ lwg := tG 315 (by decide +kernel) (by decide +kernel)
set_option maxRecDepth 20000 in
theorem q316 : Cond.selects "InsideOut$Umbrella" yX4_covers yX4_covers ∈ lwg := tG 316 (by decide +kernel) (by decide +kernel)
set_option maxRecDepth 20000 in
theorem q317 : Cond.code yX4_covers prog_6_method_8_code 5 (some .int) ∈ lwg := tG 317 rfl rfl
set_option maxRecDepth 20000 in
theorem q318 : Cond.methodLink "InsideOut$Umbrella" 47 yJ9_min_7cf53 ∈ lwg := tG 318 (by decide +kernel) (by decide +kernel)
set_option maxRecDepth 20000 in
theorem q319 : Cond.static yJ9_min_7cf53 ∈ lwg := tG 319 (by decide +kernel) (by decide +kernel)
set_option maxRecDepth 20000 in
theorem q320 : Cond.code yJ9_min_7cf53 prog_12_method_69_code 2 (some .int) ∈ lwg := tG 320 rfl rfl
set_option maxRecDepth 20000 in
theorem q321 : Cond.methodLink "InsideOut" 131 yX4_pace ∈ lwg := tG 321 (by decide +kernel) (by decide +kernel)
set_option maxRecDepth 20000 in
theorem q322 : Cond.instanceMethod yX4_pace ∈ lwg := tG 322 (by decide +kernel) (by decide +kernel)
set_option maxRecDepth 20000 in
theorem q323 : Cond.selects "InsideOut$Umbrella" yX4_pace yX4_pace ∈ lwg := tG 323 (by decide +kernel) (by decide +kernel)
set_option maxRecDepth 20000 in
theorem q324 : Cond.code yX4_pace prog_6_method_9_code 2 (some .int) ∈ lwg := tG 324 rfl rfl
set_option maxRecDepth 20000 in
theorem q325 : Cond.methodLink "InsideOut" 134 yX4_mark ∈ lwg := tG 325 (by decide +kernel) (by decide +kernel)
set_option maxRecDepth 20000 in
theorem q326 : Cond.methodLink "InsideOutLaw" 36 yX7_change ∈ lwg := tG 326 (by decide +kernel) (by decide +kernel)
set_option maxRecDepth 20000 in
theorem q327 : Cond.instanceMethod yX7_change ∈ lwg := tG 327 (by decide +kernel) (by decide +kernel)
set_option maxRecDepth 20000 in
theorem q328 : Cond.selects "InsideOut" yX7_change yX7_change ∈ lwg := tG 328 (by decide +kernel) (by decide +kernel)
set_option maxRecDepth 20000 in
theorem q329 : Cond.code yX7_change prog_1_method_7_code 6 (some .int) ∈ lwg := tG 329 rfl rfl
set_option maxRecDepth 20000 in
theorem q330 : Cond.fieldLink "InsideOut" 137 "InsideOut" "GREATEST" "[I" ∈ lwg := tG 330 (by decide +kernel) (by decide +kernel)
set_option maxRecDepth 20000 in
theorem q332 : Cond.methodLink "InsideOut" 140 yX4_setMark ∈ lwg := tG 332 (by decide +kernel) (by decide +kernel)
set_option maxRecDepth 20000 in
theorem q333 : Cond.instanceMethod yX4_setMark ∈ lwg := tG 333 (by decide +kernel) (by decide +kernel)
set_option maxRecDepth 20000 in
theorem q334 : Cond.selects "InsideOut$Umbrella" yX4_setMark yX4_setMark ∈ lwg := tG 334 (by decide +kernel) (by decide +kernel)
set_option maxRecDepth 20000 in
theorem q335 : Cond.code yX4_setMark prog_6_method_5_code 3 (none : Option Jvm.ClassFile.FieldType) ∈ lwg := tG 335 rfl rfl
set_option maxRecDepth 20000 in
theorem q336 : Cond.methodLink "InsideOutLaw" 40 yX7_bears ∈ lwg := tG 336 (by decide +kernel) (by decide +kernel)
set_option maxRecDepth 20000 in
theorem q337 : Cond.instanceMethod yX7_bears ∈ lwg := tG 337 (by decide +kernel) (by decide +kernel)
set_option maxRecDepth 20000 in
theorem q338 : Cond.selects "InsideOut" yX7_bears yX7_bears ∈ lwg := tG 338 (by decide +kernel) (by decide +kernel)
set_option maxRecDepth 20000 in
theorem q339 : Cond.code yX7_bears prog_1_method_8_code 5 (some .int) ∈ lwg := tG 339 rfl rfl
set_option maxRecDepth 20000 in
theorem q340 : Cond.methodLink "InsideOut" 144 yX4_bearable ∈ lwg := tG 340 (by decide +kernel) (by decide +kernel)
set_option maxRecDepth 20000 in
theorem q341 : Cond.static yX4_bearable ∈ lwg := tG 341 (by decide +kernel) (by decide +kernel)
set_option maxRecDepth 20000 in
theorem q342 : Cond.code yX4_bearable prog_6_method_7_code 4 (some .int) ∈ lwg := tG 342 rfl rfl
set_option maxRecDepth 20000 in
theorem q343 : Cond.methodLink "InsideOutLaw" 44 yX7_go ∈ lwg := tG 343 (by decide +kernel) (by decide +kernel)
set_option maxRecDepth 20000 in
theorem q344 : Cond.instanceMethod yX7_go ∈ lwg := tG 344 (by decide +kernel) (by decide +kernel)
set_option maxRecDepth 20000 in
theorem q345 : Cond.selects "InsideOut" yX7_go yX7_go ∈ lwg := tG 345 (by decide +kernel) (by decide +kernel)
set_option maxRecDepth 20000 in
theorem q346 : Cond.code yX7_go prog_1_method_9_code 3 (some .int) ∈ lwg := tG 346 rfl rfl
set_option maxRecDepth 20000 in
theorem q347 : Cond.constant "InsideOut" 148 (99999 : Int32) ∈ lwg := tG 347 (by decide +kernel) (by decide +kernel)
set_option maxRecDepth 20000 in
theorem q348 : Cond.methodLink "InsideOut" 149 yX6_passTick ∈ lwg := tG 348 (by decide +kernel) (by decide +kernel)
set_option maxRecDepth 20000 in
theorem q349 : Cond.instanceMethod yX6_passTick ∈ lwg := tG 349 (by decide +kernel) (by decide +kernel)
set_option maxRecDepth 20000 in
theorem q350 : Cond.selects "InsideOut$World" yX6_passTick yX6_passTick ∈ lwg := tG 350 (by decide +kernel) (by decide +kernel)
set_option maxRecDepth 20000 in
theorem q351 : Cond.code yX6_passTick prog_8_method_5_code 3 (some .int) ∈ lwg := tG 351 rfl rfl
set_option maxRecDepth 20000 in
theorem q352 : Cond.methodLink "InsideOut$World" 59 yX4_walkOn ∈ lwg := tG 352 (by decide +kernel) (by decide +kernel)
set_option maxRecDepth 20000 in
theorem q353 : Cond.instanceMethod yX4_walkOn ∈ lwg := tG 353 (by decide +kernel) (by decide +kernel)
set_option maxRecDepth 20000 in
theorem q354 : Cond.selects "InsideOut$Umbrella" yX4_walkOn yX4_walkOn ∈ lwg := tG 354 (by decide +kernel) (by decide +kernel)
set_option maxRecDepth 20000 in
theorem q355 : Cond.code yX4_walkOn prog_6_method_10_code 8 (some .boolean) ∈ lwg := tG 355 rfl rfl
set_option maxRecDepth 20000 in
theorem q357 : Cond.methodLink "InsideOut$Umbrella" 61 yX2_windOn ∈ lwg := tG 357 (by decide +kernel) (by decide +kernel)
set_option maxRecDepth 20000 in
theorem q358 : Cond.methodLink "InsideOut$Umbrella" 65 yX4_stiff ∈ lwg := tG 358 (by decide +kernel) (by decide +kernel)
set_option maxRecDepth 20000 in
theorem q359 : Cond.methodLink "InsideOut$Umbrella" 69 yX4_bearable ∈ lwg := tG 359 (by decide +kernel) (by decide +kernel)
set_option maxRecDepth 20000 in
theorem q360 : Cond.methodLink "InsideOut$Umbrella" 73 yX4_holdByHabit ∈ lwg := tG 360 (by decide +kernel) (by decide +kernel)
set_option maxRecDepth 20000 in
theorem q362 : Cond.instanceMethod yX4_holdByHabit ∈ lwg := tG 362 (by decide +kernel) (by decide +kernel)
set_option maxRecDepth 20000 in
theorem q363 : Cond.code yX4_holdByHabit prog_6_method_11_code 4 (none : Option Jvm.ClassFile.FieldType) ∈ lwg := tG 363 rfl rfl
set_option maxRecDepth 20000 in
theorem q364 : Cond.methodLink "InsideOut$Umbrella" 77 yX4_turn ∈ lwg := tG 364 (by decide +kernel) (by decide +kernel)
set_option maxRecDepth 20000 in
theorem q366 : Cond.instanceMethod yX4_turn ∈ lwg := tG 366 (by decide +kernel) (by decide +kernel)
set_option maxRecDepth 20000 in
theorem q367 : Cond.code yX4_turn prog_6_method_12_code 3 (some .boolean) ∈ lwg := tG 367 rfl rfl
set_option maxRecDepth 20000 in
theorem q369 : Cond.methodLink "InsideOut$Umbrella" 84 yX4_covers ∈ lwg := tG 369 (by decide +kernel) (by decide +kernel)
set_option maxRecDepth 20000 in
theorem q370 : Cond.methodLink "InsideOut$Umbrella" 91 yX4_pace ∈ lwg := tG 370 (by decide +kernel) (by decide +kernel)
set_option maxRecDepth 20000 in
theorem q371 : Cond.methodLink "InsideOut$World" 63 yX2_nextTick ∈ lwg := tG 371 (by decide +kernel) (by decide +kernel)
set_option maxRecDepth 20000 in
theorem q372 : Cond.instanceMethod yX2_nextTick ∈ lwg := tG 372 (by decide +kernel) (by decide +kernel)
set_option maxRecDepth 20000 in
theorem q373 : Cond.selects "InsideOut$Street" yX2_nextTick yX2_nextTick ∈ lwg := tG 373 (by decide +kernel) (by decide +kernel)
set_option maxRecDepth 20000 in
theorem q374 : Cond.code yX2_nextTick prog_4_method_5_code 2 (none : Option Jvm.ClassFile.FieldType) ∈ lwg := tG 374 rfl rfl
set_option maxRecDepth 20000 in
theorem q375 : Cond.constant "InsideOut$Street" 47 (99999 : Int32) ∈ lwg := tG 375 (by decide +kernel) (by decide +kernel)
set_option maxRecDepth 20000 in
theorem q376 : Cond.methodLink "InsideOut$Street" 48 yJ9_min_7cf53 ∈ lwg := tG 376 (by decide +kernel) (by decide +kernel)
set_option maxRecDepth 20000 in
theorem q377 : Cond.methodLink "InsideOutLaw" 48 yX7_now ∈ lwg := tG 377 (by decide +kernel) (by decide +kernel)
set_option maxRecDepth 20000 in
theorem q378 : Cond.instanceMethod yX7_now ∈ lwg := tG 378 (by decide +kernel) (by decide +kernel)
set_option maxRecDepth 20000 in
theorem q379 : Cond.selects "InsideOut" yX7_now yX7_now ∈ lwg := tG 379 (by decide +kernel) (by decide +kernel)
set_option maxRecDepth 20000 in
theorem q380 : Cond.code yX7_now prog_1_method_10_code 2 (some .int) ∈ lwg := tG 380 rfl rfl
set_option maxRecDepth 20000 in
theorem q381 : Cond.methodLink "InsideOut" 152 yX6_sumOf ∈ lwg := tG 381 (by decide +kernel) (by decide +kernel)
set_option maxRecDepth 20000 in
theorem q382 : Cond.instanceMethod yX6_sumOf ∈ lwg := tG 382 (by decide +kernel) (by decide +kernel)
set_option maxRecDepth 20000 in
theorem q383 : Cond.selects "InsideOut$World" yX6_sumOf yX6_sumOf ∈ lwg := tG 383 (by decide +kernel) (by decide +kernel)
set_option maxRecDepth 20000 in
theorem q384 : Cond.code yX6_sumOf prog_8_method_8_code 4 (some .int) ∈ lwg := tG 384 rfl rfl
set_option maxRecDepth 20000 in
theorem q385 : Cond.methodLink "InsideOut" 155 yX2_roofs ∈ lwg := tG 385 (by decide +kernel) (by decide +kernel)
set_option maxRecDepth 20000 in
theorem q386 : Cond.instanceMethod yX2_roofs ∈ lwg := tG 386 (by decide +kernel) (by decide +kernel)
set_option maxRecDepth 20000 in
theorem q387 : Cond.selects "InsideOut$Street" yX2_roofs yX2_roofs ∈ lwg := tG 387 (by decide +kernel) (by decide +kernel)
set_option maxRecDepth 20000 in
theorem q388 : Cond.code yX2_roofs prog_4_method_4_code 3 (some .int) ∈ lwg := tG 388 rfl rfl
set_option maxRecDepth 20000 in
theorem q389 : Cond.methodLink "InsideOutLaw" 52 yX7_ahead ∈ lwg := tG 389 (by decide +kernel) (by decide +kernel)
set_option maxRecDepth 20000 in
theorem q390 : Cond.instanceMethod yX7_ahead ∈ lwg := tG 390 (by decide +kernel) (by decide +kernel)
set_option maxRecDepth 20000 in
theorem q391 : Cond.selects "InsideOut" yX7_ahead yX7_ahead ∈ lwg := tG 391 (by decide +kernel) (by decide +kernel)
set_option maxRecDepth 20000 in
theorem q392 : Cond.code yX7_ahead prog_1_method_11_code 5 (some .int) ∈ lwg := tG 392 rfl rfl
set_option maxRecDepth 20000 in
theorem q393 : Cond.methodLink "InsideOut" 158 yX7_startWalk ∈ lwg := tG 393 (by decide +kernel) (by decide +kernel)
set_option maxRecDepth 20000 in
theorem q395 : Cond.instanceMethod yX7_startWalk ∈ lwg := tG 395 (by decide +kernel) (by decide +kernel)
set_option maxRecDepth 20000 in
theorem q396 : Cond.code yX7_startWalk prog_1_method_51_code 2 (none : Option Jvm.ClassFile.FieldType) ∈ lwg := tG 396 rfl rfl
set_option maxRecDepth 20000 in
theorem q397 : Cond.methodLink "InsideOut" 264 yX5_start ∈ lwg := tG 397 (by decide +kernel) (by decide +kernel)
set_option maxRecDepth 20000 in
theorem q398 : Cond.instanceMethod yX5_start ∈ lwg := tG 398 (by decide +kernel) (by decide +kernel)
set_option maxRecDepth 20000 in
theorem q399 : Cond.selects "InsideOut$Walk" yX5_start yX5_start ∈ lwg := tG 399 (by decide +kernel) (by decide +kernel)
set_option maxRecDepth 20000 in
theorem q400 : Cond.code yX5_start prog_7_method_2_code 3 (none : Option Jvm.ClassFile.FieldType) ∈ lwg := tG 400 rfl rfl
set_option maxRecDepth 20000 in
theorem q401 : Cond.methodLink "InsideOut$Walk" 25 yX2_setTo ∈ lwg := tG 401 (by decide +kernel) (by decide +kernel)
set_option maxRecDepth 20000 in
theorem q402 : Cond.instanceMethod yX2_setTo ∈ lwg := tG 402 (by decide +kernel) (by decide +kernel)
set_option maxRecDepth 20000 in
theorem q403 : Cond.selects "InsideOut$Street" yX2_setTo yX2_setTo ∈ lwg := tG 403 (by decide +kernel) (by decide +kernel)
set_option maxRecDepth 20000 in
theorem q404 : Cond.code yX2_setTo prog_4_method_2_code 2 (none : Option Jvm.ClassFile.FieldType) ∈ lwg := tG 404 rfl rfl
set_option maxRecDepth 20000 in
theorem q405 : Cond.methodLink "InsideOut$Street" 37 ⟨"java/lang/System", "arraycopy", "(Ljava/lang/Object;ILjava/lang/Object;II)V"⟩ ∈ lwg := tG 405 (by decide +kernel) (by decide +kernel)
set_option maxRecDepth 20000 in
theorem q406 : Cond.static ⟨"java/lang/System", "arraycopy", "(Ljava/lang/Object;ILjava/lang/Object;II)V"⟩ ∈ lwg := tG 406 (by decide +kernel) (by decide +kernel)
set_option maxRecDepth 20000 in
theorem q407 : Cond.native ⟨"java/lang/System", "arraycopy", "(Ljava/lang/Object;ILjava/lang/Object;II)V"⟩ ∈ lwg := tG 407 (by decide +kernel) (by decide +kernel)
set_option maxRecDepth 20000 in
theorem q408 : Cond.methodLink "InsideOut$Walk" 29 yX4_setTo ∈ lwg := tG 408 (by decide +kernel) (by decide +kernel)
set_option maxRecDepth 20000 in
theorem q409 : Cond.instanceMethod yX4_setTo ∈ lwg := tG 409 (by decide +kernel) (by decide +kernel)
set_option maxRecDepth 20000 in
theorem q410 : Cond.selects "InsideOut$Umbrella" yX4_setTo yX4_setTo ∈ lwg := tG 410 (by decide +kernel) (by decide +kernel)
set_option maxRecDepth 20000 in
theorem q411 : Cond.code yX4_setTo prog_6_method_3_code 2 (none : Option Jvm.ClassFile.FieldType) ∈ lwg := tG 411 rfl rfl
set_option maxRecDepth 20000 in
theorem q412 : Cond.methodLink "InsideOut" 162 yX5_goOn ∈ lwg := tG 412 (by decide +kernel) (by decide +kernel)
set_option maxRecDepth 20000 in
theorem q413 : Cond.instanceMethod yX5_goOn ∈ lwg := tG 413 (by decide +kernel) (by decide +kernel)
set_option maxRecDepth 20000 in
theorem q414 : Cond.selects "InsideOut$Walk" yX5_goOn yX5_goOn ∈ lwg := tG 414 (by decide +kernel) (by decide +kernel)
set_option maxRecDepth 20000 in
theorem q415 : Cond.code yX5_goOn prog_7_method_4_code 1 (none : Option Jvm.ClassFile.FieldType) ∈ lwg := tG 415 rfl rfl
set_option maxRecDepth 20000 in
theorem q416 : Cond.methodLink "InsideOut$Walk" 48 yX4_walkOn ∈ lwg := tG 416 (by decide +kernel) (by decide +kernel)
set_option maxRecDepth 20000 in
theorem q417 : Cond.methodLink "InsideOut$Walk" 40 yX2_nextTick ∈ lwg := tG 417 (by decide +kernel) (by decide +kernel)
set_option maxRecDepth 20000 in
theorem q418 : Cond.methodLink "InsideOutLaw" 56 yX7_home ∈ lwg := tG 418 (by decide +kernel) (by decide +kernel)
set_option maxRecDepth 20000 in
theorem q419 : Cond.instanceMethod yX7_home ∈ lwg := tG 419 (by decide +kernel) (by decide +kernel)
set_option maxRecDepth 20000 in
theorem q420 : Cond.selects "InsideOut" yX7_home yX7_home ∈ lwg := tG 420 (by decide +kernel) (by decide +kernel)
set_option maxRecDepth 20000 in
theorem q421 : Cond.code yX7_home prog_1_method_12_code 3 (some .int) ∈ lwg := tG 421 rfl rfl
set_option maxRecDepth 20000 in
theorem q422 : Cond.methodLink "InsideOut" 169 yX5_ticksHome ∈ lwg := tG 422 (by decide +kernel) (by decide +kernel)
set_option maxRecDepth 20000 in
theorem q423 : Cond.instanceMethod yX5_ticksHome ∈ lwg := tG 423 (by decide +kernel) (by decide +kernel)
set_option maxRecDepth 20000 in
theorem q424 : Cond.selects "InsideOut$Walk" yX5_ticksHome yX5_ticksHome ∈ lwg := tG 424 (by decide +kernel) (by decide +kernel)
set_option maxRecDepth 20000 in
theorem q425 : Cond.code yX5_ticksHome prog_7_method_5_code 2 (some .int) ∈ lwg := tG 425 rfl rfl
set_option maxRecDepth 20000 in
theorem q426 : Cond.methodLink "InsideOut$Walk" 56 yX5_goOn ∈ lwg := tG 426 (by decide +kernel) (by decide +kernel)
set_option maxRecDepth 20000 in
theorem q427 : Cond.methodLink "InsideOutLaw" 60 yX7_homeWith ∈ lwg := tG 427 (by decide +kernel) (by decide +kernel)
set_option maxRecDepth 20000 in
theorem q428 : Cond.instanceMethod yX7_homeWith ∈ lwg := tG 428 (by decide +kernel) (by decide +kernel)
set_option maxRecDepth 20000 in
theorem q429 : Cond.selects "InsideOut" yX7_homeWith yX7_homeWith ∈ lwg := tG 429 (by decide +kernel) (by decide +kernel)
set_option maxRecDepth 20000 in
theorem q430 : Cond.code yX7_homeWith prog_1_method_13_code 3 (some .int) ∈ lwg := tG 430 rfl rfl
set_option maxRecDepth 20000 in
theorem q431 : Cond.methodLink "InsideOutLaw" 64 yX7_whup ∈ lwg := tG 431 (by decide +kernel) (by decide +kernel)
set_option maxRecDepth 20000 in
theorem q432 : Cond.instanceMethod yX7_whup ∈ lwg := tG 432 (by decide +kernel) (by decide +kernel)
set_option maxRecDepth 20000 in
theorem q433 : Cond.selects "InsideOut" yX7_whup yX7_whup ∈ lwg := tG 433 (by decide +kernel) (by decide +kernel)
set_option maxRecDepth 20000 in
theorem q434 : Cond.code yX7_whup prog_1_method_14_code 3 (some .int) ∈ lwg := tG 434 rfl rfl
set_option maxRecDepth 20000 in
theorem q435 : Cond.methodLink "InsideOut" 172 yX5_ticksTillTurned ∈ lwg := tG 435 (by decide +kernel) (by decide +kernel)
set_option maxRecDepth 20000 in
theorem q436 : Cond.instanceMethod yX5_ticksTillTurned ∈ lwg := tG 436 (by decide +kernel) (by decide +kernel)
set_option maxRecDepth 20000 in
theorem q437 : Cond.selects "InsideOut$Walk" yX5_ticksTillTurned yX5_ticksTillTurned ∈ lwg := tG 437 (by decide +kernel) (by decide +kernel)
set_option maxRecDepth 20000 in
theorem q438 : Cond.code yX5_ticksTillTurned prog_7_method_6_code 3 (some .int) ∈ lwg := tG 438 rfl rfl
set_option maxRecDepth 20000 in
theorem q439 : Cond.methodLink "InsideOutLaw" 68 yX7_first ∈ lwg := tG 439 (by decide +kernel) (by decide +kernel)
set_option maxRecDepth 20000 in
theorem q440 : Cond.instanceMethod yX7_first ∈ lwg := tG 440 (by decide +kernel) (by decide +kernel)
set_option maxRecDepth 20000 in
theorem q441 : Cond.selects "InsideOut" yX7_first yX7_first ∈ lwg := tG 441 (by decide +kernel) (by decide +kernel)
set_option maxRecDepth 20000 in
theorem q442 : Cond.code yX7_first prog_1_method_15_code 5 (some .int) ∈ lwg := tG 442 rfl rfl
set_option maxRecDepth 20000 in
theorem q443 : Cond.methodLink "InsideOutLaw" 73 yX7_habitFor ∈ lwg := tG 443 (by decide +kernel) (by decide +kernel)
set_option maxRecDepth 20000 in
theorem q444 : Cond.instanceMethod yX7_habitFor ∈ lwg := tG 444 (by decide +kernel) (by decide +kernel)
set_option maxRecDepth 20000 in
theorem q445 : Cond.selects "InsideOut" yX7_habitFor yX7_habitFor ∈ lwg := tG 445 (by decide +kernel) (by decide +kernel)
set_option maxRecDepth 20000 in
theorem q446 : Cond.code yX7_habitFor prog_1_method_16_code 2 (some .int) ∈ lwg := tG 446 rfl rfl
set_option maxRecDepth 20000 in
theorem q447 : Cond.methodLink "InsideOut" 178 yX7_driest ∈ lwg := tG 447 (by decide +kernel) (by decide +kernel)
set_option maxRecDepth 20000 in
theorem q449 : Cond.instanceMethod yX7_driest ∈ lwg := tG 449 (by decide +kernel) (by decide +kernel)
set_option maxRecDepth 20000 in
theorem q450 : Cond.code yX7_driest prog_1_method_52_code 7 (some .int) ∈ lwg := tG 450 rfl rfl
set_option maxRecDepth 20000 in
theorem q451 : Cond.methodLink "InsideOut" 268 yX5_choose ∈ lwg := tG 451 (by decide +kernel) (by decide +kernel)
set_option maxRecDepth 20000 in
theorem q452 : Cond.instanceMethod yX5_choose ∈ lwg := tG 452 (by decide +kernel) (by decide +kernel)
set_option maxRecDepth 20000 in
theorem q453 : Cond.selects "InsideOut$Walk" yX5_choose yX5_choose ∈ lwg := tG 453 (by decide +kernel) (by decide +kernel)
set_option maxRecDepth 20000 in
theorem q454 : Cond.code yX5_choose prog_7_method_3_code 3 (some .boolean) ∈ lwg := tG 454 rfl rfl
set_option maxRecDepth 20000 in
theorem q456 : Cond.methodLink "InsideOut$Walk" 44 yX4_setMark ∈ lwg := tG 456 (by decide +kernel) (by decide +kernel)
set_option maxRecDepth 20000 in
theorem q457 : Cond.methodLink "InsideOutLaw" 77 yX7_heldFor ∈ lwg := tG 457 (by decide +kernel) (by decide +kernel)
set_option maxRecDepth 20000 in
theorem q458 : Cond.instanceMethod yX7_heldFor ∈ lwg := tG 458 (by decide +kernel) (by decide +kernel)
set_option maxRecDepth 20000 in
theorem q459 : Cond.selects "InsideOut" yX7_heldFor yX7_heldFor ∈ lwg := tG 459 (by decide +kernel) (by decide +kernel)
set_option maxRecDepth 20000 in
theorem q460 : Cond.code yX7_heldFor prog_1_method_17_code 2 (some .int) ∈ lwg := tG 460 rfl rfl
set_option maxRecDepth 20000 in
theorem q461 : Cond.methodLink "InsideOutLaw" 81 yX7_kindFor ∈ lwg := tG 461 (by decide +kernel) (by decide +kernel)
set_option maxRecDepth 20000 in
theorem q462 : Cond.instanceMethod yX7_kindFor ∈ lwg := tG 462 (by decide +kernel) (by decide +kernel)
set_option maxRecDepth 20000 in
theorem q463 : Cond.selects "InsideOut" yX7_kindFor yX7_kindFor ∈ lwg := tG 463 (by decide +kernel) (by decide +kernel)
set_option maxRecDepth 20000 in
theorem q464 : Cond.code yX7_kindFor prog_1_method_18_code 2 (some .int) ∈ lwg := tG 464 rfl rfl
set_option maxRecDepth 20000 in
theorem q465 : Cond.methodLink "InsideOutLaw" 85 yX7_roofFor ∈ lwg := tG 465 (by decide +kernel) (by decide +kernel)
set_option maxRecDepth 20000 in
theorem q466 : Cond.instanceMethod yX7_roofFor ∈ lwg := tG 466 (by decide +kernel) (by decide +kernel)
set_option maxRecDepth 20000 in
theorem q467 : Cond.selects "InsideOut" yX7_roofFor yX7_roofFor ∈ lwg := tG 467 (by decide +kernel) (by decide +kernel)
set_option maxRecDepth 20000 in
theorem q468 : Cond.code yX7_roofFor prog_1_method_19_code 2 (some .int) ∈ lwg := tG 468 rfl rfl
set_option maxRecDepth 20000 in
theorem q469 : Cond.methodLink "InsideOutLaw" 89 yX7_waitFor ∈ lwg := tG 469 (by decide +kernel) (by decide +kernel)
set_option maxRecDepth 20000 in
theorem q470 : Cond.instanceMethod yX7_waitFor ∈ lwg := tG 470 (by decide +kernel) (by decide +kernel)
set_option maxRecDepth 20000 in
theorem q471 : Cond.selects "InsideOut" yX7_waitFor yX7_waitFor ∈ lwg := tG 471 (by decide +kernel) (by decide +kernel)
set_option maxRecDepth 20000 in
theorem q472 : Cond.code yX7_waitFor prog_1_method_20_code 2 (some .int) ∈ lwg := tG 472 rfl rfl
set_option maxRecDepth 20000 in
theorem q473 : Cond.methodLink "InsideOutLaw" 93 yX7_gustFor ∈ lwg := tG 473 (by decide +kernel) (by decide +kernel)
set_option maxRecDepth 20000 in
theorem q474 : Cond.instanceMethod yX7_gustFor ∈ lwg := tG 474 (by decide +kernel) (by decide +kernel)
set_option maxRecDepth 20000 in
theorem q475 : Cond.selects "InsideOut" yX7_gustFor yX7_gustFor ∈ lwg := tG 475 (by decide +kernel) (by decide +kernel)
set_option maxRecDepth 20000 in
theorem q476 : Cond.code yX7_gustFor prog_1_method_21_code 3 (some .int) ∈ lwg := tG 476 rfl rfl
set_option maxRecDepth 20000 in
theorem q477 : Cond.methodLink "InsideOut" 182 yX5_comesHomeUnturned ∈ lwg := tG 477 (by decide +kernel) (by decide +kernel)
set_option maxRecDepth 20000 in
theorem q478 : Cond.instanceMethod yX5_comesHomeUnturned ∈ lwg := tG 478 (by decide +kernel) (by decide +kernel)
set_option maxRecDepth 20000 in
theorem q479 : Cond.selects "InsideOut$Walk" yX5_comesHomeUnturned yX5_comesHomeUnturned ∈ lwg := tG 479 (by decide +kernel) (by decide +kernel)
set_option maxRecDepth 20000 in
theorem q480 : Cond.code yX5_comesHomeUnturned prog_7_method_7_code 3 (some .boolean) ∈ lwg := tG 480 rfl rfl
set_option maxRecDepth 20000 in
theorem q481 : Cond.methodLink "InsideOutLaw" 97 yX7_ribsFor ∈ lwg := tG 481 (by decide +kernel) (by decide +kernel)
set_option maxRecDepth 20000 in
theorem q482 : Cond.instanceMethod yX7_ribsFor ∈ lwg := tG 482 (by decide +kernel) (by decide +kernel)
set_option maxRecDepth 20000 in
theorem q483 : Cond.selects "InsideOut" yX7_ribsFor yX7_ribsFor ∈ lwg := tG 483 (by decide +kernel) (by decide +kernel)
set_option maxRecDepth 20000 in
theorem q484 : Cond.code yX7_ribsFor prog_1_method_22_code 3 (some .int) ∈ lwg := tG 484 rfl rfl
set_option maxRecDepth 20000 in
theorem q485 : Cond.methodLink "InsideOutLaw" 101 yX7_fits ∈ lwg := tG 485 (by decide +kernel) (by decide +kernel)
set_option maxRecDepth 20000 in
theorem q486 : Cond.instanceMethod yX7_fits ∈ lwg := tG 486 (by decide +kernel) (by decide +kernel)
set_option maxRecDepth 20000 in
theorem q487 : Cond.selects "InsideOut" yX7_fits yX7_fits ∈ lwg := tG 487 (by decide +kernel) (by decide +kernel)
set_option maxRecDepth 20000 in
theorem q488 : Cond.code yX7_fits prog_1_method_23_code 3 (some .int) ∈ lwg := tG 488 rfl rfl
set_option maxRecDepth 20000 in
theorem q489 : Cond.methodLink "InsideOut" 188 yX7_fitting ∈ lwg := tG 489 (by decide +kernel) (by decide +kernel)
set_option maxRecDepth 20000 in
theorem q491 : Cond.instanceMethod yX7_fitting ∈ lwg := tG 491 (by decide +kernel) (by decide +kernel)
set_option maxRecDepth 20000 in
theorem q492 : Cond.code yX7_fitting prog_1_method_53_code 7 (some .int) ∈ lwg := tG 492 rfl rfl
set_option maxRecDepth 20000 in
theorem q493 : Cond.methodLink "InsideOut" 229 yX7_isSheet ∈ lwg := tG 493 (by decide +kernel) (by decide +kernel)
set_option maxRecDepth 20000 in
theorem q494 : Cond.static yX7_isSheet ∈ lwg := tG 494 (by decide +kernel) (by decide +kernel)
set_option maxRecDepth 20000 in
theorem q495 : Cond.code yX7_isSheet prog_1_method_48_code 1 (some .boolean) ∈ lwg := tG 495 rfl rfl
set_option maxRecDepth 20000 in
theorem q496 : Cond.methodLink "InsideOut" 236 yX1_isMissing ∈ lwg := tG 496 (by decide +kernel) (by decide +kernel)
set_option maxRecDepth 20000 in
theorem q497 : Cond.instanceMethod yX1_isMissing ∈ lwg := tG 497 (by decide +kernel) (by decide +kernel)
set_option maxRecDepth 20000 in
theorem q498 : Cond.selects "InsideOut$Sheet" yX1_isMissing yX1_isMissing ∈ lwg := tG 498 (by decide +kernel) (by decide +kernel)
set_option maxRecDepth 20000 in
theorem q499 : Cond.code yX1_isMissing prog_3_method_2_code 1 (some .boolean) ∈ lwg := tG 499 rfl rfl
set_option maxRecDepth 20000 in
theorem q500 : Cond.methodLink "InsideOut" 274 yX5_follows ∈ lwg := tG 500 (by decide +kernel) (by decide +kernel)
set_option maxRecDepth 20000 in
theorem q501 : Cond.instanceMethod yX5_follows ∈ lwg := tG 501 (by decide +kernel) (by decide +kernel)
set_option maxRecDepth 20000 in
theorem q502 : Cond.selects "InsideOut$Walk" yX5_follows yX5_follows ∈ lwg := tG 502 (by decide +kernel) (by decide +kernel)
set_option maxRecDepth 20000 in
theorem q503 : Cond.code yX5_follows prog_7_method_8_code 3 (some .boolean) ∈ lwg := tG 503 rfl rfl
set_option maxRecDepth 20000 in
theorem q504 : Cond.methodLink "InsideOutLaw" 105 yX7_kinds ∈ lwg := tG 504 (by decide +kernel) (by decide +kernel)
set_option maxRecDepth 20000 in
theorem q505 : Cond.instanceMethod yX7_kinds ∈ lwg := tG 505 (by decide +kernel) (by decide +kernel)
set_option maxRecDepth 20000 in
theorem q506 : Cond.selects "InsideOut" yX7_kinds yX7_kinds ∈ lwg := tG 506 (by decide +kernel) (by decide +kernel)
set_option maxRecDepth 20000 in
theorem q507 : Cond.code yX7_kinds prog_1_method_24_code 3 (some .int) ∈ lwg := tG 507 rfl rfl
set_option maxRecDepth 20000 in
theorem q508 : Cond.methodLink "InsideOutLaw" 109 yX7_gusts ∈ lwg := tG 508 (by decide +kernel) (by decide +kernel)
set_option maxRecDepth 20000 in
theorem q509 : Cond.instanceMethod yX7_gusts ∈ lwg := tG 509 (by decide +kernel) (by decide +kernel)
set_option maxRecDepth 20000 in
theorem q510 : Cond.selects "InsideOut" yX7_gusts yX7_gusts ∈ lwg := tG 510 (by decide +kernel) (by decide +kernel)
set_option maxRecDepth 20000 in
theorem q511 : Cond.code yX7_gusts prog_1_method_25_code 6 (some .int) ∈ lwg := tG 511 rfl rfl
set_option maxRecDepth 20000 in
theorem q512 : Cond.methodLink "InsideOut" 192 yX6_draw ∈ lwg := tG 512 (by decide +kernel) (by decide +kernel)
set_option maxRecDepth 20000 in
theorem q513 : Cond.instanceMethod yX6_draw ∈ lwg := tG 513 (by decide +kernel) (by decide +kernel)
set_option maxRecDepth 20000 in
theorem q514 : Cond.selects "InsideOut$World" yX6_draw yX6_draw ∈ lwg := tG 514 (by decide +kernel) (by decide +kernel)
set_option maxRecDepth 20000 in
theorem q515 : Cond.code yX6_draw prog_8_method_6_code 1 (some .int) ∈ lwg := tG 515 rfl rfl
set_option maxRecDepth 20000 in
theorem q516 : Cond.constant "InsideOut$World" 66 (1103515245 : Int32) ∈ lwg := tG 516 (by decide +kernel) (by decide +kernel)
set_option maxRecDepth 20000 in
theorem q517 : Cond.methodLink "InsideOutLaw" 113 yX7_odds ∈ lwg := tG 517 (by decide +kernel) (by decide +kernel)
set_option maxRecDepth 20000 in
theorem q518 : Cond.instanceMethod yX7_odds ∈ lwg := tG 518 (by decide +kernel) (by decide +kernel)
set_option maxRecDepth 20000 in
theorem q519 : Cond.selects "InsideOut" yX7_odds yX7_odds ∈ lwg := tG 519 (by decide +kernel) (by decide +kernel)
set_option maxRecDepth 20000 in
theorem q520 : Cond.code yX7_odds prog_1_method_26_code 10 (some .long) ∈ lwg := tG 520 rfl rfl
set_option maxRecDepth 20000 in
theorem q521 : Cond.methodLink "InsideOut" 195 yJ6_bitCount_0f7a4 ∈ lwg := tG 521 (by decide +kernel) (by decide +kernel)
set_option maxRecDepth 20000 in
theorem q522 : Cond.static yJ6_bitCount_0f7a4 ∈ lwg := tG 522 (by decide +kernel) (by decide +kernel)
set_option maxRecDepth 20000 in
theorem q523 : Cond.code yJ6_bitCount_0f7a4 prog_11_method_49_code 1 (some .int) ∈ lwg := tG 523 rfl rfl
set_option maxRecDepth 20000 in
theorem q524 : Cond.constant "java/lang/Integer" 265 (1431655765 : Int32) ∈ lwg := tG 524 (by decide +kernel) (by decide +kernel)
set_option maxRecDepth 20000 in
theorem q525 : Cond.constant "java/lang/Integer" 266 (858993459 : Int32) ∈ lwg := tG 525 (by decide +kernel) (by decide +kernel)
set_option maxRecDepth 20000 in
theorem q526 : Cond.constant "java/lang/Integer" 267 (252645135 : Int32) ∈ lwg := tG 526 (by decide +kernel) (by decide +kernel)
set_option maxRecDepth 20000 in
theorem q527 : Cond.methodLink "InsideOutLaw" 118 yX7_seed ∈ lwg := tG 527 (by decide +kernel) (by decide +kernel)
set_option maxRecDepth 20000 in
theorem q528 : Cond.instanceMethod yX7_seed ∈ lwg := tG 528 (by decide +kernel) (by decide +kernel)
set_option maxRecDepth 20000 in
theorem q529 : Cond.selects "InsideOut" yX7_seed yX7_seed ∈ lwg := tG 529 (by decide +kernel) (by decide +kernel)
set_option maxRecDepth 20000 in
theorem q530 : Cond.code yX7_seed prog_1_method_27_code 3 (some .int) ∈ lwg := tG 530 rfl rfl
set_option maxRecDepth 20000 in
theorem q531 : Cond.methodLink "InsideOutLaw" 122 yX7_feed ∈ lwg := tG 531 (by decide +kernel) (by decide +kernel)
set_option maxRecDepth 20000 in
theorem q532 : Cond.instanceMethod yX7_feed ∈ lwg := tG 532 (by decide +kernel) (by decide +kernel)
set_option maxRecDepth 20000 in
theorem q533 : Cond.selects "InsideOut" yX7_feed yX7_feed ∈ lwg := tG 533 (by decide +kernel) (by decide +kernel)
set_option maxRecDepth 20000 in
theorem q534 : Cond.code yX7_feed prog_1_method_28_code 3 (some .int) ∈ lwg := tG 534 rfl rfl
set_option maxRecDepth 20000 in
theorem q535 : Cond.methodLink "InsideOut" 206 yX3_append ∈ lwg := tG 535 (by decide +kernel) (by decide +kernel)
set_option maxRecDepth 20000 in
theorem q536 : Cond.instanceMethod yX3_append ∈ lwg := tG 536 (by decide +kernel) (by decide +kernel)
set_option maxRecDepth 20000 in
theorem q537 : Cond.selects "InsideOut$Tape" yX3_append yX3_append ∈ lwg := tG 537 (by decide +kernel) (by decide +kernel)
set_option maxRecDepth 20000 in
theorem q538 : Cond.code yX3_append prog_5_method_2_code 4 (none : Option Jvm.ClassFile.FieldType) ∈ lwg := tG 538 rfl rfl
set_option maxRecDepth 20000 in
theorem q539 : Cond.methodLink "InsideOutLaw" 126 yX7_wipe ∈ lwg := tG 539 (by decide +kernel) (by decide +kernel)
set_option maxRecDepth 20000 in
theorem q540 : Cond.instanceMethod yX7_wipe ∈ lwg := tG 540 (by decide +kernel) (by decide +kernel)
set_option maxRecDepth 20000 in
theorem q541 : Cond.selects "InsideOut" yX7_wipe yX7_wipe ∈ lwg := tG 541 (by decide +kernel) (by decide +kernel)
set_option maxRecDepth 20000 in
theorem q542 : Cond.code yX7_wipe prog_1_method_29_code 2 (some .int) ∈ lwg := tG 542 rfl rfl
set_option maxRecDepth 20000 in
theorem q543 : Cond.methodLink "InsideOutLaw" 130 yX7_text ∈ lwg := tG 543 (by decide +kernel) (by decide +kernel)
set_option maxRecDepth 20000 in
theorem q544 : Cond.instanceMethod yX7_text ∈ lwg := tG 544 (by decide +kernel) (by decide +kernel)
set_option maxRecDepth 20000 in
theorem q545 : Cond.selects "InsideOut" yX7_text yX7_text ∈ lwg := tG 545 (by decide +kernel) (by decide +kernel)
set_option maxRecDepth 20000 in
theorem q546 : Cond.code yX7_text prog_1_method_30_code 2 (some .int) ∈ lwg := tG 546 rfl rfl
set_option maxRecDepth 20000 in
theorem q547 : Cond.methodLink "InsideOut" 209 yX6_become ∈ lwg := tG 547 (by decide +kernel) (by decide +kernel)
set_option maxRecDepth 20000 in
theorem q548 : Cond.instanceMethod yX6_become ∈ lwg := tG 548 (by decide +kernel) (by decide +kernel)
set_option maxRecDepth 20000 in
theorem q549 : Cond.selects "InsideOut$World" yX6_become yX6_become ∈ lwg := tG 549 (by decide +kernel) (by decide +kernel)
set_option maxRecDepth 20000 in
theorem q550 : Cond.code yX6_become prog_8_method_2_code 3 (none : Option Jvm.ClassFile.FieldType) ∈ lwg := tG 550 rfl rfl
set_option maxRecDepth 20000 in
theorem q551 : Cond.methodLink "InsideOut$World" 42 yX2_setTo ∈ lwg := tG 551 (by decide +kernel) (by decide +kernel)
set_option maxRecDepth 20000 in
theorem q552 : Cond.methodLink "InsideOut$World" 46 yX4_setTo ∈ lwg := tG 552 (by decide +kernel) (by decide +kernel)
set_option maxRecDepth 20000 in
theorem q553 : Cond.methodLink "InsideOut$World" 49 ⟨"java/lang/System", "arraycopy", "(Ljava/lang/Object;ILjava/lang/Object;II)V"⟩ ∈ lwg := tG 553 (by decide +kernel) (by decide +kernel)
set_option maxRecDepth 20000 in
theorem q554 : Cond.methodLink "InsideOut" 213 yX0_readInto ∈ lwg := tG 554 (by decide +kernel) (by decide +kernel)
set_option maxRecDepth 20000 in
theorem q555 : Cond.instanceMethod yX0_readInto ∈ lwg := tG 555 (by decide +kernel) (by decide +kernel)
set_option maxRecDepth 20000 in
theorem q556 : Cond.selects "InsideOut$Reader" yX0_readInto yX0_readInto ∈ lwg := tG 556 (by decide +kernel) (by decide +kernel)
set_option maxRecDepth 20000 in
theorem q557 : Cond.code yX0_readInto prog_2_method_2_code 3 (some .int) ∈ lwg := tG 557 rfl rfl
set_option maxRecDepth 20000 in
theorem q558 : Cond.methodLink "InsideOut$Reader" 28 yX0_readToken ∈ lwg := tG 558 (by decide +kernel) (by decide +kernel)
set_option maxRecDepth 20000 in
theorem q560 : Cond.instanceMethod yX0_readToken ∈ lwg := tG 560 (by decide +kernel) (by decide +kernel)
set_option maxRecDepth 20000 in
theorem q561 : Cond.code yX0_readToken prog_2_method_11_code 3 (none : Option Jvm.ClassFile.FieldType) ∈ lwg := tG 561 rfl rfl
set_option maxRecDepth 20000 in
theorem q562 : Cond.methodLink "InsideOut$Reader" 140 yX3_byteAt ∈ lwg := tG 562 (by decide +kernel) (by decide +kernel)
set_option maxRecDepth 20000 in
theorem q563 : Cond.instanceMethod yX3_byteAt ∈ lwg := tG 563 (by decide +kernel) (by decide +kernel)
set_option maxRecDepth 20000 in
theorem q564 : Cond.selects "InsideOut$Tape" yX3_byteAt yX3_byteAt ∈ lwg := tG 564 (by decide +kernel) (by decide +kernel)
set_option maxRecDepth 20000 in
theorem q565 : Cond.code yX3_byteAt prog_5_method_3_code 2 (some .int) ∈ lwg := tG 565 rfl rfl
set_option maxRecDepth 20000 in
theorem q566 : Cond.methodLink "InsideOut$Reader" 147 yX0_tokenOf ∈ lwg := tG 566 (by decide +kernel) (by decide +kernel)
set_option maxRecDepth 20000 in
theorem q567 : Cond.static yX0_tokenOf ∈ lwg := tG 567 (by decide +kernel) (by decide +kernel)
set_option maxRecDepth 20000 in
theorem q568 : Cond.code yX0_tokenOf prog_2_method_12_code 1 (some .int) ∈ lwg := tG 568 rfl rfl
set_option maxRecDepth 20000 in
theorem q569 : Cond.methodLink "InsideOut$Reader" 150 yJ9_min_7cf53 ∈ lwg := tG 569 (by decide +kernel) (by decide +kernel)
set_option maxRecDepth 20000 in
theorem q570 : Cond.methodLink "InsideOut$Reader" 31 yX0_readItem ∈ lwg := tG 570 (by decide +kernel) (by decide +kernel)
set_option maxRecDepth 20000 in
theorem q572 : Cond.instanceMethod yX0_readItem ∈ lwg := tG 572 (by decide +kernel) (by decide +kernel)
set_option maxRecDepth 20000 in
theorem q573 : Cond.code yX0_readItem prog_2_method_3_code 3 (some .boolean) ∈ lwg := tG 573 rfl rfl
set_option maxRecDepth 20000 in
theorem q574 : Cond.methodLink "InsideOut$Reader" 35 yX0_wordOfKind ∈ lwg := tG 574 (by decide +kernel) (by decide +kernel)
set_option maxRecDepth 20000 in
theorem q575 : Cond.static yX0_wordOfKind ∈ lwg := tG 575 (by decide +kernel) (by decide +kernel)
set_option maxRecDepth 20000 in
theorem q576 : Cond.code yX0_wordOfKind prog_2_method_13_code 1 (some (.object "java/lang/String")) ∈ lwg := tG 576 rfl rfl
set_option maxRecDepth 20000 in
theorem q584 : Cond.methodLink "InsideOut$Reader" 39 yX0_isWord ∈ lwg := tG 584 (by decide +kernel) (by decide +kernel)
set_option maxRecDepth 20000 in
theorem q586 : Cond.instanceMethod yX0_isWord ∈ lwg := tG 586 (by decide +kernel) (by decide +kernel)
set_option maxRecDepth 20000 in
theorem q587 : Cond.code yX0_isWord prog_2_method_10_code 3 (some .boolean) ∈ lwg := tG 587 rfl rfl
set_option maxRecDepth 20000 in
theorem q588 : Cond.methodLink "InsideOut$Reader" 130 yJ0_length_8abf5 ∈ lwg := tG 588 (by decide +kernel) (by decide +kernel)
set_option maxRecDepth 20000 in
theorem q589 : Cond.instanceMethod yJ0_length_8abf5 ∈ lwg := tG 589 (by decide +kernel) (by decide +kernel)
set_option maxRecDepth 20000 in
theorem q590 : Cond.selects "java/lang/String" yJ0_length_8abf5 yJ0_length_8abf5 ∈ lwg := tG 590 (by decide +kernel) (by decide +kernel)
set_option maxRecDepth 20000 in
theorem q591 : Cond.code yJ0_length_8abf5 prog_13_method_54_code 1 (some .int) ∈ lwg := tG 591 rfl rfl
set_option maxRecDepth 20000 in
theorem q592 : Cond.methodLink "java/lang/String" 335 yJ0_coder_7d493 ∈ lwg := tG 592 (by decide +kernel) (by decide +kernel)
set_option maxRecDepth 20000 in
theorem q593 : Cond.instanceMethod yJ0_coder_7d493 ∈ lwg := tG 593 (by decide +kernel) (by decide +kernel)
set_option maxRecDepth 20000 in
theorem q594 : Cond.selects "java/lang/String" yJ0_coder_7d493 yJ0_coder_7d493 ∈ lwg := tG 594 (by decide +kernel) (by decide +kernel)
set_option maxRecDepth 20000 in
theorem q595 : Cond.code yJ0_coder_7d493 prog_13_method_152_code 1 (some .byte) ∈ lwg := tG 595 rfl rfl
set_option maxRecDepth 20000 in
theorem q596 : Cond.fieldLink "java/lang/String" 38 "java/lang/String" "COMPACT_STRINGS" "Z" ∈ lwg := tG 596 (by decide +kernel) (by decide +kernel)
set_option maxRecDepth 20000 in
theorem q598 : Cond.methodLink "InsideOut$Reader" 136 yJ0_charAt_5068e ∈ lwg := tG 598 (by decide +kernel) (by decide +kernel)
set_option maxRecDepth 20000 in
theorem q599 : Cond.instanceMethod yJ0_charAt_5068e ∈ lwg := tG 599 (by decide +kernel) (by decide +kernel)
set_option maxRecDepth 20000 in
theorem q600 : Cond.selects "java/lang/String" yJ0_charAt_5068e yJ0_charAt_5068e ∈ lwg := tG 600 (by decide +kernel) (by decide +kernel)
set_option maxRecDepth 20000 in
theorem q601 : Cond.code yJ0_charAt_5068e prog_13_method_56_code 2 (some .char) ∈ lwg := tG 601 rfl rfl
set_option maxRecDepth 20000 in
theorem q602 : Cond.methodLink "java/lang/String" 492 yJ0_isLatin1_aae02 ∈ lwg := tG 602 (by decide +kernel) (by decide +kernel)
set_option maxRecDepth 20000 in
theorem q603 : Cond.instanceMethod yJ0_isLatin1_aae02 ∈ lwg := tG 603 (by decide +kernel) (by decide +kernel)
set_option maxRecDepth 20000 in
theorem q604 : Cond.selects "java/lang/String" yJ0_isLatin1_aae02 yJ0_isLatin1_aae02 ∈ lwg := tG 604 (by decide +kernel) (by decide +kernel)
set_option maxRecDepth 20000 in
theorem q605 : Cond.code yJ0_isLatin1_aae02 prog_13_method_154_code 1 (some .boolean) ∈ lwg := tG 605 rfl rfl
set_option maxRecDepth 20000 in
theorem q606 : Cond.methodLink "java/lang/String" 495 yJ1_charAt_3b067 ∈ lwg := tG 606 (by decide +kernel) (by decide +kernel)
set_option maxRecDepth 20000 in
theorem q607 : Cond.static yJ1_charAt_3b067 ∈ lwg := tG 607 (by decide +kernel) (by decide +kernel)
set_option maxRecDepth 20000 in
theorem q608 : Cond.code yJ1_charAt_3b067 prog_14_method_2_code 2 (some .char) ∈ lwg := tG 608 rfl rfl
set_option maxRecDepth 20000 in
theorem q609 : Cond.methodLink "java/lang/StringLatin1" 9 yJ0_checkIndex_df160 ∈ lwg := tG 609 (by decide +kernel) (by decide +kernel)
set_option maxRecDepth 20000 in
theorem q610 : Cond.static yJ0_checkIndex_df160 ∈ lwg := tG 610 (by decide +kernel) (by decide +kernel)
set_option maxRecDepth 20000 in
theorem q611 : Cond.code yJ0_checkIndex_df160 prog_13_method_155_code 2 (none : Option Jvm.ClassFile.FieldType) ∈ lwg := tG 611 rfl rfl
set_option maxRecDepth 20000 in
theorem q612 : Cond.fieldLink "java/lang/String" 1053 "jdk/internal/util/Preconditions" "SIOOBE_FORMATTER" "Ljava/util/function/BiFunction;" ∈ lwg := tG 612 (by decide +kernel) (by decide +kernel)
set_option maxRecDepth 20000 in
theorem q614 : Cond.methodLink "java/lang/String" 1059 yJ3_checkIndex_8e157 ∈ lwg := tG 614 (by decide +kernel) (by decide +kernel)
set_option maxRecDepth 20000 in
theorem q615 : Cond.static yJ3_checkIndex_8e157 ∈ lwg := tG 615 (by decide +kernel) (by decide +kernel)
set_option maxRecDepth 20000 in
theorem q616 : Cond.code yJ3_checkIndex_8e157 prog_18_method_11_code 3 (some .int) ∈ lwg := tG 616 rfl rfl
set_option maxRecDepth 20000 in
theorem q617 : Cond.methodLink "java/lang/String" 498 yJ2_charAt_3b067 ∈ lwg := tG 617 (by decide +kernel) (by decide +kernel)
set_option maxRecDepth 20000 in
theorem q618 : Cond.static yJ2_charAt_3b067 ∈ lwg := tG 618 (by decide +kernel) (by decide +kernel)
set_option maxRecDepth 20000 in
theorem q619 : Cond.code yJ2_charAt_3b067 prog_15_method_83_code 2 (some .char) ∈ lwg := tG 619 rfl rfl
set_option maxRecDepth 20000 in
theorem q620 : Cond.methodLink "java/lang/StringUTF16" 67 yJ2_checkIndex_2214a ∈ lwg := tG 620 (by decide +kernel) (by decide +kernel)
set_option maxRecDepth 20000 in
theorem q621 : Cond.static yJ2_checkIndex_2214a ∈ lwg := tG 621 (by decide +kernel) (by decide +kernel)
set_option maxRecDepth 20000 in
theorem q622 : Cond.code yJ2_checkIndex_2214a prog_15_method_91_code 2 (none : Option Jvm.ClassFile.FieldType) ∈ lwg := tG 622 rfl rfl
set_option maxRecDepth 20000 in
theorem q623 : Cond.methodLink "java/lang/StringUTF16" 48 yJ2_length_9d52b ∈ lwg := tG 623 (by decide +kernel) (by decide +kernel)
set_option maxRecDepth 20000 in
theorem q624 : Cond.static yJ2_length_9d52b ∈ lwg := tG 624 (by decide +kernel) (by decide +kernel)
set_option maxRecDepth 20000 in
theorem q625 : Cond.code yJ2_length_9d52b prog_15_method_6_code 1 (some .int) ∈ lwg := tG 625 rfl rfl
set_option maxRecDepth 20000 in
theorem q626 : Cond.methodLink "java/lang/StringUTF16" 414 yJ0_checkIndex_df160 ∈ lwg := tG 626 (by decide +kernel) (by decide +kernel)
set_option maxRecDepth 20000 in
theorem q627 : Cond.methodLink "java/lang/StringUTF16" 71 yJ2_getChar_3b067 ∈ lwg := tG 627 (by decide +kernel) (by decide +kernel)
set_option maxRecDepth 20000 in
theorem q628 : Cond.static yJ2_getChar_3b067 ∈ lwg := tG 628 (by decide +kernel) (by decide +kernel)
set_option maxRecDepth 20000 in
theorem q629 : Cond.code yJ2_getChar_3b067 prog_15_method_5_code 2 (some .char) ∈ lwg := tG 629 rfl rfl
set_option maxRecDepth 20000 in
theorem q630 : Cond.fieldLink "java/lang/StringUTF16" 44 "java/lang/StringUTF16" "$assertionsDisabled" "Z" ∈ lwg := tG 630 (by decide +kernel) (by decide +kernel)
set_option maxRecDepth 20000 in
theorem q632 : Cond.fieldLink "java/lang/StringUTF16" 59 "java/lang/StringUTF16" "HI_BYTE_SHIFT" "I" ∈ lwg := tG 632 (by decide +kernel) (by decide +kernel)
set_option maxRecDepth 20000 in
theorem q634 : Cond.fieldLink "java/lang/StringUTF16" 63 "java/lang/StringUTF16" "LO_BYTE_SHIFT" "I" ∈ lwg := tG 634 (by decide +kernel) (by decide +kernel)
set_option maxRecDepth 20000 in
theorem q636 : Cond.methodLink "InsideOut$Reader" 43 yX0_readUmbrella ∈ lwg := tG 636 (by decide +kernel) (by decide +kernel)
set_option maxRecDepth 20000 in
theorem q638 : Cond.instanceMethod yX0_readUmbrella ∈ lwg := tG 638 (by decide +kernel) (by decide +kernel)
set_option maxRecDepth 20000 in
theorem q639 : Cond.code yX0_readUmbrella prog_2_method_4_code 4 (some .boolean) ∈ lwg := tG 639 rfl rfl
set_option maxRecDepth 20000 in
theorem q640 : Cond.methodLink "InsideOut$Reader" 75 yX6_isFull ∈ lwg := tG 640 (by decide +kernel) (by decide +kernel)
set_option maxRecDepth 20000 in
theorem q641 : Cond.methodLink "InsideOut$Reader" 83 yX6_addUmbrella ∈ lwg := tG 641 (by decide +kernel) (by decide +kernel)
set_option maxRecDepth 20000 in
theorem q643 : Cond.methodLink "InsideOut$Reader" 89 yX0_readMark ∈ lwg := tG 643 (by decide +kernel) (by decide +kernel)
set_option maxRecDepth 20000 in
theorem q645 : Cond.instanceMethod yX0_readMark ∈ lwg := tG 645 (by decide +kernel) (by decide +kernel)
set_option maxRecDepth 20000 in
theorem q646 : Cond.code yX0_readMark prog_2_method_5_code 5 (some .boolean) ∈ lwg := tG 646 rfl rfl
set_option maxRecDepth 20000 in
theorem q648 : Cond.methodLink "InsideOut$Reader" 103 yX0_nextNumber ∈ lwg := tG 648 (by decide +kernel) (by decide +kernel)
set_option maxRecDepth 20000 in
theorem q650 : Cond.instanceMethod yX0_nextNumber ∈ lwg := tG 650 (by decide +kernel) (by decide +kernel)
set_option maxRecDepth 20000 in
theorem q651 : Cond.code yX0_nextNumber prog_2_method_9_code 2 (some .int) ∈ lwg := tG 651 rfl rfl
set_option maxRecDepth 20000 in
theorem q652 : Cond.methodLink "InsideOut$Reader" 106 yX4_setMark ∈ lwg := tG 652 (by decide +kernel) (by decide +kernel)
set_option maxRecDepth 20000 in
theorem q656 : Cond.methodLink "InsideOut$Reader" 47 yX0_wordOfFrom ∈ lwg := tG 656 (by decide +kernel) (by decide +kernel)
set_option maxRecDepth 20000 in
theorem q657 : Cond.static yX0_wordOfFrom ∈ lwg := tG 657 (by decide +kernel) (by decide +kernel)
set_option maxRecDepth 20000 in
theorem q658 : Cond.code yX0_wordOfFrom prog_2_method_14_code 1 (some (.object "java/lang/String")) ∈ lwg := tG 658 rfl rfl
set_option maxRecDepth 20000 in
theorem q662 : Cond.methodLink "InsideOut$Reader" 56 yX0_readWind ∈ lwg := tG 662 (by decide +kernel) (by decide +kernel)
set_option maxRecDepth 20000 in
theorem q664 : Cond.instanceMethod yX0_readWind ∈ lwg := tG 664 (by decide +kernel) (by decide +kernel)
set_option maxRecDepth 20000 in
theorem q665 : Cond.code yX0_readWind prog_2_method_6_code 5 (some .boolean) ∈ lwg := tG 665 rfl rfl
set_option maxRecDepth 20000 in
theorem q668 : Cond.methodLink "InsideOut$Reader" 62 yX0_readRoof ∈ lwg := tG 668 (by decide +kernel) (by decide +kernel)
set_option maxRecDepth 20000 in
theorem q670 : Cond.instanceMethod yX0_readRoof ∈ lwg := tG 670 (by decide +kernel) (by decide +kernel)
set_option maxRecDepth 20000 in
theorem q671 : Cond.code yX0_readRoof prog_2_method_7_code 4 (some .boolean) ∈ lwg := tG 671 rfl rfl
set_option maxRecDepth 20000 in
theorem q674 : Cond.methodLink "InsideOut$Reader" 69 yX0_readWeather ∈ lwg := tG 674 (by decide +kernel) (by decide +kernel)
set_option maxRecDepth 20000 in
theorem q676 : Cond.instanceMethod yX0_readWeather ∈ lwg := tG 676 (by decide +kernel) (by decide +kernel)
set_option maxRecDepth 20000 in
theorem q677 : Cond.code yX0_readWeather prog_2_method_8_code 4 (some .boolean) ∈ lwg := tG 677 rfl rfl
set_option maxRecDepth 20000 in
theorem q679 : Cond.arrayClass .byte ∈ lwg := tG 679 (by decide +kernel) (by decide +kernel)
set_option maxRecDepth 20000 in
theorem q680 : Cond.methodLink "InsideOutLaw" 134 yX7_hold ∈ lwg := tG 680 (by decide +kernel) (by decide +kernel)
set_option maxRecDepth 20000 in
theorem q681 : Cond.instanceMethod yX7_hold ∈ lwg := tG 681 (by decide +kernel) (by decide +kernel)
set_option maxRecDepth 20000 in
theorem q682 : Cond.selects "InsideOut" yX7_hold yX7_hold ∈ lwg := tG 682 (by decide +kernel) (by decide +kernel)
set_option maxRecDepth 20000 in
theorem q683 : Cond.code yX7_hold prog_1_method_31_code 3 (some .int) ∈ lwg := tG 683 rfl rfl
set_option maxRecDepth 20000 in
theorem q684 : Cond.methodLink "InsideOut" 217 yX7_isSpot ∈ lwg := tG 684 (by decide +kernel) (by decide +kernel)
set_option maxRecDepth 20000 in
theorem q685 : Cond.static yX7_isSpot ∈ lwg := tG 685 (by decide +kernel) (by decide +kernel)
set_option maxRecDepth 20000 in
theorem q686 : Cond.code yX7_isSpot prog_1_method_47_code 1 (some .boolean) ∈ lwg := tG 686 rfl rfl
set_option maxRecDepth 20000 in
theorem q687 : Cond.methodLink "InsideOutLaw" 138 yX7_as ∈ lwg := tG 687 (by decide +kernel) (by decide +kernel)
set_option maxRecDepth 20000 in
theorem q688 : Cond.instanceMethod yX7_as ∈ lwg := tG 688 (by decide +kernel) (by decide +kernel)
set_option maxRecDepth 20000 in
theorem q689 : Cond.selects "InsideOut" yX7_as yX7_as ∈ lwg := tG 689 (by decide +kernel) (by decide +kernel)
set_option maxRecDepth 20000 in
theorem q690 : Cond.code yX7_as prog_1_method_32_code 4 (some .int) ∈ lwg := tG 690 rfl rfl
set_option maxRecDepth 20000 in
theorem q691 : Cond.methodLink "InsideOut" 226 yX7_isUnder ∈ lwg := tG 691 (by decide +kernel) (by decide +kernel)
set_option maxRecDepth 20000 in
theorem q692 : Cond.static yX7_isUnder ∈ lwg := tG 692 (by decide +kernel) (by decide +kernel)
set_option maxRecDepth 20000 in
theorem q693 : Cond.code yX7_isUnder prog_1_method_50_code 4 (some .boolean) ∈ lwg := tG 693 rfl rfl
set_option maxRecDepth 20000 in
theorem q694 : Cond.fieldLink "InsideOut" 261 "InsideOut" "KIND_ABOVE" "[I" ∈ lwg := tG 694 (by decide +kernel) (by decide +kernel)
set_option maxRecDepth 20000 in
theorem q696 : Cond.methodLink "InsideOutLaw" 142 yX7_sheet ∈ lwg := tG 696 (by decide +kernel) (by decide +kernel)
set_option maxRecDepth 20000 in
theorem q697 : Cond.instanceMethod yX7_sheet ∈ lwg := tG 697 (by decide +kernel) (by decide +kernel)
set_option maxRecDepth 20000 in
theorem q698 : Cond.selects "InsideOut" yX7_sheet yX7_sheet ∈ lwg := tG 698 (by decide +kernel) (by decide +kernel)
set_option maxRecDepth 20000 in
theorem q699 : Cond.code yX7_sheet prog_1_method_33_code 4 (some .int) ∈ lwg := tG 699 rfl rfl
set_option maxRecDepth 20000 in
theorem q700 : Cond.methodLink "InsideOut" 232 yX1_clear ∈ lwg := tG 700 (by decide +kernel) (by decide +kernel)
set_option maxRecDepth 20000 in
theorem q701 : Cond.instanceMethod yX1_clear ∈ lwg := tG 701 (by decide +kernel) (by decide +kernel)
set_option maxRecDepth 20000 in
theorem q702 : Cond.selects "InsideOut$Sheet" yX1_clear yX1_clear ∈ lwg := tG 702 (by decide +kernel) (by decide +kernel)
set_option maxRecDepth 20000 in
theorem q703 : Cond.code yX1_clear prog_3_method_3_code 3 (none : Option Jvm.ClassFile.FieldType) ∈ lwg := tG 703 rfl rfl
set_option maxRecDepth 20000 in
theorem q704 : Cond.methodLink "InsideOut$Sheet" 22 yJ7_fill_53178 ∈ lwg := tG 704 (by decide +kernel) (by decide +kernel)
set_option maxRecDepth 20000 in
theorem q705 : Cond.methodLink "InsideOutLaw" 146 yX7_write ∈ lwg := tG 705 (by decide +kernel) (by decide +kernel)
set_option maxRecDepth 20000 in
theorem q706 : Cond.instanceMethod yX7_write ∈ lwg := tG 706 (by decide +kernel) (by decide +kernel)
set_option maxRecDepth 20000 in
theorem q707 : Cond.selects "InsideOut" yX7_write yX7_write ∈ lwg := tG 707 (by decide +kernel) (by decide +kernel)
set_option maxRecDepth 20000 in
theorem q708 : Cond.code yX7_write prog_1_method_34_code 5 (some .int) ∈ lwg := tG 708 rfl rfl
set_option maxRecDepth 20000 in
theorem q709 : Cond.methodLink "InsideOut" 239 yX1_put ∈ lwg := tG 709 (by decide +kernel) (by decide +kernel)
set_option maxRecDepth 20000 in
theorem q710 : Cond.instanceMethod yX1_put ∈ lwg := tG 710 (by decide +kernel) (by decide +kernel)
set_option maxRecDepth 20000 in
theorem q711 : Cond.selects "InsideOut$Sheet" yX1_put yX1_put ∈ lwg := tG 711 (by decide +kernel) (by decide +kernel)
set_option maxRecDepth 20000 in
theorem q712 : Cond.code yX1_put prog_3_method_5_code 3 (none : Option Jvm.ClassFile.FieldType) ∈ lwg := tG 712 rfl rfl
set_option maxRecDepth 20000 in
theorem q713 : Cond.methodLink "InsideOutLaw" 150 yX7_copy ∈ lwg := tG 713 (by decide +kernel) (by decide +kernel)
set_option maxRecDepth 20000 in
theorem q714 : Cond.instanceMethod yX7_copy ∈ lwg := tG 714 (by decide +kernel) (by decide +kernel)
set_option maxRecDepth 20000 in
theorem q715 : Cond.selects "InsideOut" yX7_copy yX7_copy ∈ lwg := tG 715 (by decide +kernel) (by decide +kernel)
set_option maxRecDepth 20000 in
theorem q716 : Cond.code yX7_copy prog_1_method_35_code 8 (some .int) ∈ lwg := tG 716 rfl rfl
set_option maxRecDepth 20000 in
theorem q717 : Cond.methodLink "InsideOut" 245 yX1_has ∈ lwg := tG 717 (by decide +kernel) (by decide +kernel)
set_option maxRecDepth 20000 in
theorem q718 : Cond.instanceMethod yX1_has ∈ lwg := tG 718 (by decide +kernel) (by decide +kernel)
set_option maxRecDepth 20000 in
theorem q719 : Cond.selects "InsideOut$Sheet" yX1_has yX1_has ∈ lwg := tG 719 (by decide +kernel) (by decide +kernel)
set_option maxRecDepth 20000 in
theorem q720 : Cond.code yX1_has prog_3_method_4_code 3 (some .boolean) ∈ lwg := tG 720 rfl rfl
set_option maxRecDepth 20000 in
theorem q721 : Cond.methodLink "InsideOut" 251 ⟨"java/lang/System", "arraycopy", "(Ljava/lang/Object;ILjava/lang/Object;II)V"⟩ ∈ lwg := tG 721 (by decide +kernel) (by decide +kernel)
set_option maxRecDepth 20000 in
theorem q722 : Cond.methodLink "InsideOutLaw" 155 yX7_load ∈ lwg := tG 722 (by decide +kernel) (by decide +kernel)
set_option maxRecDepth 20000 in
theorem q723 : Cond.instanceMethod yX7_load ∈ lwg := tG 723 (by decide +kernel) (by decide +kernel)
set_option maxRecDepth 20000 in
theorem q724 : Cond.selects "InsideOut" yX7_load yX7_load ∈ lwg := tG 724 (by decide +kernel) (by decide +kernel)
set_option maxRecDepth 20000 in
theorem q725 : Cond.code yX7_load prog_1_method_36_code 4 (some .int) ∈ lwg := tG 725 rfl rfl
set_option maxRecDepth 20000 in
theorem q726 : Cond.methodLink "InsideOutLaw" 159 yX7_judge ∈ lwg := tG 726 (by decide +kernel) (by decide +kernel)
set_option maxRecDepth 20000 in
theorem q727 : Cond.instanceMethod yX7_judge ∈ lwg := tG 727 (by decide +kernel) (by decide +kernel)
set_option maxRecDepth 20000 in
theorem q728 : Cond.selects "InsideOut" yX7_judge yX7_judge ∈ lwg := tG 728 (by decide +kernel) (by decide +kernel)
set_option maxRecDepth 20000 in
theorem q729 : Cond.code yX7_judge prog_1_method_37_code 4 (some .int) ∈ lwg := tG 729 rfl rfl
set_option maxRecDepth 20000 in
theorem q730 : Cond.methodLink "InsideOutLaw" 163 yX7_image ∈ lwg := tG 730 (by decide +kernel) (by decide +kernel)
set_option maxRecDepth 20000 in
theorem q731 : Cond.instanceMethod yX7_image ∈ lwg := tG 731 (by decide +kernel) (by decide +kernel)
set_option maxRecDepth 20000 in
theorem q732 : Cond.selects "InsideOut" yX7_image yX7_image ∈ lwg := tG 732 (by decide +kernel) (by decide +kernel)
set_option maxRecDepth 20000 in
theorem q733 : Cond.code yX7_image prog_1_method_38_code 1 (some .int) ∈ lwg := tG 733 rfl rfl
set_option maxRecDepth 20000 in
theorem q734 : Cond.methodLink "InsideOutLaw" 167 yX7_undo ∈ lwg := tG 734 (by decide +kernel) (by decide +kernel)
set_option maxRecDepth 20000 in
theorem q735 : Cond.instanceMethod yX7_undo ∈ lwg := tG 735 (by decide +kernel) (by decide +kernel)
set_option maxRecDepth 20000 in
theorem q736 : Cond.selects "InsideOut" yX7_undo yX7_undo ∈ lwg := tG 736 (by decide +kernel) (by decide +kernel)
set_option maxRecDepth 20000 in
theorem q737 : Cond.code yX7_undo prog_1_method_39_code 1 (some .int) ∈ lwg := tG 737 rfl rfl
set_option maxRecDepth 20000 in
theorem q738 : Cond.methodLink "InsideOutLaw" 171 yX7_tear ∈ lwg := tG 738 (by decide +kernel) (by decide +kernel)
set_option maxRecDepth 20000 in
theorem q739 : Cond.instanceMethod yX7_tear ∈ lwg := tG 739 (by decide +kernel) (by decide +kernel)
set_option maxRecDepth 20000 in
theorem q740 : Cond.selects "InsideOut" yX7_tear yX7_tear ∈ lwg := tG 740 (by decide +kernel) (by decide +kernel)
set_option maxRecDepth 20000 in
theorem q741 : Cond.code yX7_tear prog_1_method_40_code 2 (some .int) ∈ lwg := tG 741 rfl rfl
set_option maxRecDepth 20000 in
theorem q742 : Cond.methodLink "InsideOutLaw" 175 yX7_count ∈ lwg := tG 742 (by decide +kernel) (by decide +kernel)
set_option maxRecDepth 20000 in
theorem q743 : Cond.instanceMethod yX7_count ∈ lwg := tG 743 (by decide +kernel) (by decide +kernel)
set_option maxRecDepth 20000 in
theorem q744 : Cond.selects "InsideOut" yX7_count yX7_count ∈ lwg := tG 744 (by decide +kernel) (by decide +kernel)
set_option maxRecDepth 20000 in
theorem q745 : Cond.code yX7_count prog_1_method_41_code 2 (some .int) ∈ lwg := tG 745 rfl rfl
set_option maxRecDepth 20000 in
theorem q746 : Cond.methodLink "InsideOut" 257 yX6_spotsHolding ∈ lwg := tG 746 (by decide +kernel) (by decide +kernel)
set_option maxRecDepth 20000 in
theorem q747 : Cond.instanceMethod yX6_spotsHolding ∈ lwg := tG 747 (by decide +kernel) (by decide +kernel)
set_option maxRecDepth 20000 in
theorem q748 : Cond.selects "InsideOut$World" yX6_spotsHolding yX6_spotsHolding ∈ lwg := tG 748 (by decide +kernel) (by decide +kernel)
set_option maxRecDepth 20000 in
theorem q749 : Cond.code yX6_spotsHolding prog_8_method_9_code 3 (some .int) ∈ lwg := tG 749 rfl rfl
set_option maxRecDepth 20000 in
theorem q750 : Cond.methodLink "InsideOutLaw" 179 yX7_status ∈ lwg := tG 750 (by decide +kernel) (by decide +kernel)
set_option maxRecDepth 20000 in
theorem q751 : Cond.instanceMethod yX7_status ∈ lwg := tG 751 (by decide +kernel) (by decide +kernel)
set_option maxRecDepth 20000 in
theorem q752 : Cond.selects "InsideOut" yX7_status yX7_status ∈ lwg := tG 752 (by decide +kernel) (by decide +kernel)
set_option maxRecDepth 20000 in
theorem q753 : Cond.code yX7_status prog_1_method_42_code 4 (some .int) ∈ lwg := tG 753 rfl rfl
set_option maxRecDepth 20000 in
theorem q754 : Cond.classLink "InsideOutLaw" 10 "InsideOutModel" ∈ lwg := tG 754 (by decide +kernel) (by decide +kernel)
set_option maxRecDepth 20000 in
theorem q755 : Cond.instantiable "InsideOutModel" 21 ∈ lwg := tG 755 (by decide +kernel) (by decide +kernel)
set_option maxRecDepth 20000 in
theorem q756 : Cond.methodLink "InsideOutLaw" 12 yX8_init ∈ lwg := tG 756 (by decide +kernel) (by decide +kernel)
set_option maxRecDepth 20000 in
theorem q757 : Cond.instanceMethod yX8_init ∈ lwg := tG 757 (by decide +kernel) (by decide +kernel)
set_option maxRecDepth 20000 in
theorem q758 : Cond.code yX8_init prog_10_method_1_code 2 (none : Option Jvm.ClassFile.FieldType) ∈ lwg := tG 758 rfl rfl
set_option maxRecDepth 20000 in
theorem q759 : Cond.methodLink "InsideOutModel" 1 ⟨"java/lang/Object", "<init>", "()V"⟩ ∈ lwg := tG 759 (by decide +kernel) (by decide +kernel)
set_option maxRecDepth 20000 in
theorem q760 : Cond.fieldLink "InsideOutModel" 7 "InsideOutModel" "s" "[I" ∈ lwg := tG 760 (by decide +kernel) (by decide +kernel)
set_option maxRecDepth 20000 in
theorem q761 : Cond.fieldLink "InsideOutModel" 13 "InsideOutModel" "kept" "[I" ∈ lwg := tG 761 (by decide +kernel) (by decide +kernel)
set_option maxRecDepth 20000 in
theorem q762 : Cond.fieldLink "InsideOutModel" 16 "InsideOutModel" "before" "[I" ∈ lwg := tG 762 (by decide +kernel) (by decide +kernel)
set_option maxRecDepth 20000 in
theorem q763 : Cond.fieldLink "InsideOutModel" 19 "InsideOutModel" "aside" "[I" ∈ lwg := tG 763 (by decide +kernel) (by decide +kernel)
set_option maxRecDepth 20000 in
theorem q764 : Cond.fieldLink "InsideOutModel" 300 "InsideOutModel" "isKept" "Z" ∈ lwg := tG 764 (by decide +kernel) (by decide +kernel)
set_option maxRecDepth 20000 in
theorem q765 : Cond.fieldLink "InsideOutModel" 22 "InsideOutModel" "findings" "[I" ∈ lwg := tG 765 (by decide +kernel) (by decide +kernel)
set_option maxRecDepth 20000 in
theorem q766 : Cond.fieldLink "InsideOutModel" 25 "InsideOutModel" "tape" "[I" ∈ lwg := tG 766 (by decide +kernel) (by decide +kernel)
set_option maxRecDepth 20000 in
theorem q767 : Cond.fieldLink "InsideOutModel" 209 "InsideOutModel" "taped" "I" ∈ lwg := tG 767 (by decide +kernel) (by decide +kernel)
set_option maxRecDepth 20000 in
theorem q768 : Cond.fieldLink "InsideOutModel" 28 "InsideOutModel" "bitsOf" "[I" ∈ lwg := tG 768 (by decide +kernel) (by decide +kernel)
set_option maxRecDepth 20000 in
theorem q769 : Cond.fieldLink "InsideOutModel" 31 "InsideOutModel" "sizes" "[I" ∈ lwg := tG 769 (by decide +kernel) (by decide +kernel)
set_option maxRecDepth 20000 in
theorem q770 : Cond.fieldLink "InsideOutModel" 34 "InsideOutModel" "numbers" "[I" ∈ lwg := tG 770 (by decide +kernel) (by decide +kernel)
set_option maxRecDepth 20000 in
theorem q771 : Cond.fieldLink "InsideOutModel" 147 "InsideOutModel" "homeWet" "I" ∈ lwg := tG 771 (by decide +kernel) (by decide +kernel)
set_option maxRecDepth 20000 in
theorem q772 : Cond.fieldLink "InsideOutModel" 151 "InsideOutModel" "homeTurned" "I" ∈ lwg := tG 772 (by decide +kernel) (by decide +kernel)
set_option maxRecDepth 20000 in
theorem q773 : Cond.fieldLink "InsideOutModel" 154 "InsideOutModel" "homeRibs" "I" ∈ lwg := tG 773 (by decide +kernel) (by decide +kernel)
set_option maxRecDepth 20000 in
theorem q774 : Cond.fieldLink "InsideOutModel" 163 "InsideOutModel" "best" "I" ∈ lwg := tG 774 (by decide +kernel) (by decide +kernel)
set_option maxRecDepth 20000 in
theorem q775 : Cond.fieldLink "InsideOutModel" 167 "InsideOutModel" "driest" "I" ∈ lwg := tG 775 (by decide +kernel) (by decide +kernel)
set_option maxRecDepth 20000 in
theorem q776 : Cond.fieldLink "InsideOutModel" 227 "InsideOutModel" "token" "I" ∈ lwg := tG 776 (by decide +kernel) (by decide +kernel)
set_option maxRecDepth 20000 in
theorem q777 : Cond.fieldLink "InsideOutModel" 215 "InsideOutModel" "from" "I" ∈ lwg := tG 777 (by decide +kernel) (by decide +kernel)
set_option maxRecDepth 20000 in
theorem q778 : Cond.fieldLink "InsideOutModel" 212 "InsideOutModel" "to" "I" ∈ lwg := tG 778 (by decide +kernel) (by decide +kernel)
set_option maxRecDepth 20000 in
theorem q779 : Cond.fieldLink "InsideOutModel" 230 "InsideOutModel" "value" "I" ∈ lwg := tG 779 (by decide +kernel) (by decide +kernel)
set_option maxRecDepth 20000 in
theorem q780 : Cond.fieldLink "InsideOutModel" 233 "InsideOutModel" "faultAt" "I" ∈ lwg := tG 780 (by decide +kernel) (by decide +kernel)
set_option maxRecDepth 20000 in
theorem q781 : Cond.laysFinal "InsideOutModel" "InsideOutModel" "s" "[I" ∈ lwg := tG 781 (by decide +kernel) (by decide +kernel)
set_option maxRecDepth 20000 in
theorem q783 : Cond.laysFinal "InsideOutModel" "InsideOutModel" "kept" "[I" ∈ lwg := tG 783 (by decide +kernel) (by decide +kernel)
set_option maxRecDepth 20000 in
theorem q785 : Cond.laysFinal "InsideOutModel" "InsideOutModel" "before" "[I" ∈ lwg := tG 785 (by decide +kernel) (by decide +kernel)
set_option maxRecDepth 20000 in
theorem q787 : Cond.laysFinal "InsideOutModel" "InsideOutModel" "aside" "[I" ∈ lwg := tG 787 (by decide +kernel) (by decide +kernel)
set_option maxRecDepth 20000 in
theorem q789 : Cond.lays "InsideOutModel" "InsideOutModel" "isKept" "Z" ∈ lwg := tG 789 (by decide +kernel) (by decide +kernel)
set_option maxRecDepth 20000 in
theorem q791 : Cond.laysFinal "InsideOutModel" "InsideOutModel" "findings" "[I" ∈ lwg := tG 791 (by decide +kernel) (by decide +kernel)
set_option maxRecDepth 20000 in
theorem q793 : Cond.laysFinal "InsideOutModel" "InsideOutModel" "tape" "[I" ∈ lwg := tG 793 (by decide +kernel) (by decide +kernel)
set_option maxRecDepth 20000 in
theorem q795 : Cond.lays "InsideOutModel" "InsideOutModel" "taped" "I" ∈ lwg := tG 795 (by decide +kernel) (by decide +kernel)
set_option maxRecDepth 20000 in
theorem q797 : Cond.laysFinal "InsideOutModel" "InsideOutModel" "bitsOf" "[I" ∈ lwg := tG 797 (by decide +kernel) (by decide +kernel)
set_option maxRecDepth 20000 in
theorem q799 : Cond.laysFinal "InsideOutModel" "InsideOutModel" "sizes" "[I" ∈ lwg := tG 799 (by decide +kernel) (by decide +kernel)
set_option maxRecDepth 20000 in
theorem q801 : Cond.laysFinal "InsideOutModel" "InsideOutModel" "numbers" "[I" ∈ lwg := tG 801 (by decide +kernel) (by decide +kernel)
set_option maxRecDepth 20000 in
theorem q803 : Cond.lays "InsideOutModel" "InsideOutModel" "homeWet" "I" ∈ lwg := tG 803 (by decide +kernel) (by decide +kernel)
set_option maxRecDepth 20000 in
theorem q805 : Cond.lays "InsideOutModel" "InsideOutModel" "homeTurned" "I" ∈ lwg := tG 805 (by decide +kernel) (by decide +kernel)
set_option maxRecDepth 20000 in
theorem q807 : Cond.lays "InsideOutModel" "InsideOutModel" "homeRibs" "I" ∈ lwg := tG 807 (by decide +kernel) (by decide +kernel)
set_option maxRecDepth 20000 in
theorem q809 : Cond.lays "InsideOutModel" "InsideOutModel" "best" "I" ∈ lwg := tG 809 (by decide +kernel) (by decide +kernel)
set_option maxRecDepth 20000 in
theorem q811 : Cond.lays "InsideOutModel" "InsideOutModel" "driest" "I" ∈ lwg := tG 811 (by decide +kernel) (by decide +kernel)
set_option maxRecDepth 20000 in
theorem q813 : Cond.lays "InsideOutModel" "InsideOutModel" "token" "I" ∈ lwg := tG 813 (by decide +kernel) (by decide +kernel)
set_option maxRecDepth 20000 in
theorem q815 : Cond.lays "InsideOutModel" "InsideOutModel" "from" "I" ∈ lwg := tG 815 (by decide +kernel) (by decide +kernel)
set_option maxRecDepth 20000 in
theorem q817 : Cond.lays "InsideOutModel" "InsideOutModel" "to" "I" ∈ lwg := tG 817 (by decide +kernel) (by decide +kernel)
set_option maxRecDepth 20000 in
theorem q819 : Cond.lays "InsideOutModel" "InsideOutModel" "value" "I" ∈ lwg := tG 819 (by decide +kernel) (by decide +kernel)
set_option maxRecDepth 20000 in
theorem q821 : Cond.lays "InsideOutModel" "InsideOutModel" "faultAt" "I" ∈ lwg := tG 821 (by decide +kernel) (by decide +kernel)
set_option maxRecDepth 20000 in
theorem q824 : Cond.methodLink "InsideOutLaw" 17 yX8_step ∈ lwg := tG 824 (by decide +kernel) (by decide +kernel)
set_option maxRecDepth 20000 in
theorem q825 : Cond.instanceMethod yX8_step ∈ lwg := tG 825 (by decide +kernel) (by decide +kernel)
set_option maxRecDepth 20000 in
theorem q826 : Cond.selects "InsideOutModel" yX8_step yX8_step ∈ lwg := tG 826 (by decide +kernel) (by decide +kernel)
set_option maxRecDepth 20000 in
theorem q827 : Cond.code yX8_step prog_10_method_14_code 4 (some .int) ∈ lwg := tG 827 rfl rfl
set_option maxRecDepth 20000 in
theorem q828 : Cond.methodLink "InsideOutModel" 43 yX8_isStep ∈ lwg := tG 828 (by decide +kernel) (by decide +kernel)
set_option maxRecDepth 20000 in
theorem q829 : Cond.static yX8_isStep ∈ lwg := tG 829 (by decide +kernel) (by decide +kernel)
set_option maxRecDepth 20000 in
theorem q830 : Cond.code yX8_isStep prog_10_method_6_code 1 (some .boolean) ∈ lwg := tG 830 rfl rfl
set_option maxRecDepth 20000 in
theorem q831 : Cond.constantLong "InsideOutModel" 47 (2 : Int64) ∈ lwg := tG 831 (by decide +kernel) (by decide +kernel)
set_option maxRecDepth 20000 in
theorem q832 : Cond.methodLink "InsideOutModel" 49 yX8_isIn ∈ lwg := tG 832 (by decide +kernel) (by decide +kernel)
set_option maxRecDepth 20000 in
theorem q833 : Cond.static yX8_isIn ∈ lwg := tG 833 (by decide +kernel) (by decide +kernel)
set_option maxRecDepth 20000 in
theorem q834 : Cond.code yX8_isIn prog_10_method_2_code 6 (some .boolean) ∈ lwg := tG 834 rfl rfl
set_option maxRecDepth 20000 in
theorem q835 : Cond.constantLong "InsideOutModel" 53 (99 : Int64) ∈ lwg := tG 835 (by decide +kernel) (by decide +kernel)
set_option maxRecDepth 20000 in
theorem q836 : Cond.constant "InsideOutModel" 37 (-1000001 : Int32) ∈ lwg := tG 836 (by decide +kernel) (by decide +kernel)
set_option maxRecDepth 20000 in
theorem q837 : Cond.methodLink "InsideOutModel" 39 yX8_finds ∈ lwg := tG 837 (by decide +kernel) (by decide +kernel)
set_option maxRecDepth 20000 in
theorem q839 : Cond.instanceMethod yX8_finds ∈ lwg := tG 839 (by decide +kernel) (by decide +kernel)
set_option maxRecDepth 20000 in
theorem q840 : Cond.code yX8_finds prog_10_method_3_code 2 (some .int) ∈ lwg := tG 840 rfl rfl
set_option maxRecDepth 20000 in
theorem q841 : Cond.methodLink "InsideOutModel" 55 yX8_becomes ∈ lwg := tG 841 (by decide +kernel) (by decide +kernel)
set_option maxRecDepth 20000 in
theorem q843 : Cond.instanceMethod yX8_becomes ∈ lwg := tG 843 (by decide +kernel) (by decide +kernel)
set_option maxRecDepth 20000 in
theorem q844 : Cond.code yX8_becomes prog_10_method_4_code 4 (some .int) ∈ lwg := tG 844 rfl rfl
set_option maxRecDepth 20000 in
theorem q845 : Cond.methodLink "InsideOutLaw" 22 yX8_stepOf ∈ lwg := tG 845 (by decide +kernel) (by decide +kernel)
set_option maxRecDepth 20000 in
theorem q846 : Cond.instanceMethod yX8_stepOf ∈ lwg := tG 846 (by decide +kernel) (by decide +kernel)
set_option maxRecDepth 20000 in
theorem q847 : Cond.selects "InsideOutModel" yX8_stepOf yX8_stepOf ∈ lwg := tG 847 (by decide +kernel) (by decide +kernel)
set_option maxRecDepth 20000 in
theorem q848 : Cond.code yX8_stepOf prog_10_method_17_code 3 (some .int) ∈ lwg := tG 848 rfl rfl
set_option maxRecDepth 20000 in
theorem q849 : Cond.constantLong "InsideOutModel" 62 (4 : Int64) ∈ lwg := tG 849 (by decide +kernel) (by decide +kernel)
set_option maxRecDepth 20000 in
theorem q850 : Cond.methodLink "InsideOutModel" 64 yX8_wind ∈ lwg := tG 850 (by decide +kernel) (by decide +kernel)
set_option maxRecDepth 20000 in
theorem q852 : Cond.instanceMethod yX8_wind ∈ lwg := tG 852 (by decide +kernel) (by decide +kernel)
set_option maxRecDepth 20000 in
theorem q853 : Cond.code yX8_wind prog_10_method_15_code 3 (some .int) ∈ lwg := tG 853 rfl rfl
set_option maxRecDepth 20000 in
theorem q854 : Cond.methodLink "InsideOutModel" 67 yX8_there ∈ lwg := tG 854 (by decide +kernel) (by decide +kernel)
set_option maxRecDepth 20000 in
theorem q856 : Cond.instanceMethod yX8_there ∈ lwg := tG 856 (by decide +kernel) (by decide +kernel)
set_option maxRecDepth 20000 in
theorem q857 : Cond.code yX8_there prog_10_method_16_code 4 (some .int) ∈ lwg := tG 857 rfl rfl
set_option maxRecDepth 20000 in
theorem q858 : Cond.methodLink "InsideOutModel" 59 yX8_its ∈ lwg := tG 858 (by decide +kernel) (by decide +kernel)
set_option maxRecDepth 20000 in
theorem q860 : Cond.instanceMethod yX8_its ∈ lwg := tG 860 (by decide +kernel) (by decide +kernel)
set_option maxRecDepth 20000 in
theorem q861 : Cond.code yX8_its prog_10_method_9_code 3 (some .int) ∈ lwg := tG 861 rfl rfl
set_option maxRecDepth 20000 in
theorem q862 : Cond.methodLink "InsideOutLaw" 26 yX8_weather ∈ lwg := tG 862 (by decide +kernel) (by decide +kernel)
set_option maxRecDepth 20000 in
theorem q863 : Cond.instanceMethod yX8_weather ∈ lwg := tG 863 (by decide +kernel) (by decide +kernel)
set_option maxRecDepth 20000 in
theorem q864 : Cond.selects "InsideOutModel" yX8_weather yX8_weather ∈ lwg := tG 864 (by decide +kernel) (by decide +kernel)
set_option maxRecDepth 20000 in
theorem q865 : Cond.code yX8_weather prog_10_method_18_code 3 (some .int) ∈ lwg := tG 865 rfl rfl
set_option maxRecDepth 20000 in
theorem q866 : Cond.methodLink "InsideOutLaw" 31 yX8_umbrella ∈ lwg := tG 866 (by decide +kernel) (by decide +kernel)
set_option maxRecDepth 20000 in
theorem q867 : Cond.instanceMethod yX8_umbrella ∈ lwg := tG 867 (by decide +kernel) (by decide +kernel)
set_option maxRecDepth 20000 in
theorem q868 : Cond.selects "InsideOutModel" yX8_umbrella yX8_umbrella ∈ lwg := tG 868 (by decide +kernel) (by decide +kernel)
set_option maxRecDepth 20000 in
theorem q869 : Cond.code yX8_umbrella prog_10_method_20_code 2 (some .int) ∈ lwg := tG 869 rfl rfl
set_option maxRecDepth 20000 in
theorem q870 : Cond.constantLong "InsideOutModel" 73 (6 : Int64) ∈ lwg := tG 870 (by decide +kernel) (by decide +kernel)
set_option maxRecDepth 20000 in
theorem q871 : Cond.constant "InsideOutModel" 75 (-1000002 : Int32) ∈ lwg := tG 871 (by decide +kernel) (by decide +kernel)
set_option maxRecDepth 20000 in
theorem q872 : Cond.methodLink "InsideOutModel" 76 yX8_comes ∈ lwg := tG 872 (by decide +kernel) (by decide +kernel)
set_option maxRecDepth 20000 in
theorem q874 : Cond.instanceMethod yX8_comes ∈ lwg := tG 874 (by decide +kernel) (by decide +kernel)
set_option maxRecDepth 20000 in
theorem q875 : Cond.code yX8_comes prog_10_method_19_code 3 (none : Option Jvm.ClassFile.FieldType) ∈ lwg := tG 875 rfl rfl
set_option maxRecDepth 20000 in
theorem q876 : Cond.methodLink "InsideOutModel" 70 yX8_at ∈ lwg := tG 876 (by decide +kernel) (by decide +kernel)
set_option maxRecDepth 20000 in
theorem q877 : Cond.static yX8_at ∈ lwg := tG 877 (by decide +kernel) (by decide +kernel)
set_option maxRecDepth 20000 in
theorem q878 : Cond.code yX8_at prog_10_method_8_code 2 (some .int) ∈ lwg := tG 878 rfl rfl
set_option maxRecDepth 20000 in
theorem q879 : Cond.methodLink "InsideOutLaw" 35 yX8_of ∈ lwg := tG 879 (by decide +kernel) (by decide +kernel)
set_option maxRecDepth 20000 in
theorem q880 : Cond.instanceMethod yX8_of ∈ lwg := tG 880 (by decide +kernel) (by decide +kernel)
set_option maxRecDepth 20000 in
theorem q881 : Cond.selects "InsideOutModel" yX8_of yX8_of ∈ lwg := tG 881 (by decide +kernel) (by decide +kernel)
set_option maxRecDepth 20000 in
theorem q882 : Cond.code yX8_of prog_10_method_25_code 3 (some .int) ∈ lwg := tG 882 rfl rfl
set_option maxRecDepth 20000 in
theorem q883 : Cond.methodLink "InsideOutModel" 89 yX8_isUmbrella ∈ lwg := tG 883 (by decide +kernel) (by decide +kernel)
set_option maxRecDepth 20000 in
theorem q885 : Cond.instanceMethod yX8_isUmbrella ∈ lwg := tG 885 (by decide +kernel) (by decide +kernel)
set_option maxRecDepth 20000 in
theorem q886 : Cond.code yX8_isUmbrella prog_10_method_7_code 2 (some .boolean) ∈ lwg := tG 886 rfl rfl
set_option maxRecDepth 20000 in
theorem q887 : Cond.constantLong "InsideOutModel" 92 (10 : Int64) ∈ lwg := tG 887 (by decide +kernel) (by decide +kernel)
set_option maxRecDepth 20000 in
theorem q888 : Cond.methodLink "InsideOutModel" 83 yX8_stiff ∈ lwg := tG 888 (by decide +kernel) (by decide +kernel)
set_option maxRecDepth 20000 in
theorem q890 : Cond.instanceMethod yX8_stiff ∈ lwg := tG 890 (by decide +kernel) (by decide +kernel)
set_option maxRecDepth 20000 in
theorem q891 : Cond.code yX8_stiff prog_10_method_21_code 4 (some .int) ∈ lwg := tG 891 rfl rfl
set_option maxRecDepth 20000 in
theorem q892 : Cond.methodLink "InsideOutModel" 80 yX8_greatest ∈ lwg := tG 892 (by decide +kernel) (by decide +kernel)
set_option maxRecDepth 20000 in
theorem q893 : Cond.static yX8_greatest ∈ lwg := tG 893 (by decide +kernel) (by decide +kernel)
set_option maxRecDepth 20000 in
theorem q894 : Cond.code yX8_greatest prog_10_method_11_code 2 (some .int) ∈ lwg := tG 894 rfl rfl
set_option maxRecDepth 20000 in
theorem q895 : Cond.methodLink "InsideOutModel" 94 yX8_covers ∈ lwg := tG 895 (by decide +kernel) (by decide +kernel)
set_option maxRecDepth 20000 in
theorem q897 : Cond.instanceMethod yX8_covers ∈ lwg := tG 897 (by decide +kernel) (by decide +kernel)
set_option maxRecDepth 20000 in
theorem q898 : Cond.code yX8_covers prog_10_method_23_code 5 (some .int) ∈ lwg := tG 898 rfl rfl
set_option maxRecDepth 20000 in
theorem q899 : Cond.methodLink "InsideOutModel" 86 yX8_least ∈ lwg := tG 899 (by decide +kernel) (by decide +kernel)
set_option maxRecDepth 20000 in
theorem q900 : Cond.static yX8_least ∈ lwg := tG 900 (by decide +kernel) (by decide +kernel)
set_option maxRecDepth 20000 in
theorem q901 : Cond.code yX8_least prog_10_method_10_code 2 (some .int) ∈ lwg := tG 901 rfl rfl
set_option maxRecDepth 20000 in
theorem q902 : Cond.methodLink "InsideOutModel" 97 yX8_pace ∈ lwg := tG 902 (by decide +kernel) (by decide +kernel)
set_option maxRecDepth 20000 in
theorem q904 : Cond.instanceMethod yX8_pace ∈ lwg := tG 904 (by decide +kernel) (by decide +kernel)
set_option maxRecDepth 20000 in
theorem q905 : Cond.code yX8_pace prog_10_method_24_code 2 (some .int) ∈ lwg := tG 905 rfl rfl
set_option maxRecDepth 20000 in
theorem q906 : Cond.methodLink "InsideOutLaw" 39 yX8_change ∈ lwg := tG 906 (by decide +kernel) (by decide +kernel)
set_option maxRecDepth 20000 in
theorem q907 : Cond.instanceMethod yX8_change ∈ lwg := tG 907 (by decide +kernel) (by decide +kernel)
set_option maxRecDepth 20000 in
theorem q908 : Cond.selects "InsideOutModel" yX8_change yX8_change ∈ lwg := tG 908 (by decide +kernel) (by decide +kernel)
set_option maxRecDepth 20000 in
theorem q909 : Cond.code yX8_change prog_10_method_27_code 5 (some .int) ∈ lwg := tG 909 rfl rfl
set_option maxRecDepth 20000 in
theorem q910 : Cond.constantLong "InsideOutModel" 101 (7 : Int64) ∈ lwg := tG 910 (by decide +kernel) (by decide +kernel)
set_option maxRecDepth 20000 in
theorem q911 : Cond.methodLink "InsideOutModel" 103 yX8_greatestOf ∈ lwg := tG 911 (by decide +kernel) (by decide +kernel)
set_option maxRecDepth 20000 in
theorem q912 : Cond.static yX8_greatestOf ∈ lwg := tG 912 (by decide +kernel) (by decide +kernel)
set_option maxRecDepth 20000 in
theorem q913 : Cond.code yX8_greatestOf prog_10_method_26_code 1 (some .int) ∈ lwg := tG 913 rfl rfl
set_option maxRecDepth 20000 in
theorem q914 : Cond.constant "InsideOutModel" 100 (99999 : Int32) ∈ lwg := tG 914 (by decide +kernel) (by decide +kernel)
set_option maxRecDepth 20000 in
theorem q915 : Cond.methodLink "InsideOutLaw" 43 yX8_bears ∈ lwg := tG 915 (by decide +kernel) (by decide +kernel)
set_option maxRecDepth 20000 in
theorem q916 : Cond.instanceMethod yX8_bears ∈ lwg := tG 916 (by decide +kernel) (by decide +kernel)
set_option maxRecDepth 20000 in
theorem q917 : Cond.selects "InsideOutModel" yX8_bears yX8_bears ∈ lwg := tG 917 (by decide +kernel) (by decide +kernel)
set_option maxRecDepth 20000 in
theorem q918 : Cond.code yX8_bears prog_10_method_28_code 4 (some .int) ∈ lwg := tG 918 rfl rfl
set_option maxRecDepth 20000 in
theorem q919 : Cond.methodLink "InsideOutModel" 106 yX8_bearsOn ∈ lwg := tG 919 (by decide +kernel) (by decide +kernel)
set_option maxRecDepth 20000 in
theorem q921 : Cond.instanceMethod yX8_bearsOn ∈ lwg := tG 921 (by decide +kernel) (by decide +kernel)
set_option maxRecDepth 20000 in
theorem q922 : Cond.code yX8_bearsOn prog_10_method_22_code 6 (some .int) ∈ lwg := tG 922 rfl rfl
set_option maxRecDepth 20000 in
theorem q923 : Cond.methodLink "InsideOutLaw" 47 yX8_go ∈ lwg := tG 923 (by decide +kernel) (by decide +kernel)
set_option maxRecDepth 20000 in
theorem q924 : Cond.instanceMethod yX8_go ∈ lwg := tG 924 (by decide +kernel) (by decide +kernel)
set_option maxRecDepth 20000 in
theorem q925 : Cond.selects "InsideOutModel" yX8_go yX8_go ∈ lwg := tG 925 (by decide +kernel) (by decide +kernel)
set_option maxRecDepth 20000 in
theorem q926 : Cond.code yX8_go prog_10_method_34_code 4 (some .int) ∈ lwg := tG 926 rfl rfl
set_option maxRecDepth 20000 in
theorem q927 : Cond.constantLong "InsideOutModel" 119 (60 : Int64) ∈ lwg := tG 927 (by decide +kernel) (by decide +kernel)
set_option maxRecDepth 20000 in
theorem q928 : Cond.constant "InsideOutModel" 121 (-1000005 : Int32) ∈ lwg := tG 928 (by decide +kernel) (by decide +kernel)
set_option maxRecDepth 20000 in
theorem q929 : Cond.methodLink "InsideOutModel" 122 yX8_tick ∈ lwg := tG 929 (by decide +kernel) (by decide +kernel)
set_option maxRecDepth 20000 in
theorem q931 : Cond.instanceMethod yX8_tick ∈ lwg := tG 931 (by decide +kernel) (by decide +kernel)
set_option maxRecDepth 20000 in
theorem q932 : Cond.code yX8_tick prog_10_method_32_code 3 (some .int) ∈ lwg := tG 932 rfl rfl
set_option maxRecDepth 20000 in
theorem q933 : Cond.methodLink "InsideOutModel" 113 yX8_isHome ∈ lwg := tG 933 (by decide +kernel) (by decide +kernel)
set_option maxRecDepth 20000 in
theorem q935 : Cond.instanceMethod yX8_isHome ∈ lwg := tG 935 (by decide +kernel) (by decide +kernel)
set_option maxRecDepth 20000 in
theorem q936 : Cond.code yX8_isHome prog_10_method_29_code 2 (some .boolean) ∈ lwg := tG 936 rfl rfl
set_option maxRecDepth 20000 in
theorem q937 : Cond.methodLink "InsideOutModel" 116 yX8_goesOn ∈ lwg := tG 937 (by decide +kernel) (by decide +kernel)
set_option maxRecDepth 20000 in
theorem q939 : Cond.instanceMethod yX8_goesOn ∈ lwg := tG 939 (by decide +kernel) (by decide +kernel)
set_option maxRecDepth 20000 in
theorem q940 : Cond.code yX8_goesOn prog_10_method_31_code 8 (some .boolean) ∈ lwg := tG 940 rfl rfl
set_option maxRecDepth 20000 in
theorem q941 : Cond.methodLink "InsideOutModel" 110 yX8_heldBy ∈ lwg := tG 941 (by decide +kernel) (by decide +kernel)
set_option maxRecDepth 20000 in
theorem q943 : Cond.instanceMethod yX8_heldBy ∈ lwg := tG 943 (by decide +kernel) (by decide +kernel)
set_option maxRecDepth 20000 in
theorem q944 : Cond.code yX8_heldBy prog_10_method_30_code 3 (some .int) ∈ lwg := tG 944 rfl rfl
set_option maxRecDepth 20000 in
theorem q945 : Cond.methodLink "InsideOutModel" 126 yX8_homes ∈ lwg := tG 945 (by decide +kernel) (by decide +kernel)
set_option maxRecDepth 20000 in
theorem q947 : Cond.instanceMethod yX8_homes ∈ lwg := tG 947 (by decide +kernel) (by decide +kernel)
set_option maxRecDepth 20000 in
theorem q948 : Cond.code yX8_homes prog_10_method_33_code 3 (some .int) ∈ lwg := tG 948 rfl rfl
set_option maxRecDepth 20000 in
theorem q949 : Cond.methodLink "InsideOutLaw" 51 yX8_now ∈ lwg := tG 949 (by decide +kernel) (by decide +kernel)
set_option maxRecDepth 20000 in
theorem q950 : Cond.instanceMethod yX8_now ∈ lwg := tG 950 (by decide +kernel) (by decide +kernel)
set_option maxRecDepth 20000 in
theorem q951 : Cond.selects "InsideOutModel" yX8_now yX8_now ∈ lwg := tG 951 (by decide +kernel) (by decide +kernel)
set_option maxRecDepth 20000 in
theorem q952 : Cond.code yX8_now prog_10_method_38_code 2 (some .int) ∈ lwg := tG 952 rfl rfl
set_option maxRecDepth 20000 in
theorem q953 : Cond.methodLink "InsideOutModel" 129 yX8_sumOf ∈ lwg := tG 953 (by decide +kernel) (by decide +kernel)
set_option maxRecDepth 20000 in
theorem q955 : Cond.instanceMethod yX8_sumOf ∈ lwg := tG 955 (by decide +kernel) (by decide +kernel)
set_option maxRecDepth 20000 in
theorem q956 : Cond.code yX8_sumOf prog_10_method_35_code 4 (some .int) ∈ lwg := tG 956 rfl rfl
set_option maxRecDepth 20000 in
theorem q957 : Cond.methodLink "InsideOutModel" 132 yX8_outs ∈ lwg := tG 957 (by decide +kernel) (by decide +kernel)
set_option maxRecDepth 20000 in
theorem q959 : Cond.instanceMethod yX8_outs ∈ lwg := tG 959 (by decide +kernel) (by decide +kernel)
set_option maxRecDepth 20000 in
theorem q960 : Cond.code yX8_outs prog_10_method_36_code 3 (some .int) ∈ lwg := tG 960 rfl rfl
set_option maxRecDepth 20000 in
theorem q961 : Cond.methodLink "InsideOutModel" 135 yX8_roofs ∈ lwg := tG 961 (by decide +kernel) (by decide +kernel)
set_option maxRecDepth 20000 in
theorem q963 : Cond.instanceMethod yX8_roofs ∈ lwg := tG 963 (by decide +kernel) (by decide +kernel)
set_option maxRecDepth 20000 in
theorem q964 : Cond.code yX8_roofs prog_10_method_37_code 3 (some .int) ∈ lwg := tG 964 rfl rfl
set_option maxRecDepth 20000 in
theorem q965 : Cond.methodLink "InsideOutLaw" 55 yX8_ahead ∈ lwg := tG 965 (by decide +kernel) (by decide +kernel)
set_option maxRecDepth 20000 in
theorem q966 : Cond.instanceMethod yX8_ahead ∈ lwg := tG 966 (by decide +kernel) (by decide +kernel)
set_option maxRecDepth 20000 in
theorem q967 : Cond.selects "InsideOutModel" yX8_ahead yX8_ahead ∈ lwg := tG 967 (by decide +kernel) (by decide +kernel)
set_option maxRecDepth 20000 in
theorem q968 : Cond.code yX8_ahead prog_10_method_40_code 5 (some .int) ∈ lwg := tG 968 rfl rfl
set_option maxRecDepth 20000 in
theorem q969 : Cond.constantLong "InsideOutModel" 138 (100 : Int64) ∈ lwg := tG 969 (by decide +kernel) (by decide +kernel)
set_option maxRecDepth 20000 in
theorem q970 : Cond.methodLink "InsideOutModel" 140 yX8_copyRow ∈ lwg := tG 970 (by decide +kernel) (by decide +kernel)
set_option maxRecDepth 20000 in
theorem q971 : Cond.static yX8_copyRow ∈ lwg := tG 971 (by decide +kernel) (by decide +kernel)
set_option maxRecDepth 20000 in
theorem q972 : Cond.code yX8_copyRow prog_10_method_5_code 3 (none : Option Jvm.ClassFile.FieldType) ∈ lwg := tG 972 rfl rfl
set_option maxRecDepth 20000 in
theorem q973 : Cond.methodLink "InsideOutModel" 144 yX8_goesAlone ∈ lwg := tG 973 (by decide +kernel) (by decide +kernel)
set_option maxRecDepth 20000 in
theorem q975 : Cond.instanceMethod yX8_goesAlone ∈ lwg := tG 975 (by decide +kernel) (by decide +kernel)
set_option maxRecDepth 20000 in
theorem q976 : Cond.code yX8_goesAlone prog_10_method_39_code 3 (none : Option Jvm.ClassFile.FieldType) ∈ lwg := tG 976 rfl rfl
set_option maxRecDepth 20000 in
theorem q977 : Cond.methodLink "InsideOutLaw" 59 yX8_home ∈ lwg := tG 977 (by decide +kernel) (by decide +kernel)
set_option maxRecDepth 20000 in
theorem q978 : Cond.instanceMethod yX8_home ∈ lwg := tG 978 (by decide +kernel) (by decide +kernel)
set_option maxRecDepth 20000 in
theorem q979 : Cond.selects "InsideOutModel" yX8_home yX8_home ∈ lwg := tG 979 (by decide +kernel) (by decide +kernel)
set_option maxRecDepth 20000 in
theorem q980 : Cond.code yX8_home prog_10_method_42_code 2 (some .int) ∈ lwg := tG 980 rfl rfl
set_option maxRecDepth 20000 in
theorem q981 : Cond.methodLink "InsideOutModel" 157 yX8_follows ∈ lwg := tG 981 (by decide +kernel) (by decide +kernel)
set_option maxRecDepth 20000 in
theorem q983 : Cond.instanceMethod yX8_follows ∈ lwg := tG 983 (by decide +kernel) (by decide +kernel)
set_option maxRecDepth 20000 in
theorem q984 : Cond.code yX8_follows prog_10_method_41_code 4 (some .int) ∈ lwg := tG 984 rfl rfl
set_option maxRecDepth 20000 in
theorem q985 : Cond.methodLink "InsideOutModel" 160 yX8_orNone ∈ lwg := tG 985 (by decide +kernel) (by decide +kernel)
set_option maxRecDepth 20000 in
theorem q987 : Cond.instanceMethod yX8_orNone ∈ lwg := tG 987 (by decide +kernel) (by decide +kernel)
set_option maxRecDepth 20000 in
theorem q988 : Cond.code yX8_orNone prog_10_method_12_code 2 (some .int) ∈ lwg := tG 988 rfl rfl
set_option maxRecDepth 20000 in
theorem q989 : Cond.constant "InsideOutModel" 38 (-1000004 : Int32) ∈ lwg := tG 989 (by decide +kernel) (by decide +kernel)
set_option maxRecDepth 20000 in
theorem q990 : Cond.methodLink "InsideOutLaw" 63 yX8_homeWith ∈ lwg := tG 990 (by decide +kernel) (by decide +kernel)
set_option maxRecDepth 20000 in
theorem q991 : Cond.instanceMethod yX8_homeWith ∈ lwg := tG 991 (by decide +kernel) (by decide +kernel)
set_option maxRecDepth 20000 in
theorem q992 : Cond.selects "InsideOutModel" yX8_homeWith yX8_homeWith ∈ lwg := tG 992 (by decide +kernel) (by decide +kernel)
set_option maxRecDepth 20000 in
theorem q993 : Cond.code yX8_homeWith prog_10_method_43_code 3 (some .int) ∈ lwg := tG 993 rfl rfl
set_option maxRecDepth 20000 in
theorem q994 : Cond.methodLink "InsideOutLaw" 67 yX8_whup ∈ lwg := tG 994 (by decide +kernel) (by decide +kernel)
set_option maxRecDepth 20000 in
theorem q995 : Cond.instanceMethod yX8_whup ∈ lwg := tG 995 (by decide +kernel) (by decide +kernel)
set_option maxRecDepth 20000 in
theorem q996 : Cond.selects "InsideOutModel" yX8_whup yX8_whup ∈ lwg := tG 996 (by decide +kernel) (by decide +kernel)
set_option maxRecDepth 20000 in
theorem q997 : Cond.code yX8_whup prog_10_method_44_code 5 (some .int) ∈ lwg := tG 997 rfl rfl
set_option maxRecDepth 20000 in
theorem q998 : Cond.methodLink "InsideOutLaw" 72 yX8_first ∈ lwg := tG 998 (by decide +kernel) (by decide +kernel)
set_option maxRecDepth 20000 in
theorem q999 : Cond.instanceMethod yX8_first ∈ lwg := tG 999 (by decide +kernel) (by decide +kernel)
set_option maxRecDepth 20000 in
theorem q1000 : Cond.selects "InsideOutModel" yX8_first yX8_first ∈ lwg := tG 1000 (by decide +kernel) (by decide +kernel)
set_option maxRecDepth 20000 in
theorem q1001 : Cond.code yX8_first prog_10_method_45_code 6 (some .int) ∈ lwg := tG 1001 rfl rfl
set_option maxRecDepth 20000 in
theorem q1002 : Cond.methodLink "InsideOutLaw" 76 yX8_habitFor ∈ lwg := tG 1002 (by decide +kernel) (by decide +kernel)
set_option maxRecDepth 20000 in
theorem q1003 : Cond.instanceMethod yX8_habitFor ∈ lwg := tG 1003 (by decide +kernel) (by decide +kernel)
set_option maxRecDepth 20000 in
theorem q1004 : Cond.selects "InsideOutModel" yX8_habitFor yX8_habitFor ∈ lwg := tG 1004 (by decide +kernel) (by decide +kernel)
set_option maxRecDepth 20000 in
theorem q1005 : Cond.code yX8_habitFor prog_10_method_49_code 2 (some .int) ∈ lwg := tG 1005 rfl rfl
set_option maxRecDepth 20000 in
theorem q1006 : Cond.methodLink "InsideOutModel" 177 yX8_bestOf ∈ lwg := tG 1006 (by decide +kernel) (by decide +kernel)
set_option maxRecDepth 20000 in
theorem q1008 : Cond.instanceMethod yX8_bestOf ∈ lwg := tG 1008 (by decide +kernel) (by decide +kernel)
set_option maxRecDepth 20000 in
theorem q1009 : Cond.code yX8_bestOf prog_10_method_48_code 6 (some .int) ∈ lwg := tG 1009 rfl rfl
set_option maxRecDepth 20000 in
theorem q1010 : Cond.methodLink "InsideOutModel" 170 yX8_begins ∈ lwg := tG 1010 (by decide +kernel) (by decide +kernel)
set_option maxRecDepth 20000 in
theorem q1012 : Cond.instanceMethod yX8_begins ∈ lwg := tG 1012 (by decide +kernel) (by decide +kernel)
set_option maxRecDepth 20000 in
theorem q1013 : Cond.code yX8_begins prog_10_method_46_code 1 (none : Option Jvm.ClassFile.FieldType) ∈ lwg := tG 1013 rfl rfl
set_option maxRecDepth 20000 in
theorem q1014 : Cond.constant "InsideOutModel" 166 (100000 : Int32) ∈ lwg := tG 1014 (by decide +kernel) (by decide +kernel)
set_option maxRecDepth 20000 in
theorem q1015 : Cond.methodLink "InsideOutModel" 173 yX8_looksAt ∈ lwg := tG 1015 (by decide +kernel) (by decide +kernel)
set_option maxRecDepth 20000 in
theorem q1017 : Cond.instanceMethod yX8_looksAt ∈ lwg := tG 1017 (by decide +kernel) (by decide +kernel)
set_option maxRecDepth 20000 in
theorem q1018 : Cond.code yX8_looksAt prog_10_method_47_code 3 (none : Option Jvm.ClassFile.FieldType) ∈ lwg := tG 1018 rfl rfl
set_option maxRecDepth 20000 in
theorem q1019 : Cond.methodLink "InsideOutLaw" 80 yX8_heldFor ∈ lwg := tG 1019 (by decide +kernel) (by decide +kernel)
set_option maxRecDepth 20000 in
theorem q1020 : Cond.instanceMethod yX8_heldFor ∈ lwg := tG 1020 (by decide +kernel) (by decide +kernel)
set_option maxRecDepth 20000 in
theorem q1021 : Cond.selects "InsideOutModel" yX8_heldFor yX8_heldFor ∈ lwg := tG 1021 (by decide +kernel) (by decide +kernel)
set_option maxRecDepth 20000 in
theorem q1022 : Cond.code yX8_heldFor prog_10_method_50_code 2 (some .int) ∈ lwg := tG 1022 rfl rfl
set_option maxRecDepth 20000 in
theorem q1023 : Cond.methodLink "InsideOutLaw" 84 yX8_kindFor ∈ lwg := tG 1023 (by decide +kernel) (by decide +kernel)
set_option maxRecDepth 20000 in
theorem q1024 : Cond.instanceMethod yX8_kindFor ∈ lwg := tG 1024 (by decide +kernel) (by decide +kernel)
set_option maxRecDepth 20000 in
theorem q1025 : Cond.selects "InsideOutModel" yX8_kindFor yX8_kindFor ∈ lwg := tG 1025 (by decide +kernel) (by decide +kernel)
set_option maxRecDepth 20000 in
theorem q1026 : Cond.code yX8_kindFor prog_10_method_51_code 2 (some .int) ∈ lwg := tG 1026 rfl rfl
set_option maxRecDepth 20000 in
theorem q1027 : Cond.methodLink "InsideOutLaw" 88 yX8_roofFor ∈ lwg := tG 1027 (by decide +kernel) (by decide +kernel)
set_option maxRecDepth 20000 in
theorem q1028 : Cond.instanceMethod yX8_roofFor ∈ lwg := tG 1028 (by decide +kernel) (by decide +kernel)
set_option maxRecDepth 20000 in
theorem q1029 : Cond.selects "InsideOutModel" yX8_roofFor yX8_roofFor ∈ lwg := tG 1029 (by decide +kernel) (by decide +kernel)
set_option maxRecDepth 20000 in
theorem q1030 : Cond.code yX8_roofFor prog_10_method_52_code 3 (some .int) ∈ lwg := tG 1030 rfl rfl
set_option maxRecDepth 20000 in
theorem q1031 : Cond.methodLink "InsideOutLaw" 92 yX8_waitFor ∈ lwg := tG 1031 (by decide +kernel) (by decide +kernel)
set_option maxRecDepth 20000 in
theorem q1032 : Cond.instanceMethod yX8_waitFor ∈ lwg := tG 1032 (by decide +kernel) (by decide +kernel)
set_option maxRecDepth 20000 in
theorem q1033 : Cond.selects "InsideOutModel" yX8_waitFor yX8_waitFor ∈ lwg := tG 1033 (by decide +kernel) (by decide +kernel)
set_option maxRecDepth 20000 in
theorem q1034 : Cond.code yX8_waitFor prog_10_method_53_code 4 (some .int) ∈ lwg := tG 1034 rfl rfl
set_option maxRecDepth 20000 in
theorem q1035 : Cond.methodLink "InsideOutLaw" 96 yX8_gustFor ∈ lwg := tG 1035 (by decide +kernel) (by decide +kernel)
set_option maxRecDepth 20000 in
theorem q1036 : Cond.instanceMethod yX8_gustFor ∈ lwg := tG 1036 (by decide +kernel) (by decide +kernel)
set_option maxRecDepth 20000 in
theorem q1037 : Cond.selects "InsideOutModel" yX8_gustFor yX8_gustFor ∈ lwg := tG 1037 (by decide +kernel) (by decide +kernel)
set_option maxRecDepth 20000 in
theorem q1038 : Cond.code yX8_gustFor prog_10_method_55_code 4 (some .int) ∈ lwg := tG 1038 rfl rfl
set_option maxRecDepth 20000 in
theorem q1039 : Cond.methodLink "InsideOutModel" 180 yX8_isWhole ∈ lwg := tG 1039 (by decide +kernel) (by decide +kernel)
set_option maxRecDepth 20000 in
theorem q1041 : Cond.instanceMethod yX8_isWhole ∈ lwg := tG 1041 (by decide +kernel) (by decide +kernel)
set_option maxRecDepth 20000 in
theorem q1042 : Cond.code yX8_isWhole prog_10_method_54_code 2 (some .boolean) ∈ lwg := tG 1042 rfl rfl
set_option maxRecDepth 20000 in
theorem q1043 : Cond.methodLink "InsideOutLaw" 100 yX8_ribsFor ∈ lwg := tG 1043 (by decide +kernel) (by decide +kernel)
set_option maxRecDepth 20000 in
theorem q1044 : Cond.instanceMethod yX8_ribsFor ∈ lwg := tG 1044 (by decide +kernel) (by decide +kernel)
set_option maxRecDepth 20000 in
theorem q1045 : Cond.selects "InsideOutModel" yX8_ribsFor yX8_ribsFor ∈ lwg := tG 1045 (by decide +kernel) (by decide +kernel)
set_option maxRecDepth 20000 in
theorem q1046 : Cond.code yX8_ribsFor prog_10_method_56_code 5 (some .int) ∈ lwg := tG 1046 rfl rfl
set_option maxRecDepth 20000 in
theorem q1047 : Cond.methodLink "InsideOutLaw" 104 yX8_fits ∈ lwg := tG 1047 (by decide +kernel) (by decide +kernel)
set_option maxRecDepth 20000 in
theorem q1048 : Cond.instanceMethod yX8_fits ∈ lwg := tG 1048 (by decide +kernel) (by decide +kernel)
set_option maxRecDepth 20000 in
theorem q1049 : Cond.selects "InsideOutModel" yX8_fits yX8_fits ∈ lwg := tG 1049 (by decide +kernel) (by decide +kernel)
set_option maxRecDepth 20000 in
theorem q1050 : Cond.code yX8_fits prog_10_method_60_code 4 (some .int) ∈ lwg := tG 1050 rfl rfl
set_option maxRecDepth 20000 in
theorem q1051 : Cond.methodLink "InsideOutModel" 190 yX8_wantsFor ∈ lwg := tG 1051 (by decide +kernel) (by decide +kernel)
set_option maxRecDepth 20000 in
theorem q1053 : Cond.instanceMethod yX8_wantsFor ∈ lwg := tG 1053 (by decide +kernel) (by decide +kernel)
set_option maxRecDepth 20000 in
theorem q1054 : Cond.code yX8_wantsFor prog_10_method_59_code 3 (some .int) ∈ lwg := tG 1054 rfl rfl
set_option maxRecDepth 20000 in
theorem q1055 : Cond.methodLink "InsideOutModel" 187 yX8_wants ∈ lwg := tG 1055 (by decide +kernel) (by decide +kernel)
set_option maxRecDepth 20000 in
theorem q1057 : Cond.instanceMethod yX8_wants ∈ lwg := tG 1057 (by decide +kernel) (by decide +kernel)
set_option maxRecDepth 20000 in
theorem q1058 : Cond.code yX8_wants prog_10_method_95_code 2 (some .int) ∈ lwg := tG 1058 rfl rfl
set_option maxRecDepth 20000 in
theorem q1059 : Cond.methodLink "InsideOutModel" 296 yX8_isSheet ∈ lwg := tG 1059 (by decide +kernel) (by decide +kernel)
set_option maxRecDepth 20000 in
theorem q1060 : Cond.static yX8_isSheet ∈ lwg := tG 1060 (by decide +kernel) (by decide +kernel)
set_option maxRecDepth 20000 in
theorem q1061 : Cond.code yX8_isSheet prog_10_method_91_code 1 (some .boolean) ∈ lwg := tG 1061 rfl rfl
set_option maxRecDepth 20000 in
theorem q1062 : Cond.constant "InsideOutModel" 291 (-1000006 : Int32) ∈ lwg := tG 1062 (by decide +kernel) (by decide +kernel)
set_option maxRecDepth 20000 in
theorem q1063 : Cond.methodLink "InsideOutModel" 193 yX8_couldBe ∈ lwg := tG 1063 (by decide +kernel) (by decide +kernel)
set_option maxRecDepth 20000 in
theorem q1065 : Cond.instanceMethod yX8_couldBe ∈ lwg := tG 1065 (by decide +kernel) (by decide +kernel)
set_option maxRecDepth 20000 in
theorem q1066 : Cond.code yX8_couldBe prog_10_method_58_code 7 (some .int) ∈ lwg := tG 1066 rfl rfl
set_option maxRecDepth 20000 in
theorem q1067 : Cond.methodLink "InsideOutModel" 183 yX8_isTold ∈ lwg := tG 1067 (by decide +kernel) (by decide +kernel)
set_option maxRecDepth 20000 in
theorem q1069 : Cond.instanceMethod yX8_isTold ∈ lwg := tG 1069 (by decide +kernel) (by decide +kernel)
set_option maxRecDepth 20000 in
theorem q1070 : Cond.code yX8_isTold prog_10_method_57_code 6 (some .boolean) ∈ lwg := tG 1070 rfl rfl
set_option maxRecDepth 20000 in
theorem q1071 : Cond.methodLink "InsideOutLaw" 108 yX8_kinds ∈ lwg := tG 1071 (by decide +kernel) (by decide +kernel)
set_option maxRecDepth 20000 in
theorem q1072 : Cond.instanceMethod yX8_kinds ∈ lwg := tG 1072 (by decide +kernel) (by decide +kernel)
set_option maxRecDepth 20000 in
theorem q1073 : Cond.selects "InsideOutModel" yX8_kinds yX8_kinds ∈ lwg := tG 1073 (by decide +kernel) (by decide +kernel)
set_option maxRecDepth 20000 in
theorem q1074 : Cond.code yX8_kinds prog_10_method_61_code 4 (some .int) ∈ lwg := tG 1074 rfl rfl
set_option maxRecDepth 20000 in
theorem q1075 : Cond.methodLink "InsideOutLaw" 112 yX8_gusts ∈ lwg := tG 1075 (by decide +kernel) (by decide +kernel)
set_option maxRecDepth 20000 in
theorem q1076 : Cond.instanceMethod yX8_gusts ∈ lwg := tG 1076 (by decide +kernel) (by decide +kernel)
set_option maxRecDepth 20000 in
theorem q1077 : Cond.selects "InsideOutModel" yX8_gusts yX8_gusts ∈ lwg := tG 1077 (by decide +kernel) (by decide +kernel)
set_option maxRecDepth 20000 in
theorem q1078 : Cond.code yX8_gusts prog_10_method_63_code 5 (some .int) ∈ lwg := tG 1078 rfl rfl
set_option maxRecDepth 20000 in
theorem q1079 : Cond.constantLong "InsideOutModel" 197 (20 : Int64) ∈ lwg := tG 1079 (by decide +kernel) (by decide +kernel)
set_option maxRecDepth 20000 in
theorem q1080 : Cond.methodLink "InsideOutModel" 199 yX8_draw ∈ lwg := tG 1080 (by decide +kernel) (by decide +kernel)
set_option maxRecDepth 20000 in
theorem q1082 : Cond.instanceMethod yX8_draw ∈ lwg := tG 1082 (by decide +kernel) (by decide +kernel)
set_option maxRecDepth 20000 in
theorem q1083 : Cond.code yX8_draw prog_10_method_62_code 1 (some .int) ∈ lwg := tG 1083 rfl rfl
set_option maxRecDepth 20000 in
theorem q1084 : Cond.constant "InsideOutModel" 196 (1103515245 : Int32) ∈ lwg := tG 1084 (by decide +kernel) (by decide +kernel)
set_option maxRecDepth 20000 in
theorem q1085 : Cond.methodLink "InsideOutLaw" 117 yX8_odds ∈ lwg := tG 1085 (by decide +kernel) (by decide +kernel)
set_option maxRecDepth 20000 in
theorem q1086 : Cond.instanceMethod yX8_odds ∈ lwg := tG 1086 (by decide +kernel) (by decide +kernel)
set_option maxRecDepth 20000 in
theorem q1087 : Cond.selects "InsideOutModel" yX8_odds yX8_odds ∈ lwg := tG 1087 (by decide +kernel) (by decide +kernel)
set_option maxRecDepth 20000 in
theorem q1088 : Cond.code yX8_odds prog_10_method_64_code 9 (some .long) ∈ lwg := tG 1088 rfl rfl
set_option maxRecDepth 20000 in
theorem q1089 : Cond.constantLong "InsideOutModel" 202 (15 : Int64) ∈ lwg := tG 1089 (by decide +kernel) (by decide +kernel)
set_option maxRecDepth 20000 in
theorem q1090 : Cond.methodLink "InsideOutModel" 204 yX8_many ∈ lwg := tG 1090 (by decide +kernel) (by decide +kernel)
set_option maxRecDepth 20000 in
theorem q1091 : Cond.static yX8_many ∈ lwg := tG 1091 (by decide +kernel) (by decide +kernel)
set_option maxRecDepth 20000 in
theorem q1092 : Cond.code yX8_many prog_10_method_13_code 3 (some .int) ∈ lwg := tG 1092 rfl rfl
set_option maxRecDepth 20000 in
theorem q1093 : Cond.constantLong "InsideOutModel" 207 (16 : Int64) ∈ lwg := tG 1093 (by decide +kernel) (by decide +kernel)
set_option maxRecDepth 20000 in
theorem q1094 : Cond.methodLink "InsideOutLaw" 121 yX8_seed ∈ lwg := tG 1094 (by decide +kernel) (by decide +kernel)
set_option maxRecDepth 20000 in
theorem q1095 : Cond.instanceMethod yX8_seed ∈ lwg := tG 1095 (by decide +kernel) (by decide +kernel)
set_option maxRecDepth 20000 in
theorem q1096 : Cond.selects "InsideOutModel" yX8_seed yX8_seed ∈ lwg := tG 1096 (by decide +kernel) (by decide +kernel)
set_option maxRecDepth 20000 in
theorem q1097 : Cond.code yX8_seed prog_10_method_65_code 2 (some .int) ∈ lwg := tG 1097 rfl rfl
set_option maxRecDepth 20000 in
theorem q1098 : Cond.methodLink "InsideOutLaw" 125 yX8_feed ∈ lwg := tG 1098 (by decide +kernel) (by decide +kernel)
set_option maxRecDepth 20000 in
theorem q1099 : Cond.instanceMethod yX8_feed ∈ lwg := tG 1099 (by decide +kernel) (by decide +kernel)
set_option maxRecDepth 20000 in
theorem q1100 : Cond.selects "InsideOutModel" yX8_feed yX8_feed ∈ lwg := tG 1100 (by decide +kernel) (by decide +kernel)
set_option maxRecDepth 20000 in
theorem q1101 : Cond.code yX8_feed prog_10_method_66_code 4 (some .int) ∈ lwg := tG 1101 rfl rfl
set_option maxRecDepth 20000 in
theorem q1102 : Cond.methodLink "InsideOutLaw" 129 yX8_wipe ∈ lwg := tG 1102 (by decide +kernel) (by decide +kernel)
set_option maxRecDepth 20000 in
theorem q1103 : Cond.instanceMethod yX8_wipe ∈ lwg := tG 1103 (by decide +kernel) (by decide +kernel)
set_option maxRecDepth 20000 in
theorem q1104 : Cond.selects "InsideOutModel" yX8_wipe yX8_wipe ∈ lwg := tG 1104 (by decide +kernel) (by decide +kernel)
set_option maxRecDepth 20000 in
theorem q1105 : Cond.code yX8_wipe prog_10_method_67_code 2 (some .int) ∈ lwg := tG 1105 rfl rfl
set_option maxRecDepth 20000 in
theorem q1106 : Cond.methodLink "InsideOutLaw" 133 yX8_text ∈ lwg := tG 1106 (by decide +kernel) (by decide +kernel)
set_option maxRecDepth 20000 in
theorem q1107 : Cond.instanceMethod yX8_text ∈ lwg := tG 1107 (by decide +kernel) (by decide +kernel)
set_option maxRecDepth 20000 in
theorem q1108 : Cond.selects "InsideOutModel" yX8_text yX8_text ∈ lwg := tG 1108 (by decide +kernel) (by decide +kernel)
set_option maxRecDepth 20000 in
theorem q1109 : Cond.code yX8_text prog_10_method_87_code 5 (some .int) ∈ lwg := tG 1109 rfl rfl
set_option maxRecDepth 20000 in
theorem q1110 : Cond.methodLink "InsideOutModel" 258 yX8_nextToken ∈ lwg := tG 1110 (by decide +kernel) (by decide +kernel)
set_option maxRecDepth 20000 in
theorem q1112 : Cond.instanceMethod yX8_nextToken ∈ lwg := tG 1112 (by decide +kernel) (by decide +kernel)
set_option maxRecDepth 20000 in
theorem q1113 : Cond.code yX8_nextToken prog_10_method_71_code 2 (none : Option Jvm.ClassFile.FieldType) ∈ lwg := tG 1113 rfl rfl
set_option maxRecDepth 20000 in
theorem q1114 : Cond.methodLink "InsideOutModel" 218 yX8_byteAt ∈ lwg := tG 1114 (by decide +kernel) (by decide +kernel)
set_option maxRecDepth 20000 in
theorem q1116 : Cond.instanceMethod yX8_byteAt ∈ lwg := tG 1116 (by decide +kernel) (by decide +kernel)
set_option maxRecDepth 20000 in
theorem q1117 : Cond.code yX8_byteAt prog_10_method_70_code 2 (some .int) ∈ lwg := tG 1117 rfl rfl
set_option maxRecDepth 20000 in
theorem q1118 : Cond.methodLink "InsideOutModel" 221 yX8_isLetter ∈ lwg := tG 1118 (by decide +kernel) (by decide +kernel)
set_option maxRecDepth 20000 in
theorem q1119 : Cond.static yX8_isLetter ∈ lwg := tG 1119 (by decide +kernel) (by decide +kernel)
set_option maxRecDepth 20000 in
theorem q1120 : Cond.code yX8_isLetter prog_10_method_68_code 1 (some .boolean) ∈ lwg := tG 1120 rfl rfl
set_option maxRecDepth 20000 in
theorem q1121 : Cond.methodLink "InsideOutModel" 224 yX8_isDigit ∈ lwg := tG 1121 (by decide +kernel) (by decide +kernel)
set_option maxRecDepth 20000 in
theorem q1122 : Cond.static yX8_isDigit ∈ lwg := tG 1122 (by decide +kernel) (by decide +kernel)
set_option maxRecDepth 20000 in
theorem q1123 : Cond.code yX8_isDigit prog_10_method_69_code 1 (some .boolean) ∈ lwg := tG 1123 rfl rfl
set_option maxRecDepth 20000 in
theorem q1124 : Cond.methodLink "InsideOutModel" 280 yX8_kindHere ∈ lwg := tG 1124 (by decide +kernel) (by decide +kernel)
set_option maxRecDepth 20000 in
theorem q1126 : Cond.instanceMethod yX8_kindHere ∈ lwg := tG 1126 (by decide +kernel) (by decide +kernel)
set_option maxRecDepth 20000 in
theorem q1127 : Cond.code yX8_kindHere prog_10_method_79_code 1 (some .int) ∈ lwg := tG 1127 rfl rfl
set_option maxRecDepth 20000 in
theorem q1128 : Cond.methodLink "InsideOutModel" 236 yX8_isWord ∈ lwg := tG 1128 (by decide +kernel) (by decide +kernel)
set_option maxRecDepth 20000 in
theorem q1130 : Cond.instanceMethod yX8_isWord ∈ lwg := tG 1130 (by decide +kernel) (by decide +kernel)
set_option maxRecDepth 20000 in
theorem q1131 : Cond.code yX8_isWord prog_10_method_73_code 2 (some .boolean) ∈ lwg := tG 1131 rfl rfl
set_option maxRecDepth 20000 in
theorem q1132 : Cond.methodLink "InsideOutModel" 239 yX8_has3 ∈ lwg := tG 1132 (by decide +kernel) (by decide +kernel)
set_option maxRecDepth 20000 in
theorem q1134 : Cond.instanceMethod yX8_has3 ∈ lwg := tG 1134 (by decide +kernel) (by decide +kernel)
set_option maxRecDepth 20000 in
theorem q1135 : Cond.code yX8_has3 prog_10_method_72_code 5 (some .boolean) ∈ lwg := tG 1135 rfl rfl
set_option maxRecDepth 20000 in
theorem q1136 : Cond.methodLink "InsideOutModel" 247 yX8_isFive ∈ lwg := tG 1136 (by decide +kernel) (by decide +kernel)
set_option maxRecDepth 20000 in
theorem q1138 : Cond.instanceMethod yX8_isFive ∈ lwg := tG 1138 (by decide +kernel) (by decide +kernel)
set_option maxRecDepth 20000 in
theorem q1139 : Cond.code yX8_isFive prog_10_method_76_code 6 (some .boolean) ∈ lwg := tG 1139 rfl rfl
set_option maxRecDepth 20000 in
theorem q1140 : Cond.methodLink "InsideOutModel" 251 yX8_isFour ∈ lwg := tG 1140 (by decide +kernel) (by decide +kernel)
set_option maxRecDepth 20000 in
theorem q1142 : Cond.instanceMethod yX8_isFour ∈ lwg := tG 1142 (by decide +kernel) (by decide +kernel)
set_option maxRecDepth 20000 in
theorem q1143 : Cond.code yX8_isFour prog_10_method_75_code 5 (some .boolean) ∈ lwg := tG 1143 rfl rfl
set_option maxRecDepth 20000 in
theorem q1144 : Cond.methodLink "InsideOutModel" 254 yX8_isSix ∈ lwg := tG 1144 (by decide +kernel) (by decide +kernel)
set_option maxRecDepth 20000 in
theorem q1146 : Cond.instanceMethod yX8_isSix ∈ lwg := tG 1146 (by decide +kernel) (by decide +kernel)
set_option maxRecDepth 20000 in
theorem q1147 : Cond.code yX8_isSix prog_10_method_77_code 7 (some .boolean) ∈ lwg := tG 1147 rfl rfl
set_option maxRecDepth 20000 in
theorem q1148 : Cond.methodLink "InsideOutModel" 283 yX8_umbrellaHere ∈ lwg := tG 1148 (by decide +kernel) (by decide +kernel)
set_option maxRecDepth 20000 in
theorem q1150 : Cond.instanceMethod yX8_umbrellaHere ∈ lwg := tG 1150 (by decide +kernel) (by decide +kernel)
set_option maxRecDepth 20000 in
theorem q1151 : Cond.code yX8_umbrellaHere prog_10_method_82_code 2 (some .boolean) ∈ lwg := tG 1151 rfl rfl
set_option maxRecDepth 20000 in
theorem q1152 : Cond.methodLink "InsideOutModel" 243 yX8_fails ∈ lwg := tG 1152 (by decide +kernel) (by decide +kernel)
set_option maxRecDepth 20000 in
theorem q1154 : Cond.instanceMethod yX8_fails ∈ lwg := tG 1154 (by decide +kernel) (by decide +kernel)
set_option maxRecDepth 20000 in
theorem q1155 : Cond.code yX8_fails prog_10_method_74_code 1 (some .boolean) ∈ lwg := tG 1155 rfl rfl
set_option maxRecDepth 20000 in
theorem q1156 : Cond.methodLink "InsideOutModel" 264 yX8_isTwo ∈ lwg := tG 1156 (by decide +kernel) (by decide +kernel)
set_option maxRecDepth 20000 in
theorem q1158 : Cond.instanceMethod yX8_isTwo ∈ lwg := tG 1158 (by decide +kernel) (by decide +kernel)
set_option maxRecDepth 20000 in
theorem q1159 : Cond.code yX8_isTwo prog_10_method_80_code 3 (some .boolean) ∈ lwg := tG 1159 rfl rfl
set_option maxRecDepth 20000 in
theorem q1160 : Cond.methodLink "InsideOutModel" 267 yX8_perhaps ∈ lwg := tG 1160 (by decide +kernel) (by decide +kernel)
set_option maxRecDepth 20000 in
theorem q1162 : Cond.instanceMethod yX8_perhaps ∈ lwg := tG 1162 (by decide +kernel) (by decide +kernel)
set_option maxRecDepth 20000 in
theorem q1163 : Cond.code yX8_perhaps prog_10_method_81_code 3 (some .boolean) ∈ lwg := tG 1163 rfl rfl
set_option maxRecDepth 20000 in
theorem q1164 : Cond.methodLink "InsideOutModel" 261 yX8_isNumber ∈ lwg := tG 1164 (by decide +kernel) (by decide +kernel)
set_option maxRecDepth 20000 in
theorem q1166 : Cond.instanceMethod yX8_isNumber ∈ lwg := tG 1166 (by decide +kernel) (by decide +kernel)
set_option maxRecDepth 20000 in
theorem q1167 : Cond.code yX8_isNumber prog_10_method_78_code 3 (some .boolean) ∈ lwg := tG 1167 rfl rfl
set_option maxRecDepth 20000 in
theorem q1168 : Cond.methodLink "InsideOutModel" 286 yX8_streetHere ∈ lwg := tG 1168 (by decide +kernel) (by decide +kernel)
set_option maxRecDepth 20000 in
theorem q1170 : Cond.instanceMethod yX8_streetHere ∈ lwg := tG 1170 (by decide +kernel) (by decide +kernel)
set_option maxRecDepth 20000 in
theorem q1171 : Cond.code yX8_streetHere prog_10_method_86_code 1 (some .boolean) ∈ lwg := tG 1171 rfl rfl
set_option maxRecDepth 20000 in
theorem q1172 : Cond.methodLink "InsideOutModel" 271 yX8_stepHere ∈ lwg := tG 1172 (by decide +kernel) (by decide +kernel)
set_option maxRecDepth 20000 in
theorem q1174 : Cond.instanceMethod yX8_stepHere ∈ lwg := tG 1174 (by decide +kernel) (by decide +kernel)
set_option maxRecDepth 20000 in
theorem q1175 : Cond.code yX8_stepHere prog_10_method_83_code 3 (some .boolean) ∈ lwg := tG 1175 rfl rfl
set_option maxRecDepth 20000 in
theorem q1176 : Cond.methodLink "InsideOutModel" 274 yX8_roofHere ∈ lwg := tG 1176 (by decide +kernel) (by decide +kernel)
set_option maxRecDepth 20000 in
theorem q1178 : Cond.instanceMethod yX8_roofHere ∈ lwg := tG 1178 (by decide +kernel) (by decide +kernel)
set_option maxRecDepth 20000 in
theorem q1179 : Cond.code yX8_roofHere prog_10_method_84_code 2 (some .boolean) ∈ lwg := tG 1179 rfl rfl
set_option maxRecDepth 20000 in
theorem q1180 : Cond.methodLink "InsideOutModel" 277 yX8_weatherHere ∈ lwg := tG 1180 (by decide +kernel) (by decide +kernel)
set_option maxRecDepth 20000 in
theorem q1182 : Cond.instanceMethod yX8_weatherHere ∈ lwg := tG 1182 (by decide +kernel) (by decide +kernel)
set_option maxRecDepth 20000 in
theorem q1183 : Cond.code yX8_weatherHere prog_10_method_85_code 2 (some .boolean) ∈ lwg := tG 1183 rfl rfl
set_option maxRecDepth 20000 in
theorem q1184 : Cond.methodLink "InsideOutLaw" 137 yX8_hold ∈ lwg := tG 1184 (by decide +kernel) (by decide +kernel)
set_option maxRecDepth 20000 in
theorem q1185 : Cond.instanceMethod yX8_hold ∈ lwg := tG 1185 (by decide +kernel) (by decide +kernel)
set_option maxRecDepth 20000 in
theorem q1186 : Cond.selects "InsideOutModel" yX8_hold yX8_hold ∈ lwg := tG 1186 (by decide +kernel) (by decide +kernel)
set_option maxRecDepth 20000 in
theorem q1187 : Cond.code yX8_hold prog_10_method_88_code 3 (some .int) ∈ lwg := tG 1187 rfl rfl
set_option maxRecDepth 20000 in
theorem q1188 : Cond.constantLong "InsideOutModel" 289 (9 : Int64) ∈ lwg := tG 1188 (by decide +kernel) (by decide +kernel)
set_option maxRecDepth 20000 in
theorem q1189 : Cond.methodLink "InsideOutLaw" 141 yX8_as ∈ lwg := tG 1189 (by decide +kernel) (by decide +kernel)
set_option maxRecDepth 20000 in
theorem q1190 : Cond.instanceMethod yX8_as ∈ lwg := tG 1190 (by decide +kernel) (by decide +kernel)
set_option maxRecDepth 20000 in
theorem q1191 : Cond.selects "InsideOutModel" yX8_as yX8_as ∈ lwg := tG 1191 (by decide +kernel) (by decide +kernel)
set_option maxRecDepth 20000 in
theorem q1192 : Cond.code yX8_as prog_10_method_90_code 4 (some .int) ∈ lwg := tG 1192 rfl rfl
set_option maxRecDepth 20000 in
theorem q1193 : Cond.methodLink "InsideOutModel" 292 yX8_isUnder ∈ lwg := tG 1193 (by decide +kernel) (by decide +kernel)
set_option maxRecDepth 20000 in
theorem q1194 : Cond.static yX8_isUnder ∈ lwg := tG 1194 (by decide +kernel) (by decide +kernel)
set_option maxRecDepth 20000 in
theorem q1195 : Cond.code yX8_isUnder prog_10_method_89_code 2 (some .boolean) ∈ lwg := tG 1195 rfl rfl
set_option maxRecDepth 20000 in
theorem q1196 : Cond.constant "InsideOutModel" 295 (-1000003 : Int32) ∈ lwg := tG 1196 (by decide +kernel) (by decide +kernel)
set_option maxRecDepth 20000 in
theorem q1197 : Cond.methodLink "InsideOutLaw" 145 yX8_sheet ∈ lwg := tG 1197 (by decide +kernel) (by decide +kernel)
set_option maxRecDepth 20000 in
theorem q1198 : Cond.instanceMethod yX8_sheet ∈ lwg := tG 1198 (by decide +kernel) (by decide +kernel)
set_option maxRecDepth 20000 in
theorem q1199 : Cond.selects "InsideOutModel" yX8_sheet yX8_sheet ∈ lwg := tG 1199 (by decide +kernel) (by decide +kernel)
set_option maxRecDepth 20000 in
theorem q1200 : Cond.code yX8_sheet prog_10_method_92_code 5 (some .int) ∈ lwg := tG 1200 rfl rfl
set_option maxRecDepth 20000 in
theorem q1201 : Cond.constant "InsideOutModel" 299 (-1000007 : Int32) ∈ lwg := tG 1201 (by decide +kernel) (by decide +kernel)
set_option maxRecDepth 20000 in
theorem q1202 : Cond.methodLink "InsideOutLaw" 149 yX8_write ∈ lwg := tG 1202 (by decide +kernel) (by decide +kernel)
set_option maxRecDepth 20000 in
theorem q1203 : Cond.instanceMethod yX8_write ∈ lwg := tG 1203 (by decide +kernel) (by decide +kernel)
set_option maxRecDepth 20000 in
theorem q1204 : Cond.selects "InsideOutModel" yX8_write yX8_write ∈ lwg := tG 1204 (by decide +kernel) (by decide +kernel)
set_option maxRecDepth 20000 in
theorem q1205 : Cond.code yX8_write prog_10_method_93_code 4 (some .int) ∈ lwg := tG 1205 rfl rfl
set_option maxRecDepth 20000 in
theorem q1206 : Cond.methodLink "InsideOutLaw" 154 yX8_copy ∈ lwg := tG 1206 (by decide +kernel) (by decide +kernel)
set_option maxRecDepth 20000 in
theorem q1207 : Cond.instanceMethod yX8_copy ∈ lwg := tG 1207 (by decide +kernel) (by decide +kernel)
set_option maxRecDepth 20000 in
theorem q1208 : Cond.selects "InsideOutModel" yX8_copy yX8_copy ∈ lwg := tG 1208 (by decide +kernel) (by decide +kernel)
set_option maxRecDepth 20000 in
theorem q1209 : Cond.code yX8_copy prog_10_method_94_code 10 (some .int) ∈ lwg := tG 1209 rfl rfl
set_option maxRecDepth 20000 in
theorem q1210 : Cond.methodLink "InsideOutLaw" 158 yX8_load ∈ lwg := tG 1210 (by decide +kernel) (by decide +kernel)
set_option maxRecDepth 20000 in
theorem q1211 : Cond.instanceMethod yX8_load ∈ lwg := tG 1211 (by decide +kernel) (by decide +kernel)
set_option maxRecDepth 20000 in
theorem q1212 : Cond.selects "InsideOutModel" yX8_load yX8_load ∈ lwg := tG 1212 (by decide +kernel) (by decide +kernel)
set_option maxRecDepth 20000 in
theorem q1213 : Cond.code yX8_load prog_10_method_96_code 3 (some .int) ∈ lwg := tG 1213 rfl rfl
set_option maxRecDepth 20000 in
theorem q1214 : Cond.methodLink "InsideOutLaw" 162 yX8_judge ∈ lwg := tG 1214 (by decide +kernel) (by decide +kernel)
set_option maxRecDepth 20000 in
theorem q1215 : Cond.instanceMethod yX8_judge ∈ lwg := tG 1215 (by decide +kernel) (by decide +kernel)
set_option maxRecDepth 20000 in
theorem q1216 : Cond.selects "InsideOutModel" yX8_judge yX8_judge ∈ lwg := tG 1216 (by decide +kernel) (by decide +kernel)
set_option maxRecDepth 20000 in
theorem q1217 : Cond.code yX8_judge prog_10_method_97_code 3 (some .int) ∈ lwg := tG 1217 rfl rfl
set_option maxRecDepth 20000 in
theorem q1218 : Cond.methodLink "InsideOutLaw" 166 yX8_image ∈ lwg := tG 1218 (by decide +kernel) (by decide +kernel)
set_option maxRecDepth 20000 in
theorem q1219 : Cond.instanceMethod yX8_image ∈ lwg := tG 1219 (by decide +kernel) (by decide +kernel)
set_option maxRecDepth 20000 in
theorem q1220 : Cond.selects "InsideOutModel" yX8_image yX8_image ∈ lwg := tG 1220 (by decide +kernel) (by decide +kernel)
set_option maxRecDepth 20000 in
theorem q1221 : Cond.code yX8_image prog_10_method_98_code 1 (some .int) ∈ lwg := tG 1221 rfl rfl
set_option maxRecDepth 20000 in
theorem q1222 : Cond.methodLink "InsideOutLaw" 170 yX8_undo ∈ lwg := tG 1222 (by decide +kernel) (by decide +kernel)
set_option maxRecDepth 20000 in
theorem q1223 : Cond.instanceMethod yX8_undo ∈ lwg := tG 1223 (by decide +kernel) (by decide +kernel)
set_option maxRecDepth 20000 in
theorem q1224 : Cond.selects "InsideOutModel" yX8_undo yX8_undo ∈ lwg := tG 1224 (by decide +kernel) (by decide +kernel)
set_option maxRecDepth 20000 in
theorem q1225 : Cond.code yX8_undo prog_10_method_99_code 1 (some .int) ∈ lwg := tG 1225 rfl rfl
set_option maxRecDepth 20000 in
theorem q1226 : Cond.methodLink "InsideOutLaw" 174 yX8_tear ∈ lwg := tG 1226 (by decide +kernel) (by decide +kernel)
set_option maxRecDepth 20000 in
theorem q1227 : Cond.instanceMethod yX8_tear ∈ lwg := tG 1227 (by decide +kernel) (by decide +kernel)
set_option maxRecDepth 20000 in
theorem q1228 : Cond.selects "InsideOutModel" yX8_tear yX8_tear ∈ lwg := tG 1228 (by decide +kernel) (by decide +kernel)
set_option maxRecDepth 20000 in
theorem q1229 : Cond.code yX8_tear prog_10_method_100_code 2 (some .int) ∈ lwg := tG 1229 rfl rfl
set_option maxRecDepth 20000 in
theorem q1230 : Cond.methodLink "InsideOutLaw" 178 yX8_count ∈ lwg := tG 1230 (by decide +kernel) (by decide +kernel)
set_option maxRecDepth 20000 in
theorem q1231 : Cond.instanceMethod yX8_count ∈ lwg := tG 1231 (by decide +kernel) (by decide +kernel)
set_option maxRecDepth 20000 in
theorem q1232 : Cond.selects "InsideOutModel" yX8_count yX8_count ∈ lwg := tG 1232 (by decide +kernel) (by decide +kernel)
set_option maxRecDepth 20000 in
theorem q1233 : Cond.code yX8_count prog_10_method_101_code 4 (some .int) ∈ lwg := tG 1233 rfl rfl
set_option maxRecDepth 20000 in
theorem q1234 : Cond.methodLink "InsideOutLaw" 182 yX8_status ∈ lwg := tG 1234 (by decide +kernel) (by decide +kernel)
set_option maxRecDepth 20000 in
theorem q1235 : Cond.instanceMethod yX8_status ∈ lwg := tG 1235 (by decide +kernel) (by decide +kernel)
set_option maxRecDepth 20000 in
theorem q1236 : Cond.selects "InsideOutModel" yX8_status yX8_status ∈ lwg := tG 1236 (by decide +kernel) (by decide +kernel)
set_option maxRecDepth 20000 in
theorem q1237 : Cond.code yX8_status prog_10_method_102_code 2 (some .int) ∈ lwg := tG 1237 rfl rfl
set_option maxRecDepth 20000 in
theorem q1238 : Cond.constantLong "InsideOutModel" 304 (-1 : Int64) ∈ lwg := tG 1238 (by decide +kernel) (by decide +kernel)
set_option maxRecDepth 20000 in
theorem q1239 : Cond.fieldLink "java/lang/String" 9 "java/lang/String" "value" "[B" ∈ lwg := tG 1239 (by decide +kernel) (by decide +kernel)
set_option maxRecDepth 20000 in
theorem q1240 : Cond.fieldLink "java/lang/String" 15 "java/lang/String" "coder" "B" ∈ lwg := tG 1240 (by decide +kernel) (by decide +kernel)
theorem qs0 : Cond.selects yX7_finding.cls yX7_finding yX7_finding ∈ lwg := tP 0 (by decide +kernel) (by decide +kernel)
theorem qs1 : Cond.selects yX7_isUmbrella.cls yX7_isUmbrella yX7_isUmbrella ∈ lwg := tP 1 (by decide +kernel) (by decide +kernel)
theorem qs2 : Cond.selects yX4_holdByHabit.cls yX4_holdByHabit yX4_holdByHabit ∈ lwg := tP 2 (by decide +kernel) (by decide +kernel)
theorem qs3 : Cond.selects yX4_turn.cls yX4_turn yX4_turn ∈ lwg := tP 3 (by decide +kernel) (by decide +kernel)
theorem qs4 : Cond.selects yX7_startWalk.cls yX7_startWalk yX7_startWalk ∈ lwg := tP 4 (by decide +kernel) (by decide +kernel)
theorem qs5 : Cond.selects yX7_driest.cls yX7_driest yX7_driest ∈ lwg := tP 5 (by decide +kernel) (by decide +kernel)
theorem qs6 : Cond.selects yX7_fitting.cls yX7_fitting yX7_fitting ∈ lwg := tP 6 (by decide +kernel) (by decide +kernel)
theorem qs7 : Cond.selects yX0_readToken.cls yX0_readToken yX0_readToken ∈ lwg := tP 7 (by decide +kernel) (by decide +kernel)
theorem qs8 : Cond.selects yX0_readItem.cls yX0_readItem yX0_readItem ∈ lwg := tP 8 (by decide +kernel) (by decide +kernel)
theorem qs9 : Cond.selects yX0_isWord.cls yX0_isWord yX0_isWord ∈ lwg := tP 9 (by decide +kernel) (by decide +kernel)
theorem qs10 : Cond.selects yX0_readUmbrella.cls yX0_readUmbrella yX0_readUmbrella ∈ lwg := tP 10 (by decide +kernel) (by decide +kernel)
theorem qs11 : Cond.selects yX0_readMark.cls yX0_readMark yX0_readMark ∈ lwg := tP 11 (by decide +kernel) (by decide +kernel)
theorem qs12 : Cond.selects yX0_nextNumber.cls yX0_nextNumber yX0_nextNumber ∈ lwg := tP 12 (by decide +kernel) (by decide +kernel)
theorem qs13 : Cond.selects yX0_readWind.cls yX0_readWind yX0_readWind ∈ lwg := tP 13 (by decide +kernel) (by decide +kernel)
theorem qs14 : Cond.selects yX0_readRoof.cls yX0_readRoof yX0_readRoof ∈ lwg := tP 14 (by decide +kernel) (by decide +kernel)
theorem qs15 : Cond.selects yX0_readWeather.cls yX0_readWeather yX0_readWeather ∈ lwg := tP 15 (by decide +kernel) (by decide +kernel)
theorem qs16 : Cond.selects yX8_finds.cls yX8_finds yX8_finds ∈ lwg := tP 16 (by decide +kernel) (by decide +kernel)
theorem qs17 : Cond.selects yX8_becomes.cls yX8_becomes yX8_becomes ∈ lwg := tP 17 (by decide +kernel) (by decide +kernel)
theorem qs18 : Cond.selects yX8_wind.cls yX8_wind yX8_wind ∈ lwg := tP 18 (by decide +kernel) (by decide +kernel)
theorem qs19 : Cond.selects yX8_there.cls yX8_there yX8_there ∈ lwg := tP 19 (by decide +kernel) (by decide +kernel)
theorem qs20 : Cond.selects yX8_its.cls yX8_its yX8_its ∈ lwg := tP 20 (by decide +kernel) (by decide +kernel)
theorem qs21 : Cond.selects yX8_comes.cls yX8_comes yX8_comes ∈ lwg := tP 21 (by decide +kernel) (by decide +kernel)
theorem qs22 : Cond.selects yX8_isUmbrella.cls yX8_isUmbrella yX8_isUmbrella ∈ lwg := tP 22 (by decide +kernel) (by decide +kernel)
theorem qs23 : Cond.selects yX8_stiff.cls yX8_stiff yX8_stiff ∈ lwg := tP 23 (by decide +kernel) (by decide +kernel)
theorem qs24 : Cond.selects yX8_covers.cls yX8_covers yX8_covers ∈ lwg := tP 24 (by decide +kernel) (by decide +kernel)
theorem qs25 : Cond.selects yX8_pace.cls yX8_pace yX8_pace ∈ lwg := tP 25 (by decide +kernel) (by decide +kernel)
theorem qs26 : Cond.selects yX8_bearsOn.cls yX8_bearsOn yX8_bearsOn ∈ lwg := tP 26 (by decide +kernel) (by decide +kernel)
theorem qs27 : Cond.selects yX8_tick.cls yX8_tick yX8_tick ∈ lwg := tP 27 (by decide +kernel) (by decide +kernel)
theorem qs28 : Cond.selects yX8_isHome.cls yX8_isHome yX8_isHome ∈ lwg := tP 28 (by decide +kernel) (by decide +kernel)
theorem qs29 : Cond.selects yX8_goesOn.cls yX8_goesOn yX8_goesOn ∈ lwg := tP 29 (by decide +kernel) (by decide +kernel)
theorem qs30 : Cond.selects yX8_heldBy.cls yX8_heldBy yX8_heldBy ∈ lwg := tP 30 (by decide +kernel) (by decide +kernel)
theorem qs31 : Cond.selects yX8_homes.cls yX8_homes yX8_homes ∈ lwg := tP 31 (by decide +kernel) (by decide +kernel)
theorem qs32 : Cond.selects yX8_sumOf.cls yX8_sumOf yX8_sumOf ∈ lwg := tP 32 (by decide +kernel) (by decide +kernel)
theorem qs33 : Cond.selects yX8_outs.cls yX8_outs yX8_outs ∈ lwg := tP 33 (by decide +kernel) (by decide +kernel)
theorem qs34 : Cond.selects yX8_roofs.cls yX8_roofs yX8_roofs ∈ lwg := tP 34 (by decide +kernel) (by decide +kernel)
theorem qs35 : Cond.selects yX8_goesAlone.cls yX8_goesAlone yX8_goesAlone ∈ lwg := tP 35 (by decide +kernel) (by decide +kernel)
theorem qs36 : Cond.selects yX8_follows.cls yX8_follows yX8_follows ∈ lwg := tP 36 (by decide +kernel) (by decide +kernel)
theorem qs37 : Cond.selects yX8_orNone.cls yX8_orNone yX8_orNone ∈ lwg := tP 37 (by decide +kernel) (by decide +kernel)
theorem qs38 : Cond.selects yX8_bestOf.cls yX8_bestOf yX8_bestOf ∈ lwg := tP 38 (by decide +kernel) (by decide +kernel)
theorem qs39 : Cond.selects yX8_begins.cls yX8_begins yX8_begins ∈ lwg := tP 39 (by decide +kernel) (by decide +kernel)
theorem qs40 : Cond.selects yX8_looksAt.cls yX8_looksAt yX8_looksAt ∈ lwg := tP 40 (by decide +kernel) (by decide +kernel)
theorem qs41 : Cond.selects yX8_isWhole.cls yX8_isWhole yX8_isWhole ∈ lwg := tP 41 (by decide +kernel) (by decide +kernel)
theorem qs42 : Cond.selects yX8_wantsFor.cls yX8_wantsFor yX8_wantsFor ∈ lwg := tP 42 (by decide +kernel) (by decide +kernel)
theorem qs43 : Cond.selects yX8_wants.cls yX8_wants yX8_wants ∈ lwg := tP 43 (by decide +kernel) (by decide +kernel)
theorem qs44 : Cond.selects yX8_couldBe.cls yX8_couldBe yX8_couldBe ∈ lwg := tP 44 (by decide +kernel) (by decide +kernel)
theorem qs45 : Cond.selects yX8_isTold.cls yX8_isTold yX8_isTold ∈ lwg := tP 45 (by decide +kernel) (by decide +kernel)
theorem qs46 : Cond.selects yX8_draw.cls yX8_draw yX8_draw ∈ lwg := tP 46 (by decide +kernel) (by decide +kernel)
theorem qs47 : Cond.selects yX8_nextToken.cls yX8_nextToken yX8_nextToken ∈ lwg := tP 47 (by decide +kernel) (by decide +kernel)
theorem qs48 : Cond.selects yX8_byteAt.cls yX8_byteAt yX8_byteAt ∈ lwg := tP 48 (by decide +kernel) (by decide +kernel)
theorem qs49 : Cond.selects yX8_kindHere.cls yX8_kindHere yX8_kindHere ∈ lwg := tP 49 (by decide +kernel) (by decide +kernel)
theorem qs50 : Cond.selects yX8_isWord.cls yX8_isWord yX8_isWord ∈ lwg := tP 50 (by decide +kernel) (by decide +kernel)
theorem qs51 : Cond.selects yX8_has3.cls yX8_has3 yX8_has3 ∈ lwg := tP 51 (by decide +kernel) (by decide +kernel)
theorem qs52 : Cond.selects yX8_isFive.cls yX8_isFive yX8_isFive ∈ lwg := tP 52 (by decide +kernel) (by decide +kernel)
theorem qs53 : Cond.selects yX8_isFour.cls yX8_isFour yX8_isFour ∈ lwg := tP 53 (by decide +kernel) (by decide +kernel)
theorem qs54 : Cond.selects yX8_isSix.cls yX8_isSix yX8_isSix ∈ lwg := tP 54 (by decide +kernel) (by decide +kernel)
theorem qs55 : Cond.selects yX8_umbrellaHere.cls yX8_umbrellaHere yX8_umbrellaHere ∈ lwg := tP 55 (by decide +kernel) (by decide +kernel)
theorem qs56 : Cond.selects yX8_fails.cls yX8_fails yX8_fails ∈ lwg := tP 56 (by decide +kernel) (by decide +kernel)
theorem qs57 : Cond.selects yX8_isTwo.cls yX8_isTwo yX8_isTwo ∈ lwg := tP 57 (by decide +kernel) (by decide +kernel)
theorem qs58 : Cond.selects yX8_perhaps.cls yX8_perhaps yX8_perhaps ∈ lwg := tP 58 (by decide +kernel) (by decide +kernel)
theorem qs59 : Cond.selects yX8_isNumber.cls yX8_isNumber yX8_isNumber ∈ lwg := tP 59 (by decide +kernel) (by decide +kernel)
theorem qs60 : Cond.selects yX8_streetHere.cls yX8_streetHere yX8_streetHere ∈ lwg := tP 60 (by decide +kernel) (by decide +kernel)
theorem qs61 : Cond.selects yX8_stepHere.cls yX8_stepHere yX8_stepHere ∈ lwg := tP 61 (by decide +kernel) (by decide +kernel)
theorem qs62 : Cond.selects yX8_roofHere.cls yX8_roofHere yX8_roofHere ∈ lwg := tP 62 (by decide +kernel) (by decide +kernel)
theorem qs63 : Cond.selects yX8_weatherHere.cls yX8_weatherHere yX8_weatherHere ∈ lwg := tP 63 (by decide +kernel) (by decide +kernel)
theorem inG0 : ∀ w ∈ u_ws RX0 TX0 5, w ∈ lwg := (fcons q183 (fcons q185 (fcons q187 (fcons q189 (fcons q191 (fun _ h => absurd h List.not_mem_nil))))))
theorem inG1 : ∀ w ∈ u_ws RX1 TX1 3, w ∈ lwg := (fcons q209 (fcons q211 (fcons q213 (fun _ h => absurd h List.not_mem_nil))))
theorem inG2 : ∀ w ∈ u_ws RX2 TX2 6, w ∈ lwg := (fcons q63 (fcons q65 (fcons q67 (fcons q69 (fcons q71 (fcons q73 (fun _ h => absurd h List.not_mem_nil)))))))
theorem inG3 : ∀ w ∈ u_ws RX3 TX3 2, w ∈ lwg := (fcons q167 (fcons q169 (fun _ h => absurd h List.not_mem_nil)))
theorem inG4 : ∀ w ∈ u_ws RX4 TX4 8, w ∈ lwg := (fcons q97 (fcons q99 (fcons q101 (fcons q103 (fcons q105 (fcons q107 (fcons q109 (fcons q111 (fun _ h => absurd h List.not_mem_nil)))))))))
theorem inG5 : ∀ w ∈ u_ws RX5 TX5 2, w ∈ lwg := (fcons q152 (fcons q154 (fun _ h => absurd h List.not_mem_nil)))
theorem inG6 : ∀ w ∈ u_ws RX6 TX6 5, w ∈ lwg := (fcons q127 (fcons q129 (fcons q131 (fcons q133 (fcons q135 (fun _ h => absurd h List.not_mem_nil))))))
theorem inG7 : ∀ w ∈ u_ws RX7 TX7 9, w ∈ lwg := (fcons q225 (fcons q227 (fcons q229 (fcons q231 (fcons q233 (fcons q235 (fcons q237 (fcons q239 (fcons q241 (fun _ h => absurd h List.not_mem_nil))))))))))
theorem inG8 : ∀ w ∈ u_ws RX8 TX8 21, w ∈ lwg := (fcons q781 (fcons q783 (fcons q785 (fcons q787 (fcons q789 (fcons q791 (fcons q793 (fcons q795 (fcons q797 (fcons q799 (fcons q801 (fcons q803 (fcons q805 (fcons q807 (fcons q809 (fcons q811 (fcons q813 (fcons q815 (fcons q817 (fcons q819 (fcons q821 (fun _ h => absurd h List.not_mem_nil))))))))))))))))))))))
