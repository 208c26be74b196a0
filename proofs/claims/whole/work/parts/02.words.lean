/-- the tables' words that any method may hold -/
def tB : List Cond := lw_tbl.filter goodWord
theorem tB_of {w : Cond} (h : w ∈ lw_tbl) (g : goodWord w = true) : w ∈ tB := List.mem_filter.mpr ⟨h, g⟩
theorem tB_1 {w : Cond} (i : Nat) (h : tables_1_1[i]? = some w) (g : goodWord w = true) : w ∈ tB := tB_of (List.mem_append_right _ (List.mem_append_left _ (List.mem_of_getElem? h))) g
theorem tB_2 {w : Cond} (i : Nat) (h : tables_1_2[i]? = some w) (g : goodWord w = true) : w ∈ tB := tB_of (List.mem_append_right _ (List.mem_append_right _ (List.mem_append_left _ (List.mem_of_getElem? h)))) g
theorem tB_3 {w : Cond} (i : Nat) (h : tables_1_3[i]? = some w) (g : goodWord w = true) : w ∈ tB := tB_of (List.mem_append_right _ (List.mem_append_right _ (List.mem_append_right _ (List.mem_append_left _ (List.mem_of_getElem? h))))) g
theorem tB_4 {w : Cond} (i : Nat) (h : tables_1_4[i]? = some w) (g : goodWord w = true) : w ∈ tB := tB_of (List.mem_append_right _ (List.mem_append_right _ (List.mem_append_right _ (List.mem_append_right _ (List.mem_of_getElem? h))))) g
theorem tB_s {w : Cond} (i : Nat) (h : (k2_sels lw_privs)[i]? = some w) (g : goodWord w = true) : w ∈ tB := tB_of (List.mem_append_left _ (List.mem_of_getElem? h)) g
theorem tB_good : ∀ w ∈ tB, goodWord w = true := fun _ h => (List.mem_filter.mp h).2
theorem tB_in (y : MethodName) (b : ByteArray) (n : Nat) (r : Option FieldType) (h : Cond.code y b n r ∈ tB) (z : Cond) : GoodIn (z :: tB) (Cond.code y b n r :: tB) := fun w hw => by
  rcases List.mem_cons.mp hw with e | hw
  · rw [e]; exact ⟨List.mem_cons_of_mem _ h, good_of_word (tB_good _ h)⟩
  · exact ⟨List.mem_cons_of_mem _ hw, good_of_word (tB_good _ hw)⟩

theorem tw_0 : (Jvm.Cond.initialized "NotePressLaw") ∈ tB := tB_1 0 rfl rfl
theorem tw_1 : (Jvm.Cond.initialized "NotePress") ∈ tB := tB_1 1 rfl rfl
theorem tw_2 : (Jvm.Cond.initialized "NotePress$Text") ∈ tB := tB_1 2 rfl rfl
theorem tw_3 : (Jvm.Cond.initialized "NotePress$Stars") ∈ tB := tB_1 3 rfl rfl
theorem tw_4 : (Jvm.Cond.initialized "NotePress$Changes") ∈ tB := tB_1 4 rfl rfl
theorem tw_5 : (Jvm.Cond.initialized "NotePress$Plan") ∈ tB := tB_1 5 rfl rfl
theorem tw_6 : (Jvm.Cond.initialized "NotePress$Series") ∈ tB := tB_1 6 rfl rfl
theorem tw_7 : (Jvm.Cond.initialized "NotePress$Share") ∈ tB := tB_1 7 rfl rfl
theorem tw_8 : (Jvm.Cond.initialized "java/lang/String") ∈ tB := tB_1 8 rfl rfl
theorem tw_9 : (Jvm.Cond.initialized "java/lang/StringLatin1") ∈ tB := tB_1 9 rfl rfl
theorem tw_10 : (Jvm.Cond.initialized "jdk/internal/util/Preconditions") ∈ tB := tB_1 10 rfl rfl
theorem tw_11 : (Jvm.Cond.initialized "java/lang/StringUTF16") ∈ tB := tB_1 11 rfl rfl
theorem tw_12 : (Jvm.Cond.initialized "java/lang/Math") ∈ tB := tB_1 12 rfl rfl
theorem tw_13 : (Jvm.Cond.initialized "NotePressModel") ∈ tB := tB_1 13 rfl rfl
theorem tw_14 : (Jvm.Cond.initialized "NotePress$Checks") ∈ tB := tB_1 14 rfl rfl
theorem tw_15 : (Jvm.Cond.classLink "NotePressLaw" (7 : Nat) "NotePress") ∈ tB := tB_1 15 rfl rfl
theorem tw_16 : (Jvm.Cond.instantiable "NotePress" (5 : Nat)) ∈ tB := tB_1 16 rfl rfl
theorem tw_17 : (Jvm.Cond.methodLink "NotePressLaw" (9 : Nat) ({ cls := "NotePress", name := "<init>", desc := "()V" } : Jvm.MethodName)) ∈ tB := tB_1 17 rfl rfl
theorem tw_18 : (Jvm.Cond.instanceMethod ({ cls := "NotePress", name := "<init>", desc := "()V" } : Jvm.MethodName)) ∈ tB := tB_1 18 rfl rfl
theorem tw_19 : (Jvm.Cond.code ({ cls := "NotePress", name := "<init>", desc := "()V" } : Jvm.MethodName) prog_1_method_1_code (2 : Nat) (Option.none : Option Jvm.ClassFile.FieldType)) ∈ tB := tB_1 19 rfl rfl
theorem tw_20 : (Jvm.Cond.methodLink "NotePress" (1 : Nat) ({ cls := "java/lang/Object", name := "<init>", desc := "()V" } : Jvm.MethodName)) ∈ tB := tB_1 20 rfl rfl
theorem tw_21 : (Jvm.Cond.instanceMethod ({ cls := "java/lang/Object", name := "<init>", desc := "()V" } : Jvm.MethodName)) ∈ tB := tB_1 21 rfl rfl
theorem tw_22 : (Jvm.Cond.code ({ cls := "java/lang/Object", name := "<init>", desc := "()V" } : Jvm.MethodName) object_method_1_code (1 : Nat) (Option.none : Option Jvm.ClassFile.FieldType)) ∈ tB := tB_1 22 rfl rfl
theorem tw_23 : (Jvm.Cond.classLink "NotePress" (7 : Nat) "NotePress$Text") ∈ tB := tB_1 23 rfl rfl
theorem tw_24 : (Jvm.Cond.instantiable "NotePress$Text" (3 : Nat)) ∈ tB := tB_1 24 rfl rfl
theorem tw_26 : (Jvm.Cond.instanceMethod ({ cls := "NotePress$Text", name := "<init>", desc := "()V" } : Jvm.MethodName)) ∈ tB := tB_1 26 rfl rfl
theorem tw_27 : (Jvm.Cond.code ({ cls := "NotePress$Text", name := "<init>", desc := "()V" } : Jvm.MethodName) prog_8_method_1_code (1 : Nat) (Option.none : Option Jvm.ClassFile.FieldType)) ∈ tB := tB_1 27 rfl rfl
theorem tw_28 : (Jvm.Cond.methodLink "NotePress$Text" (3 : Nat) ({ cls := "java/lang/Object", name := "<init>", desc := "()V" } : Jvm.MethodName)) ∈ tB := tB_1 28 rfl rfl
theorem tw_29 : (Jvm.Cond.fieldLink "NotePress$Text" (9 : Nat) "NotePress$Text" "letters" "[I") ∈ tB := tB_1 29 rfl rfl
theorem tw_30 : (Jvm.Cond.fieldLink "NotePress$Text" (15 : Nat) "NotePress$Text" "length" "I") ∈ tB := tB_1 30 rfl rfl
theorem tw_32 : (Jvm.Cond.fieldLink "NotePress$Text" (24 : Nat) "NotePress$Text" "at" "I") ∈ tB := tB_1 32 rfl rfl
theorem tw_33 : (Jvm.Cond.laysFinal "NotePress$Text" "NotePress$Text" "letters" "[I") ∈ tB := tB_1 33 rfl rfl
theorem tw_35 : (Jvm.Cond.lays "NotePress$Text" "NotePress$Text" "length" "I") ∈ tB := tB_1 35 rfl rfl
theorem tw_37 : (Jvm.Cond.lays "NotePress$Text" "NotePress$Text" "at" "I") ∈ tB := tB_1 37 rfl rfl
theorem tw_40 : (Jvm.Cond.arrayClass Jvm.ClassFile.FieldType.int) ∈ tB := tB_1 40 rfl rfl
theorem tw_41 : (Jvm.Cond.classLink "NotePress" (16 : Nat) "NotePress$Stars") ∈ tB := tB_1 41 rfl rfl
theorem tw_42 : (Jvm.Cond.instantiable "NotePress$Stars" (4 : Nat)) ∈ tB := tB_1 42 rfl rfl
theorem tw_44 : (Jvm.Cond.instanceMethod ({ cls := "NotePress$Stars", name := "<init>", desc := "()V" } : Jvm.MethodName)) ∈ tB := tB_1 44 rfl rfl
theorem tw_45 : (Jvm.Cond.code ({ cls := "NotePress$Stars", name := "<init>", desc := "()V" } : Jvm.MethodName) prog_7_method_1_code (1 : Nat) (Option.none : Option Jvm.ClassFile.FieldType)) ∈ tB := tB_1 45 rfl rfl
theorem tw_46 : (Jvm.Cond.methodLink "NotePress$Stars" (3 : Nat) ({ cls := "java/lang/Object", name := "<init>", desc := "()V" } : Jvm.MethodName)) ∈ tB := tB_1 46 rfl rfl
theorem tw_47 : (Jvm.Cond.fieldLink "NotePress$Stars" (9 : Nat) "NotePress$Stars" "series" "[I") ∈ tB := tB_1 47 rfl rfl
theorem tw_48 : (Jvm.Cond.fieldLink "NotePress$Stars" (15 : Nat) "NotePress$Stars" "numbers" "[I") ∈ tB := tB_1 48 rfl rfl
theorem tw_49 : (Jvm.Cond.fieldLink "NotePress$Stars" (24 : Nat) "NotePress$Stars" "told" "I") ∈ tB := tB_1 49 rfl rfl
theorem tw_51 : (Jvm.Cond.fieldLink "NotePress$Stars" (28 : Nat) "NotePress$Stars" "standing" "I") ∈ tB := tB_1 51 rfl rfl
theorem tw_53 : (Jvm.Cond.laysFinal "NotePress$Stars" "NotePress$Stars" "series" "[I") ∈ tB := tB_1 53 rfl rfl
theorem tw_55 : (Jvm.Cond.laysFinal "NotePress$Stars" "NotePress$Stars" "numbers" "[I") ∈ tB := tB_1 55 rfl rfl
theorem tw_57 : (Jvm.Cond.lays "NotePress$Stars" "NotePress$Stars" "told" "I") ∈ tB := tB_1 57 rfl rfl
theorem tw_59 : (Jvm.Cond.lays "NotePress$Stars" "NotePress$Stars" "standing" "I") ∈ tB := tB_1 59 rfl rfl
theorem tw_62 : (Jvm.Cond.classLink "NotePress" (23 : Nat) "NotePress$Changes") ∈ tB := tB_1 62 rfl rfl
theorem tw_63 : (Jvm.Cond.instantiable "NotePress$Changes" (3 : Nat)) ∈ tB := tB_1 63 rfl rfl
theorem tw_65 : (Jvm.Cond.instanceMethod ({ cls := "NotePress$Changes", name := "<init>", desc := "()V" } : Jvm.MethodName)) ∈ tB := tB_1 65 rfl rfl
theorem tw_66 : (Jvm.Cond.code ({ cls := "NotePress$Changes", name := "<init>", desc := "()V" } : Jvm.MethodName) prog_2_method_1_code (1 : Nat) (Option.none : Option Jvm.ClassFile.FieldType)) ∈ tB := tB_1 66 rfl rfl
theorem tw_67 : (Jvm.Cond.methodLink "NotePress$Changes" (3 : Nat) ({ cls := "java/lang/Object", name := "<init>", desc := "()V" } : Jvm.MethodName)) ∈ tB := tB_1 67 rfl rfl
theorem tw_68 : (Jvm.Cond.classLink "NotePress$Changes" (9 : Nat) "NotePress$Share") ∈ tB := tB_1 68 rfl rfl
theorem tw_70 : (Jvm.Cond.fieldLink "NotePress$Changes" (11 : Nat) "NotePress$Changes" "shares" "[LNotePress$Share;") ∈ tB := tB_1 70 rfl rfl
theorem tw_71 : (Jvm.Cond.fieldLink "NotePress$Changes" (17 : Nat) "NotePress$Changes" "amounts" "[I") ∈ tB := tB_1 71 rfl rfl
theorem tw_72 : (Jvm.Cond.fieldLink "NotePress$Changes" (21 : Nat) "NotePress$Changes" "kept" "I") ∈ tB := tB_1 72 rfl rfl
theorem tw_74 : (Jvm.Cond.laysFinal "NotePress$Changes" "NotePress$Changes" "shares" "[LNotePress$Share;") ∈ tB := tB_1 74 rfl rfl
theorem tw_76 : (Jvm.Cond.laysFinal "NotePress$Changes" "NotePress$Changes" "amounts" "[I") ∈ tB := tB_1 76 rfl rfl
theorem tw_78 : (Jvm.Cond.lays "NotePress$Changes" "NotePress$Changes" "kept" "I") ∈ tB := tB_1 78 rfl rfl
theorem tw_81 : (Jvm.Cond.classLink "NotePress" (30 : Nat) "NotePress$Plan") ∈ tB := tB_1 81 rfl rfl
theorem tw_82 : (Jvm.Cond.instantiable "NotePress$Plan" (5 : Nat)) ∈ tB := tB_1 82 rfl rfl
theorem tw_83 : (Jvm.Cond.methodLink "NotePress" (32 : Nat) ({ cls := "NotePress$Plan", name := "<init>", desc := "()V" } : Jvm.MethodName)) ∈ tB := tB_1 83 rfl rfl
theorem tw_84 : (Jvm.Cond.instanceMethod ({ cls := "NotePress$Plan", name := "<init>", desc := "()V" } : Jvm.MethodName)) ∈ tB := tB_1 84 rfl rfl
theorem tw_85 : (Jvm.Cond.code ({ cls := "NotePress$Plan", name := "<init>", desc := "()V" } : Jvm.MethodName) prog_4_method_1_code (2 : Nat) (Option.none : Option Jvm.ClassFile.FieldType)) ∈ tB := tB_1 85 rfl rfl
theorem tw_86 : (Jvm.Cond.methodLink "NotePress$Plan" (3 : Nat) ({ cls := "java/lang/Object", name := "<init>", desc := "()V" } : Jvm.MethodName)) ∈ tB := tB_1 86 rfl rfl
theorem tw_87 : (Jvm.Cond.classLink "NotePress$Plan" (15 : Nat) "NotePress$Series") ∈ tB := tB_1 87 rfl rfl
theorem tw_89 : (Jvm.Cond.instantiable "NotePress$Series" (5 : Nat)) ∈ tB := tB_1 89 rfl rfl
theorem tw_90 : (Jvm.Cond.methodLink "NotePress$Plan" (21 : Nat) ({ cls := "NotePress$Series", name := "<init>", desc := "()V" } : Jvm.MethodName)) ∈ tB := tB_1 90 rfl rfl
theorem tw_91 : (Jvm.Cond.instanceMethod ({ cls := "NotePress$Series", name := "<init>", desc := "()V" } : Jvm.MethodName)) ∈ tB := tB_1 91 rfl rfl
theorem tw_92 : (Jvm.Cond.code ({ cls := "NotePress$Series", name := "<init>", desc := "()V" } : Jvm.MethodName) prog_5_method_1_code (2 : Nat) (Option.none : Option Jvm.ClassFile.FieldType)) ∈ tB := tB_1 92 rfl rfl
theorem tw_93 : (Jvm.Cond.methodLink "NotePress$Series" (3 : Nat) ({ cls := "java/lang/Object", name := "<init>", desc := "()V" } : Jvm.MethodName)) ∈ tB := tB_1 93 rfl rfl
theorem tw_94 : (Jvm.Cond.classLink "NotePress$Series" (9 : Nat) "NotePress$Share") ∈ tB := tB_1 94 rfl rfl
theorem tw_95 : (Jvm.Cond.instantiable "NotePress$Share" (4 : Nat)) ∈ tB := tB_1 95 rfl rfl
theorem tw_97 : (Jvm.Cond.instanceMethod ({ cls := "NotePress$Share", name := "<init>", desc := "()V" } : Jvm.MethodName)) ∈ tB := tB_1 97 rfl rfl
theorem tw_98 : (Jvm.Cond.code ({ cls := "NotePress$Share", name := "<init>", desc := "()V" } : Jvm.MethodName) prog_6_method_1_code (1 : Nat) (Option.none : Option Jvm.ClassFile.FieldType)) ∈ tB := tB_1 98 rfl rfl
theorem tw_99 : (Jvm.Cond.methodLink "NotePress$Share" (3 : Nat) ({ cls := "java/lang/Object", name := "<init>", desc := "()V" } : Jvm.MethodName)) ∈ tB := tB_1 99 rfl rfl
theorem tw_100 : (Jvm.Cond.fieldLink "NotePress$Share" (9 : Nat) "NotePress$Share" "places" "I") ∈ tB := tB_1 100 rfl rfl
theorem tw_103 : (Jvm.Cond.fieldLink "NotePress$Share" (15 : Nat) "NotePress$Share" "sheets" "I") ∈ tB := tB_1 103 rfl rfl
theorem tw_105 : (Jvm.Cond.fieldLink "NotePress$Share" (18 : Nat) "NotePress$Share" "first" "I") ∈ tB := tB_1 105 rfl rfl
theorem tw_107 : (Jvm.Cond.fieldLink "NotePress$Share" (21 : Nat) "NotePress$Share" "sheetsRun" "I") ∈ tB := tB_1 107 rfl rfl
theorem tw_110 : (Jvm.Cond.lays "NotePress$Share" "NotePress$Share" "places" "I") ∈ tB := tB_1 110 rfl rfl
theorem tw_112 : (Jvm.Cond.lays "NotePress$Share" "NotePress$Share" "sheets" "I") ∈ tB := tB_1 112 rfl rfl
theorem tw_114 : (Jvm.Cond.lays "NotePress$Share" "NotePress$Share" "first" "I") ∈ tB := tB_1 114 rfl rfl
theorem tw_116 : (Jvm.Cond.lays "NotePress$Share" "NotePress$Share" "sheetsRun" "I") ∈ tB := tB_1 116 rfl rfl
theorem tw_119 : (Jvm.Cond.fieldLink "NotePress$Series" (11 : Nat) "NotePress$Series" "shares" "[LNotePress$Share;") ∈ tB := tB_1 119 rfl rfl
theorem tw_120 : (Jvm.Cond.fieldLink "NotePress$Series" (25 : Nat) "NotePress$Series" "presses" "I") ∈ tB := tB_1 120 rfl rfl
theorem tw_121 : (Jvm.Cond.fieldLink "NotePress$Series" (18 : Nat) "NotePress$Series" "letter" "I") ∈ tB := tB_1 121 rfl rfl
theorem tw_124 : (Jvm.Cond.fieldLink "NotePress$Series" (22 : Nat) "NotePress$Series" "kind" "I") ∈ tB := tB_1 124 rfl rfl
theorem tw_126 : (Jvm.Cond.fieldLink "NotePress$Series" (28 : Nat) "NotePress$Series" "notes" "I") ∈ tB := tB_1 126 rfl rfl
theorem tw_129 : (Jvm.Cond.laysFinal "NotePress$Series" "NotePress$Series" "shares" "[LNotePress$Share;") ∈ tB := tB_1 129 rfl rfl
theorem tw_131 : (Jvm.Cond.lays "NotePress$Series" "NotePress$Series" "presses" "I") ∈ tB := tB_1 131 rfl rfl
theorem tw_133 : (Jvm.Cond.lays "NotePress$Series" "NotePress$Series" "letter" "I") ∈ tB := tB_1 133 rfl rfl
theorem tw_135 : (Jvm.Cond.lays "NotePress$Series" "NotePress$Series" "kind" "I") ∈ tB := tB_1 135 rfl rfl
theorem tw_137 : (Jvm.Cond.lays "NotePress$Series" "NotePress$Series" "notes" "I") ∈ tB := tB_1 137 rfl rfl
theorem tw_140 : (Jvm.Cond.fieldLink "NotePress$Plan" (9 : Nat) "NotePress$Plan" "places" "[I") ∈ tB := tB_1 140 rfl rfl
theorem tw_142 : (Jvm.Cond.fieldLink "NotePress$Plan" (17 : Nat) "NotePress$Plan" "rows" "[LNotePress$Series;") ∈ tB := tB_1 142 rfl rfl
theorem tw_143 : (Jvm.Cond.fieldLink "NotePress$Plan" (22 : Nat) "NotePress$Plan" "pressesTold" "I") ∈ tB := tB_1 143 rfl rfl
theorem tw_146 : (Jvm.Cond.fieldLink "NotePress$Plan" (26 : Nat) "NotePress$Plan" "seriesTold" "I") ∈ tB := tB_1 146 rfl rfl
theorem tw_148 : (Jvm.Cond.fieldLink "NotePress$Plan" (29 : Nat) "NotePress$Plan" "starsTold" "I") ∈ tB := tB_1 148 rfl rfl
theorem tw_151 : (Jvm.Cond.laysFinal "NotePress$Plan" "NotePress$Plan" "places" "[I") ∈ tB := tB_1 151 rfl rfl
theorem tw_153 : (Jvm.Cond.laysFinal "NotePress$Plan" "NotePress$Plan" "rows" "[LNotePress$Series;") ∈ tB := tB_1 153 rfl rfl
theorem tw_155 : (Jvm.Cond.lays "NotePress$Plan" "NotePress$Plan" "pressesTold" "I") ∈ tB := tB_1 155 rfl rfl
theorem tw_157 : (Jvm.Cond.lays "NotePress$Plan" "NotePress$Plan" "seriesTold" "I") ∈ tB := tB_1 157 rfl rfl
theorem tw_159 : (Jvm.Cond.lays "NotePress$Plan" "NotePress$Plan" "starsTold" "I") ∈ tB := tB_1 159 rfl rfl
theorem tw_163 : (Jvm.Cond.methodLink "NotePress" (42 : Nat) ({ cls := "java/lang/String", name := "length", desc := "()I" } : Jvm.MethodName)) ∈ tB := tB_1 163 rfl rfl
theorem tw_164 : (Jvm.Cond.instanceMethod ({ cls := "java/lang/String", name := "length", desc := "()I" } : Jvm.MethodName)) ∈ tB := tB_1 164 rfl rfl
theorem tw_165 : (Jvm.Cond.selects "java/lang/String" ({ cls := "java/lang/String", name := "length", desc := "()I" } : Jvm.MethodName) ({ cls := "java/lang/String", name := "length", desc := "()I" } : Jvm.MethodName)) ∈ tB := tB_1 165 rfl rfl
theorem tw_166 : (Jvm.Cond.code ({ cls := "java/lang/String", name := "length", desc := "()I" } : Jvm.MethodName) prog_12_method_54_code (1 : Nat) (Option.some Jvm.ClassFile.FieldType.int)) ∈ tB := tB_1 166 rfl rfl
theorem tw_167 : (Jvm.Cond.methodLink "java/lang/String" (335 : Nat) ({ cls := "java/lang/String", name := "coder", desc := "()B" } : Jvm.MethodName)) ∈ tB := tB_1 167 rfl rfl
theorem tw_168 : (Jvm.Cond.instanceMethod ({ cls := "java/lang/String", name := "coder", desc := "()B" } : Jvm.MethodName)) ∈ tB := tB_1 168 rfl rfl
theorem tw_169 : (Jvm.Cond.selects "java/lang/String" ({ cls := "java/lang/String", name := "coder", desc := "()B" } : Jvm.MethodName) ({ cls := "java/lang/String", name := "coder", desc := "()B" } : Jvm.MethodName)) ∈ tB := tB_1 169 rfl rfl
theorem tw_170 : (Jvm.Cond.code ({ cls := "java/lang/String", name := "coder", desc := "()B" } : Jvm.MethodName) prog_12_method_152_code (1 : Nat) (Option.some Jvm.ClassFile.FieldType.byte)) ∈ tB := tB_1 170 rfl rfl
theorem tw_171 : (Jvm.Cond.fieldLink "java/lang/String" (38 : Nat) "java/lang/String" "COMPACT_STRINGS" "Z") ∈ tB := tB_1 171 rfl rfl
theorem tw_173 : (Jvm.Cond.methodLink "NotePress" (48 : Nat) ({ cls := "java/lang/String", name := "charAt", desc := "(I)C" } : Jvm.MethodName)) ∈ tB := tB_1 173 rfl rfl
theorem tw_174 : (Jvm.Cond.instanceMethod ({ cls := "java/lang/String", name := "charAt", desc := "(I)C" } : Jvm.MethodName)) ∈ tB := tB_1 174 rfl rfl
theorem tw_175 : (Jvm.Cond.selects "java/lang/String" ({ cls := "java/lang/String", name := "charAt", desc := "(I)C" } : Jvm.MethodName) ({ cls := "java/lang/String", name := "charAt", desc := "(I)C" } : Jvm.MethodName)) ∈ tB := tB_1 175 rfl rfl
theorem tw_176 : (Jvm.Cond.code ({ cls := "java/lang/String", name := "charAt", desc := "(I)C" } : Jvm.MethodName) prog_12_method_56_code (2 : Nat) (Option.some Jvm.ClassFile.FieldType.char)) ∈ tB := tB_1 176 rfl rfl
theorem tw_177 : (Jvm.Cond.methodLink "java/lang/String" (492 : Nat) ({ cls := "java/lang/String", name := "isLatin1", desc := "()Z" } : Jvm.MethodName)) ∈ tB := tB_1 177 rfl rfl
theorem tw_178 : (Jvm.Cond.instanceMethod ({ cls := "java/lang/String", name := "isLatin1", desc := "()Z" } : Jvm.MethodName)) ∈ tB := tB_1 178 rfl rfl
theorem tw_179 : (Jvm.Cond.selects "java/lang/String" ({ cls := "java/lang/String", name := "isLatin1", desc := "()Z" } : Jvm.MethodName) ({ cls := "java/lang/String", name := "isLatin1", desc := "()Z" } : Jvm.MethodName)) ∈ tB := tB_1 179 rfl rfl
theorem tw_180 : (Jvm.Cond.code ({ cls := "java/lang/String", name := "isLatin1", desc := "()Z" } : Jvm.MethodName) prog_12_method_154_code (1 : Nat) (Option.some Jvm.ClassFile.FieldType.boolean)) ∈ tB := tB_1 180 rfl rfl
theorem tw_181 : (Jvm.Cond.methodLink "java/lang/String" (495 : Nat) ({ cls := "java/lang/StringLatin1", name := "charAt", desc := "([BI)C" } : Jvm.MethodName)) ∈ tB := tB_1 181 rfl rfl
theorem tw_182 : (Jvm.Cond.static ({ cls := "java/lang/StringLatin1", name := "charAt", desc := "([BI)C" } : Jvm.MethodName)) ∈ tB := tB_1 182 rfl rfl
theorem tw_183 : (Jvm.Cond.code ({ cls := "java/lang/StringLatin1", name := "charAt", desc := "([BI)C" } : Jvm.MethodName) prog_13_method_2_code (2 : Nat) (Option.some Jvm.ClassFile.FieldType.char)) ∈ tB := tB_1 183 rfl rfl
theorem tw_184 : (Jvm.Cond.methodLink "java/lang/StringLatin1" (9 : Nat) ({ cls := "java/lang/String", name := "checkIndex", desc := "(II)V" } : Jvm.MethodName)) ∈ tB := tB_1 184 rfl rfl
theorem tw_185 : (Jvm.Cond.static ({ cls := "java/lang/String", name := "checkIndex", desc := "(II)V" } : Jvm.MethodName)) ∈ tB := tB_1 185 rfl rfl
theorem tw_186 : (Jvm.Cond.code ({ cls := "java/lang/String", name := "checkIndex", desc := "(II)V" } : Jvm.MethodName) prog_12_method_155_code (2 : Nat) (Option.none : Option Jvm.ClassFile.FieldType)) ∈ tB := tB_1 186 rfl rfl
theorem tw_187 : (Jvm.Cond.fieldLink "java/lang/String" (1053 : Nat) "jdk/internal/util/Preconditions" "SIOOBE_FORMATTER" "Ljava/util/function/BiFunction;") ∈ tB := tB_1 187 rfl rfl
theorem tw_189 : (Jvm.Cond.methodLink "java/lang/String" (1059 : Nat) ({ cls := "jdk/internal/util/Preconditions", name := "checkIndex", desc := "(IILjava/util/function/BiFunction;)I" } : Jvm.MethodName)) ∈ tB := tB_1 189 rfl rfl
theorem tw_190 : (Jvm.Cond.static ({ cls := "jdk/internal/util/Preconditions", name := "checkIndex", desc := "(IILjava/util/function/BiFunction;)I" } : Jvm.MethodName)) ∈ tB := tB_1 190 rfl rfl
theorem tw_191 : (Jvm.Cond.code ({ cls := "jdk/internal/util/Preconditions", name := "checkIndex", desc := "(IILjava/util/function/BiFunction;)I" } : Jvm.MethodName) prog_15_method_11_code (3 : Nat) (Option.some Jvm.ClassFile.FieldType.int)) ∈ tB := tB_1 191 rfl rfl
theorem tw_192 : (Jvm.Cond.methodLink "java/lang/String" (498 : Nat) ({ cls := "java/lang/StringUTF16", name := "charAt", desc := "([BI)C" } : Jvm.MethodName)) ∈ tB := tB_1 192 rfl rfl
theorem tw_193 : (Jvm.Cond.static ({ cls := "java/lang/StringUTF16", name := "charAt", desc := "([BI)C" } : Jvm.MethodName)) ∈ tB := tB_1 193 rfl rfl
theorem tw_194 : (Jvm.Cond.code ({ cls := "java/lang/StringUTF16", name := "charAt", desc := "([BI)C" } : Jvm.MethodName) prog_14_method_83_code (2 : Nat) (Option.some Jvm.ClassFile.FieldType.char)) ∈ tB := tB_1 194 rfl rfl
theorem tw_195 : (Jvm.Cond.methodLink "java/lang/StringUTF16" (67 : Nat) ({ cls := "java/lang/StringUTF16", name := "checkIndex", desc := "(I[B)V" } : Jvm.MethodName)) ∈ tB := tB_1 195 rfl rfl
theorem tw_196 : (Jvm.Cond.static ({ cls := "java/lang/StringUTF16", name := "checkIndex", desc := "(I[B)V" } : Jvm.MethodName)) ∈ tB := tB_1 196 rfl rfl
theorem tw_197 : (Jvm.Cond.code ({ cls := "java/lang/StringUTF16", name := "checkIndex", desc := "(I[B)V" } : Jvm.MethodName) prog_14_method_91_code (2 : Nat) (Option.none : Option Jvm.ClassFile.FieldType)) ∈ tB := tB_1 197 rfl rfl
theorem tw_198 : (Jvm.Cond.methodLink "java/lang/StringUTF16" (48 : Nat) ({ cls := "java/lang/StringUTF16", name := "length", desc := "([B)I" } : Jvm.MethodName)) ∈ tB := tB_1 198 rfl rfl
theorem tw_199 : (Jvm.Cond.static ({ cls := "java/lang/StringUTF16", name := "length", desc := "([B)I" } : Jvm.MethodName)) ∈ tB := tB_1 199 rfl rfl
theorem tw_200 : (Jvm.Cond.code ({ cls := "java/lang/StringUTF16", name := "length", desc := "([B)I" } : Jvm.MethodName) prog_14_method_6_code (1 : Nat) (Option.some Jvm.ClassFile.FieldType.int)) ∈ tB := tB_1 200 rfl rfl
theorem tw_201 : (Jvm.Cond.methodLink "java/lang/StringUTF16" (414 : Nat) ({ cls := "java/lang/String", name := "checkIndex", desc := "(II)V" } : Jvm.MethodName)) ∈ tB := tB_1 201 rfl rfl
theorem tw_202 : (Jvm.Cond.methodLink "java/lang/StringUTF16" (71 : Nat) ({ cls := "java/lang/StringUTF16", name := "getChar", desc := "([BI)C" } : Jvm.MethodName)) ∈ tB := tB_1 202 rfl rfl
theorem tw_203 : (Jvm.Cond.static ({ cls := "java/lang/StringUTF16", name := "getChar", desc := "([BI)C" } : Jvm.MethodName)) ∈ tB := tB_1 203 rfl rfl
theorem tw_204 : (Jvm.Cond.code ({ cls := "java/lang/StringUTF16", name := "getChar", desc := "([BI)C" } : Jvm.MethodName) prog_14_method_5_code (2 : Nat) (Option.some Jvm.ClassFile.FieldType.char)) ∈ tB := tB_1 204 rfl rfl
theorem tw_205 : (Jvm.Cond.fieldLink "java/lang/StringUTF16" (44 : Nat) "java/lang/StringUTF16" "$assertionsDisabled" "Z") ∈ tB := tB_1 205 rfl rfl
theorem tw_207 : (Jvm.Cond.fieldLink "java/lang/StringUTF16" (59 : Nat) "java/lang/StringUTF16" "HI_BYTE_SHIFT" "I") ∈ tB := tB_1 207 rfl rfl
theorem tw_209 : (Jvm.Cond.fieldLink "java/lang/StringUTF16" (63 : Nat) "java/lang/StringUTF16" "LO_BYTE_SHIFT" "I") ∈ tB := tB_1 209 rfl rfl
theorem tw_211 : (Jvm.Cond.methodLink "NotePress" (52 : Nat) ({ cls := "NotePress$Text", name := "append", desc := "(I)Z" } : Jvm.MethodName)) ∈ tB := tB_1 211 rfl rfl
theorem tw_212 : (Jvm.Cond.instanceMethod ({ cls := "NotePress$Text", name := "append", desc := "(I)Z" } : Jvm.MethodName)) ∈ tB := tB_1 212 rfl rfl
theorem tw_213 : (Jvm.Cond.selects "NotePress$Text" ({ cls := "NotePress$Text", name := "append", desc := "(I)Z" } : Jvm.MethodName) ({ cls := "NotePress$Text", name := "append", desc := "(I)Z" } : Jvm.MethodName)) ∈ tB := tB_1 213 rfl rfl
theorem tw_214 : (Jvm.Cond.code ({ cls := "NotePress$Text", name := "append", desc := "(I)Z" } : Jvm.MethodName) prog_8_method_2_code (2 : Nat) (Option.some Jvm.ClassFile.FieldType.boolean)) ∈ tB := tB_1 214 rfl rfl
theorem tw_215 : (Jvm.Cond.methodLink "NotePress" (56 : Nat) ({ cls := "NotePress", name := "layText", desc := "()Z" } : Jvm.MethodName)) ∈ tB := tB_1 215 rfl rfl
theorem tw_217 : (Jvm.Cond.instanceMethod ({ cls := "NotePress", name := "layText", desc := "()Z" } : Jvm.MethodName)) ∈ tB := tB_1 217 rfl rfl
theorem tw_218 : (Jvm.Cond.code ({ cls := "NotePress", name := "layText", desc := "()Z" } : Jvm.MethodName) prog_1_method_23_code (2 : Nat) (Option.some Jvm.ClassFile.FieldType.boolean)) ∈ tB := tB_1 218 rfl rfl
theorem tw_219 : (Jvm.Cond.methodLink "NotePress" (70 : Nat) ({ cls := "NotePress$Text", name := "readInto", desc := "(LNotePress$Plan;)I" } : Jvm.MethodName)) ∈ tB := tB_1 219 rfl rfl
theorem tw_220 : (Jvm.Cond.instanceMethod ({ cls := "NotePress$Text", name := "readInto", desc := "(LNotePress$Plan;)I" } : Jvm.MethodName)) ∈ tB := tB_1 220 rfl rfl
theorem tw_221 : (Jvm.Cond.selects "NotePress$Text" ({ cls := "NotePress$Text", name := "readInto", desc := "(LNotePress$Plan;)I" } : Jvm.MethodName) ({ cls := "NotePress$Text", name := "readInto", desc := "(LNotePress$Plan;)I" } : Jvm.MethodName)) ∈ tB := tB_1 221 rfl rfl
theorem tw_222 : (Jvm.Cond.code ({ cls := "NotePress$Text", name := "readInto", desc := "(LNotePress$Plan;)I" } : Jvm.MethodName) prog_8_method_4_code (4 : Nat) (Option.some Jvm.ClassFile.FieldType.int)) ∈ tB := tB_1 222 rfl rfl
theorem tw_223 : (Jvm.Cond.methodLink "NotePress$Text" (19 : Nat) ({ cls := "NotePress$Plan", name := "clear", desc := "()V" } : Jvm.MethodName)) ∈ tB := tB_1 223 rfl rfl
theorem tw_224 : (Jvm.Cond.instanceMethod ({ cls := "NotePress$Plan", name := "clear", desc := "()V" } : Jvm.MethodName)) ∈ tB := tB_1 224 rfl rfl
theorem tw_225 : (Jvm.Cond.selects "NotePress$Plan" ({ cls := "NotePress$Plan", name := "clear", desc := "()V" } : Jvm.MethodName) ({ cls := "NotePress$Plan", name := "clear", desc := "()V" } : Jvm.MethodName)) ∈ tB := tB_1 225 rfl rfl
theorem tw_226 : (Jvm.Cond.code ({ cls := "NotePress$Plan", name := "clear", desc := "()V" } : Jvm.MethodName) prog_4_method_2_code (1 : Nat) (Option.none : Option Jvm.ClassFile.FieldType)) ∈ tB := tB_1 226 rfl rfl
theorem tw_227 : (Jvm.Cond.methodLink "NotePress$Text" (27 : Nat) ({ cls := "NotePress$Text", name := "readItem", desc := "(LNotePress$Plan;)Z" } : Jvm.MethodName)) ∈ tB := tB_1 227 rfl rfl
theorem tw_229 : (Jvm.Cond.instanceMethod ({ cls := "NotePress$Text", name := "readItem", desc := "(LNotePress$Plan;)Z" } : Jvm.MethodName)) ∈ tB := tB_1 229 rfl rfl
theorem tw_230 : (Jvm.Cond.code ({ cls := "NotePress$Text", name := "readItem", desc := "(LNotePress$Plan;)Z" } : Jvm.MethodName) prog_8_method_5_code (2 : Nat) (Option.some Jvm.ClassFile.FieldType.boolean)) ∈ tB := tB_1 230 rfl rfl
theorem tw_231 : (Jvm.Cond.methodLink "NotePress$Text" (31 : Nat) ({ cls := "NotePress$Text", name := "skip", desc := "(I)Z" } : Jvm.MethodName)) ∈ tB := tB_1 231 rfl rfl
theorem tw_233 : (Jvm.Cond.instanceMethod ({ cls := "NotePress$Text", name := "skip", desc := "(I)Z" } : Jvm.MethodName)) ∈ tB := tB_1 233 rfl rfl
theorem tw_234 : (Jvm.Cond.code ({ cls := "NotePress$Text", name := "skip", desc := "(I)Z" } : Jvm.MethodName) prog_8_method_9_code (2 : Nat) (Option.some Jvm.ClassFile.FieldType.boolean)) ∈ tB := tB_1 234 rfl rfl
theorem tw_235 : (Jvm.Cond.methodLink "NotePress$Text" (35 : Nat) ({ cls := "NotePress$Text", name := "readPress", desc := "(LNotePress$Plan;)Z" } : Jvm.MethodName)) ∈ tB := tB_1 235 rfl rfl
theorem tw_237 : (Jvm.Cond.instanceMethod ({ cls := "NotePress$Text", name := "readPress", desc := "(LNotePress$Plan;)Z" } : Jvm.MethodName)) ∈ tB := tB_1 237 rfl rfl
theorem tw_238 : (Jvm.Cond.code ({ cls := "NotePress$Text", name := "readPress", desc := "(LNotePress$Plan;)Z" } : Jvm.MethodName) prog_8_method_6_code (3 : Nat) (Option.some Jvm.ClassFile.FieldType.boolean)) ∈ tB := tB_1 238 rfl rfl
theorem tw_239 : (Jvm.Cond.methodLink "NotePress$Text" (44 : Nat) ({ cls := "NotePress$Text", name := "readNumber", desc := "()I" } : Jvm.MethodName)) ∈ tB := tB_1 239 rfl rfl
theorem tw_241 : (Jvm.Cond.instanceMethod ({ cls := "NotePress$Text", name := "readNumber", desc := "()I" } : Jvm.MethodName)) ∈ tB := tB_2 1 rfl rfl
theorem tw_242 : (Jvm.Cond.code ({ cls := "NotePress$Text", name := "readNumber", desc := "()I" } : Jvm.MethodName) prog_8_method_11_code (3 : Nat) (Option.some Jvm.ClassFile.FieldType.int)) ∈ tB := tB_2 2 rfl rfl
theorem tw_243 : (Jvm.Cond.methodLink "NotePress$Text" (90 : Nat) ({ cls := "NotePress$Text", name := "readFigure", desc := "()I" } : Jvm.MethodName)) ∈ tB := tB_2 3 rfl rfl
theorem tw_245 : (Jvm.Cond.instanceMethod ({ cls := "NotePress$Text", name := "readFigure", desc := "()I" } : Jvm.MethodName)) ∈ tB := tB_2 5 rfl rfl
theorem tw_246 : (Jvm.Cond.code ({ cls := "NotePress$Text", name := "readFigure", desc := "()I" } : Jvm.MethodName) prog_8_method_12_code (1 : Nat) (Option.some Jvm.ClassFile.FieldType.int)) ∈ tB := tB_2 6 rfl rfl
theorem tw_248 : (Jvm.Cond.static ({ cls := "NotePress", name := "isFromTo", desc := "(III)Z" } : Jvm.MethodName)) ∈ tB := tB_2 8 rfl rfl
theorem tw_249 : (Jvm.Cond.code ({ cls := "NotePress", name := "isFromTo", desc := "(III)Z" } : Jvm.MethodName) prog_1_method_22_code (3 : Nat) (Option.some Jvm.ClassFile.FieldType.boolean)) ∈ tB := tB_2 9 rfl rfl
theorem tw_250 : (Jvm.Cond.methodLink "NotePress$Text" (52 : Nat) ({ cls := "NotePress$Plan", name := "addPress", desc := "(I)Z" } : Jvm.MethodName)) ∈ tB := tB_2 10 rfl rfl
theorem tw_251 : (Jvm.Cond.instanceMethod ({ cls := "NotePress$Plan", name := "addPress", desc := "(I)Z" } : Jvm.MethodName)) ∈ tB := tB_2 11 rfl rfl
theorem tw_252 : (Jvm.Cond.selects "NotePress$Plan" ({ cls := "NotePress$Plan", name := "addPress", desc := "(I)Z" } : Jvm.MethodName) ({ cls := "NotePress$Plan", name := "addPress", desc := "(I)Z" } : Jvm.MethodName)) ∈ tB := tB_2 12 rfl rfl
theorem tw_253 : (Jvm.Cond.code ({ cls := "NotePress$Plan", name := "addPress", desc := "(I)Z" } : Jvm.MethodName) prog_4_method_3_code (2 : Nat) (Option.some Jvm.ClassFile.FieldType.boolean)) ∈ tB := tB_2 13 rfl rfl
theorem tw_254 : (Jvm.Cond.methodLink "NotePress$Text" (38 : Nat) ({ cls := "NotePress$Text", name := "readSeries", desc := "(LNotePress$Plan;)Z" } : Jvm.MethodName)) ∈ tB := tB_2 14 rfl rfl
theorem tw_256 : (Jvm.Cond.instanceMethod ({ cls := "NotePress$Text", name := "readSeries", desc := "(LNotePress$Plan;)Z" } : Jvm.MethodName)) ∈ tB := tB_2 16 rfl rfl
theorem tw_257 : (Jvm.Cond.code ({ cls := "NotePress$Text", name := "readSeries", desc := "(LNotePress$Plan;)Z" } : Jvm.MethodName) prog_8_method_8_code (7 : Nat) (Option.some Jvm.ClassFile.FieldType.boolean)) ∈ tB := tB_2 17 rfl rfl
theorem tw_258 : (Jvm.Cond.methodLink "NotePress$Text" (58 : Nat) ({ cls := "NotePress$Plan", name := "nextSeries", desc := "()LNotePress$Series;" } : Jvm.MethodName)) ∈ tB := tB_2 18 rfl rfl
theorem tw_259 : (Jvm.Cond.instanceMethod ({ cls := "NotePress$Plan", name := "nextSeries", desc := "()LNotePress$Series;" } : Jvm.MethodName)) ∈ tB := tB_2 19 rfl rfl
theorem tw_260 : (Jvm.Cond.selects "NotePress$Plan" ({ cls := "NotePress$Plan", name := "nextSeries", desc := "()LNotePress$Series;" } : Jvm.MethodName) ({ cls := "NotePress$Plan", name := "nextSeries", desc := "()LNotePress$Series;" } : Jvm.MethodName)) ∈ tB := tB_2 20 rfl rfl
theorem tw_261 : (Jvm.Cond.code ({ cls := "NotePress$Plan", name := "nextSeries", desc := "()LNotePress$Series;" } : Jvm.MethodName) prog_4_method_4_code (1 : Nat) (Option.some (Jvm.ClassFile.FieldType.object "NotePress$Series"))) ∈ tB := tB_2 21 rfl rfl
theorem tw_262 : (Jvm.Cond.methodLink "NotePress$Text" (62 : Nat) ({ cls := "NotePress$Text", name := "readLetter", desc := "()I" } : Jvm.MethodName)) ∈ tB := tB_2 22 rfl rfl
theorem tw_264 : (Jvm.Cond.instanceMethod ({ cls := "NotePress$Text", name := "readLetter", desc := "()I" } : Jvm.MethodName)) ∈ tB := tB_2 24 rfl rfl
theorem tw_265 : (Jvm.Cond.code ({ cls := "NotePress$Text", name := "readLetter", desc := "()I" } : Jvm.MethodName) prog_8_method_10_code (1 : Nat) (Option.some Jvm.ClassFile.FieldType.int)) ∈ tB := tB_2 25 rfl rfl
theorem tw_266 : (Jvm.Cond.methodLink "NotePress$Text" (65 : Nat) ({ cls := "NotePress$Plan", name := "seriesOfLetter", desc := "(I)I" } : Jvm.MethodName)) ∈ tB := tB_2 26 rfl rfl
theorem tw_267 : (Jvm.Cond.instanceMethod ({ cls := "NotePress$Plan", name := "seriesOfLetter", desc := "(I)I" } : Jvm.MethodName)) ∈ tB := tB_2 27 rfl rfl
theorem tw_268 : (Jvm.Cond.selects "NotePress$Plan" ({ cls := "NotePress$Plan", name := "seriesOfLetter", desc := "(I)I" } : Jvm.MethodName) ({ cls := "NotePress$Plan", name := "seriesOfLetter", desc := "(I)I" } : Jvm.MethodName)) ∈ tB := tB_2 28 rfl rfl
theorem tw_269 : (Jvm.Cond.code ({ cls := "NotePress$Plan", name := "seriesOfLetter", desc := "(I)I" } : Jvm.MethodName) prog_4_method_8_code (3 : Nat) (Option.some Jvm.ClassFile.FieldType.int)) ∈ tB := tB_2 29 rfl rfl
theorem tw_270 : (Jvm.Cond.methodLink "NotePress$Text" (69 : Nat) ({ cls := "NotePress$Series", name := "begin", desc := "(II)V" } : Jvm.MethodName)) ∈ tB := tB_2 30 rfl rfl
theorem tw_271 : (Jvm.Cond.instanceMethod ({ cls := "NotePress$Series", name := "begin", desc := "(II)V" } : Jvm.MethodName)) ∈ tB := tB_2 31 rfl rfl
theorem tw_272 : (Jvm.Cond.selects "NotePress$Series" ({ cls := "NotePress$Series", name := "begin", desc := "(II)V" } : Jvm.MethodName) ({ cls := "NotePress$Series", name := "begin", desc := "(II)V" } : Jvm.MethodName)) ∈ tB := tB_2 32 rfl rfl
theorem tw_273 : (Jvm.Cond.code ({ cls := "NotePress$Series", name := "begin", desc := "(II)V" } : Jvm.MethodName) prog_5_method_2_code (3 : Nat) (Option.none : Option Jvm.ClassFile.FieldType)) ∈ tB := tB_2 33 rfl rfl
theorem tw_274 : (Jvm.Cond.methodLink "NotePress$Text" (81 : Nat) ({ cls := "NotePress$Series", name := "addShare", desc := "(II)V" } : Jvm.MethodName)) ∈ tB := tB_2 34 rfl rfl
theorem tw_275 : (Jvm.Cond.instanceMethod ({ cls := "NotePress$Series", name := "addShare", desc := "(II)V" } : Jvm.MethodName)) ∈ tB := tB_2 35 rfl rfl
theorem tw_276 : (Jvm.Cond.selects "NotePress$Series" ({ cls := "NotePress$Series", name := "addShare", desc := "(II)V" } : Jvm.MethodName) ({ cls := "NotePress$Series", name := "addShare", desc := "(II)V" } : Jvm.MethodName)) ∈ tB := tB_2 36 rfl rfl
theorem tw_277 : (Jvm.Cond.code ({ cls := "NotePress$Series", name := "addShare", desc := "(II)V" } : Jvm.MethodName) prog_5_method_3_code (3 : Nat) (Option.none : Option Jvm.ClassFile.FieldType)) ∈ tB := tB_2 37 rfl rfl
theorem tw_278 : (Jvm.Cond.methodLink "NotePress$Series" (31 : Nat) ({ cls := "NotePress$Share", name := "begin", desc := "(III)V" } : Jvm.MethodName)) ∈ tB := tB_2 38 rfl rfl
theorem tw_279 : (Jvm.Cond.instanceMethod ({ cls := "NotePress$Share", name := "begin", desc := "(III)V" } : Jvm.MethodName)) ∈ tB := tB_2 39 rfl rfl
theorem tw_280 : (Jvm.Cond.selects "NotePress$Share" ({ cls := "NotePress$Share", name := "begin", desc := "(III)V" } : Jvm.MethodName) ({ cls := "NotePress$Share", name := "begin", desc := "(III)V" } : Jvm.MethodName)) ∈ tB := tB_2 40 rfl rfl
theorem tw_281 : (Jvm.Cond.code ({ cls := "NotePress$Share", name := "begin", desc := "(III)V" } : Jvm.MethodName) prog_6_method_2_code (4 : Nat) (Option.none : Option Jvm.ClassFile.FieldType)) ∈ tB := tB_2 41 rfl rfl
theorem tw_282 : (Jvm.Cond.methodLink "NotePress$Text" (87 : Nat) ({ cls := "NotePress$Plan", name := "keepNextSeries", desc := "()V" } : Jvm.MethodName)) ∈ tB := tB_2 42 rfl rfl
theorem tw_283 : (Jvm.Cond.instanceMethod ({ cls := "NotePress$Plan", name := "keepNextSeries", desc := "()V" } : Jvm.MethodName)) ∈ tB := tB_2 43 rfl rfl
theorem tw_284 : (Jvm.Cond.selects "NotePress$Plan" ({ cls := "NotePress$Plan", name := "keepNextSeries", desc := "()V" } : Jvm.MethodName) ({ cls := "NotePress$Plan", name := "keepNextSeries", desc := "()V" } : Jvm.MethodName)) ∈ tB := tB_2 44 rfl rfl
theorem tw_285 : (Jvm.Cond.code ({ cls := "NotePress$Plan", name := "keepNextSeries", desc := "()V" } : Jvm.MethodName) prog_4_method_5_code (1 : Nat) (Option.none : Option Jvm.ClassFile.FieldType)) ∈ tB := tB_2 45 rfl rfl
theorem tw_286 : (Jvm.Cond.methodLink "NotePress$Text" (41 : Nat) ({ cls := "NotePress$Text", name := "readStars", desc := "(LNotePress$Plan;)Z" } : Jvm.MethodName)) ∈ tB := tB_2 46 rfl rfl
theorem tw_288 : (Jvm.Cond.instanceMethod ({ cls := "NotePress$Text", name := "readStars", desc := "(LNotePress$Plan;)Z" } : Jvm.MethodName)) ∈ tB := tB_2 48 rfl rfl
theorem tw_289 : (Jvm.Cond.code ({ cls := "NotePress$Text", name := "readStars", desc := "(LNotePress$Plan;)Z" } : Jvm.MethodName) prog_8_method_7_code (3 : Nat) (Option.some Jvm.ClassFile.FieldType.boolean)) ∈ tB := tB_2 49 rfl rfl
theorem tw_290 : (Jvm.Cond.methodLink "NotePress" (240 : Nat) ({ cls := "NotePress$Stars", name := "begin", desc := "(I)V" } : Jvm.MethodName)) ∈ tB := tB_2 50 rfl rfl
theorem tw_291 : (Jvm.Cond.instanceMethod ({ cls := "NotePress$Stars", name := "begin", desc := "(I)V" } : Jvm.MethodName)) ∈ tB := tB_2 51 rfl rfl
theorem tw_292 : (Jvm.Cond.selects "NotePress$Stars" ({ cls := "NotePress$Stars", name := "begin", desc := "(I)V" } : Jvm.MethodName) ({ cls := "NotePress$Stars", name := "begin", desc := "(I)V" } : Jvm.MethodName)) ∈ tB := tB_2 52 rfl rfl
theorem tw_293 : (Jvm.Cond.code ({ cls := "NotePress$Stars", name := "begin", desc := "(I)V" } : Jvm.MethodName) prog_7_method_2_code (2 : Nat) (Option.none : Option Jvm.ClassFile.FieldType)) ∈ tB := tB_2 53 rfl rfl
theorem tw_294 : (Jvm.Cond.methodLink "NotePress$Stars" (18 : Nat) ({ cls := "java/lang/Math", name := "min", desc := "(II)I" } : Jvm.MethodName)) ∈ tB := tB_2 54 rfl rfl
theorem tw_295 : (Jvm.Cond.static ({ cls := "java/lang/Math", name := "min", desc := "(II)I" } : Jvm.MethodName)) ∈ tB := tB_2 55 rfl rfl
theorem tw_296 : (Jvm.Cond.code ({ cls := "java/lang/Math", name := "min", desc := "(II)I" } : Jvm.MethodName) prog_11_method_69_code (2 : Nat) (Option.some Jvm.ClassFile.FieldType.int)) ∈ tB := tB_2 56 rfl rfl
theorem tw_297 : (Jvm.Cond.methodLink "NotePress" (243 : Nat) ({ cls := "NotePress$Changes", name := "clear", desc := "()V" } : Jvm.MethodName)) ∈ tB := tB_2 57 rfl rfl
theorem tw_298 : (Jvm.Cond.instanceMethod ({ cls := "NotePress$Changes", name := "clear", desc := "()V" } : Jvm.MethodName)) ∈ tB := tB_2 58 rfl rfl
theorem tw_299 : (Jvm.Cond.selects "NotePress$Changes" ({ cls := "NotePress$Changes", name := "clear", desc := "()V" } : Jvm.MethodName) ({ cls := "NotePress$Changes", name := "clear", desc := "()V" } : Jvm.MethodName)) ∈ tB := tB_2 59 rfl rfl
theorem tw_300 : (Jvm.Cond.code ({ cls := "NotePress$Changes", name := "clear", desc := "()V" } : Jvm.MethodName) prog_2_method_2_code (1 : Nat) (Option.none : Option Jvm.ClassFile.FieldType)) ∈ tB := tB_2 60 rfl rfl
theorem tw_301 : (Jvm.Cond.methodLink "NotePress" (60 : Nat) ({ cls := "NotePress$Text", name := "clear", desc := "()V" } : Jvm.MethodName)) ∈ tB := tB_2 61 rfl rfl
theorem tw_302 : (Jvm.Cond.instanceMethod ({ cls := "NotePress$Text", name := "clear", desc := "()V" } : Jvm.MethodName)) ∈ tB := tB_2 62 rfl rfl
theorem tw_303 : (Jvm.Cond.selects "NotePress$Text" ({ cls := "NotePress$Text", name := "clear", desc := "()V" } : Jvm.MethodName) ({ cls := "NotePress$Text", name := "clear", desc := "()V" } : Jvm.MethodName)) ∈ tB := tB_2 63 rfl rfl
theorem tw_304 : (Jvm.Cond.code ({ cls := "NotePress$Text", name := "clear", desc := "()V" } : Jvm.MethodName) prog_8_method_3_code (1 : Nat) (Option.none : Option Jvm.ClassFile.FieldType)) ∈ tB := tB_2 64 rfl rfl
theorem tw_305 : (Jvm.Cond.fieldLink "NotePress" (10 : Nat) "NotePress" "text" "LNotePress$Text;") ∈ tB := tB_2 65 rfl rfl
theorem tw_306 : (Jvm.Cond.fieldLink "NotePress" (19 : Nat) "NotePress" "stars" "LNotePress$Stars;") ∈ tB := tB_2 66 rfl rfl
theorem tw_307 : (Jvm.Cond.fieldLink "NotePress" (26 : Nat) "NotePress" "changes" "LNotePress$Changes;") ∈ tB := tB_2 67 rfl rfl
theorem tw_308 : (Jvm.Cond.fieldLink "NotePress" (33 : Nat) "NotePress" "laid" "LNotePress$Plan;") ∈ tB := tB_2 68 rfl rfl
theorem tw_309 : (Jvm.Cond.fieldLink "NotePress" (37 : Nat) "NotePress" "draft" "LNotePress$Plan;") ∈ tB := tB_2 69 rfl rfl
theorem tw_310 : (Jvm.Cond.laysFinal "NotePress" "NotePress" "text" "LNotePress$Text;") ∈ tB := tB_2 70 rfl rfl
theorem tw_312 : (Jvm.Cond.laysFinal "NotePress" "NotePress" "stars" "LNotePress$Stars;") ∈ tB := tB_2 72 rfl rfl
theorem tw_314 : (Jvm.Cond.laysFinal "NotePress" "NotePress" "changes" "LNotePress$Changes;") ∈ tB := tB_2 74 rfl rfl
theorem tw_316 : (Jvm.Cond.lays "NotePress" "NotePress" "laid" "LNotePress$Plan;") ∈ tB := tB_2 76 rfl rfl
theorem tw_318 : (Jvm.Cond.lays "NotePress" "NotePress" "draft" "LNotePress$Plan;") ∈ tB := tB_2 78 rfl rfl
theorem tw_321 : (Jvm.Cond.arrayClass Jvm.ClassFile.FieldType.byte) ∈ tB := tB_2 81 rfl rfl
theorem tw_322 : (Jvm.Cond.methodLink "NotePressLaw" (13 : Nat) ({ cls := "NotePress", name := "write", desc := "(I)I" } : Jvm.MethodName)) ∈ tB := tB_2 82 rfl rfl
theorem tw_323 : (Jvm.Cond.instanceMethod ({ cls := "NotePress", name := "write", desc := "(I)I" } : Jvm.MethodName)) ∈ tB := tB_2 83 rfl rfl
theorem tw_324 : (Jvm.Cond.selects "NotePress" ({ cls := "NotePress", name := "write", desc := "(I)I" } : Jvm.MethodName) ({ cls := "NotePress", name := "write", desc := "(I)I" } : Jvm.MethodName)) ∈ tB := tB_2 84 rfl rfl
theorem tw_325 : (Jvm.Cond.code ({ cls := "NotePress", name := "write", desc := "(I)I" } : Jvm.MethodName) prog_1_method_2_code (2 : Nat) (Option.some Jvm.ClassFile.FieldType.int)) ∈ tB := tB_2 85 rfl rfl
theorem tw_326 : (Jvm.Cond.methodLink "NotePress" (63 : Nat) ({ cls := "NotePress", name := "isFromTo", desc := "(III)Z" } : Jvm.MethodName)) ∈ tB := tB_2 86 rfl rfl
theorem tw_327 : (Jvm.Cond.methodLink "NotePressLaw" (18 : Nat) ({ cls := "NotePress", name := "wipe", desc := "()I" } : Jvm.MethodName)) ∈ tB := tB_2 87 rfl rfl
theorem tw_328 : (Jvm.Cond.instanceMethod ({ cls := "NotePress", name := "wipe", desc := "()I" } : Jvm.MethodName)) ∈ tB := tB_2 88 rfl rfl
theorem tw_329 : (Jvm.Cond.selects "NotePress" ({ cls := "NotePress", name := "wipe", desc := "()I" } : Jvm.MethodName) ({ cls := "NotePress", name := "wipe", desc := "()I" } : Jvm.MethodName)) ∈ tB := tB_2 89 rfl rfl
theorem tw_330 : (Jvm.Cond.code ({ cls := "NotePress", name := "wipe", desc := "()I" } : Jvm.MethodName) prog_1_method_3_code (2 : Nat) (Option.some Jvm.ClassFile.FieldType.int)) ∈ tB := tB_2 90 rfl rfl
theorem tw_331 : (Jvm.Cond.methodLink "NotePressLaw" (23 : Nat) ({ cls := "NotePress", name := "fault", desc := "()I" } : Jvm.MethodName)) ∈ tB := tB_2 91 rfl rfl
theorem tw_332 : (Jvm.Cond.instanceMethod ({ cls := "NotePress", name := "fault", desc := "()I" } : Jvm.MethodName)) ∈ tB := tB_2 92 rfl rfl
theorem tw_333 : (Jvm.Cond.selects "NotePress" ({ cls := "NotePress", name := "fault", desc := "()I" } : Jvm.MethodName) ({ cls := "NotePress", name := "fault", desc := "()I" } : Jvm.MethodName)) ∈ tB := tB_2 93 rfl rfl
theorem tw_334 : (Jvm.Cond.code ({ cls := "NotePress", name := "fault", desc := "()I" } : Jvm.MethodName) prog_1_method_4_code (1 : Nat) (Option.some Jvm.ClassFile.FieldType.int)) ∈ tB := tB_2 94 rfl rfl
theorem tw_335 : (Jvm.Cond.methodLink "NotePressLaw" (27 : Nat) ({ cls := "NotePress", name := "lay", desc := "()I" } : Jvm.MethodName)) ∈ tB := tB_2 95 rfl rfl
theorem tw_336 : (Jvm.Cond.instanceMethod ({ cls := "NotePress", name := "lay", desc := "()I" } : Jvm.MethodName)) ∈ tB := tB_2 96 rfl rfl
theorem tw_337 : (Jvm.Cond.selects "NotePress" ({ cls := "NotePress", name := "lay", desc := "()I" } : Jvm.MethodName) ({ cls := "NotePress", name := "lay", desc := "()I" } : Jvm.MethodName)) ∈ tB := tB_2 97 rfl rfl
theorem tw_338 : (Jvm.Cond.code ({ cls := "NotePress", name := "lay", desc := "()I" } : Jvm.MethodName) prog_1_method_5_code (1 : Nat) (Option.some Jvm.ClassFile.FieldType.int)) ∈ tB := tB_2 98 rfl rfl
theorem tw_339 : (Jvm.Cond.methodLink "NotePressLaw" (31 : Nat) ({ cls := "NotePress", name := "run", desc := "(III)I" } : Jvm.MethodName)) ∈ tB := tB_2 99 rfl rfl
theorem tw_340 : (Jvm.Cond.instanceMethod ({ cls := "NotePress", name := "run", desc := "(III)I" } : Jvm.MethodName)) ∈ tB := tB_2 100 rfl rfl
theorem tw_341 : (Jvm.Cond.selects "NotePress" ({ cls := "NotePress", name := "run", desc := "(III)I" } : Jvm.MethodName) ({ cls := "NotePress", name := "run", desc := "(III)I" } : Jvm.MethodName)) ∈ tB := tB_2 101 rfl rfl
theorem tw_342 : (Jvm.Cond.code ({ cls := "NotePress", name := "run", desc := "(III)I" } : Jvm.MethodName) prog_1_method_6_code (5 : Nat) (Option.some Jvm.ClassFile.FieldType.int)) ∈ tB := tB_2 102 rfl rfl
theorem tw_343 : (Jvm.Cond.methodLink "NotePress" (77 : Nat) ({ cls := "NotePress$Plan", name := "shareAt", desc := "(II)LNotePress$Share;" } : Jvm.MethodName)) ∈ tB := tB_2 103 rfl rfl
theorem tw_344 : (Jvm.Cond.instanceMethod ({ cls := "NotePress$Plan", name := "shareAt", desc := "(II)LNotePress$Share;" } : Jvm.MethodName)) ∈ tB := tB_2 104 rfl rfl
theorem tw_345 : (Jvm.Cond.selects "NotePress$Plan" ({ cls := "NotePress$Plan", name := "shareAt", desc := "(II)LNotePress$Share;" } : Jvm.MethodName) ({ cls := "NotePress$Plan", name := "shareAt", desc := "(II)LNotePress$Share;" } : Jvm.MethodName)) ∈ tB := tB_2 105 rfl rfl
theorem tw_346 : (Jvm.Cond.code ({ cls := "NotePress$Plan", name := "shareAt", desc := "(II)LNotePress$Share;" } : Jvm.MethodName) prog_4_method_7_code (4 : Nat) (Option.some (Jvm.ClassFile.FieldType.object "NotePress$Share"))) ∈ tB := tB_2 106 rfl rfl
theorem tw_347 : (Jvm.Cond.methodLink "NotePress$Plan" (36 : Nat) ({ cls := "NotePress$Plan", name := "seriesAt", desc := "(I)LNotePress$Series;" } : Jvm.MethodName)) ∈ tB := tB_2 107 rfl rfl
theorem tw_348 : (Jvm.Cond.instanceMethod ({ cls := "NotePress$Plan", name := "seriesAt", desc := "(I)LNotePress$Series;" } : Jvm.MethodName)) ∈ tB := tB_2 108 rfl rfl
theorem tw_349 : (Jvm.Cond.selects "NotePress$Plan" ({ cls := "NotePress$Plan", name := "seriesAt", desc := "(I)LNotePress$Series;" } : Jvm.MethodName) ({ cls := "NotePress$Plan", name := "seriesAt", desc := "(I)LNotePress$Series;" } : Jvm.MethodName)) ∈ tB := tB_2 109 rfl rfl
theorem tw_350 : (Jvm.Cond.code ({ cls := "NotePress$Plan", name := "seriesAt", desc := "(I)LNotePress$Series;" } : Jvm.MethodName) prog_4_method_6_code (2 : Nat) (Option.some (Jvm.ClassFile.FieldType.object "NotePress$Series"))) ∈ tB := tB_2 110 rfl rfl
theorem tw_352 : (Jvm.Cond.methodLink "NotePress$Plan" (40 : Nat) ({ cls := "NotePress$Series", name := "shareAt", desc := "(I)LNotePress$Share;" } : Jvm.MethodName)) ∈ tB := tB_2 112 rfl rfl
theorem tw_353 : (Jvm.Cond.instanceMethod ({ cls := "NotePress$Series", name := "shareAt", desc := "(I)LNotePress$Share;" } : Jvm.MethodName)) ∈ tB := tB_2 113 rfl rfl
theorem tw_354 : (Jvm.Cond.selects "NotePress$Series" ({ cls := "NotePress$Series", name := "shareAt", desc := "(I)LNotePress$Share;" } : Jvm.MethodName) ({ cls := "NotePress$Series", name := "shareAt", desc := "(I)LNotePress$Share;" } : Jvm.MethodName)) ∈ tB := tB_2 114 rfl rfl
theorem tw_355 : (Jvm.Cond.code ({ cls := "NotePress$Series", name := "shareAt", desc := "(I)LNotePress$Share;" } : Jvm.MethodName) prog_5_method_4_code (2 : Nat) (Option.some (Jvm.ClassFile.FieldType.object "NotePress$Share"))) ∈ tB := tB_2 115 rfl rfl
theorem tw_357 : (Jvm.Cond.methodLink "NotePress" (81 : Nat) ({ cls := "NotePress$Share", name := "sheetsLeft", desc := "()I" } : Jvm.MethodName)) ∈ tB := tB_2 117 rfl rfl
theorem tw_358 : (Jvm.Cond.instanceMethod ({ cls := "NotePress$Share", name := "sheetsLeft", desc := "()I" } : Jvm.MethodName)) ∈ tB := tB_2 118 rfl rfl
theorem tw_359 : (Jvm.Cond.selects "NotePress$Share" ({ cls := "NotePress$Share", name := "sheetsLeft", desc := "()I" } : Jvm.MethodName) ({ cls := "NotePress$Share", name := "sheetsLeft", desc := "()I" } : Jvm.MethodName)) ∈ tB := tB_2 119 rfl rfl
theorem tw_360 : (Jvm.Cond.code ({ cls := "NotePress$Share", name := "sheetsLeft", desc := "()I" } : Jvm.MethodName) prog_6_method_3_code (1 : Nat) (Option.some Jvm.ClassFile.FieldType.int)) ∈ tB := tB_2 120 rfl rfl
theorem tw_361 : (Jvm.Cond.methodLink "NotePress" (89 : Nat) ({ cls := "NotePress$Changes", name := "rememberRun", desc := "(LNotePress$Share;I)V" } : Jvm.MethodName)) ∈ tB := tB_2 121 rfl rfl
theorem tw_362 : (Jvm.Cond.instanceMethod ({ cls := "NotePress$Changes", name := "rememberRun", desc := "(LNotePress$Share;I)V" } : Jvm.MethodName)) ∈ tB := tB_2 122 rfl rfl
theorem tw_363 : (Jvm.Cond.selects "NotePress$Changes" ({ cls := "NotePress$Changes", name := "rememberRun", desc := "(LNotePress$Share;I)V" } : Jvm.MethodName) ({ cls := "NotePress$Changes", name := "rememberRun", desc := "(LNotePress$Share;I)V" } : Jvm.MethodName)) ∈ tB := tB_2 123 rfl rfl
theorem tw_364 : (Jvm.Cond.code ({ cls := "NotePress$Changes", name := "rememberRun", desc := "(LNotePress$Share;I)V" } : Jvm.MethodName) prog_2_method_3_code (3 : Nat) (Option.none : Option Jvm.ClassFile.FieldType)) ∈ tB := tB_2 124 rfl rfl
theorem tw_365 : (Jvm.Cond.methodLink "NotePress$Changes" (25 : Nat) ({ cls := "NotePress$Changes", name := "remember", desc := "(LNotePress$Share;I)V" } : Jvm.MethodName)) ∈ tB := tB_2 125 rfl rfl
theorem tw_367 : (Jvm.Cond.instanceMethod ({ cls := "NotePress$Changes", name := "remember", desc := "(LNotePress$Share;I)V" } : Jvm.MethodName)) ∈ tB := tB_2 127 rfl rfl
theorem tw_368 : (Jvm.Cond.code ({ cls := "NotePress$Changes", name := "remember", desc := "(LNotePress$Share;I)V" } : Jvm.MethodName) prog_2_method_5_code (3 : Nat) (Option.none : Option Jvm.ClassFile.FieldType)) ∈ tB := tB_2 128 rfl rfl
theorem tw_369 : (Jvm.Cond.methodLink "NotePress$Changes" (29 : Nat) ({ cls := "NotePress$Changes", name := "forgetOldest", desc := "()V" } : Jvm.MethodName)) ∈ tB := tB_2 129 rfl rfl
theorem tw_371 : (Jvm.Cond.instanceMethod ({ cls := "NotePress$Changes", name := "forgetOldest", desc := "()V" } : Jvm.MethodName)) ∈ tB := tB_2 131 rfl rfl
theorem tw_372 : (Jvm.Cond.code ({ cls := "NotePress$Changes", name := "forgetOldest", desc := "()V" } : Jvm.MethodName) prog_2_method_6_code (2 : Nat) (Option.none : Option Jvm.ClassFile.FieldType)) ∈ tB := tB_2 132 rfl rfl
theorem tw_373 : (Jvm.Cond.methodLink "NotePressLaw" (36 : Nat) ({ cls := "NotePress", name := "spoil", desc := "(II)I" } : Jvm.MethodName)) ∈ tB := tB_2 133 rfl rfl
theorem tw_374 : (Jvm.Cond.instanceMethod ({ cls := "NotePress", name := "spoil", desc := "(II)I" } : Jvm.MethodName)) ∈ tB := tB_2 134 rfl rfl
theorem tw_375 : (Jvm.Cond.selects "NotePress" ({ cls := "NotePress", name := "spoil", desc := "(II)I" } : Jvm.MethodName) ({ cls := "NotePress", name := "spoil", desc := "(II)I" } : Jvm.MethodName)) ∈ tB := tB_2 135 rfl rfl
theorem tw_376 : (Jvm.Cond.code ({ cls := "NotePress", name := "spoil", desc := "(II)I" } : Jvm.MethodName) prog_1_method_7_code (4 : Nat) (Option.some Jvm.ClassFile.FieldType.int)) ∈ tB := tB_2 136 rfl rfl
theorem tw_377 : (Jvm.Cond.methodLink "NotePress" (96 : Nat) ({ cls := "NotePress$Plan", name := "seriesAt", desc := "(I)LNotePress$Series;" } : Jvm.MethodName)) ∈ tB := tB_2 137 rfl rfl
theorem tw_378 : (Jvm.Cond.methodLink "NotePress" (100 : Nat) ({ cls := "NotePress$Series", name := "hasNumber", desc := "(I)Z" } : Jvm.MethodName)) ∈ tB := tB_2 138 rfl rfl
theorem tw_379 : (Jvm.Cond.instanceMethod ({ cls := "NotePress$Series", name := "hasNumber", desc := "(I)Z" } : Jvm.MethodName)) ∈ tB := tB_2 139 rfl rfl
theorem tw_380 : (Jvm.Cond.selects "NotePress$Series" ({ cls := "NotePress$Series", name := "hasNumber", desc := "(I)Z" } : Jvm.MethodName) ({ cls := "NotePress$Series", name := "hasNumber", desc := "(I)Z" } : Jvm.MethodName)) ∈ tB := tB_2 140 rfl rfl
theorem tw_381 : (Jvm.Cond.code ({ cls := "NotePress$Series", name := "hasNumber", desc := "(I)Z" } : Jvm.MethodName) prog_5_method_5_code (2 : Nat) (Option.some Jvm.ClassFile.FieldType.boolean)) ∈ tB := tB_2 141 rfl rfl
theorem tw_382 : (Jvm.Cond.methodLink "NotePress" (105 : Nat) ({ cls := "NotePress$Series", name := "isPrinted", desc := "(I)Z" } : Jvm.MethodName)) ∈ tB := tB_2 142 rfl rfl
theorem tw_383 : (Jvm.Cond.instanceMethod ({ cls := "NotePress$Series", name := "isPrinted", desc := "(I)Z" } : Jvm.MethodName)) ∈ tB := tB_2 143 rfl rfl
theorem tw_384 : (Jvm.Cond.selects "NotePress$Series" ({ cls := "NotePress$Series", name := "isPrinted", desc := "(I)Z" } : Jvm.MethodName) ({ cls := "NotePress$Series", name := "isPrinted", desc := "(I)Z" } : Jvm.MethodName)) ∈ tB := tB_2 144 rfl rfl
theorem tw_385 : (Jvm.Cond.code ({ cls := "NotePress$Series", name := "isPrinted", desc := "(I)Z" } : Jvm.MethodName) prog_5_method_7_code (3 : Nat) (Option.some Jvm.ClassFile.FieldType.boolean)) ∈ tB := tB_2 145 rfl rfl
theorem tw_386 : (Jvm.Cond.methodLink "NotePress$Series" (43 : Nat) ({ cls := "NotePress$Series", name := "pressOf", desc := "(I)I" } : Jvm.MethodName)) ∈ tB := tB_2 146 rfl rfl
theorem tw_387 : (Jvm.Cond.instanceMethod ({ cls := "NotePress$Series", name := "pressOf", desc := "(I)I" } : Jvm.MethodName)) ∈ tB := tB_2 147 rfl rfl
theorem tw_388 : (Jvm.Cond.selects "NotePress$Series" ({ cls := "NotePress$Series", name := "pressOf", desc := "(I)I" } : Jvm.MethodName) ({ cls := "NotePress$Series", name := "pressOf", desc := "(I)I" } : Jvm.MethodName)) ∈ tB := tB_2 148 rfl rfl
theorem tw_389 : (Jvm.Cond.code ({ cls := "NotePress$Series", name := "pressOf", desc := "(I)I" } : Jvm.MethodName) prog_5_method_6_code (3 : Nat) (Option.some Jvm.ClassFile.FieldType.int)) ∈ tB := tB_2 149 rfl rfl
theorem tw_390 : (Jvm.Cond.methodLink "NotePress$Series" (39 : Nat) ({ cls := "NotePress$Share", name := "hasNumber", desc := "(I)Z" } : Jvm.MethodName)) ∈ tB := tB_2 150 rfl rfl
theorem tw_391 : (Jvm.Cond.instanceMethod ({ cls := "NotePress$Share", name := "hasNumber", desc := "(I)Z" } : Jvm.MethodName)) ∈ tB := tB_2 151 rfl rfl
theorem tw_392 : (Jvm.Cond.selects "NotePress$Share" ({ cls := "NotePress$Share", name := "hasNumber", desc := "(I)Z" } : Jvm.MethodName) ({ cls := "NotePress$Share", name := "hasNumber", desc := "(I)Z" } : Jvm.MethodName)) ∈ tB := tB_2 152 rfl rfl
theorem tw_393 : (Jvm.Cond.code ({ cls := "NotePress$Share", name := "hasNumber", desc := "(I)Z" } : Jvm.MethodName) prog_6_method_5_code (2 : Nat) (Option.some Jvm.ClassFile.FieldType.boolean)) ∈ tB := tB_2 153 rfl rfl
theorem tw_394 : (Jvm.Cond.methodLink "NotePress$Series" (47 : Nat) ({ cls := "NotePress$Series", name := "shareAt", desc := "(I)LNotePress$Share;" } : Jvm.MethodName)) ∈ tB := tB_2 154 rfl rfl
theorem tw_395 : (Jvm.Cond.methodLink "NotePress$Series" (51 : Nat) ({ cls := "NotePress$Share", name := "sheetOf", desc := "(I)I" } : Jvm.MethodName)) ∈ tB := tB_2 155 rfl rfl
theorem tw_396 : (Jvm.Cond.instanceMethod ({ cls := "NotePress$Share", name := "sheetOf", desc := "(I)I" } : Jvm.MethodName)) ∈ tB := tB_2 156 rfl rfl
theorem tw_397 : (Jvm.Cond.selects "NotePress$Share" ({ cls := "NotePress$Share", name := "sheetOf", desc := "(I)I" } : Jvm.MethodName) ({ cls := "NotePress$Share", name := "sheetOf", desc := "(I)I" } : Jvm.MethodName)) ∈ tB := tB_2 157 rfl rfl
theorem tw_398 : (Jvm.Cond.code ({ cls := "NotePress$Share", name := "sheetOf", desc := "(I)I" } : Jvm.MethodName) prog_6_method_7_code (2 : Nat) (Option.some Jvm.ClassFile.FieldType.int)) ∈ tB := tB_2 158 rfl rfl
theorem tw_399 : (Jvm.Cond.methodLink "NotePress" (108 : Nat) ({ cls := "NotePress$Stars", name := "standsFor", desc := "(II)Z" } : Jvm.MethodName)) ∈ tB := tB_2 159 rfl rfl
theorem tw_400 : (Jvm.Cond.instanceMethod ({ cls := "NotePress$Stars", name := "standsFor", desc := "(II)Z" } : Jvm.MethodName)) ∈ tB := tB_2 160 rfl rfl
theorem tw_401 : (Jvm.Cond.selects "NotePress$Stars" ({ cls := "NotePress$Stars", name := "standsFor", desc := "(II)Z" } : Jvm.MethodName) ({ cls := "NotePress$Stars", name := "standsFor", desc := "(II)Z" } : Jvm.MethodName)) ∈ tB := tB_2 161 rfl rfl
theorem tw_402 : (Jvm.Cond.code ({ cls := "NotePress$Stars", name := "standsFor", desc := "(II)Z" } : Jvm.MethodName) prog_7_method_9_code (3 : Nat) (Option.some Jvm.ClassFile.FieldType.boolean)) ∈ tB := tB_2 162 rfl rfl
theorem tw_403 : (Jvm.Cond.methodLink "NotePress$Stars" (38 : Nat) ({ cls := "NotePress$Stars", name := "standingFor", desc := "(II)I" } : Jvm.MethodName)) ∈ tB := tB_2 163 rfl rfl
theorem tw_404 : (Jvm.Cond.instanceMethod ({ cls := "NotePress$Stars", name := "standingFor", desc := "(II)I" } : Jvm.MethodName)) ∈ tB := tB_2 164 rfl rfl
theorem tw_405 : (Jvm.Cond.selects "NotePress$Stars" ({ cls := "NotePress$Stars", name := "standingFor", desc := "(II)I" } : Jvm.MethodName) ({ cls := "NotePress$Stars", name := "standingFor", desc := "(II)I" } : Jvm.MethodName)) ∈ tB := tB_2 165 rfl rfl
theorem tw_406 : (Jvm.Cond.code ({ cls := "NotePress$Stars", name := "standingFor", desc := "(II)I" } : Jvm.MethodName) prog_7_method_8_code (4 : Nat) (Option.some Jvm.ClassFile.FieldType.int)) ∈ tB := tB_2 166 rfl rfl
theorem tw_407 : (Jvm.Cond.methodLink "NotePress" (112 : Nat) ({ cls := "NotePress$Stars", name := "left", desc := "()I" } : Jvm.MethodName)) ∈ tB := tB_2 167 rfl rfl
theorem tw_408 : (Jvm.Cond.instanceMethod ({ cls := "NotePress$Stars", name := "left", desc := "()I" } : Jvm.MethodName)) ∈ tB := tB_2 168 rfl rfl
theorem tw_409 : (Jvm.Cond.selects "NotePress$Stars" ({ cls := "NotePress$Stars", name := "left", desc := "()I" } : Jvm.MethodName) ({ cls := "NotePress$Stars", name := "left", desc := "()I" } : Jvm.MethodName)) ∈ tB := tB_2 169 rfl rfl
theorem tw_410 : (Jvm.Cond.code ({ cls := "NotePress$Stars", name := "left", desc := "()I" } : Jvm.MethodName) prog_7_method_3_code (1 : Nat) (Option.some Jvm.ClassFile.FieldType.int)) ∈ tB := tB_2 170 rfl rfl
theorem tw_411 : (Jvm.Cond.methodLink "NotePress" (115 : Nat) ({ cls := "NotePress$Stars", name := "standFor", desc := "(II)V" } : Jvm.MethodName)) ∈ tB := tB_2 171 rfl rfl
theorem tw_412 : (Jvm.Cond.instanceMethod ({ cls := "NotePress$Stars", name := "standFor", desc := "(II)V" } : Jvm.MethodName)) ∈ tB := tB_2 172 rfl rfl
theorem tw_413 : (Jvm.Cond.selects "NotePress$Stars" ({ cls := "NotePress$Stars", name := "standFor", desc := "(II)V" } : Jvm.MethodName) ({ cls := "NotePress$Stars", name := "standFor", desc := "(II)V" } : Jvm.MethodName)) ∈ tB := tB_2 173 rfl rfl
theorem tw_414 : (Jvm.Cond.code ({ cls := "NotePress$Stars", name := "standFor", desc := "(II)V" } : Jvm.MethodName) prog_7_method_4_code (3 : Nat) (Option.none : Option Jvm.ClassFile.FieldType)) ∈ tB := tB_2 174 rfl rfl
theorem tw_415 : (Jvm.Cond.methodLink "NotePress" (119 : Nat) ({ cls := "NotePress$Changes", name := "rememberSpoiled", desc := "(I)V" } : Jvm.MethodName)) ∈ tB := tB_2 175 rfl rfl
theorem tw_416 : (Jvm.Cond.instanceMethod ({ cls := "NotePress$Changes", name := "rememberSpoiled", desc := "(I)V" } : Jvm.MethodName)) ∈ tB := tB_2 176 rfl rfl
theorem tw_417 : (Jvm.Cond.selects "NotePress$Changes" ({ cls := "NotePress$Changes", name := "rememberSpoiled", desc := "(I)V" } : Jvm.MethodName) ({ cls := "NotePress$Changes", name := "rememberSpoiled", desc := "(I)V" } : Jvm.MethodName)) ∈ tB := tB_2 177 rfl rfl
theorem tw_418 : (Jvm.Cond.code ({ cls := "NotePress$Changes", name := "rememberSpoiled", desc := "(I)V" } : Jvm.MethodName) prog_2_method_4_code (2 : Nat) (Option.none : Option Jvm.ClassFile.FieldType)) ∈ tB := tB_2 178 rfl rfl
theorem tw_419 : (Jvm.Cond.methodLink "NotePressLaw" (41 : Nat) ({ cls := "NotePress", name := "spoilSheet", desc := "(III)I" } : Jvm.MethodName)) ∈ tB := tB_2 179 rfl rfl
theorem tw_420 : (Jvm.Cond.instanceMethod ({ cls := "NotePress", name := "spoilSheet", desc := "(III)I" } : Jvm.MethodName)) ∈ tB := tB_2 180 rfl rfl
theorem tw_421 : (Jvm.Cond.selects "NotePress" ({ cls := "NotePress", name := "spoilSheet", desc := "(III)I" } : Jvm.MethodName) ({ cls := "NotePress", name := "spoilSheet", desc := "(III)I" } : Jvm.MethodName)) ∈ tB := tB_2 181 rfl rfl
theorem tw_422 : (Jvm.Cond.code ({ cls := "NotePress", name := "spoilSheet", desc := "(III)I" } : Jvm.MethodName) prog_1_method_8_code (8 : Nat) (Option.some Jvm.ClassFile.FieldType.int)) ∈ tB := tB_2 182 rfl rfl
theorem tw_423 : (Jvm.Cond.methodLink "NotePress" (126 : Nat) ({ cls := "NotePress$Share", name := "hasSheet", desc := "(I)Z" } : Jvm.MethodName)) ∈ tB := tB_2 183 rfl rfl
theorem tw_424 : (Jvm.Cond.instanceMethod ({ cls := "NotePress$Share", name := "hasSheet", desc := "(I)Z" } : Jvm.MethodName)) ∈ tB := tB_2 184 rfl rfl
theorem tw_425 : (Jvm.Cond.selects "NotePress$Share" ({ cls := "NotePress$Share", name := "hasSheet", desc := "(I)Z" } : Jvm.MethodName) ({ cls := "NotePress$Share", name := "hasSheet", desc := "(I)Z" } : Jvm.MethodName)) ∈ tB := tB_2 185 rfl rfl
theorem tw_426 : (Jvm.Cond.code ({ cls := "NotePress$Share", name := "hasSheet", desc := "(I)Z" } : Jvm.MethodName) prog_6_method_4_code (2 : Nat) (Option.some Jvm.ClassFile.FieldType.boolean)) ∈ tB := tB_2 186 rfl rfl
theorem tw_428 : (Jvm.Cond.methodLink "NotePress" (129 : Nat) ({ cls := "NotePress", name := "unspoiledOfSheet", desc := "(ILNotePress$Share;I)I" } : Jvm.MethodName)) ∈ tB := tB_2 188 rfl rfl
theorem tw_430 : (Jvm.Cond.instanceMethod ({ cls := "NotePress", name := "unspoiledOfSheet", desc := "(ILNotePress$Share;I)I" } : Jvm.MethodName)) ∈ tB := tB_2 190 rfl rfl
theorem tw_431 : (Jvm.Cond.code ({ cls := "NotePress", name := "unspoiledOfSheet", desc := "(ILNotePress$Share;I)I" } : Jvm.MethodName) prog_1_method_24_code (6 : Nat) (Option.some Jvm.ClassFile.FieldType.int)) ∈ tB := tB_2 191 rfl rfl
theorem tw_432 : (Jvm.Cond.methodLink "NotePress" (133 : Nat) ({ cls := "NotePress$Share", name := "numberAt", desc := "(II)I" } : Jvm.MethodName)) ∈ tB := tB_2 192 rfl rfl
theorem tw_433 : (Jvm.Cond.instanceMethod ({ cls := "NotePress$Share", name := "numberAt", desc := "(II)I" } : Jvm.MethodName)) ∈ tB := tB_2 193 rfl rfl
theorem tw_434 : (Jvm.Cond.selects "NotePress$Share" ({ cls := "NotePress$Share", name := "numberAt", desc := "(II)I" } : Jvm.MethodName) ({ cls := "NotePress$Share", name := "numberAt", desc := "(II)I" } : Jvm.MethodName)) ∈ tB := tB_2 194 rfl rfl
theorem tw_435 : (Jvm.Cond.code ({ cls := "NotePress$Share", name := "numberAt", desc := "(II)I" } : Jvm.MethodName) prog_6_method_6_code (3 : Nat) (Option.some Jvm.ClassFile.FieldType.int)) ∈ tB := tB_2 195 rfl rfl
theorem tw_436 : (Jvm.Cond.methodLink "NotePressLaw" (45 : Nat) ({ cls := "NotePress", name := "undo", desc := "()I" } : Jvm.MethodName)) ∈ tB := tB_2 196 rfl rfl
theorem tw_437 : (Jvm.Cond.instanceMethod ({ cls := "NotePress", name := "undo", desc := "()I" } : Jvm.MethodName)) ∈ tB := tB_2 197 rfl rfl
theorem tw_438 : (Jvm.Cond.selects "NotePress" ({ cls := "NotePress", name := "undo", desc := "()I" } : Jvm.MethodName) ({ cls := "NotePress", name := "undo", desc := "()I" } : Jvm.MethodName)) ∈ tB := tB_2 198 rfl rfl
theorem tw_439 : (Jvm.Cond.code ({ cls := "NotePress", name := "undo", desc := "()I" } : Jvm.MethodName) prog_1_method_9_code (3 : Nat) (Option.some Jvm.ClassFile.FieldType.int)) ∈ tB := tB_2 199 rfl rfl
theorem tw_440 : (Jvm.Cond.methodLink "NotePress" (140 : Nat) ({ cls := "NotePress$Changes", name := "latestShare", desc := "()LNotePress$Share;" } : Jvm.MethodName)) ∈ tB := tB_2 200 rfl rfl
theorem tw_441 : (Jvm.Cond.instanceMethod ({ cls := "NotePress$Changes", name := "latestShare", desc := "()LNotePress$Share;" } : Jvm.MethodName)) ∈ tB := tB_2 201 rfl rfl
theorem tw_442 : (Jvm.Cond.selects "NotePress$Changes" ({ cls := "NotePress$Changes", name := "latestShare", desc := "()LNotePress$Share;" } : Jvm.MethodName) ({ cls := "NotePress$Changes", name := "latestShare", desc := "()LNotePress$Share;" } : Jvm.MethodName)) ∈ tB := tB_2 202 rfl rfl
theorem tw_443 : (Jvm.Cond.code ({ cls := "NotePress$Changes", name := "latestShare", desc := "()LNotePress$Share;" } : Jvm.MethodName) prog_2_method_7_code (1 : Nat) (Option.some (Jvm.ClassFile.FieldType.object "NotePress$Share"))) ∈ tB := tB_2 203 rfl rfl
theorem tw_444 : (Jvm.Cond.methodLink "NotePress" (144 : Nat) ({ cls := "NotePress$Changes", name := "latestAmount", desc := "()I" } : Jvm.MethodName)) ∈ tB := tB_2 204 rfl rfl
theorem tw_445 : (Jvm.Cond.instanceMethod ({ cls := "NotePress$Changes", name := "latestAmount", desc := "()I" } : Jvm.MethodName)) ∈ tB := tB_2 205 rfl rfl
theorem tw_446 : (Jvm.Cond.selects "NotePress$Changes" ({ cls := "NotePress$Changes", name := "latestAmount", desc := "()I" } : Jvm.MethodName) ({ cls := "NotePress$Changes", name := "latestAmount", desc := "()I" } : Jvm.MethodName)) ∈ tB := tB_2 206 rfl rfl
theorem tw_447 : (Jvm.Cond.code ({ cls := "NotePress$Changes", name := "latestAmount", desc := "()I" } : Jvm.MethodName) prog_2_method_8_code (1 : Nat) (Option.some Jvm.ClassFile.FieldType.int)) ∈ tB := tB_2 207 rfl rfl
theorem tw_448 : (Jvm.Cond.methodLink "NotePress" (147 : Nat) ({ cls := "NotePress$Stars", name := "takeBack", desc := "(I)V" } : Jvm.MethodName)) ∈ tB := tB_2 208 rfl rfl
theorem tw_449 : (Jvm.Cond.instanceMethod ({ cls := "NotePress$Stars", name := "takeBack", desc := "(I)V" } : Jvm.MethodName)) ∈ tB := tB_2 209 rfl rfl
theorem tw_450 : (Jvm.Cond.selects "NotePress$Stars" ({ cls := "NotePress$Stars", name := "takeBack", desc := "(I)V" } : Jvm.MethodName) ({ cls := "NotePress$Stars", name := "takeBack", desc := "(I)V" } : Jvm.MethodName)) ∈ tB := tB_2 210 rfl rfl
theorem tw_451 : (Jvm.Cond.code ({ cls := "NotePress$Stars", name := "takeBack", desc := "(I)V" } : Jvm.MethodName) prog_7_method_5_code (2 : Nat) (Option.none : Option Jvm.ClassFile.FieldType)) ∈ tB := tB_2 211 rfl rfl
theorem tw_452 : (Jvm.Cond.methodLink "NotePress$Stars" (31 : Nat) ({ cls := "java/lang/Math", name := "max", desc := "(II)I" } : Jvm.MethodName)) ∈ tB := tB_2 212 rfl rfl
theorem tw_453 : (Jvm.Cond.static ({ cls := "java/lang/Math", name := "max", desc := "(II)I" } : Jvm.MethodName)) ∈ tB := tB_2 213 rfl rfl
theorem tw_454 : (Jvm.Cond.code ({ cls := "java/lang/Math", name := "max", desc := "(II)I" } : Jvm.MethodName) prog_11_method_65_code (2 : Nat) (Option.some Jvm.ClassFile.FieldType.int)) ∈ tB := tB_2 214 rfl rfl
theorem tw_455 : (Jvm.Cond.methodLink "NotePress" (150 : Nat) ({ cls := "NotePress$Changes", name := "forgetLatest", desc := "()V" } : Jvm.MethodName)) ∈ tB := tB_2 215 rfl rfl
theorem tw_456 : (Jvm.Cond.instanceMethod ({ cls := "NotePress$Changes", name := "forgetLatest", desc := "()V" } : Jvm.MethodName)) ∈ tB := tB_2 216 rfl rfl
theorem tw_457 : (Jvm.Cond.selects "NotePress$Changes" ({ cls := "NotePress$Changes", name := "forgetLatest", desc := "()V" } : Jvm.MethodName) ({ cls := "NotePress$Changes", name := "forgetLatest", desc := "()V" } : Jvm.MethodName)) ∈ tB := tB_2 217 rfl rfl
theorem tw_458 : (Jvm.Cond.code ({ cls := "NotePress$Changes", name := "forgetLatest", desc := "()V" } : Jvm.MethodName) prog_2_method_9_code (1 : Nat) (Option.none : Option Jvm.ClassFile.FieldType)) ∈ tB := tB_2 218 rfl rfl
theorem tw_459 : (Jvm.Cond.methodLink "NotePress$Changes" (32 : Nat) ({ cls := "java/lang/Math", name := "max", desc := "(II)I" } : Jvm.MethodName)) ∈ tB := tB_2 219 rfl rfl
theorem tw_460 : (Jvm.Cond.methodLink "NotePressLaw" (49 : Nat) ({ cls := "NotePress", name := "series", desc := "(II)I" } : Jvm.MethodName)) ∈ tB := tB_2 220 rfl rfl
theorem tw_461 : (Jvm.Cond.instanceMethod ({ cls := "NotePress", name := "series", desc := "(II)I" } : Jvm.MethodName)) ∈ tB := tB_2 221 rfl rfl
theorem tw_462 : (Jvm.Cond.selects "NotePress" ({ cls := "NotePress", name := "series", desc := "(II)I" } : Jvm.MethodName) ({ cls := "NotePress", name := "series", desc := "(II)I" } : Jvm.MethodName)) ∈ tB := tB_2 222 rfl rfl
theorem tw_463 : (Jvm.Cond.code ({ cls := "NotePress", name := "series", desc := "(II)I" } : Jvm.MethodName) prog_1_method_10_code (4 : Nat) (Option.some Jvm.ClassFile.FieldType.int)) ∈ tB := tB_2 223 rfl rfl
theorem tw_464 : (Jvm.Cond.methodLink "NotePress" (162 : Nat) ({ cls := "NotePress$Series", name := "notesPrinted", desc := "()I" } : Jvm.MethodName)) ∈ tB := tB_2 224 rfl rfl
theorem tw_465 : (Jvm.Cond.instanceMethod ({ cls := "NotePress$Series", name := "notesPrinted", desc := "()I" } : Jvm.MethodName)) ∈ tB := tB_2 225 rfl rfl
theorem tw_466 : (Jvm.Cond.selects "NotePress$Series" ({ cls := "NotePress$Series", name := "notesPrinted", desc := "()I" } : Jvm.MethodName) ({ cls := "NotePress$Series", name := "notesPrinted", desc := "()I" } : Jvm.MethodName)) ∈ tB := tB_2 226 rfl rfl
theorem tw_467 : (Jvm.Cond.code ({ cls := "NotePress$Series", name := "notesPrinted", desc := "()I" } : Jvm.MethodName) prog_5_method_8_code (3 : Nat) (Option.some Jvm.ClassFile.FieldType.int)) ∈ tB := tB_2 227 rfl rfl
theorem tw_468 : (Jvm.Cond.methodLink "NotePress" (165 : Nat) ({ cls := "NotePress$Stars", name := "standingForSeries", desc := "(I)I" } : Jvm.MethodName)) ∈ tB := tB_2 228 rfl rfl
theorem tw_469 : (Jvm.Cond.instanceMethod ({ cls := "NotePress$Stars", name := "standingForSeries", desc := "(I)I" } : Jvm.MethodName)) ∈ tB := tB_2 229 rfl rfl
theorem tw_470 : (Jvm.Cond.selects "NotePress$Stars" ({ cls := "NotePress$Stars", name := "standingForSeries", desc := "(I)I" } : Jvm.MethodName) ({ cls := "NotePress$Stars", name := "standingForSeries", desc := "(I)I" } : Jvm.MethodName)) ∈ tB := tB_2 230 rfl rfl
theorem tw_471 : (Jvm.Cond.code ({ cls := "NotePress$Stars", name := "standingForSeries", desc := "(I)I" } : Jvm.MethodName) prog_7_method_10_code (4 : Nat) (Option.some Jvm.ClassFile.FieldType.int)) ∈ tB := tB_2 231 rfl rfl
theorem tw_472 : (Jvm.Cond.methodLink "NotePress" (169 : Nat) ({ cls := "NotePress$Series", name := "sheetsLeft", desc := "()I" } : Jvm.MethodName)) ∈ tB := tB_2 232 rfl rfl
theorem tw_473 : (Jvm.Cond.instanceMethod ({ cls := "NotePress$Series", name := "sheetsLeft", desc := "()I" } : Jvm.MethodName)) ∈ tB := tB_2 233 rfl rfl
theorem tw_474 : (Jvm.Cond.selects "NotePress$Series" ({ cls := "NotePress$Series", name := "sheetsLeft", desc := "()I" } : Jvm.MethodName) ({ cls := "NotePress$Series", name := "sheetsLeft", desc := "()I" } : Jvm.MethodName)) ∈ tB := tB_2 234 rfl rfl
theorem tw_475 : (Jvm.Cond.code ({ cls := "NotePress$Series", name := "sheetsLeft", desc := "()I" } : Jvm.MethodName) prog_5_method_10_code (3 : Nat) (Option.some Jvm.ClassFile.FieldType.int)) ∈ tB := tB_2 235 rfl rfl
theorem tw_476 : (Jvm.Cond.methodLink "NotePress$Series" (60 : Nat) ({ cls := "NotePress$Share", name := "sheetsLeft", desc := "()I" } : Jvm.MethodName)) ∈ tB := tB_2 236 rfl rfl
theorem tw_477 : (Jvm.Cond.methodLink "NotePress" (170 : Nat) ({ cls := "NotePress$Series", name := "packs", desc := "()I" } : Jvm.MethodName)) ∈ tB := tB_2 237 rfl rfl
theorem tw_478 : (Jvm.Cond.instanceMethod ({ cls := "NotePress$Series", name := "packs", desc := "()I" } : Jvm.MethodName)) ∈ tB := tB_2 238 rfl rfl
theorem tw_479 : (Jvm.Cond.selects "NotePress$Series" ({ cls := "NotePress$Series", name := "packs", desc := "()I" } : Jvm.MethodName) ({ cls := "NotePress$Series", name := "packs", desc := "()I" } : Jvm.MethodName)) ∈ tB := tB_2 239 rfl rfl
theorem tw_480 : (Jvm.Cond.code ({ cls := "NotePress$Series", name := "packs", desc := "()I" } : Jvm.MethodName) prog_5_method_11_code (1 : Nat) (Option.some Jvm.ClassFile.FieldType.int)) ∈ tB := tB_3 0 rfl rfl
theorem tw_481 : (Jvm.Cond.methodLink "NotePress" (173 : Nat) ({ cls := "NotePress$Series", name := "wholePacks", desc := "()I" } : Jvm.MethodName)) ∈ tB := tB_3 1 rfl rfl
theorem tw_482 : (Jvm.Cond.instanceMethod ({ cls := "NotePress$Series", name := "wholePacks", desc := "()I" } : Jvm.MethodName)) ∈ tB := tB_3 2 rfl rfl
theorem tw_483 : (Jvm.Cond.selects "NotePress$Series" ({ cls := "NotePress$Series", name := "wholePacks", desc := "()I" } : Jvm.MethodName) ({ cls := "NotePress$Series", name := "wholePacks", desc := "()I" } : Jvm.MethodName)) ∈ tB := tB_3 3 rfl rfl
theorem tw_484 : (Jvm.Cond.code ({ cls := "NotePress$Series", name := "wholePacks", desc := "()I" } : Jvm.MethodName) prog_5_method_13_code (3 : Nat) (Option.some Jvm.ClassFile.FieldType.int)) ∈ tB := tB_3 4 rfl rfl
theorem tw_485 : (Jvm.Cond.methodLink "NotePress$Series" (73 : Nat) ({ cls := "NotePress$Series", name := "packs", desc := "()I" } : Jvm.MethodName)) ∈ tB := tB_3 5 rfl rfl
theorem tw_486 : (Jvm.Cond.methodLink "NotePress$Series" (76 : Nat) ({ cls := "NotePress$Series", name := "isWhole", desc := "(I)Z" } : Jvm.MethodName)) ∈ tB := tB_3 6 rfl rfl
theorem tw_487 : (Jvm.Cond.instanceMethod ({ cls := "NotePress$Series", name := "isWhole", desc := "(I)Z" } : Jvm.MethodName)) ∈ tB := tB_3 7 rfl rfl
theorem tw_488 : (Jvm.Cond.selects "NotePress$Series" ({ cls := "NotePress$Series", name := "isWhole", desc := "(I)Z" } : Jvm.MethodName) ({ cls := "NotePress$Series", name := "isWhole", desc := "(I)Z" } : Jvm.MethodName)) ∈ tB := tB_3 8 rfl rfl
theorem tw_489 : (Jvm.Cond.code ({ cls := "NotePress$Series", name := "isWhole", desc := "(I)Z" } : Jvm.MethodName) prog_5_method_12_code (4 : Nat) (Option.some Jvm.ClassFile.FieldType.boolean)) ∈ tB := tB_3 9 rfl rfl
theorem tw_490 : (Jvm.Cond.methodLink "NotePress$Series" (64 : Nat) ({ cls := "java/lang/Math", name := "min", desc := "(II)I" } : Jvm.MethodName)) ∈ tB := tB_3 10 rfl rfl
theorem tw_491 : (Jvm.Cond.methodLink "NotePress$Series" (70 : Nat) ({ cls := "NotePress$Series", name := "isPrinted", desc := "(I)Z" } : Jvm.MethodName)) ∈ tB := tB_3 11 rfl rfl
theorem tw_492 : (Jvm.Cond.methodLink "NotePressLaw" (53 : Nat) ({ cls := "NotePress", name := "share", desc := "(III)I" } : Jvm.MethodName)) ∈ tB := tB_3 12 rfl rfl
theorem tw_493 : (Jvm.Cond.instanceMethod ({ cls := "NotePress", name := "share", desc := "(III)I" } : Jvm.MethodName)) ∈ tB := tB_3 13 rfl rfl
theorem tw_494 : (Jvm.Cond.selects "NotePress" ({ cls := "NotePress", name := "share", desc := "(III)I" } : Jvm.MethodName) ({ cls := "NotePress", name := "share", desc := "(III)I" } : Jvm.MethodName)) ∈ tB := tB_3 14 rfl rfl
theorem tw_495 : (Jvm.Cond.code ({ cls := "NotePress", name := "share", desc := "(III)I" } : Jvm.MethodName) prog_1_method_11_code (5 : Nat) (Option.some Jvm.ClassFile.FieldType.int)) ∈ tB := tB_3 15 rfl rfl
theorem tw_496 : (Jvm.Cond.methodLink "NotePressLaw" (57 : Nat) ({ cls := "NotePress", name := "where", desc := "(III)I" } : Jvm.MethodName)) ∈ tB := tB_3 16 rfl rfl
theorem tw_497 : (Jvm.Cond.instanceMethod ({ cls := "NotePress", name := "where", desc := "(III)I" } : Jvm.MethodName)) ∈ tB := tB_3 17 rfl rfl
theorem tw_498 : (Jvm.Cond.selects "NotePress" ({ cls := "NotePress", name := "where", desc := "(III)I" } : Jvm.MethodName) ({ cls := "NotePress", name := "where", desc := "(III)I" } : Jvm.MethodName)) ∈ tB := tB_3 18 rfl rfl
theorem tw_499 : (Jvm.Cond.code ({ cls := "NotePress", name := "where", desc := "(III)I" } : Jvm.MethodName) prog_1_method_12_code (7 : Nat) (Option.some Jvm.ClassFile.FieldType.int)) ∈ tB := tB_3 19 rfl rfl
theorem tw_500 : (Jvm.Cond.methodLink "NotePress" (182 : Nat) ({ cls := "NotePress$Series", name := "pressOf", desc := "(I)I" } : Jvm.MethodName)) ∈ tB := tB_3 20 rfl rfl
theorem tw_501 : (Jvm.Cond.methodLink "NotePress" (185 : Nat) ({ cls := "NotePress$Series", name := "shareAt", desc := "(I)LNotePress$Share;" } : Jvm.MethodName)) ∈ tB := tB_3 21 rfl rfl
theorem tw_502 : (Jvm.Cond.methodLink "NotePress" (188 : Nat) ({ cls := "NotePress$Share", name := "sheetOf", desc := "(I)I" } : Jvm.MethodName)) ∈ tB := tB_3 22 rfl rfl
theorem tw_503 : (Jvm.Cond.methodLink "NotePress" (191 : Nat) ({ cls := "NotePress$Share", name := "placeOf", desc := "(I)I" } : Jvm.MethodName)) ∈ tB := tB_3 23 rfl rfl
theorem tw_504 : (Jvm.Cond.instanceMethod ({ cls := "NotePress$Share", name := "placeOf", desc := "(I)I" } : Jvm.MethodName)) ∈ tB := tB_3 24 rfl rfl
theorem tw_505 : (Jvm.Cond.selects "NotePress$Share" ({ cls := "NotePress$Share", name := "placeOf", desc := "(I)I" } : Jvm.MethodName) ({ cls := "NotePress$Share", name := "placeOf", desc := "(I)I" } : Jvm.MethodName)) ∈ tB := tB_3 25 rfl rfl
theorem tw_506 : (Jvm.Cond.code ({ cls := "NotePress$Share", name := "placeOf", desc := "(I)I" } : Jvm.MethodName) prog_6_method_8_code (2 : Nat) (Option.some Jvm.ClassFile.FieldType.int)) ∈ tB := tB_3 26 rfl rfl
theorem tw_507 : (Jvm.Cond.methodLink "NotePressLaw" (61 : Nat) ({ cls := "NotePress", name := "number", desc := "(IIII)I" } : Jvm.MethodName)) ∈ tB := tB_3 27 rfl rfl
theorem tw_508 : (Jvm.Cond.instanceMethod ({ cls := "NotePress", name := "number", desc := "(IIII)I" } : Jvm.MethodName)) ∈ tB := tB_3 28 rfl rfl
theorem tw_509 : (Jvm.Cond.selects "NotePress" ({ cls := "NotePress", name := "number", desc := "(IIII)I" } : Jvm.MethodName) ({ cls := "NotePress", name := "number", desc := "(IIII)I" } : Jvm.MethodName)) ∈ tB := tB_3 29 rfl rfl
theorem tw_510 : (Jvm.Cond.code ({ cls := "NotePress", name := "number", desc := "(IIII)I" } : Jvm.MethodName) prog_1_method_13_code (6 : Nat) (Option.some Jvm.ClassFile.FieldType.int)) ∈ tB := tB_3 30 rfl rfl
theorem tw_511 : (Jvm.Cond.methodLink "NotePressLaw" (66 : Nat) ({ cls := "NotePress", name := "check", desc := "(II)I" } : Jvm.MethodName)) ∈ tB := tB_3 31 rfl rfl
theorem tw_512 : (Jvm.Cond.instanceMethod ({ cls := "NotePress", name := "check", desc := "(II)I" } : Jvm.MethodName)) ∈ tB := tB_3 32 rfl rfl
theorem tw_513 : (Jvm.Cond.selects "NotePress" ({ cls := "NotePress", name := "check", desc := "(II)I" } : Jvm.MethodName) ({ cls := "NotePress", name := "check", desc := "(II)I" } : Jvm.MethodName)) ∈ tB := tB_3 33 rfl rfl
theorem tw_514 : (Jvm.Cond.code ({ cls := "NotePress", name := "check", desc := "(II)I" } : Jvm.MethodName) prog_1_method_14_code (4 : Nat) (Option.some Jvm.ClassFile.FieldType.int)) ∈ tB := tB_3 34 rfl rfl
theorem tw_515 : (Jvm.Cond.methodLink "NotePress" (194 : Nat) ({ cls := "NotePress$Checks", name := "ofNumber", desc := "(III)I" } : Jvm.MethodName)) ∈ tB := tB_3 35 rfl rfl
theorem tw_516 : (Jvm.Cond.static ({ cls := "NotePress$Checks", name := "ofNumber", desc := "(III)I" } : Jvm.MethodName)) ∈ tB := tB_3 36 rfl rfl
theorem tw_517 : (Jvm.Cond.code ({ cls := "NotePress$Checks", name := "ofNumber", desc := "(III)I" } : Jvm.MethodName) prog_3_method_2_code (3 : Nat) (Option.some Jvm.ClassFile.FieldType.int)) ∈ tB := tB_3 37 rfl rfl
theorem tw_518 : (Jvm.Cond.methodLink "NotePress$Checks" (7 : Nat) ({ cls := "NotePress$Checks", name := "ofFigures", desc := "(IIIII)I" } : Jvm.MethodName)) ∈ tB := tB_3 38 rfl rfl
theorem tw_519 : (Jvm.Cond.static ({ cls := "NotePress$Checks", name := "ofFigures", desc := "(IIIII)I" } : Jvm.MethodName)) ∈ tB := tB_3 39 rfl rfl
theorem tw_520 : (Jvm.Cond.code ({ cls := "NotePress$Checks", name := "ofFigures", desc := "(IIIII)I" } : Jvm.MethodName) prog_3_method_6_code (5 : Nat) (Option.some Jvm.ClassFile.FieldType.int)) ∈ tB := tB_3 40 rfl rfl
theorem tw_521 : (Jvm.Cond.methodLink "NotePress$Checks" (17 : Nat) ({ cls := "java/lang/Math", name := "floorMod", desc := "(II)I" } : Jvm.MethodName)) ∈ tB := tB_3 41 rfl rfl
theorem tw_522 : (Jvm.Cond.static ({ cls := "java/lang/Math", name := "floorMod", desc := "(II)I" } : Jvm.MethodName)) ∈ tB := tB_3 42 rfl rfl
theorem tw_523 : (Jvm.Cond.code ({ cls := "java/lang/Math", name := "floorMod", desc := "(II)I" } : Jvm.MethodName) prog_11_method_50_code (3 : Nat) (Option.some Jvm.ClassFile.FieldType.int)) ∈ tB := tB_3 43 rfl rfl
theorem tw_524 : (Jvm.Cond.methodLink "NotePress$Checks" (23 : Nat) ({ cls := "NotePress$Checks", name := "byTurns", desc := "(IIII)I" } : Jvm.MethodName)) ∈ tB := tB_3 44 rfl rfl
theorem tw_525 : (Jvm.Cond.static ({ cls := "NotePress$Checks", name := "byTurns", desc := "(IIII)I" } : Jvm.MethodName)) ∈ tB := tB_3 45 rfl rfl
theorem tw_526 : (Jvm.Cond.code ({ cls := "NotePress$Checks", name := "byTurns", desc := "(IIII)I" } : Jvm.MethodName) prog_3_method_7_code (5 : Nat) (Option.some Jvm.ClassFile.FieldType.int)) ∈ tB := tB_3 46 rfl rfl
theorem tw_527 : (Jvm.Cond.methodLink "NotePress$Checks" (27 : Nat) ({ cls := "NotePress$Checks", name := "turned", desc := "(II)I" } : Jvm.MethodName)) ∈ tB := tB_3 47 rfl rfl
theorem tw_528 : (Jvm.Cond.static ({ cls := "NotePress$Checks", name := "turned", desc := "(II)I" } : Jvm.MethodName)) ∈ tB := tB_3 48 rfl rfl
theorem tw_529 : (Jvm.Cond.code ({ cls := "NotePress$Checks", name := "turned", desc := "(II)I" } : Jvm.MethodName) prog_3_method_9_code (4 : Nat) (Option.some Jvm.ClassFile.FieldType.int)) ∈ tB := tB_3 49 rfl rfl
theorem tw_531 : (Jvm.Cond.fieldLink "NotePress$Checks" (39 : Nat) "NotePress$Checks" "TURNED" "[I") ∈ tB := tB_3 51 rfl rfl
theorem tw_533 : (Jvm.Cond.methodLink "NotePress$Checks" (30 : Nat) ({ cls := "NotePress$Checks", name := "make", desc := "(II)I" } : Jvm.MethodName)) ∈ tB := tB_3 53 rfl rfl
theorem tw_534 : (Jvm.Cond.static ({ cls := "NotePress$Checks", name := "make", desc := "(II)I" } : Jvm.MethodName)) ∈ tB := tB_3 54 rfl rfl
theorem tw_535 : (Jvm.Cond.code ({ cls := "NotePress$Checks", name := "make", desc := "(II)I" } : Jvm.MethodName) prog_3_method_8_code (3 : Nat) (Option.some Jvm.ClassFile.FieldType.int)) ∈ tB := tB_3 55 rfl rfl
theorem tw_536 : (Jvm.Cond.methodLink "NotePressLaw" (70 : Nat) ({ cls := "NotePress", name := "missed", desc := "(III)I" } : Jvm.MethodName)) ∈ tB := tB_3 56 rfl rfl
theorem tw_537 : (Jvm.Cond.instanceMethod ({ cls := "NotePress", name := "missed", desc := "(III)I" } : Jvm.MethodName)) ∈ tB := tB_3 57 rfl rfl
theorem tw_538 : (Jvm.Cond.selects "NotePress" ({ cls := "NotePress", name := "missed", desc := "(III)I" } : Jvm.MethodName) ({ cls := "NotePress", name := "missed", desc := "(III)I" } : Jvm.MethodName)) ∈ tB := tB_3 58 rfl rfl
theorem tw_539 : (Jvm.Cond.code ({ cls := "NotePress", name := "missed", desc := "(III)I" } : Jvm.MethodName) prog_1_method_15_code (5 : Nat) (Option.some Jvm.ClassFile.FieldType.int)) ∈ tB := tB_3 59 rfl rfl
theorem tw_540 : (Jvm.Cond.methodLink "NotePress" (200 : Nat) ({ cls := "NotePress$Checks", name := "missedFigures", desc := "(III)I" } : Jvm.MethodName)) ∈ tB := tB_3 60 rfl rfl
theorem tw_541 : (Jvm.Cond.static ({ cls := "NotePress$Checks", name := "missedFigures", desc := "(III)I" } : Jvm.MethodName)) ∈ tB := tB_3 61 rfl rfl
theorem tw_542 : (Jvm.Cond.code ({ cls := "NotePress$Checks", name := "missedFigures", desc := "(III)I" } : Jvm.MethodName) prog_3_method_4_code (9 : Nat) (Option.some Jvm.ClassFile.FieldType.int)) ∈ tB := tB_3 62 rfl rfl
theorem tw_543 : (Jvm.Cond.methodLink "NotePress" (203 : Nat) ({ cls := "NotePress$Checks", name := "missedSwaps", desc := "(III)I" } : Jvm.MethodName)) ∈ tB := tB_3 63 rfl rfl
theorem tw_544 : (Jvm.Cond.static ({ cls := "NotePress$Checks", name := "missedSwaps", desc := "(III)I" } : Jvm.MethodName)) ∈ tB := tB_3 64 rfl rfl
theorem tw_545 : (Jvm.Cond.code ({ cls := "NotePress$Checks", name := "missedSwaps", desc := "(III)I" } : Jvm.MethodName) prog_3_method_5_code (8 : Nat) (Option.some Jvm.ClassFile.FieldType.int)) ∈ tB := tB_3 65 rfl rfl
theorem tw_546 : (Jvm.Cond.methodLink "NotePressLaw" (74 : Nat) ({ cls := "NotePress", name := "note", desc := "(II)I" } : Jvm.MethodName)) ∈ tB := tB_3 66 rfl rfl
theorem tw_547 : (Jvm.Cond.instanceMethod ({ cls := "NotePress", name := "note", desc := "(II)I" } : Jvm.MethodName)) ∈ tB := tB_3 67 rfl rfl
theorem tw_548 : (Jvm.Cond.selects "NotePress" ({ cls := "NotePress", name := "note", desc := "(II)I" } : Jvm.MethodName) ({ cls := "NotePress", name := "note", desc := "(II)I" } : Jvm.MethodName)) ∈ tB := tB_3 68 rfl rfl
theorem tw_549 : (Jvm.Cond.code ({ cls := "NotePress", name := "note", desc := "(II)I" } : Jvm.MethodName) prog_1_method_16_code (4 : Nat) (Option.some Jvm.ClassFile.FieldType.int)) ∈ tB := tB_3 69 rfl rfl
theorem tw_550 : (Jvm.Cond.methodLink "NotePressLaw" (78 : Nat) ({ cls := "NotePress", name := "star", desc := "(II)I" } : Jvm.MethodName)) ∈ tB := tB_3 70 rfl rfl
theorem tw_551 : (Jvm.Cond.instanceMethod ({ cls := "NotePress", name := "star", desc := "(II)I" } : Jvm.MethodName)) ∈ tB := tB_3 71 rfl rfl
theorem tw_552 : (Jvm.Cond.selects "NotePress" ({ cls := "NotePress", name := "star", desc := "(II)I" } : Jvm.MethodName) ({ cls := "NotePress", name := "star", desc := "(II)I" } : Jvm.MethodName)) ∈ tB := tB_3 72 rfl rfl
theorem tw_553 : (Jvm.Cond.code ({ cls := "NotePress", name := "star", desc := "(II)I" } : Jvm.MethodName) prog_1_method_17_code (3 : Nat) (Option.some Jvm.ClassFile.FieldType.int)) ∈ tB := tB_3 73 rfl rfl
theorem tw_554 : (Jvm.Cond.methodLink "NotePress" (209 : Nat) ({ cls := "NotePress$Stars", name := "seriesOf", desc := "(I)I" } : Jvm.MethodName)) ∈ tB := tB_3 74 rfl rfl
theorem tw_555 : (Jvm.Cond.instanceMethod ({ cls := "NotePress$Stars", name := "seriesOf", desc := "(I)I" } : Jvm.MethodName)) ∈ tB := tB_3 75 rfl rfl
theorem tw_556 : (Jvm.Cond.selects "NotePress$Stars" ({ cls := "NotePress$Stars", name := "seriesOf", desc := "(I)I" } : Jvm.MethodName) ({ cls := "NotePress$Stars", name := "seriesOf", desc := "(I)I" } : Jvm.MethodName)) ∈ tB := tB_3 76 rfl rfl
theorem tw_557 : (Jvm.Cond.code ({ cls := "NotePress$Stars", name := "seriesOf", desc := "(I)I" } : Jvm.MethodName) prog_7_method_6_code (2 : Nat) (Option.some Jvm.ClassFile.FieldType.int)) ∈ tB := tB_3 77 rfl rfl
theorem tw_559 : (Jvm.Cond.methodLink "NotePress" (212 : Nat) ({ cls := "NotePress$Stars", name := "numberOf", desc := "(I)I" } : Jvm.MethodName)) ∈ tB := tB_3 79 rfl rfl
theorem tw_560 : (Jvm.Cond.instanceMethod ({ cls := "NotePress$Stars", name := "numberOf", desc := "(I)I" } : Jvm.MethodName)) ∈ tB := tB_3 80 rfl rfl
theorem tw_561 : (Jvm.Cond.selects "NotePress$Stars" ({ cls := "NotePress$Stars", name := "numberOf", desc := "(I)I" } : Jvm.MethodName) ({ cls := "NotePress$Stars", name := "numberOf", desc := "(I)I" } : Jvm.MethodName)) ∈ tB := tB_3 81 rfl rfl
theorem tw_562 : (Jvm.Cond.code ({ cls := "NotePress$Stars", name := "numberOf", desc := "(I)I" } : Jvm.MethodName) prog_7_method_7_code (2 : Nat) (Option.some Jvm.ClassFile.FieldType.int)) ∈ tB := tB_3 82 rfl rfl
theorem tw_563 : (Jvm.Cond.methodLink "NotePress" (215 : Nat) ({ cls := "NotePress$Checks", name := "ofStar", desc := "(I)I" } : Jvm.MethodName)) ∈ tB := tB_3 83 rfl rfl
theorem tw_564 : (Jvm.Cond.static ({ cls := "NotePress$Checks", name := "ofStar", desc := "(I)I" } : Jvm.MethodName)) ∈ tB := tB_3 84 rfl rfl
theorem tw_565 : (Jvm.Cond.code ({ cls := "NotePress$Checks", name := "ofStar", desc := "(I)I" } : Jvm.MethodName) prog_3_method_3_code (1 : Nat) (Option.some Jvm.ClassFile.FieldType.int)) ∈ tB := tB_3 85 rfl rfl
theorem tw_566 : (Jvm.Cond.methodLink "NotePress$Checks" (13 : Nat) ({ cls := "NotePress$Checks", name := "ofNumber", desc := "(III)I" } : Jvm.MethodName)) ∈ tB := tB_3 86 rfl rfl
theorem tw_567 : (Jvm.Cond.methodLink "NotePressLaw" (82 : Nat) ({ cls := "NotePress", name := "starOf", desc := "(II)I" } : Jvm.MethodName)) ∈ tB := tB_3 87 rfl rfl
theorem tw_568 : (Jvm.Cond.instanceMethod ({ cls := "NotePress", name := "starOf", desc := "(II)I" } : Jvm.MethodName)) ∈ tB := tB_3 88 rfl rfl
theorem tw_569 : (Jvm.Cond.selects "NotePress" ({ cls := "NotePress", name := "starOf", desc := "(II)I" } : Jvm.MethodName) ({ cls := "NotePress", name := "starOf", desc := "(II)I" } : Jvm.MethodName)) ∈ tB := tB_3 89 rfl rfl
theorem tw_570 : (Jvm.Cond.code ({ cls := "NotePress", name := "starOf", desc := "(II)I" } : Jvm.MethodName) prog_1_method_18_code (4 : Nat) (Option.some Jvm.ClassFile.FieldType.int)) ∈ tB := tB_3 90 rfl rfl
theorem tw_571 : (Jvm.Cond.methodLink "NotePress" (218 : Nat) ({ cls := "NotePress$Stars", name := "standingFor", desc := "(II)I" } : Jvm.MethodName)) ∈ tB := tB_3 91 rfl rfl
theorem tw_572 : (Jvm.Cond.methodLink "NotePressLaw" (86 : Nat) ({ cls := "NotePress", name := "judge", desc := "(III)I" } : Jvm.MethodName)) ∈ tB := tB_3 92 rfl rfl
theorem tw_573 : (Jvm.Cond.instanceMethod ({ cls := "NotePress", name := "judge", desc := "(III)I" } : Jvm.MethodName)) ∈ tB := tB_3 93 rfl rfl
theorem tw_574 : (Jvm.Cond.selects "NotePress" ({ cls := "NotePress", name := "judge", desc := "(III)I" } : Jvm.MethodName) ({ cls := "NotePress", name := "judge", desc := "(III)I" } : Jvm.MethodName)) ∈ tB := tB_3 94 rfl rfl
theorem tw_575 : (Jvm.Cond.code ({ cls := "NotePress", name := "judge", desc := "(III)I" } : Jvm.MethodName) prog_1_method_19_code (4 : Nat) (Option.some Jvm.ClassFile.FieldType.int)) ∈ tB := tB_3 95 rfl rfl
theorem tw_576 : (Jvm.Cond.methodLink "NotePress" (221 : Nat) ({ cls := "NotePress", name := "judgeStar", desc := "(II)I" } : Jvm.MethodName)) ∈ tB := tB_3 96 rfl rfl
theorem tw_578 : (Jvm.Cond.instanceMethod ({ cls := "NotePress", name := "judgeStar", desc := "(II)I" } : Jvm.MethodName)) ∈ tB := tB_3 98 rfl rfl
theorem tw_579 : (Jvm.Cond.code ({ cls := "NotePress", name := "judgeStar", desc := "(II)I" } : Jvm.MethodName) prog_1_method_25_code (3 : Nat) (Option.some Jvm.ClassFile.FieldType.int)) ∈ tB := tB_3 99 rfl rfl
theorem tw_580 : (Jvm.Cond.methodLink "NotePress" (224 : Nat) ({ cls := "NotePress", name := "judgeNote", desc := "(III)I" } : Jvm.MethodName)) ∈ tB := tB_3 100 rfl rfl
theorem tw_582 : (Jvm.Cond.instanceMethod ({ cls := "NotePress", name := "judgeNote", desc := "(III)I" } : Jvm.MethodName)) ∈ tB := tB_3 102 rfl rfl
theorem tw_583 : (Jvm.Cond.code ({ cls := "NotePress", name := "judgeNote", desc := "(III)I" } : Jvm.MethodName) prog_1_method_26_code (6 : Nat) (Option.some Jvm.ClassFile.FieldType.int)) ∈ tB := tB_3 103 rfl rfl
theorem tw_584 : (Jvm.Cond.methodLink "NotePress" (244 : Nat) ({ cls := "NotePress$Plan", name := "seriesOfLetter", desc := "(I)I" } : Jvm.MethodName)) ∈ tB := tB_3 104 rfl rfl
theorem tw_585 : (Jvm.Cond.methodLink "NotePressLaw" (90 : Nat) ({ cls := "NotePress", name := "pack", desc := "(III)I" } : Jvm.MethodName)) ∈ tB := tB_3 105 rfl rfl
theorem tw_586 : (Jvm.Cond.instanceMethod ({ cls := "NotePress", name := "pack", desc := "(III)I" } : Jvm.MethodName)) ∈ tB := tB_3 106 rfl rfl
theorem tw_587 : (Jvm.Cond.selects "NotePress" ({ cls := "NotePress", name := "pack", desc := "(III)I" } : Jvm.MethodName) ({ cls := "NotePress", name := "pack", desc := "(III)I" } : Jvm.MethodName)) ∈ tB := tB_3 107 rfl rfl
theorem tw_588 : (Jvm.Cond.code ({ cls := "NotePress", name := "pack", desc := "(III)I" } : Jvm.MethodName) prog_1_method_20_code (7 : Nat) (Option.some Jvm.ClassFile.FieldType.int)) ∈ tB := tB_3 108 rfl rfl
theorem tw_589 : (Jvm.Cond.methodLink "NotePress" (227 : Nat) ({ cls := "NotePress$Series", name := "isWhole", desc := "(I)Z" } : Jvm.MethodName)) ∈ tB := tB_3 109 rfl rfl
theorem tw_590 : (Jvm.Cond.methodLink "NotePressLaw" (94 : Nat) ({ cls := "NotePress", name := "count", desc := "(I)I" } : Jvm.MethodName)) ∈ tB := tB_3 110 rfl rfl
theorem tw_591 : (Jvm.Cond.instanceMethod ({ cls := "NotePress", name := "count", desc := "(I)I" } : Jvm.MethodName)) ∈ tB := tB_3 111 rfl rfl
theorem tw_592 : (Jvm.Cond.selects "NotePress" ({ cls := "NotePress", name := "count", desc := "(I)I" } : Jvm.MethodName) ({ cls := "NotePress", name := "count", desc := "(I)I" } : Jvm.MethodName)) ∈ tB := tB_3 112 rfl rfl
theorem tw_593 : (Jvm.Cond.code ({ cls := "NotePress", name := "count", desc := "(I)I" } : Jvm.MethodName) prog_1_method_21_code (2 : Nat) (Option.some Jvm.ClassFile.FieldType.int)) ∈ tB := tB_3 113 rfl rfl
theorem tw_594 : (Jvm.Cond.methodLink "NotePress" (233 : Nat) ({ cls := "NotePress$Plan", name := "notesPrinted", desc := "()I" } : Jvm.MethodName)) ∈ tB := tB_3 114 rfl rfl
theorem tw_595 : (Jvm.Cond.instanceMethod ({ cls := "NotePress$Plan", name := "notesPrinted", desc := "()I" } : Jvm.MethodName)) ∈ tB := tB_3 115 rfl rfl
theorem tw_596 : (Jvm.Cond.selects "NotePress$Plan" ({ cls := "NotePress$Plan", name := "notesPrinted", desc := "()I" } : Jvm.MethodName) ({ cls := "NotePress$Plan", name := "notesPrinted", desc := "()I" } : Jvm.MethodName)) ∈ tB := tB_3 116 rfl rfl
theorem tw_597 : (Jvm.Cond.code ({ cls := "NotePress$Plan", name := "notesPrinted", desc := "()I" } : Jvm.MethodName) prog_4_method_9_code (3 : Nat) (Option.some Jvm.ClassFile.FieldType.int)) ∈ tB := tB_3 117 rfl rfl
theorem tw_598 : (Jvm.Cond.methodLink "NotePress$Plan" (47 : Nat) ({ cls := "NotePress$Series", name := "notesPrinted", desc := "()I" } : Jvm.MethodName)) ∈ tB := tB_3 118 rfl rfl
theorem tw_599 : (Jvm.Cond.methodLink "NotePress" (234 : Nat) ({ cls := "NotePress$Plan", name := "sheetsRun", desc := "()I" } : Jvm.MethodName)) ∈ tB := tB_3 119 rfl rfl
theorem tw_600 : (Jvm.Cond.instanceMethod ({ cls := "NotePress$Plan", name := "sheetsRun", desc := "()I" } : Jvm.MethodName)) ∈ tB := tB_3 120 rfl rfl
theorem tw_601 : (Jvm.Cond.selects "NotePress$Plan" ({ cls := "NotePress$Plan", name := "sheetsRun", desc := "()I" } : Jvm.MethodName) ({ cls := "NotePress$Plan", name := "sheetsRun", desc := "()I" } : Jvm.MethodName)) ∈ tB := tB_3 121 rfl rfl
theorem tw_602 : (Jvm.Cond.code ({ cls := "NotePress$Plan", name := "sheetsRun", desc := "()I" } : Jvm.MethodName) prog_4_method_10_code (3 : Nat) (Option.some Jvm.ClassFile.FieldType.int)) ∈ tB := tB_3 122 rfl rfl
theorem tw_603 : (Jvm.Cond.methodLink "NotePress$Plan" (51 : Nat) ({ cls := "NotePress$Series", name := "sheetsRun", desc := "()I" } : Jvm.MethodName)) ∈ tB := tB_3 123 rfl rfl
theorem tw_604 : (Jvm.Cond.instanceMethod ({ cls := "NotePress$Series", name := "sheetsRun", desc := "()I" } : Jvm.MethodName)) ∈ tB := tB_3 124 rfl rfl
theorem tw_605 : (Jvm.Cond.selects "NotePress$Series" ({ cls := "NotePress$Series", name := "sheetsRun", desc := "()I" } : Jvm.MethodName) ({ cls := "NotePress$Series", name := "sheetsRun", desc := "()I" } : Jvm.MethodName)) ∈ tB := tB_3 125 rfl rfl
theorem tw_606 : (Jvm.Cond.code ({ cls := "NotePress$Series", name := "sheetsRun", desc := "()I" } : Jvm.MethodName) prog_5_method_9_code (3 : Nat) (Option.some Jvm.ClassFile.FieldType.int)) ∈ tB := tB_3 126 rfl rfl
theorem tw_607 : (Jvm.Cond.methodLink "NotePress" (236 : Nat) ({ cls := "NotePress$Plan", name := "wholePacks", desc := "()I" } : Jvm.MethodName)) ∈ tB := tB_3 127 rfl rfl
theorem tw_608 : (Jvm.Cond.instanceMethod ({ cls := "NotePress$Plan", name := "wholePacks", desc := "()I" } : Jvm.MethodName)) ∈ tB := tB_3 128 rfl rfl
theorem tw_609 : (Jvm.Cond.selects "NotePress$Plan" ({ cls := "NotePress$Plan", name := "wholePacks", desc := "()I" } : Jvm.MethodName) ({ cls := "NotePress$Plan", name := "wholePacks", desc := "()I" } : Jvm.MethodName)) ∈ tB := tB_3 129 rfl rfl
theorem tw_610 : (Jvm.Cond.code ({ cls := "NotePress$Plan", name := "wholePacks", desc := "()I" } : Jvm.MethodName) prog_4_method_11_code (3 : Nat) (Option.some Jvm.ClassFile.FieldType.int)) ∈ tB := tB_3 130 rfl rfl
theorem tw_611 : (Jvm.Cond.methodLink "NotePress$Plan" (54 : Nat) ({ cls := "NotePress$Series", name := "wholePacks", desc := "()I" } : Jvm.MethodName)) ∈ tB := tB_3 131 rfl rfl
theorem tw_612 : (Jvm.Cond.classLink "NotePressLaw" (10 : Nat) "NotePressModel") ∈ tB := tB_3 132 rfl rfl
theorem tw_613 : (Jvm.Cond.instantiable "NotePressModel" (8 : Nat)) ∈ tB := tB_3 133 rfl rfl
theorem tw_614 : (Jvm.Cond.methodLink "NotePressLaw" (12 : Nat) ({ cls := "NotePressModel", name := "<init>", desc := "()V" } : Jvm.MethodName)) ∈ tB := tB_3 134 rfl rfl
theorem tw_615 : (Jvm.Cond.instanceMethod ({ cls := "NotePressModel", name := "<init>", desc := "()V" } : Jvm.MethodName)) ∈ tB := tB_3 135 rfl rfl
theorem tw_616 : (Jvm.Cond.code ({ cls := "NotePressModel", name := "<init>", desc := "()V" } : Jvm.MethodName) prog_10_method_1_code (1 : Nat) (Option.none : Option Jvm.ClassFile.FieldType)) ∈ tB := tB_3 136 rfl rfl
theorem tw_617 : (Jvm.Cond.methodLink "NotePressModel" (1 : Nat) ({ cls := "java/lang/Object", name := "<init>", desc := "()V" } : Jvm.MethodName)) ∈ tB := tB_3 137 rfl rfl
theorem tw_618 : (Jvm.Cond.methodLink "NotePressModel" (25 : Nat) ({ cls := "NotePressModel", name := "adds", desc := "(IIII)V" } : Jvm.MethodName)) ∈ tB := tB_3 138 rfl rfl
theorem tw_620 : (Jvm.Cond.instanceMethod ({ cls := "NotePressModel", name := "adds", desc := "(IIII)V" } : Jvm.MethodName)) ∈ tB := tB_3 140 rfl rfl
theorem tw_621 : (Jvm.Cond.code ({ cls := "NotePressModel", name := "adds", desc := "(IIII)V" } : Jvm.MethodName) prog_10_method_2_code (6 : Nat) (Option.none : Option Jvm.ClassFile.FieldType)) ∈ tB := tB_3 141 rfl rfl
theorem tw_622 : (Jvm.Cond.fieldLink "NotePressModel" (37 : Nat) "NotePressModel" "length" "I") ∈ tB := tB_3 142 rfl rfl
theorem tw_623 : (Jvm.Cond.fieldLink "NotePressModel" (7 : Nat) "NotePressModel" "text" "[I") ∈ tB := tB_3 143 rfl rfl
theorem tw_624 : (Jvm.Cond.fieldLink "NotePressModel" (41 : Nat) "NotePressModel" "spot" "I") ∈ tB := tB_3 144 rfl rfl
theorem tw_625 : (Jvm.Cond.fieldLink "NotePressModel" (13 : Nat) "NotePressModel" "told" "[I") ∈ tB := tB_3 145 rfl rfl
theorem tw_626 : (Jvm.Cond.fieldLink "NotePressModel" (16 : Nat) "NotePressModel" "read" "[I") ∈ tB := tB_3 146 rfl rfl
theorem tw_627 : (Jvm.Cond.fieldLink "NotePressModel" (19 : Nat) "NotePressModel" "s" "[I") ∈ tB := tB_3 147 rfl rfl
theorem tw_628 : (Jvm.Cond.fieldLink "NotePressModel" (22 : Nat) "NotePressModel" "before" "[I") ∈ tB := tB_3 148 rfl rfl
theorem tw_629 : (Jvm.Cond.fieldLink "NotePressModel" (81 : Nat) "NotePressModel" "undoMany" "I") ∈ tB := tB_3 149 rfl rfl
theorem tw_630 : (Jvm.Cond.lays "NotePressModel" "NotePressModel" "length" "I") ∈ tB := tB_3 150 rfl rfl
theorem tw_632 : (Jvm.Cond.laysFinal "NotePressModel" "NotePressModel" "text" "[I") ∈ tB := tB_3 152 rfl rfl
theorem tw_634 : (Jvm.Cond.lays "NotePressModel" "NotePressModel" "spot" "I") ∈ tB := tB_3 154 rfl rfl
theorem tw_636 : (Jvm.Cond.laysFinal "NotePressModel" "NotePressModel" "told" "[I") ∈ tB := tB_3 156 rfl rfl
theorem tw_638 : (Jvm.Cond.laysFinal "NotePressModel" "NotePressModel" "read" "[I") ∈ tB := tB_3 158 rfl rfl
theorem tw_640 : (Jvm.Cond.laysFinal "NotePressModel" "NotePressModel" "s" "[I") ∈ tB := tB_3 160 rfl rfl
theorem tw_642 : (Jvm.Cond.laysFinal "NotePressModel" "NotePressModel" "before" "[I") ∈ tB := tB_3 162 rfl rfl
theorem tw_644 : (Jvm.Cond.lays "NotePressModel" "NotePressModel" "undoMany" "I") ∈ tB := tB_3 164 rfl rfl
theorem tw_647 : (Jvm.Cond.methodLink "NotePressLaw" (17 : Nat) ({ cls := "NotePressModel", name := "write", desc := "(I)I" } : Jvm.MethodName)) ∈ tB := tB_3 167 rfl rfl
theorem tw_648 : (Jvm.Cond.instanceMethod ({ cls := "NotePressModel", name := "write", desc := "(I)I" } : Jvm.MethodName)) ∈ tB := tB_3 168 rfl rfl
theorem tw_649 : (Jvm.Cond.selects "NotePressModel" ({ cls := "NotePressModel", name := "write", desc := "(I)I" } : Jvm.MethodName) ({ cls := "NotePressModel", name := "write", desc := "(I)I" } : Jvm.MethodName)) ∈ tB := tB_3 169 rfl rfl
theorem tw_650 : (Jvm.Cond.code ({ cls := "NotePressModel", name := "write", desc := "(I)I" } : Jvm.MethodName) prog_10_method_4_code (2 : Nat) (Option.some Jvm.ClassFile.FieldType.int)) ∈ tB := tB_3 170 rfl rfl
theorem tw_651 : (Jvm.Cond.constantLong "NotePressModel" (29 : Nat) (32 : Int64)) ∈ tB := tB_3 171 rfl rfl
theorem tw_652 : (Jvm.Cond.constantLong "NotePressModel" (31 : Nat) (126 : Int64)) ∈ tB := tB_3 172 rfl rfl
theorem tw_653 : (Jvm.Cond.methodLink "NotePressModel" (33 : Nat) ({ cls := "NotePressModel", name := "in", desc := "(JJJ)Z" } : Jvm.MethodName)) ∈ tB := tB_3 173 rfl rfl
theorem tw_654 : (Jvm.Cond.static ({ cls := "NotePressModel", name := "in", desc := "(JJJ)Z" } : Jvm.MethodName)) ∈ tB := tB_3 174 rfl rfl
theorem tw_655 : (Jvm.Cond.code ({ cls := "NotePressModel", name := "in", desc := "(JJJ)Z" } : Jvm.MethodName) prog_10_method_3_code (6 : Nat) (Option.some Jvm.ClassFile.FieldType.boolean)) ∈ tB := tB_3 175 rfl rfl
theorem tw_656 : (Jvm.Cond.methodLink "NotePressLaw" (22 : Nat) ({ cls := "NotePressModel", name := "wipe", desc := "()I" } : Jvm.MethodName)) ∈ tB := tB_3 176 rfl rfl
theorem tw_657 : (Jvm.Cond.instanceMethod ({ cls := "NotePressModel", name := "wipe", desc := "()I" } : Jvm.MethodName)) ∈ tB := tB_3 177 rfl rfl
theorem tw_658 : (Jvm.Cond.selects "NotePressModel" ({ cls := "NotePressModel", name := "wipe", desc := "()I" } : Jvm.MethodName) ({ cls := "NotePressModel", name := "wipe", desc := "()I" } : Jvm.MethodName)) ∈ tB := tB_3 178 rfl rfl
theorem tw_659 : (Jvm.Cond.code ({ cls := "NotePressModel", name := "wipe", desc := "()I" } : Jvm.MethodName) prog_10_method_5_code (2 : Nat) (Option.some Jvm.ClassFile.FieldType.int)) ∈ tB := tB_3 179 rfl rfl
theorem tw_660 : (Jvm.Cond.methodLink "NotePressLaw" (26 : Nat) ({ cls := "NotePressModel", name := "fault", desc := "()I" } : Jvm.MethodName)) ∈ tB := tB_3 180 rfl rfl
theorem tw_661 : (Jvm.Cond.instanceMethod ({ cls := "NotePressModel", name := "fault", desc := "()I" } : Jvm.MethodName)) ∈ tB := tB_3 181 rfl rfl
theorem tw_662 : (Jvm.Cond.selects "NotePressModel" ({ cls := "NotePressModel", name := "fault", desc := "()I" } : Jvm.MethodName) ({ cls := "NotePressModel", name := "fault", desc := "()I" } : Jvm.MethodName)) ∈ tB := tB_3 182 rfl rfl
theorem tw_663 : (Jvm.Cond.code ({ cls := "NotePressModel", name := "fault", desc := "()I" } : Jvm.MethodName) prog_10_method_12_code (2 : Nat) (Option.some Jvm.ClassFile.FieldType.int)) ∈ tB := tB_3 183 rfl rfl
theorem tw_664 : (Jvm.Cond.methodLink "NotePressModel" (74 : Nat) ({ cls := "NotePressModel", name := "item", desc := "(I)Z" } : Jvm.MethodName)) ∈ tB := tB_3 184 rfl rfl
theorem tw_666 : (Jvm.Cond.instanceMethod ({ cls := "NotePressModel", name := "item", desc := "(I)Z" } : Jvm.MethodName)) ∈ tB := tB_3 186 rfl rfl
theorem tw_667 : (Jvm.Cond.code ({ cls := "NotePressModel", name := "item", desc := "(I)Z" } : Jvm.MethodName) prog_10_method_11_code (2 : Nat) (Option.some Jvm.ClassFile.FieldType.boolean)) ∈ tB := tB_3 187 rfl rfl
theorem tw_668 : (Jvm.Cond.methodLink "NotePressModel" (60 : Nat) ({ cls := "NotePressModel", name := "number2", desc := "(III)Z" } : Jvm.MethodName)) ∈ tB := tB_3 188 rfl rfl
theorem tw_670 : (Jvm.Cond.instanceMethod ({ cls := "NotePressModel", name := "number2", desc := "(III)Z" } : Jvm.MethodName)) ∈ tB := tB_3 190 rfl rfl
theorem tw_671 : (Jvm.Cond.code ({ cls := "NotePressModel", name := "number2", desc := "(III)Z" } : Jvm.MethodName) prog_10_method_8_code (6 : Nat) (Option.some Jvm.ClassFile.FieldType.boolean)) ∈ tB := tB_3 191 rfl rfl
theorem tw_672 : (Jvm.Cond.methodLink "NotePressModel" (44 : Nat) ({ cls := "NotePressModel", name := "byteAt", desc := "(I)I" } : Jvm.MethodName)) ∈ tB := tB_3 192 rfl rfl
theorem tw_674 : (Jvm.Cond.instanceMethod ({ cls := "NotePressModel", name := "byteAt", desc := "(I)I" } : Jvm.MethodName)) ∈ tB := tB_3 194 rfl rfl
theorem tw_675 : (Jvm.Cond.code ({ cls := "NotePressModel", name := "byteAt", desc := "(I)I" } : Jvm.MethodName) prog_10_method_6_code (2 : Nat) (Option.some Jvm.ClassFile.FieldType.int)) ∈ tB := tB_3 195 rfl rfl
theorem tw_676 : (Jvm.Cond.constantLong "NotePressModel" (48 : Nat) (48 : Int64)) ∈ tB := tB_3 196 rfl rfl
theorem tw_677 : (Jvm.Cond.constantLong "NotePressModel" (50 : Nat) (57 : Int64)) ∈ tB := tB_3 197 rfl rfl
theorem tw_678 : (Jvm.Cond.methodLink "NotePressModel" (70 : Nat) ({ cls := "NotePressModel", name := "seriesItem", desc := "()Z" } : Jvm.MethodName)) ∈ tB := tB_3 198 rfl rfl
theorem tw_680 : (Jvm.Cond.instanceMethod ({ cls := "NotePressModel", name := "seriesItem", desc := "()Z" } : Jvm.MethodName)) ∈ tB := tB_3 200 rfl rfl
theorem tw_681 : (Jvm.Cond.code ({ cls := "NotePressModel", name := "seriesItem", desc := "()Z" } : Jvm.MethodName) prog_10_method_10_code (5 : Nat) (Option.some Jvm.ClassFile.FieldType.boolean)) ∈ tB := tB_3 201 rfl rfl
theorem tw_682 : (Jvm.Cond.constantLong "NotePressModel" (52 : Nat) (97 : Int64)) ∈ tB := tB_3 202 rfl rfl
theorem tw_683 : (Jvm.Cond.constantLong "NotePressModel" (54 : Nat) (122 : Int64)) ∈ tB := tB_3 203 rfl rfl
theorem tw_684 : (Jvm.Cond.methodLink "NotePressModel" (56 : Nat) ({ cls := "NotePressModel", name := "gone", desc := "(I)Z" } : Jvm.MethodName)) ∈ tB := tB_3 204 rfl rfl
theorem tw_686 : (Jvm.Cond.instanceMethod ({ cls := "NotePressModel", name := "gone", desc := "(I)Z" } : Jvm.MethodName)) ∈ tB := tB_3 206 rfl rfl
theorem tw_687 : (Jvm.Cond.code ({ cls := "NotePressModel", name := "gone", desc := "(I)Z" } : Jvm.MethodName) prog_10_method_7_code (3 : Nat) (Option.some Jvm.ClassFile.FieldType.boolean)) ∈ tB := tB_3 207 rfl rfl
theorem tw_688 : (Jvm.Cond.methodLink "NotePressModel" (64 : Nat) ({ cls := "NotePressModel", name := "whole", desc := "([II)I" } : Jvm.MethodName)) ∈ tB := tB_3 208 rfl rfl
theorem tw_689 : (Jvm.Cond.static ({ cls := "NotePressModel", name := "whole", desc := "([II)I" } : Jvm.MethodName)) ∈ tB := tB_3 209 rfl rfl
theorem tw_690 : (Jvm.Cond.code ({ cls := "NotePressModel", name := "whole", desc := "([II)I" } : Jvm.MethodName) prog_10_method_9_code (4 : Nat) (Option.some Jvm.ClassFile.FieldType.int)) ∈ tB := tB_3 210 rfl rfl
theorem tw_691 : (Jvm.Cond.constantLong "NotePressModel" (68 : Nat) (999 : Int64)) ∈ tB := tB_3 211 rfl rfl
theorem tw_692 : (Jvm.Cond.methodLink "NotePressLaw" (30 : Nat) ({ cls := "NotePressModel", name := "lay", desc := "()I" } : Jvm.MethodName)) ∈ tB := tB_3 212 rfl rfl
theorem tw_693 : (Jvm.Cond.instanceMethod ({ cls := "NotePressModel", name := "lay", desc := "()I" } : Jvm.MethodName)) ∈ tB := tB_3 213 rfl rfl
theorem tw_694 : (Jvm.Cond.selects "NotePressModel" ({ cls := "NotePressModel", name := "lay", desc := "()I" } : Jvm.MethodName) ({ cls := "NotePressModel", name := "lay", desc := "()I" } : Jvm.MethodName)) ∈ tB := tB_3 214 rfl rfl
theorem tw_695 : (Jvm.Cond.code ({ cls := "NotePressModel", name := "lay", desc := "()I" } : Jvm.MethodName) prog_10_method_13_code (2 : Nat) (Option.some Jvm.ClassFile.FieldType.int)) ∈ tB := tB_3 215 rfl rfl
theorem tw_696 : (Jvm.Cond.methodLink "NotePressModel" (77 : Nat) ({ cls := "NotePressModel", name := "fault", desc := "()I" } : Jvm.MethodName)) ∈ tB := tB_3 216 rfl rfl
theorem tw_697 : (Jvm.Cond.methodLink "NotePressLaw" (69 : Nat) ({ cls := "NotePressModel", name := "check", desc := "(II)I" } : Jvm.MethodName)) ∈ tB := tB_3 217 rfl rfl
theorem tw_698 : (Jvm.Cond.instanceMethod ({ cls := "NotePressModel", name := "check", desc := "(II)I" } : Jvm.MethodName)) ∈ tB := tB_3 218 rfl rfl
theorem tw_699 : (Jvm.Cond.selects "NotePressModel" ({ cls := "NotePressModel", name := "check", desc := "(II)I" } : Jvm.MethodName) ({ cls := "NotePressModel", name := "check", desc := "(II)I" } : Jvm.MethodName)) ∈ tB := tB_3 219 rfl rfl
theorem tw_700 : (Jvm.Cond.code ({ cls := "NotePressModel", name := "check", desc := "(II)I" } : Jvm.MethodName) prog_10_method_27_code (3 : Nat) (Option.some Jvm.ClassFile.FieldType.int)) ∈ tB := tB_3 220 rfl rfl
theorem tw_701 : (Jvm.Cond.methodLink "NotePressModel" (84 : Nat) ({ cls := "NotePressModel", name := "isSeries", desc := "(I)Z" } : Jvm.MethodName)) ∈ tB := tB_3 221 rfl rfl
theorem tw_703 : (Jvm.Cond.instanceMethod ({ cls := "NotePressModel", name := "isSeries", desc := "(I)Z" } : Jvm.MethodName)) ∈ tB := tB_3 223 rfl rfl
theorem tw_704 : (Jvm.Cond.code ({ cls := "NotePressModel", name := "isSeries", desc := "(I)Z" } : Jvm.MethodName) prog_10_method_14_code (2 : Nat) (Option.some Jvm.ClassFile.FieldType.boolean)) ∈ tB := tB_3 224 rfl rfl
theorem tw_705 : (Jvm.Cond.methodLink "NotePressModel" (110 : Nat) ({ cls := "NotePressModel", name := "checkIn", desc := "(II)I" } : Jvm.MethodName)) ∈ tB := tB_3 225 rfl rfl
theorem tw_707 : (Jvm.Cond.instanceMethod ({ cls := "NotePressModel", name := "checkIn", desc := "(II)I" } : Jvm.MethodName)) ∈ tB := tB_3 227 rfl rfl
theorem tw_708 : (Jvm.Cond.code ({ cls := "NotePressModel", name := "checkIn", desc := "(II)I" } : Jvm.MethodName) prog_10_method_26_code (3 : Nat) (Option.some Jvm.ClassFile.FieldType.int)) ∈ tB := tB_3 228 rfl rfl
theorem tw_709 : (Jvm.Cond.methodLink "NotePressModel" (106 : Nat) ({ cls := "NotePressModel", name := "checkOf", desc := "(III)I" } : Jvm.MethodName)) ∈ tB := tB_3 229 rfl rfl
theorem tw_710 : (Jvm.Cond.static ({ cls := "NotePressModel", name := "checkOf", desc := "(III)I" } : Jvm.MethodName)) ∈ tB := tB_3 230 rfl rfl
theorem tw_711 : (Jvm.Cond.code ({ cls := "NotePressModel", name := "checkOf", desc := "(III)I" } : Jvm.MethodName) prog_10_method_25_code (8 : Nat) (Option.some Jvm.ClassFile.FieldType.int)) ∈ tB := tB_3 231 rfl rfl
theorem tw_712 : (Jvm.Cond.methodLink "NotePressModel" (100 : Nat) ({ cls := "NotePressModel", name := "turned", desc := "(I)I" } : Jvm.MethodName)) ∈ tB := tB_3 232 rfl rfl
theorem tw_713 : (Jvm.Cond.static ({ cls := "NotePressModel", name := "turned", desc := "(I)I" } : Jvm.MethodName)) ∈ tB := tB_3 233 rfl rfl
theorem tw_714 : (Jvm.Cond.code ({ cls := "NotePressModel", name := "turned", desc := "(I)I" } : Jvm.MethodName) prog_10_method_23_code (1 : Nat) (Option.some Jvm.ClassFile.FieldType.int)) ∈ tB := tB_3 234 rfl rfl
theorem tw_715 : (Jvm.Cond.methodLink "NotePressModel" (103 : Nat) ({ cls := "NotePressModel", name := "make", desc := "(II)I" } : Jvm.MethodName)) ∈ tB := tB_3 235 rfl rfl
theorem tw_716 : (Jvm.Cond.static ({ cls := "NotePressModel", name := "make", desc := "(II)I" } : Jvm.MethodName)) ∈ tB := tB_3 236 rfl rfl
theorem tw_717 : (Jvm.Cond.code ({ cls := "NotePressModel", name := "make", desc := "(II)I" } : Jvm.MethodName) prog_10_method_24_code (3 : Nat) (Option.some Jvm.ClassFile.FieldType.int)) ∈ tB := tB_3 237 rfl rfl
theorem tw_718 : (Jvm.Cond.methodLink "NotePressLaw" (73 : Nat) ({ cls := "NotePressModel", name := "missed", desc := "(III)I" } : Jvm.MethodName)) ∈ tB := tB_3 238 rfl rfl
theorem tw_719 : (Jvm.Cond.instanceMethod ({ cls := "NotePressModel", name := "missed", desc := "(III)I" } : Jvm.MethodName)) ∈ tB := tB_3 239 rfl rfl
theorem tw_720 : (Jvm.Cond.selects "NotePressModel" ({ cls := "NotePressModel", name := "missed", desc := "(III)I" } : Jvm.MethodName) ({ cls := "NotePressModel", name := "missed", desc := "(III)I" } : Jvm.MethodName)) ∈ tB := tB_4 0 rfl rfl
theorem tw_721 : (Jvm.Cond.code ({ cls := "NotePressModel", name := "missed", desc := "(III)I" } : Jvm.MethodName) prog_10_method_28_code (9 : Nat) (Option.some Jvm.ClassFile.FieldType.int)) ∈ tB := tB_4 1 rfl rfl
theorem tw_722 : (Jvm.Cond.methodLink "NotePressLaw" (48 : Nat) ({ cls := "NotePressModel", name := "undo", desc := "()I" } : Jvm.MethodName)) ∈ tB := tB_4 2 rfl rfl
theorem tw_723 : (Jvm.Cond.instanceMethod ({ cls := "NotePressModel", name := "undo", desc := "()I" } : Jvm.MethodName)) ∈ tB := tB_4 3 rfl rfl
theorem tw_724 : (Jvm.Cond.selects "NotePressModel" ({ cls := "NotePressModel", name := "undo", desc := "()I" } : Jvm.MethodName) ({ cls := "NotePressModel", name := "undo", desc := "()I" } : Jvm.MethodName)) ∈ tB := tB_4 4 rfl rfl
theorem tw_725 : (Jvm.Cond.code ({ cls := "NotePressModel", name := "undo", desc := "()I" } : Jvm.MethodName) prog_10_method_30_code (2 : Nat) (Option.some Jvm.ClassFile.FieldType.int)) ∈ tB := tB_4 5 rfl rfl
theorem tw_726 : (Jvm.Cond.methodLink "NotePressLaw" (35 : Nat) ({ cls := "NotePressModel", name := "run", desc := "(III)I" } : Jvm.MethodName)) ∈ tB := tB_4 6 rfl rfl
theorem tw_727 : (Jvm.Cond.instanceMethod ({ cls := "NotePressModel", name := "run", desc := "(III)I" } : Jvm.MethodName)) ∈ tB := tB_4 7 rfl rfl
theorem tw_728 : (Jvm.Cond.selects "NotePressModel" ({ cls := "NotePressModel", name := "run", desc := "(III)I" } : Jvm.MethodName) ({ cls := "NotePressModel", name := "run", desc := "(III)I" } : Jvm.MethodName)) ∈ tB := tB_4 8 rfl rfl
theorem tw_729 : (Jvm.Cond.code ({ cls := "NotePressModel", name := "run", desc := "(III)I" } : Jvm.MethodName) prog_10_method_31_code (4 : Nat) (Option.some Jvm.ClassFile.FieldType.int)) ∈ tB := tB_4 9 rfl rfl
theorem tw_730 : (Jvm.Cond.methodLink "NotePressModel" (113 : Nat) ({ cls := "NotePressModel", name := "isPress", desc := "(I)Z" } : Jvm.MethodName)) ∈ tB := tB_4 10 rfl rfl
theorem tw_732 : (Jvm.Cond.instanceMethod ({ cls := "NotePressModel", name := "isPress", desc := "(I)Z" } : Jvm.MethodName)) ∈ tB := tB_4 12 rfl rfl
theorem tw_733 : (Jvm.Cond.code ({ cls := "NotePressModel", name := "isPress", desc := "(I)Z" } : Jvm.MethodName) prog_10_method_15_code (2 : Nat) (Option.some Jvm.ClassFile.FieldType.boolean)) ∈ tB := tB_4 13 rfl rfl
theorem tw_734 : (Jvm.Cond.constantLong "NotePressModel" (116 : Nat) (40 : Int64)) ∈ tB := tB_4 14 rfl rfl
theorem tw_735 : (Jvm.Cond.methodLink "NotePressModel" (87 : Nat) ({ cls := "NotePressModel", name := "sheets", desc := "(II)I" } : Jvm.MethodName)) ∈ tB := tB_4 15 rfl rfl
theorem tw_737 : (Jvm.Cond.instanceMethod ({ cls := "NotePressModel", name := "sheets", desc := "(II)I" } : Jvm.MethodName)) ∈ tB := tB_4 17 rfl rfl
theorem tw_738 : (Jvm.Cond.code ({ cls := "NotePressModel", name := "sheets", desc := "(II)I" } : Jvm.MethodName) prog_10_method_16_code (3 : Nat) (Option.some Jvm.ClassFile.FieldType.int)) ∈ tB := tB_4 18 rfl rfl
theorem tw_739 : (Jvm.Cond.methodLink "NotePressModel" (118 : Nat) ({ cls := "NotePressModel", name := "note1", desc := "()V" } : Jvm.MethodName)) ∈ tB := tB_4 19 rfl rfl
theorem tw_741 : (Jvm.Cond.instanceMethod ({ cls := "NotePressModel", name := "note1", desc := "()V" } : Jvm.MethodName)) ∈ tB := tB_4 21 rfl rfl
theorem tw_742 : (Jvm.Cond.code ({ cls := "NotePressModel", name := "note1", desc := "()V" } : Jvm.MethodName) prog_10_method_29_code (2 : Nat) (Option.none : Option Jvm.ClassFile.FieldType)) ∈ tB := tB_4 22 rfl rfl
theorem tw_743 : (Jvm.Cond.methodLink "NotePressLaw" (40 : Nat) ({ cls := "NotePressModel", name := "spoil", desc := "(II)I" } : Jvm.MethodName)) ∈ tB := tB_4 23 rfl rfl
theorem tw_744 : (Jvm.Cond.instanceMethod ({ cls := "NotePressModel", name := "spoil", desc := "(II)I" } : Jvm.MethodName)) ∈ tB := tB_4 24 rfl rfl
theorem tw_745 : (Jvm.Cond.selects "NotePressModel" ({ cls := "NotePressModel", name := "spoil", desc := "(II)I" } : Jvm.MethodName) ({ cls := "NotePressModel", name := "spoil", desc := "(II)I" } : Jvm.MethodName)) ∈ tB := tB_4 25 rfl rfl
theorem tw_746 : (Jvm.Cond.code ({ cls := "NotePressModel", name := "spoil", desc := "(II)I" } : Jvm.MethodName) prog_10_method_33_code (3 : Nat) (Option.some Jvm.ClassFile.FieldType.int)) ∈ tB := tB_4 26 rfl rfl
theorem tw_747 : (Jvm.Cond.methodLink "NotePressModel" (121 : Nat) ({ cls := "NotePressModel", name := "isNumber", desc := "(II)Z" } : Jvm.MethodName)) ∈ tB := tB_4 27 rfl rfl
theorem tw_749 : (Jvm.Cond.instanceMethod ({ cls := "NotePressModel", name := "isNumber", desc := "(II)Z" } : Jvm.MethodName)) ∈ tB := tB_4 29 rfl rfl
theorem tw_750 : (Jvm.Cond.code ({ cls := "NotePressModel", name := "isNumber", desc := "(II)Z" } : Jvm.MethodName) prog_10_method_17_code (3 : Nat) (Option.some Jvm.ClassFile.FieldType.boolean)) ∈ tB := tB_4 30 rfl rfl
theorem tw_751 : (Jvm.Cond.methodLink "NotePressModel" (125 : Nat) ({ cls := "NotePressModel", name := "isPrinted", desc := "(II)Z" } : Jvm.MethodName)) ∈ tB := tB_4 31 rfl rfl
theorem tw_753 : (Jvm.Cond.instanceMethod ({ cls := "NotePressModel", name := "isPrinted", desc := "(II)Z" } : Jvm.MethodName)) ∈ tB := tB_4 33 rfl rfl
theorem tw_754 : (Jvm.Cond.code ({ cls := "NotePressModel", name := "isPrinted", desc := "(II)Z" } : Jvm.MethodName) prog_10_method_21_code (3 : Nat) (Option.some Jvm.ClassFile.FieldType.boolean)) ∈ tB := tB_4 34 rfl rfl
theorem tw_755 : (Jvm.Cond.methodLink "NotePressModel" (97 : Nat) ({ cls := "NotePressModel", name := "sheetOf", desc := "(II)I" } : Jvm.MethodName)) ∈ tB := tB_4 35 rfl rfl
theorem tw_757 : (Jvm.Cond.instanceMethod ({ cls := "NotePressModel", name := "sheetOf", desc := "(II)I" } : Jvm.MethodName)) ∈ tB := tB_4 37 rfl rfl
theorem tw_758 : (Jvm.Cond.code ({ cls := "NotePressModel", name := "sheetOf", desc := "(II)I" } : Jvm.MethodName) prog_10_method_20_code (4 : Nat) (Option.some Jvm.ClassFile.FieldType.int)) ∈ tB := tB_4 38 rfl rfl
theorem tw_759 : (Jvm.Cond.methodLink "NotePressModel" (94 : Nat) ({ cls := "NotePressModel", name := "pressOf", desc := "(II)I" } : Jvm.MethodName)) ∈ tB := tB_4 39 rfl rfl
theorem tw_761 : (Jvm.Cond.instanceMethod ({ cls := "NotePressModel", name := "pressOf", desc := "(II)I" } : Jvm.MethodName)) ∈ tB := tB_4 41 rfl rfl
theorem tw_762 : (Jvm.Cond.code ({ cls := "NotePressModel", name := "pressOf", desc := "(II)I" } : Jvm.MethodName) prog_10_method_19_code (4 : Nat) (Option.some Jvm.ClassFile.FieldType.int)) ∈ tB := tB_4 42 rfl rfl
theorem tw_763 : (Jvm.Cond.methodLink "NotePressModel" (91 : Nat) ({ cls := "NotePressModel", name := "first", desc := "(II)I" } : Jvm.MethodName)) ∈ tB := tB_4 43 rfl rfl
theorem tw_765 : (Jvm.Cond.instanceMethod ({ cls := "NotePressModel", name := "first", desc := "(II)I" } : Jvm.MethodName)) ∈ tB := tB_4 45 rfl rfl
theorem tw_766 : (Jvm.Cond.code ({ cls := "NotePressModel", name := "first", desc := "(II)I" } : Jvm.MethodName) prog_10_method_18_code (5 : Nat) (Option.some Jvm.ClassFile.FieldType.int)) ∈ tB := tB_4 46 rfl rfl
theorem tw_767 : (Jvm.Cond.methodLink "NotePressModel" (128 : Nat) ({ cls := "NotePressModel", name := "starAt", desc := "(II)I" } : Jvm.MethodName)) ∈ tB := tB_4 47 rfl rfl
theorem tw_769 : (Jvm.Cond.instanceMethod ({ cls := "NotePressModel", name := "starAt", desc := "(II)I" } : Jvm.MethodName)) ∈ tB := tB_4 49 rfl rfl
theorem tw_770 : (Jvm.Cond.code ({ cls := "NotePressModel", name := "starAt", desc := "(II)I" } : Jvm.MethodName) prog_10_method_22_code (4 : Nat) (Option.some Jvm.ClassFile.FieldType.int)) ∈ tB := tB_4 50 rfl rfl
theorem tw_771 : (Jvm.Cond.methodLink "NotePressModel" (131 : Nat) ({ cls := "NotePressModel", name := "stands", desc := "(II)I" } : Jvm.MethodName)) ∈ tB := tB_4 51 rfl rfl
theorem tw_773 : (Jvm.Cond.instanceMethod ({ cls := "NotePressModel", name := "stands", desc := "(II)I" } : Jvm.MethodName)) ∈ tB := tB_4 53 rfl rfl
theorem tw_774 : (Jvm.Cond.code ({ cls := "NotePressModel", name := "stands", desc := "(II)I" } : Jvm.MethodName) prog_10_method_32_code (4 : Nat) (Option.some Jvm.ClassFile.FieldType.int)) ∈ tB := tB_4 54 rfl rfl
theorem tw_775 : (Jvm.Cond.methodLink "NotePressLaw" (44 : Nat) ({ cls := "NotePressModel", name := "spoilSheet", desc := "(III)I" } : Jvm.MethodName)) ∈ tB := tB_4 55 rfl rfl
theorem tw_776 : (Jvm.Cond.instanceMethod ({ cls := "NotePressModel", name := "spoilSheet", desc := "(III)I" } : Jvm.MethodName)) ∈ tB := tB_4 56 rfl rfl
theorem tw_777 : (Jvm.Cond.selects "NotePressModel" ({ cls := "NotePressModel", name := "spoilSheet", desc := "(III)I" } : Jvm.MethodName) ({ cls := "NotePressModel", name := "spoilSheet", desc := "(III)I" } : Jvm.MethodName)) ∈ tB := tB_4 57 rfl rfl
theorem tw_778 : (Jvm.Cond.code ({ cls := "NotePressModel", name := "spoilSheet", desc := "(III)I" } : Jvm.MethodName) prog_10_method_35_code (8 : Nat) (Option.some Jvm.ClassFile.FieldType.int)) ∈ tB := tB_4 58 rfl rfl
theorem tw_779 : (Jvm.Cond.methodLink "NotePressModel" (134 : Nat) ({ cls := "NotePressModel", name := "numberAt", desc := "(IIII)I" } : Jvm.MethodName)) ∈ tB := tB_4 59 rfl rfl
theorem tw_781 : (Jvm.Cond.instanceMethod ({ cls := "NotePressModel", name := "numberAt", desc := "(IIII)I" } : Jvm.MethodName)) ∈ tB := tB_4 61 rfl rfl
theorem tw_782 : (Jvm.Cond.code ({ cls := "NotePressModel", name := "numberAt", desc := "(IIII)I" } : Jvm.MethodName) prog_10_method_34_code (5 : Nat) (Option.some Jvm.ClassFile.FieldType.int)) ∈ tB := tB_4 62 rfl rfl
theorem tw_783 : (Jvm.Cond.methodLink "NotePressLaw" (52 : Nat) ({ cls := "NotePressModel", name := "series", desc := "(II)I" } : Jvm.MethodName)) ∈ tB := tB_4 63 rfl rfl
theorem tw_784 : (Jvm.Cond.instanceMethod ({ cls := "NotePressModel", name := "series", desc := "(II)I" } : Jvm.MethodName)) ∈ tB := tB_4 64 rfl rfl
theorem tw_785 : (Jvm.Cond.selects "NotePressModel" ({ cls := "NotePressModel", name := "series", desc := "(II)I" } : Jvm.MethodName) ({ cls := "NotePressModel", name := "series", desc := "(II)I" } : Jvm.MethodName)) ∈ tB := tB_4 65 rfl rfl
theorem tw_786 : (Jvm.Cond.code ({ cls := "NotePressModel", name := "series", desc := "(II)I" } : Jvm.MethodName) prog_10_method_42_code (3 : Nat) (Option.some Jvm.ClassFile.FieldType.int)) ∈ tB := tB_4 66 rfl rfl
theorem tw_787 : (Jvm.Cond.constantLong "NotePressModel" (144 : Nat) (7 : Int64)) ∈ tB := tB_4 67 rfl rfl
theorem tw_788 : (Jvm.Cond.methodLink "NotePressModel" (146 : Nat) ({ cls := "NotePressModel", name := "printed", desc := "(I)I" } : Jvm.MethodName)) ∈ tB := tB_4 68 rfl rfl
theorem tw_790 : (Jvm.Cond.instanceMethod ({ cls := "NotePressModel", name := "printed", desc := "(I)I" } : Jvm.MethodName)) ∈ tB := tB_4 70 rfl rfl
theorem tw_791 : (Jvm.Cond.code ({ cls := "NotePressModel", name := "printed", desc := "(I)I" } : Jvm.MethodName) prog_10_method_36_code (4 : Nat) (Option.some Jvm.ClassFile.FieldType.int)) ∈ tB := tB_4 71 rfl rfl
theorem tw_792 : (Jvm.Cond.methodLink "NotePressModel" (149 : Nat) ({ cls := "NotePressModel", name := "spoiled", desc := "(I)I" } : Jvm.MethodName)) ∈ tB := tB_4 72 rfl rfl
theorem tw_794 : (Jvm.Cond.instanceMethod ({ cls := "NotePressModel", name := "spoiled", desc := "(I)I" } : Jvm.MethodName)) ∈ tB := tB_4 74 rfl rfl
theorem tw_795 : (Jvm.Cond.code ({ cls := "NotePressModel", name := "spoiled", desc := "(I)I" } : Jvm.MethodName) prog_10_method_37_code (4 : Nat) (Option.some Jvm.ClassFile.FieldType.int)) ∈ tB := tB_4 75 rfl rfl
theorem tw_796 : (Jvm.Cond.methodLink "NotePressModel" (152 : Nat) ({ cls := "NotePressModel", name := "leftOf", desc := "(I)I" } : Jvm.MethodName)) ∈ tB := tB_4 76 rfl rfl
theorem tw_798 : (Jvm.Cond.instanceMethod ({ cls := "NotePressModel", name := "leftOf", desc := "(I)I" } : Jvm.MethodName)) ∈ tB := tB_4 78 rfl rfl
theorem tw_799 : (Jvm.Cond.code ({ cls := "NotePressModel", name := "leftOf", desc := "(I)I" } : Jvm.MethodName) prog_10_method_38_code (4 : Nat) (Option.some Jvm.ClassFile.FieldType.int)) ∈ tB := tB_4 79 rfl rfl
theorem tw_800 : (Jvm.Cond.methodLink "NotePressModel" (138 : Nat) ({ cls := "NotePressModel", name := "packs", desc := "(I)I" } : Jvm.MethodName)) ∈ tB := tB_4 80 rfl rfl
theorem tw_802 : (Jvm.Cond.instanceMethod ({ cls := "NotePressModel", name := "packs", desc := "(I)I" } : Jvm.MethodName)) ∈ tB := tB_4 82 rfl rfl
theorem tw_803 : (Jvm.Cond.code ({ cls := "NotePressModel", name := "packs", desc := "(I)I" } : Jvm.MethodName) prog_10_method_39_code (2 : Nat) (Option.some Jvm.ClassFile.FieldType.int)) ∈ tB := tB_4 83 rfl rfl
theorem tw_804 : (Jvm.Cond.methodLink "NotePressModel" (155 : Nat) ({ cls := "NotePressModel", name := "wholes", desc := "(I)I" } : Jvm.MethodName)) ∈ tB := tB_4 84 rfl rfl
theorem tw_806 : (Jvm.Cond.instanceMethod ({ cls := "NotePressModel", name := "wholes", desc := "(I)I" } : Jvm.MethodName)) ∈ tB := tB_4 86 rfl rfl
theorem tw_807 : (Jvm.Cond.code ({ cls := "NotePressModel", name := "wholes", desc := "(I)I" } : Jvm.MethodName) prog_10_method_41_code (4 : Nat) (Option.some Jvm.ClassFile.FieldType.int)) ∈ tB := tB_4 87 rfl rfl
theorem tw_808 : (Jvm.Cond.methodLink "NotePressModel" (141 : Nat) ({ cls := "NotePressModel", name := "isWhole", desc := "(II)Z" } : Jvm.MethodName)) ∈ tB := tB_4 88 rfl rfl
theorem tw_810 : (Jvm.Cond.instanceMethod ({ cls := "NotePressModel", name := "isWhole", desc := "(II)Z" } : Jvm.MethodName)) ∈ tB := tB_4 90 rfl rfl
theorem tw_811 : (Jvm.Cond.code ({ cls := "NotePressModel", name := "isWhole", desc := "(II)Z" } : Jvm.MethodName) prog_10_method_40_code (4 : Nat) (Option.some Jvm.ClassFile.FieldType.boolean)) ∈ tB := tB_4 91 rfl rfl
theorem tw_812 : (Jvm.Cond.methodLink "NotePressLaw" (56 : Nat) ({ cls := "NotePressModel", name := "share", desc := "(III)I" } : Jvm.MethodName)) ∈ tB := tB_4 92 rfl rfl
theorem tw_813 : (Jvm.Cond.instanceMethod ({ cls := "NotePressModel", name := "share", desc := "(III)I" } : Jvm.MethodName)) ∈ tB := tB_4 93 rfl rfl
theorem tw_814 : (Jvm.Cond.selects "NotePressModel" ({ cls := "NotePressModel", name := "share", desc := "(III)I" } : Jvm.MethodName) ({ cls := "NotePressModel", name := "share", desc := "(III)I" } : Jvm.MethodName)) ∈ tB := tB_4 94 rfl rfl
theorem tw_815 : (Jvm.Cond.code ({ cls := "NotePressModel", name := "share", desc := "(III)I" } : Jvm.MethodName) prog_10_method_43_code (4 : Nat) (Option.some Jvm.ClassFile.FieldType.int)) ∈ tB := tB_4 95 rfl rfl
theorem tw_816 : (Jvm.Cond.constantLong "NotePressModel" (158 : Nat) (3 : Int64)) ∈ tB := tB_4 96 rfl rfl
theorem tw_817 : (Jvm.Cond.methodLink "NotePressLaw" (60 : Nat) ({ cls := "NotePressModel", name := "where", desc := "(III)I" } : Jvm.MethodName)) ∈ tB := tB_4 97 rfl rfl
theorem tw_818 : (Jvm.Cond.instanceMethod ({ cls := "NotePressModel", name := "where", desc := "(III)I" } : Jvm.MethodName)) ∈ tB := tB_4 98 rfl rfl
theorem tw_819 : (Jvm.Cond.selects "NotePressModel" ({ cls := "NotePressModel", name := "where", desc := "(III)I" } : Jvm.MethodName) ({ cls := "NotePressModel", name := "where", desc := "(III)I" } : Jvm.MethodName)) ∈ tB := tB_4 99 rfl rfl
theorem tw_820 : (Jvm.Cond.code ({ cls := "NotePressModel", name := "where", desc := "(III)I" } : Jvm.MethodName) prog_10_method_44_code (5 : Nat) (Option.some Jvm.ClassFile.FieldType.int)) ∈ tB := tB_4 100 rfl rfl
theorem tw_821 : (Jvm.Cond.constantLong "NotePressModel" (160 : Nat) (2 : Int64)) ∈ tB := tB_4 101 rfl rfl
theorem tw_822 : (Jvm.Cond.methodLink "NotePressLaw" (65 : Nat) ({ cls := "NotePressModel", name := "number", desc := "(IIII)I" } : Jvm.MethodName)) ∈ tB := tB_4 102 rfl rfl
theorem tw_823 : (Jvm.Cond.instanceMethod ({ cls := "NotePressModel", name := "number", desc := "(IIII)I" } : Jvm.MethodName)) ∈ tB := tB_4 103 rfl rfl
theorem tw_824 : (Jvm.Cond.selects "NotePressModel" ({ cls := "NotePressModel", name := "number", desc := "(IIII)I" } : Jvm.MethodName) ({ cls := "NotePressModel", name := "number", desc := "(IIII)I" } : Jvm.MethodName)) ∈ tB := tB_4 104 rfl rfl
theorem tw_825 : (Jvm.Cond.code ({ cls := "NotePressModel", name := "number", desc := "(IIII)I" } : Jvm.MethodName) prog_10_method_45_code (6 : Nat) (Option.some Jvm.ClassFile.FieldType.int)) ∈ tB := tB_4 105 rfl rfl
theorem tw_826 : (Jvm.Cond.methodLink "NotePressLaw" (77 : Nat) ({ cls := "NotePressModel", name := "note", desc := "(II)I" } : Jvm.MethodName)) ∈ tB := tB_4 106 rfl rfl
theorem tw_827 : (Jvm.Cond.instanceMethod ({ cls := "NotePressModel", name := "note", desc := "(II)I" } : Jvm.MethodName)) ∈ tB := tB_4 107 rfl rfl
theorem tw_828 : (Jvm.Cond.selects "NotePressModel" ({ cls := "NotePressModel", name := "note", desc := "(II)I" } : Jvm.MethodName) ({ cls := "NotePressModel", name := "note", desc := "(II)I" } : Jvm.MethodName)) ∈ tB := tB_4 108 rfl rfl
theorem tw_829 : (Jvm.Cond.code ({ cls := "NotePressModel", name := "note", desc := "(II)I" } : Jvm.MethodName) prog_10_method_46_code (3 : Nat) (Option.some Jvm.ClassFile.FieldType.int)) ∈ tB := tB_4 109 rfl rfl
theorem tw_830 : (Jvm.Cond.methodLink "NotePressLaw" (81 : Nat) ({ cls := "NotePressModel", name := "star", desc := "(II)I" } : Jvm.MethodName)) ∈ tB := tB_4 110 rfl rfl
theorem tw_831 : (Jvm.Cond.instanceMethod ({ cls := "NotePressModel", name := "star", desc := "(II)I" } : Jvm.MethodName)) ∈ tB := tB_4 111 rfl rfl
theorem tw_832 : (Jvm.Cond.selects "NotePressModel" ({ cls := "NotePressModel", name := "star", desc := "(II)I" } : Jvm.MethodName) ({ cls := "NotePressModel", name := "star", desc := "(II)I" } : Jvm.MethodName)) ∈ tB := tB_4 112 rfl rfl
theorem tw_833 : (Jvm.Cond.code ({ cls := "NotePressModel", name := "star", desc := "(II)I" } : Jvm.MethodName) prog_10_method_47_code (3 : Nat) (Option.some Jvm.ClassFile.FieldType.int)) ∈ tB := tB_4 113 rfl rfl
theorem tw_834 : (Jvm.Cond.methodLink "NotePressLaw" (85 : Nat) ({ cls := "NotePressModel", name := "starOf", desc := "(II)I" } : Jvm.MethodName)) ∈ tB := tB_4 114 rfl rfl
theorem tw_835 : (Jvm.Cond.instanceMethod ({ cls := "NotePressModel", name := "starOf", desc := "(II)I" } : Jvm.MethodName)) ∈ tB := tB_4 115 rfl rfl
theorem tw_836 : (Jvm.Cond.selects "NotePressModel" ({ cls := "NotePressModel", name := "starOf", desc := "(II)I" } : Jvm.MethodName) ({ cls := "NotePressModel", name := "starOf", desc := "(II)I" } : Jvm.MethodName)) ∈ tB := tB_4 116 rfl rfl
theorem tw_837 : (Jvm.Cond.code ({ cls := "NotePressModel", name := "starOf", desc := "(II)I" } : Jvm.MethodName) prog_10_method_48_code (3 : Nat) (Option.some Jvm.ClassFile.FieldType.int)) ∈ tB := tB_4 117 rfl rfl
theorem tw_838 : (Jvm.Cond.methodLink "NotePressLaw" (89 : Nat) ({ cls := "NotePressModel", name := "judge", desc := "(III)I" } : Jvm.MethodName)) ∈ tB := tB_4 118 rfl rfl
theorem tw_839 : (Jvm.Cond.instanceMethod ({ cls := "NotePressModel", name := "judge", desc := "(III)I" } : Jvm.MethodName)) ∈ tB := tB_4 119 rfl rfl
theorem tw_840 : (Jvm.Cond.selects "NotePressModel" ({ cls := "NotePressModel", name := "judge", desc := "(III)I" } : Jvm.MethodName) ({ cls := "NotePressModel", name := "judge", desc := "(III)I" } : Jvm.MethodName)) ∈ tB := tB_4 120 rfl rfl
theorem tw_841 : (Jvm.Cond.code ({ cls := "NotePressModel", name := "judge", desc := "(III)I" } : Jvm.MethodName) prog_10_method_50_code (5 : Nat) (Option.some Jvm.ClassFile.FieldType.int)) ∈ tB := tB_4 121 rfl rfl
theorem tw_842 : (Jvm.Cond.constantLong "NotePressModel" (162 : Nat) (26 : Int64)) ∈ tB := tB_4 122 rfl rfl
theorem tw_843 : (Jvm.Cond.constantLong "NotePressModel" (164 : Nat) (99 : Int64)) ∈ tB := tB_4 123 rfl rfl
theorem tw_844 : (Jvm.Cond.methodLink "NotePressModel" (166 : Nat) ({ cls := "NotePressModel", name := "judgeStar", desc := "(II)I" } : Jvm.MethodName)) ∈ tB := tB_4 124 rfl rfl
theorem tw_846 : (Jvm.Cond.instanceMethod ({ cls := "NotePressModel", name := "judgeStar", desc := "(II)I" } : Jvm.MethodName)) ∈ tB := tB_4 126 rfl rfl
theorem tw_847 : (Jvm.Cond.code ({ cls := "NotePressModel", name := "judgeStar", desc := "(II)I" } : Jvm.MethodName) prog_10_method_49_code (3 : Nat) (Option.some Jvm.ClassFile.FieldType.int)) ∈ tB := tB_4 127 rfl rfl
theorem tw_848 : (Jvm.Cond.methodLink "NotePressLaw" (93 : Nat) ({ cls := "NotePressModel", name := "pack", desc := "(III)I" } : Jvm.MethodName)) ∈ tB := tB_4 128 rfl rfl
theorem tw_849 : (Jvm.Cond.instanceMethod ({ cls := "NotePressModel", name := "pack", desc := "(III)I" } : Jvm.MethodName)) ∈ tB := tB_4 129 rfl rfl
theorem tw_850 : (Jvm.Cond.selects "NotePressModel" ({ cls := "NotePressModel", name := "pack", desc := "(III)I" } : Jvm.MethodName) ({ cls := "NotePressModel", name := "pack", desc := "(III)I" } : Jvm.MethodName)) ∈ tB := tB_4 130 rfl rfl
theorem tw_851 : (Jvm.Cond.code ({ cls := "NotePressModel", name := "pack", desc := "(III)I" } : Jvm.MethodName) prog_10_method_51_code (6 : Nat) (Option.some Jvm.ClassFile.FieldType.int)) ∈ tB := tB_4 131 rfl rfl
theorem tw_852 : (Jvm.Cond.constantLong "NotePressModel" (169 : Nat) (9 : Int64)) ∈ tB := tB_4 132 rfl rfl
theorem tw_853 : (Jvm.Cond.methodLink "NotePressLaw" (97 : Nat) ({ cls := "NotePressModel", name := "count", desc := "(I)I" } : Jvm.MethodName)) ∈ tB := tB_4 133 rfl rfl
theorem tw_854 : (Jvm.Cond.instanceMethod ({ cls := "NotePressModel", name := "count", desc := "(I)I" } : Jvm.MethodName)) ∈ tB := tB_4 134 rfl rfl
theorem tw_855 : (Jvm.Cond.selects "NotePressModel" ({ cls := "NotePressModel", name := "count", desc := "(I)I" } : Jvm.MethodName) ({ cls := "NotePressModel", name := "count", desc := "(I)I" } : Jvm.MethodName)) ∈ tB := tB_4 135 rfl rfl
theorem tw_856 : (Jvm.Cond.code ({ cls := "NotePressModel", name := "count", desc := "(I)I" } : Jvm.MethodName) prog_10_method_52_code (6 : Nat) (Option.some Jvm.ClassFile.FieldType.int)) ∈ tB := tB_4 136 rfl rfl
theorem tw_857 : (Jvm.Cond.fieldLink "java/lang/String" (9 : Nat) "java/lang/String" "value" "[B") ∈ tB := tB_4 137 rfl rfl
theorem tw_858 : (Jvm.Cond.fieldLink "java/lang/String" (15 : Nat) "java/lang/String" "coder" "B") ∈ tB := tB_4 138 rfl rfl
theorem ts_0 : Cond.selects "NotePress" ⟨"NotePress", "layText", "()Z"⟩ ⟨"NotePress", "layText", "()Z"⟩ ∈ tB := tB_s 0 rfl rfl
theorem ts_1 : Cond.selects "NotePress$Text" ⟨"NotePress$Text", "readItem", "(LNotePress$Plan;)Z"⟩ ⟨"NotePress$Text", "readItem", "(LNotePress$Plan;)Z"⟩ ∈ tB := tB_s 1 rfl rfl
theorem ts_2 : Cond.selects "NotePress$Text" ⟨"NotePress$Text", "skip", "(I)Z"⟩ ⟨"NotePress$Text", "skip", "(I)Z"⟩ ∈ tB := tB_s 2 rfl rfl
theorem ts_3 : Cond.selects "NotePress$Text" ⟨"NotePress$Text", "readPress", "(LNotePress$Plan;)Z"⟩ ⟨"NotePress$Text", "readPress", "(LNotePress$Plan;)Z"⟩ ∈ tB := tB_s 3 rfl rfl
theorem ts_4 : Cond.selects "NotePress$Text" ⟨"NotePress$Text", "readNumber", "()I"⟩ ⟨"NotePress$Text", "readNumber", "()I"⟩ ∈ tB := tB_s 4 rfl rfl
theorem ts_5 : Cond.selects "NotePress$Text" ⟨"NotePress$Text", "readFigure", "()I"⟩ ⟨"NotePress$Text", "readFigure", "()I"⟩ ∈ tB := tB_s 5 rfl rfl
theorem ts_6 : Cond.selects "NotePress$Text" ⟨"NotePress$Text", "readSeries", "(LNotePress$Plan;)Z"⟩ ⟨"NotePress$Text", "readSeries", "(LNotePress$Plan;)Z"⟩ ∈ tB := tB_s 6 rfl rfl
theorem ts_7 : Cond.selects "NotePress$Text" ⟨"NotePress$Text", "readLetter", "()I"⟩ ⟨"NotePress$Text", "readLetter", "()I"⟩ ∈ tB := tB_s 7 rfl rfl
theorem ts_8 : Cond.selects "NotePress$Text" ⟨"NotePress$Text", "readStars", "(LNotePress$Plan;)Z"⟩ ⟨"NotePress$Text", "readStars", "(LNotePress$Plan;)Z"⟩ ∈ tB := tB_s 8 rfl rfl
theorem ts_9 : Cond.selects "NotePress$Changes" ⟨"NotePress$Changes", "remember", "(LNotePress$Share;I)V"⟩ ⟨"NotePress$Changes", "remember", "(LNotePress$Share;I)V"⟩ ∈ tB := tB_s 9 rfl rfl
theorem ts_10 : Cond.selects "NotePress$Changes" ⟨"NotePress$Changes", "forgetOldest", "()V"⟩ ⟨"NotePress$Changes", "forgetOldest", "()V"⟩ ∈ tB := tB_s 10 rfl rfl
theorem ts_11 : Cond.selects "NotePress" ⟨"NotePress", "unspoiledOfSheet", "(ILNotePress$Share;I)I"⟩ ⟨"NotePress", "unspoiledOfSheet", "(ILNotePress$Share;I)I"⟩ ∈ tB := tB_s 11 rfl rfl
theorem ts_12 : Cond.selects "NotePress" ⟨"NotePress", "judgeStar", "(II)I"⟩ ⟨"NotePress", "judgeStar", "(II)I"⟩ ∈ tB := tB_s 12 rfl rfl
theorem ts_13 : Cond.selects "NotePress" ⟨"NotePress", "judgeNote", "(III)I"⟩ ⟨"NotePress", "judgeNote", "(III)I"⟩ ∈ tB := tB_s 13 rfl rfl
theorem ts_14 : Cond.selects "NotePressModel" ⟨"NotePressModel", "adds", "(IIII)V"⟩ ⟨"NotePressModel", "adds", "(IIII)V"⟩ ∈ tB := tB_s 14 rfl rfl
theorem ts_15 : Cond.selects "NotePressModel" ⟨"NotePressModel", "item", "(I)Z"⟩ ⟨"NotePressModel", "item", "(I)Z"⟩ ∈ tB := tB_s 15 rfl rfl
theorem ts_16 : Cond.selects "NotePressModel" ⟨"NotePressModel", "number2", "(III)Z"⟩ ⟨"NotePressModel", "number2", "(III)Z"⟩ ∈ tB := tB_s 16 rfl rfl
theorem ts_17 : Cond.selects "NotePressModel" ⟨"NotePressModel", "byteAt", "(I)I"⟩ ⟨"NotePressModel", "byteAt", "(I)I"⟩ ∈ tB := tB_s 17 rfl rfl
theorem ts_18 : Cond.selects "NotePressModel" ⟨"NotePressModel", "seriesItem", "()Z"⟩ ⟨"NotePressModel", "seriesItem", "()Z"⟩ ∈ tB := tB_s 18 rfl rfl
theorem ts_19 : Cond.selects "NotePressModel" ⟨"NotePressModel", "gone", "(I)Z"⟩ ⟨"NotePressModel", "gone", "(I)Z"⟩ ∈ tB := tB_s 19 rfl rfl
theorem ts_20 : Cond.selects "NotePressModel" ⟨"NotePressModel", "isSeries", "(I)Z"⟩ ⟨"NotePressModel", "isSeries", "(I)Z"⟩ ∈ tB := tB_s 20 rfl rfl
theorem ts_21 : Cond.selects "NotePressModel" ⟨"NotePressModel", "checkIn", "(II)I"⟩ ⟨"NotePressModel", "checkIn", "(II)I"⟩ ∈ tB := tB_s 21 rfl rfl
theorem ts_22 : Cond.selects "NotePressModel" ⟨"NotePressModel", "isPress", "(I)Z"⟩ ⟨"NotePressModel", "isPress", "(I)Z"⟩ ∈ tB := tB_s 22 rfl rfl
theorem ts_23 : Cond.selects "NotePressModel" ⟨"NotePressModel", "sheets", "(II)I"⟩ ⟨"NotePressModel", "sheets", "(II)I"⟩ ∈ tB := tB_s 23 rfl rfl
theorem ts_24 : Cond.selects "NotePressModel" ⟨"NotePressModel", "note1", "()V"⟩ ⟨"NotePressModel", "note1", "()V"⟩ ∈ tB := tB_s 24 rfl rfl
theorem ts_25 : Cond.selects "NotePressModel" ⟨"NotePressModel", "isNumber", "(II)Z"⟩ ⟨"NotePressModel", "isNumber", "(II)Z"⟩ ∈ tB := tB_s 25 rfl rfl
theorem ts_26 : Cond.selects "NotePressModel" ⟨"NotePressModel", "isPrinted", "(II)Z"⟩ ⟨"NotePressModel", "isPrinted", "(II)Z"⟩ ∈ tB := tB_s 26 rfl rfl
theorem ts_27 : Cond.selects "NotePressModel" ⟨"NotePressModel", "sheetOf", "(II)I"⟩ ⟨"NotePressModel", "sheetOf", "(II)I"⟩ ∈ tB := tB_s 27 rfl rfl
theorem ts_28 : Cond.selects "NotePressModel" ⟨"NotePressModel", "pressOf", "(II)I"⟩ ⟨"NotePressModel", "pressOf", "(II)I"⟩ ∈ tB := tB_s 28 rfl rfl
theorem ts_29 : Cond.selects "NotePressModel" ⟨"NotePressModel", "first", "(II)I"⟩ ⟨"NotePressModel", "first", "(II)I"⟩ ∈ tB := tB_s 29 rfl rfl
theorem ts_30 : Cond.selects "NotePressModel" ⟨"NotePressModel", "starAt", "(II)I"⟩ ⟨"NotePressModel", "starAt", "(II)I"⟩ ∈ tB := tB_s 30 rfl rfl
theorem ts_31 : Cond.selects "NotePressModel" ⟨"NotePressModel", "stands", "(II)I"⟩ ⟨"NotePressModel", "stands", "(II)I"⟩ ∈ tB := tB_s 31 rfl rfl
theorem ts_32 : Cond.selects "NotePressModel" ⟨"NotePressModel", "numberAt", "(IIII)I"⟩ ⟨"NotePressModel", "numberAt", "(IIII)I"⟩ ∈ tB := tB_s 32 rfl rfl
theorem ts_33 : Cond.selects "NotePressModel" ⟨"NotePressModel", "printed", "(I)I"⟩ ⟨"NotePressModel", "printed", "(I)I"⟩ ∈ tB := tB_s 33 rfl rfl
theorem ts_34 : Cond.selects "NotePressModel" ⟨"NotePressModel", "spoiled", "(I)I"⟩ ⟨"NotePressModel", "spoiled", "(I)I"⟩ ∈ tB := tB_s 34 rfl rfl
theorem ts_35 : Cond.selects "NotePressModel" ⟨"NotePressModel", "leftOf", "(I)I"⟩ ⟨"NotePressModel", "leftOf", "(I)I"⟩ ∈ tB := tB_s 35 rfl rfl
theorem ts_36 : Cond.selects "NotePressModel" ⟨"NotePressModel", "packs", "(I)I"⟩ ⟨"NotePressModel", "packs", "(I)I"⟩ ∈ tB := tB_s 36 rfl rfl
theorem ts_37 : Cond.selects "NotePressModel" ⟨"NotePressModel", "wholes", "(I)I"⟩ ⟨"NotePressModel", "wholes", "(I)I"⟩ ∈ tB := tB_s 37 rfl rfl
theorem ts_38 : Cond.selects "NotePressModel" ⟨"NotePressModel", "isWhole", "(II)Z"⟩ ⟨"NotePressModel", "isWhole", "(II)Z"⟩ ∈ tB := tB_s 38 rfl rfl
theorem ts_39 : Cond.selects "NotePressModel" ⟨"NotePressModel", "judgeStar", "(II)I"⟩ ⟨"NotePressModel", "judgeStar", "(II)I"⟩ ∈ tB := tB_s 39 rfl rfl
theorem in_X0 : ∀ w ∈ u_ws RX0 TX0 3, w ∈ tB := by
  intro w hw
  obtain ⟨j, hj, rfl⟩ := List.mem_map.mp hw
  have hj := List.mem_range.mp hj
  match j, hj with
  | 0, _ => exact tw_74
  | 1, _ => exact tw_76
  | 2, _ => exact tw_78
  | j + 3, hj => exact absurd hj (by omega)
theorem in_X2 : ∀ w ∈ u_ws RX2 TX2 5, w ∈ tB := by
  intro w hw
  obtain ⟨j, hj, rfl⟩ := List.mem_map.mp hw
  have hj := List.mem_range.mp hj
  match j, hj with
  | 0, _ => exact tw_151
  | 1, _ => exact tw_153
  | 2, _ => exact tw_155
  | 3, _ => exact tw_157
  | 4, _ => exact tw_159
  | j + 5, hj => exact absurd hj (by omega)
theorem in_X3 : ∀ w ∈ u_ws RX3 TX3 5, w ∈ tB := by
  intro w hw
  obtain ⟨j, hj, rfl⟩ := List.mem_map.mp hw
  have hj := List.mem_range.mp hj
  match j, hj with
  | 0, _ => exact tw_129
  | 1, _ => exact tw_131
  | 2, _ => exact tw_133
  | 3, _ => exact tw_135
  | 4, _ => exact tw_137
  | j + 5, hj => exact absurd hj (by omega)
theorem in_X4 : ∀ w ∈ u_ws RX4 TX4 4, w ∈ tB := by
  intro w hw
  obtain ⟨j, hj, rfl⟩ := List.mem_map.mp hw
  have hj := List.mem_range.mp hj
  match j, hj with
  | 0, _ => exact tw_110
  | 1, _ => exact tw_112
  | 2, _ => exact tw_114
  | 3, _ => exact tw_116
  | j + 4, hj => exact absurd hj (by omega)
theorem in_X5 : ∀ w ∈ u_ws RX5 TX5 4, w ∈ tB := by
  intro w hw
  obtain ⟨j, hj, rfl⟩ := List.mem_map.mp hw
  have hj := List.mem_range.mp hj
  match j, hj with
  | 0, _ => exact tw_53
  | 1, _ => exact tw_55
  | 2, _ => exact tw_57
  | 3, _ => exact tw_59
  | j + 4, hj => exact absurd hj (by omega)
theorem in_X6 : ∀ w ∈ u_ws RX6 TX6 3, w ∈ tB := by
  intro w hw
  obtain ⟨j, hj, rfl⟩ := List.mem_map.mp hw
  have hj := List.mem_range.mp hj
  match j, hj with
  | 0, _ => exact tw_33
  | 1, _ => exact tw_35
  | 2, _ => exact tw_37
  | j + 3, hj => exact absurd hj (by omega)
theorem in_X7 : ∀ w ∈ u_ws RX7 TX7 5, w ∈ tB := by
  intro w hw
  obtain ⟨j, hj, rfl⟩ := List.mem_map.mp hw
  have hj := List.mem_range.mp hj
  match j, hj with
  | 0, _ => exact tw_310
  | 1, _ => exact tw_312
  | 2, _ => exact tw_314
  | 3, _ => exact tw_316
  | 4, _ => exact tw_318
  | j + 5, hj => exact absurd hj (by omega)
theorem in_X8 : ∀ w ∈ u_ws RX8 TX8 8, w ∈ tB := by
  intro w hw
  obtain ⟨j, hj, rfl⟩ := List.mem_map.mp hw
  have hj := List.mem_range.mp hj
  match j, hj with
  | 0, _ => exact tw_630
  | 1, _ => exact tw_632
  | 2, _ => exact tw_634
  | 3, _ => exact tw_636
  | 4, _ => exact tw_638
  | 5, _ => exact tw_640
  | 6, _ => exact tw_642
  | 7, _ => exact tw_644
  | j + 8, hj => exact absurd hj (by omega)
