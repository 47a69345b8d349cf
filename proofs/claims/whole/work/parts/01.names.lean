-- ===== PART A: goes FIRST, ahead of the names: the tables' words, and 'selects' of the private methods out of them =====
/-- a private method of a class that the tables say can be made, by its rows of tables_1 -/
def lw_okq (q : MethodName × Nat) : Prop := (q.1.cls ≠ "java/lang/invoke/MethodHandle" ∧ q.1.cls ≠ "java/lang/invoke/VarHandle") ∧ Cond.instantiable q.1.cls q.2 ∈ tables_1 ∧ Cond.privateMethod q.1 ∈ tables_1 ∧ Cond.instanceMethod q.1 ∈ tables_1
theorem lw_p0 : lw_okq (⟨"WordFieldsModel", "number", "(III)I"⟩, 4) := ⟨⟨by decide +kernel, by decide +kernel⟩, List.mem_of_getElem? (i := 209) (by decide +kernel), List.mem_of_getElem? (i := 243) (by decide +kernel), List.mem_of_getElem? (i := 244) (by decide +kernel)⟩
theorem lw_p1 : lw_okq (⟨"WordFieldsModel", "may", "(III)Z"⟩, 4) := ⟨⟨by decide +kernel, by decide +kernel⟩, List.mem_of_getElem? (i := 209) (by decide +kernel), List.mem_of_getElem? (i := 256) (by decide +kernel), List.mem_of_getElem? (i := 257) (by decide +kernel)⟩
def lw_privs_1 : List (MethodName × Nat) := [(⟨"WordFieldsModel", "number", "(III)I"⟩, 4), (⟨"WordFieldsModel", "may", "(III)Z"⟩, 4)]
theorem lw_r1 : ∀ q ∈ lw_privs_1, lw_okq q := List.forall_mem_cons.mpr ⟨lw_p0, List.forall_mem_cons.mpr ⟨lw_p1, fun _ h => absurd h List.not_mem_nil⟩⟩
def lw_privs : List (MethodName × Nat) := lw_privs_1
def lw_tbl : List Cond := k2_sels lw_privs ++ tables_1
theorem lw_privs_ok : ∀ q ∈ lw_privs, lw_okq q := lw_r1

/-! the words that a callee may take along -/
def gw : List Cond := lw_tbl.filter goodWord
theorem gw_in {w : Cond} (h : w ∈ gw) : w ∈ lw_tbl := (List.mem_filter.mp h).1
theorem gw_g {w : Cond} (h : w ∈ gw) : (w.onTables && w.keeps) = true ∨ ∃ ty, w = .arrayClass ty := good_of_word (List.mem_filter.mp h).2
theorem gw_of {w : Cond} (i : Nat) (h : tables_1[i]? = some w) (hg : goodWord w = true) : w ∈ gw := List.mem_filter.mpr ⟨List.mem_append_right _ (List.mem_of_getElem? h), hg⟩
theorem gI {y : MethodName} {b : ByteArray} {k : Nat} {r : Option FieldType} (h : Cond.code y b k r ∈ gw) : GoodIn gw (Cond.code y b k r :: gw) := fun w hw => by
  rcases List.mem_cons.mp hw with rfl | hw
  · exact ⟨h, gw_g h⟩
  · exact ⟨hw, gw_g hw⟩
theorem gS {own : String} {idx : Nat} {y : MethodName} {b : ByteArray} {k : Nat} {r : Option FieldType} (h1 : Cond.methodLink own idx y ∈ gw) (h2 : Cond.static y ∈ gw) (h3 : Cond.initialized y.cls ∈ gw) (h4 : Cond.code y b k r ∈ gw) : GoodIn gw (va_wsS own idx y (Cond.code y b k r :: gw)) := fun w hw => by
  unfold va_wsS at hw
  rcases List.mem_append.mp hw with hw | hw
  · simp only [List.mem_cons, List.not_mem_nil, or_false] at hw
    rcases hw with rfl | rfl | rfl
    · exact ⟨h1, gw_g h1⟩
    · exact ⟨h2, gw_g h2⟩
    · exact ⟨h3, gw_g h3⟩
  · exact gI h4 w hw
theorem gV {own : String} {idx : Nat} {C : String} {y : MethodName} {b : ByteArray} {k : Nat} {r : Option FieldType} (h1 : Cond.methodLink own idx y ∈ gw) (h2 : Cond.instanceMethod y ∈ gw) (h3 : Cond.selects C y y ∈ gw) (h4 : Cond.initialized C ∈ gw) (h5 : Cond.code y b k r ∈ gw) : GoodIn gw (wsV own idx C y (Cond.code y b k r :: gw)) := fun w hw => by
  unfold wsV at hw
  rcases List.mem_append.mp hw with hw | hw
  · simp only [List.mem_cons, List.not_mem_nil, or_false] at hw
    rcases hw with rfl | rfl | rfl | rfl
    · exact ⟨h1, gw_g h1⟩
    · exact ⟨h2, gw_g h2⟩
    · exact ⟨h3, gw_g h3⟩
    · exact ⟨h4, gw_g h4⟩
  · exact gI h5 w hw
theorem tw_p0 : Cond.selects "WordFieldsModel" ⟨"WordFieldsModel", "number", "(III)I"⟩ ⟨"WordFieldsModel", "number", "(III)I"⟩ ∈ gw := List.mem_filter.mpr ⟨List.mem_append_left _ (List.mem_of_getElem? (i := 0) rfl), rfl⟩
theorem tw_p1 : Cond.selects "WordFieldsModel" ⟨"WordFieldsModel", "may", "(III)Z"⟩ ⟨"WordFieldsModel", "may", "(III)Z"⟩ ∈ gw := List.mem_filter.mpr ⟨List.mem_append_left _ (List.mem_of_getElem? (i := 1) rfl), rfl⟩
theorem tw_mmax : Cond.code Lib.Math.max.name Lib.Math.max.code 2 (some .int) ∈ gw := gw_of 73 rfl rfl
theorem tw_mmin : Cond.code Lib.Math.min.name Lib.Math.min.code 2 (some .int) ∈ gw := gw_of 169 rfl rfl
theorem tw_obj : Cond.code objectInit ⟨#[0xb1]⟩ 1 none ∈ gw := gw_of 16 rfl rfl

theorem tw_1 : (Jvm.Cond.initialized "WordFields") ∈ gw := gw_of 1 rfl rfl
theorem tw_2 : (Jvm.Cond.initialized "WordFieldsModel") ∈ gw := gw_of 2 rfl rfl
theorem tw_3 : (Jvm.Cond.initialized "java/lang/Math") ∈ gw := gw_of 3 rfl rfl
theorem tw_4 : (Jvm.Cond.initialized "java/lang/String") ∈ gw := gw_of 4 rfl rfl
theorem tw_5 : (Jvm.Cond.initialized "java/lang/StringLatin1") ∈ gw := gw_of 5 rfl rfl
theorem tw_6 : (Jvm.Cond.initialized "jdk/internal/util/Preconditions") ∈ gw := gw_of 6 rfl rfl
theorem tw_9 : (Jvm.Cond.classLink "WordFieldsLaw" (7 : Nat) "WordFields") ∈ gw := gw_of 9 rfl rfl
theorem tw_10 : (Jvm.Cond.instantiable "WordFields" (1 : Nat)) ∈ gw := gw_of 10 rfl rfl
theorem tw_11 : (Jvm.Cond.methodLink "WordFieldsLaw" (9 : Nat) ({ cls := "WordFields", name := "<init>", desc := "()V" } : Jvm.MethodName)) ∈ gw := gw_of 11 rfl rfl
theorem tw_12 : (Jvm.Cond.instanceMethod ({ cls := "WordFields", name := "<init>", desc := "()V" } : Jvm.MethodName)) ∈ gw := gw_of 12 rfl rfl
theorem tw_13 : (Jvm.Cond.code ({ cls := "WordFields", name := "<init>", desc := "()V" } : Jvm.MethodName) prog_1_method_1_code (1 : Nat) (Option.none : Option Jvm.ClassFile.FieldType)) ∈ gw := gw_of 13 rfl rfl
theorem tw_14 : (Jvm.Cond.methodLink "WordFields" (3 : Nat) ({ cls := "java/lang/Object", name := "<init>", desc := "()V" } : Jvm.MethodName)) ∈ gw := gw_of 14 rfl rfl
theorem tw_15 : (Jvm.Cond.instanceMethod ({ cls := "java/lang/Object", name := "<init>", desc := "()V" } : Jvm.MethodName)) ∈ gw := gw_of 15 rfl rfl
theorem tw_17 : (Jvm.Cond.fieldLink "WordFields" (9 : Nat) "WordFields" "words" "[I") ∈ gw := gw_of 17 rfl rfl
theorem tw_21 : (Jvm.Cond.arrayClass Jvm.ClassFile.FieldType.int) ∈ gw := gw_of 21 rfl rfl
theorem tw_22 : (Jvm.Cond.methodLink "WordFieldsLaw" (13 : Nat) ({ cls := "WordFields", name := "set", desc := "(IIZ)Z" } : Jvm.MethodName)) ∈ gw := gw_of 22 rfl rfl
theorem tw_23 : (Jvm.Cond.instanceMethod ({ cls := "WordFields", name := "set", desc := "(IIZ)Z" } : Jvm.MethodName)) ∈ gw := gw_of 23 rfl rfl
theorem tw_24 : (Jvm.Cond.selects "WordFields" ({ cls := "WordFields", name := "set", desc := "(IIZ)Z" } : Jvm.MethodName) ({ cls := "WordFields", name := "set", desc := "(IIZ)Z" } : Jvm.MethodName)) ∈ gw := gw_of 24 rfl rfl
theorem tw_25 : (Jvm.Cond.code ({ cls := "WordFields", name := "set", desc := "(IIZ)Z" } : Jvm.MethodName) prog_1_method_2_code (5 : Nat) (Option.some Jvm.ClassFile.FieldType.boolean)) ∈ gw := gw_of 25 rfl rfl
theorem tw_26 : (Jvm.Cond.methodLink "WordFields" (13 : Nat) ({ cls := "WordFields", name := "isRegister", desc := "(I)Z" } : Jvm.MethodName)) ∈ gw := gw_of 26 rfl rfl
theorem tw_27 : (Jvm.Cond.static ({ cls := "WordFields", name := "isRegister", desc := "(I)Z" } : Jvm.MethodName)) ∈ gw := gw_of 27 rfl rfl
theorem tw_28 : (Jvm.Cond.code ({ cls := "WordFields", name := "isRegister", desc := "(I)Z" } : Jvm.MethodName) prog_1_method_12_code (1 : Nat) (Option.some Jvm.ClassFile.FieldType.boolean)) ∈ gw := gw_of 28 rfl rfl
theorem tw_29 : (Jvm.Cond.constant "WordFields" (17 : Nat) (1073741823 : Int32)) ∈ gw := gw_of 29 rfl rfl
theorem tw_30 : (Jvm.Cond.constant "WordFields" (18 : Nat) (-1073741823 : Int32)) ∈ gw := gw_of 30 rfl rfl
theorem tw_31 : (Jvm.Cond.constant "WordFields" (19 : Nat) (1073741824 : Int32)) ∈ gw := gw_of 31 rfl rfl
theorem tw_32 : (Jvm.Cond.methodLink "WordFieldsLaw" (18 : Nat) ({ cls := "WordFields", name := "value", desc := "(I)I" } : Jvm.MethodName)) ∈ gw := gw_of 32 rfl rfl
theorem tw_33 : (Jvm.Cond.instanceMethod ({ cls := "WordFields", name := "value", desc := "(I)I" } : Jvm.MethodName)) ∈ gw := gw_of 33 rfl rfl
theorem tw_34 : (Jvm.Cond.selects "WordFields" ({ cls := "WordFields", name := "value", desc := "(I)I" } : Jvm.MethodName) ({ cls := "WordFields", name := "value", desc := "(I)I" } : Jvm.MethodName)) ∈ gw := gw_of 34 rfl rfl
theorem tw_35 : (Jvm.Cond.code ({ cls := "WordFields", name := "value", desc := "(I)I" } : Jvm.MethodName) prog_1_method_3_code (3 : Nat) (Option.some Jvm.ClassFile.FieldType.int)) ∈ gw := gw_of 35 rfl rfl
theorem tw_36 : (Jvm.Cond.constant "WordFields" (20 : Nat) (2147483647 : Int32)) ∈ gw := gw_of 36 rfl rfl
theorem tw_37 : (Jvm.Cond.constant "WordFields" (21 : Nat) (-2147483648 : Int32)) ∈ gw := gw_of 37 rfl rfl
theorem tw_38 : (Jvm.Cond.methodLink "WordFields" (22 : Nat) ({ cls := "WordFields", name := "number", desc := "(I)I" } : Jvm.MethodName)) ∈ gw := gw_of 38 rfl rfl
theorem tw_39 : (Jvm.Cond.static ({ cls := "WordFields", name := "number", desc := "(I)I" } : Jvm.MethodName)) ∈ gw := gw_of 39 rfl rfl
theorem tw_40 : (Jvm.Cond.code ({ cls := "WordFields", name := "number", desc := "(I)I" } : Jvm.MethodName) prog_1_method_14_code (2 : Nat) (Option.some Jvm.ClassFile.FieldType.int)) ∈ gw := gw_of 40 rfl rfl
theorem tw_41 : (Jvm.Cond.methodLink "WordFields" (26 : Nat) ({ cls := "WordFields", name := "isMinus", desc := "(I)Z" } : Jvm.MethodName)) ∈ gw := gw_of 41 rfl rfl
theorem tw_42 : (Jvm.Cond.static ({ cls := "WordFields", name := "isMinus", desc := "(I)Z" } : Jvm.MethodName)) ∈ gw := gw_of 42 rfl rfl
theorem tw_43 : (Jvm.Cond.code ({ cls := "WordFields", name := "isMinus", desc := "(I)Z" } : Jvm.MethodName) prog_1_method_13_code (1 : Nat) (Option.some Jvm.ClassFile.FieldType.boolean)) ∈ gw := gw_of 43 rfl rfl
theorem tw_44 : (Jvm.Cond.methodLink "WordFieldsLaw" (23 : Nat) ({ cls := "WordFields", name := "byteOf", desc := "(II)I" } : Jvm.MethodName)) ∈ gw := gw_of 44 rfl rfl
theorem tw_45 : (Jvm.Cond.instanceMethod ({ cls := "WordFields", name := "byteOf", desc := "(II)I" } : Jvm.MethodName)) ∈ gw := gw_of 45 rfl rfl
theorem tw_46 : (Jvm.Cond.selects "WordFields" ({ cls := "WordFields", name := "byteOf", desc := "(II)I" } : Jvm.MethodName) ({ cls := "WordFields", name := "byteOf", desc := "(II)I" } : Jvm.MethodName)) ∈ gw := gw_of 46 rfl rfl
theorem tw_47 : (Jvm.Cond.code ({ cls := "WordFields", name := "byteOf", desc := "(II)I" } : Jvm.MethodName) prog_1_method_4_code (4 : Nat) (Option.some Jvm.ClassFile.FieldType.int)) ∈ gw := gw_of 47 rfl rfl
theorem tw_48 : (Jvm.Cond.methodLink "WordFields" (29 : Nat) ({ cls := "WordFields", name := "bitsRightOf", desc := "(I)I" } : Jvm.MethodName)) ∈ gw := gw_of 48 rfl rfl
theorem tw_49 : (Jvm.Cond.static ({ cls := "WordFields", name := "bitsRightOf", desc := "(I)I" } : Jvm.MethodName)) ∈ gw := gw_of 49 rfl rfl
theorem tw_50 : (Jvm.Cond.code ({ cls := "WordFields", name := "bitsRightOf", desc := "(I)I" } : Jvm.MethodName) prog_1_method_17_code (1 : Nat) (Option.some Jvm.ClassFile.FieldType.int)) ∈ gw := gw_of 50 rfl rfl
theorem tw_51 : (Jvm.Cond.methodLink "WordFieldsLaw" (28 : Nat) ({ cls := "WordFields", name := "load", desc := "(III)Z" } : Jvm.MethodName)) ∈ gw := gw_of 51 rfl rfl
theorem tw_52 : (Jvm.Cond.instanceMethod ({ cls := "WordFields", name := "load", desc := "(III)Z" } : Jvm.MethodName)) ∈ gw := gw_of 52 rfl rfl
theorem tw_53 : (Jvm.Cond.selects "WordFields" ({ cls := "WordFields", name := "load", desc := "(III)Z" } : Jvm.MethodName) ({ cls := "WordFields", name := "load", desc := "(III)Z" } : Jvm.MethodName)) ∈ gw := gw_of 53 rfl rfl
theorem tw_54 : (Jvm.Cond.code ({ cls := "WordFields", name := "load", desc := "(III)Z" } : Jvm.MethodName) prog_1_method_5_code (4 : Nat) (Option.some Jvm.ClassFile.FieldType.boolean)) ∈ gw := gw_of 54 rfl rfl
theorem tw_55 : (Jvm.Cond.methodLink "WordFields" (32 : Nat) ({ cls := "WordFields", name := "isField", desc := "(I)Z" } : Jvm.MethodName)) ∈ gw := gw_of 55 rfl rfl
theorem tw_56 : (Jvm.Cond.instanceMethod ({ cls := "WordFields", name := "isField", desc := "(I)Z" } : Jvm.MethodName)) ∈ gw := gw_of 56 rfl rfl
theorem tw_57 : (Jvm.Cond.selects "WordFields" ({ cls := "WordFields", name := "isField", desc := "(I)Z" } : Jvm.MethodName) ({ cls := "WordFields", name := "isField", desc := "(I)Z" } : Jvm.MethodName)) ∈ gw := gw_of 57 rfl rfl
theorem tw_58 : (Jvm.Cond.code ({ cls := "WordFields", name := "isField", desc := "(I)Z" } : Jvm.MethodName) prog_1_method_9_code (2 : Nat) (Option.some Jvm.ClassFile.FieldType.boolean)) ∈ gw := gw_of 58 rfl rfl
theorem tw_59 : (Jvm.Cond.methodLink "WordFields" (48 : Nat) ({ cls := "WordFields", name := "firstByte", desc := "(I)I" } : Jvm.MethodName)) ∈ gw := gw_of 59 rfl rfl
theorem tw_60 : (Jvm.Cond.static ({ cls := "WordFields", name := "firstByte", desc := "(I)I" } : Jvm.MethodName)) ∈ gw := gw_of 60 rfl rfl
theorem tw_61 : (Jvm.Cond.code ({ cls := "WordFields", name := "firstByte", desc := "(I)I" } : Jvm.MethodName) prog_1_method_15_code (1 : Nat) (Option.some Jvm.ClassFile.FieldType.int)) ∈ gw := gw_of 61 rfl rfl
theorem tw_62 : (Jvm.Cond.methodLink "WordFields" (42 : Nat) ({ cls := "WordFields", name := "lastByte", desc := "(I)I" } : Jvm.MethodName)) ∈ gw := gw_of 62 rfl rfl
theorem tw_63 : (Jvm.Cond.static ({ cls := "WordFields", name := "lastByte", desc := "(I)I" } : Jvm.MethodName)) ∈ gw := gw_of 63 rfl rfl
theorem tw_64 : (Jvm.Cond.code ({ cls := "WordFields", name := "lastByte", desc := "(I)I" } : Jvm.MethodName) prog_1_method_16_code (1 : Nat) (Option.some Jvm.ClassFile.FieldType.int)) ∈ gw := gw_of 64 rfl rfl
theorem tw_65 : (Jvm.Cond.methodLink "WordFields" (35 : Nat) ({ cls := "WordFields", name := "fieldOf", desc := "(II)I" } : Jvm.MethodName)) ∈ gw := gw_of 65 rfl rfl
theorem tw_66 : (Jvm.Cond.static ({ cls := "WordFields", name := "fieldOf", desc := "(II)I" } : Jvm.MethodName)) ∈ gw := gw_of 66 rfl rfl
theorem tw_67 : (Jvm.Cond.code ({ cls := "WordFields", name := "fieldOf", desc := "(II)I" } : Jvm.MethodName) prog_1_method_20_code (3 : Nat) (Option.some Jvm.ClassFile.FieldType.int)) ∈ gw := gw_of 67 rfl rfl
theorem tw_68 : (Jvm.Cond.methodLink "WordFields" (39 : Nat) ({ cls := "WordFields", name := "rightMask", desc := "(I)I" } : Jvm.MethodName)) ∈ gw := gw_of 68 rfl rfl
theorem tw_69 : (Jvm.Cond.static ({ cls := "WordFields", name := "rightMask", desc := "(I)I" } : Jvm.MethodName)) ∈ gw := gw_of 69 rfl rfl
theorem tw_70 : (Jvm.Cond.code ({ cls := "WordFields", name := "rightMask", desc := "(I)I" } : Jvm.MethodName) prog_1_method_18_code (2 : Nat) (Option.some Jvm.ClassFile.FieldType.int)) ∈ gw := gw_of 70 rfl rfl
theorem tw_71 : (Jvm.Cond.methodLink "WordFields" (69 : Nat) ({ cls := "java/lang/Math", name := "max", desc := "(II)I" } : Jvm.MethodName)) ∈ gw := gw_of 71 rfl rfl
theorem tw_72 : (Jvm.Cond.static ({ cls := "java/lang/Math", name := "max", desc := "(II)I" } : Jvm.MethodName)) ∈ gw := gw_of 72 rfl rfl
theorem tw_74 : (Jvm.Cond.methodLink "WordFields" (45 : Nat) ({ cls := "WordFields", name := "signMask", desc := "(I)I" } : Jvm.MethodName)) ∈ gw := gw_of 74 rfl rfl
theorem tw_75 : (Jvm.Cond.static ({ cls := "WordFields", name := "signMask", desc := "(I)I" } : Jvm.MethodName)) ∈ gw := gw_of 75 rfl rfl
theorem tw_76 : (Jvm.Cond.code ({ cls := "WordFields", name := "signMask", desc := "(I)I" } : Jvm.MethodName) prog_1_method_19_code (1 : Nat) (Option.some Jvm.ClassFile.FieldType.int)) ∈ gw := gw_of 76 rfl rfl
theorem tw_77 : (Jvm.Cond.methodLink "WordFieldsLaw" (33 : Nat) ({ cls := "WordFields", name := "store", desc := "(III)Z" } : Jvm.MethodName)) ∈ gw := gw_of 77 rfl rfl
theorem tw_78 : (Jvm.Cond.instanceMethod ({ cls := "WordFields", name := "store", desc := "(III)Z" } : Jvm.MethodName)) ∈ gw := gw_of 78 rfl rfl
theorem tw_79 : (Jvm.Cond.selects "WordFields" ({ cls := "WordFields", name := "store", desc := "(III)Z" } : Jvm.MethodName) ({ cls := "WordFields", name := "store", desc := "(III)Z" } : Jvm.MethodName)) ∈ gw := gw_of 79 rfl rfl
theorem tw_80 : (Jvm.Cond.code ({ cls := "WordFields", name := "store", desc := "(III)Z" } : Jvm.MethodName) prog_1_method_6_code (7 : Nat) (Option.some Jvm.ClassFile.FieldType.boolean)) ∈ gw := gw_of 80 rfl rfl
theorem tw_81 : (Jvm.Cond.methodLink "WordFieldsLaw" (37 : Nat) ({ cls := "WordFields", name := "turn", desc := "(I)Z" } : Jvm.MethodName)) ∈ gw := gw_of 81 rfl rfl
theorem tw_82 : (Jvm.Cond.instanceMethod ({ cls := "WordFields", name := "turn", desc := "(I)Z" } : Jvm.MethodName)) ∈ gw := gw_of 82 rfl rfl
theorem tw_83 : (Jvm.Cond.selects "WordFields" ({ cls := "WordFields", name := "turn", desc := "(I)Z" } : Jvm.MethodName) ({ cls := "WordFields", name := "turn", desc := "(I)Z" } : Jvm.MethodName)) ∈ gw := gw_of 83 rfl rfl
theorem tw_84 : (Jvm.Cond.code ({ cls := "WordFields", name := "turn", desc := "(I)Z" } : Jvm.MethodName) prog_1_method_7_code (2 : Nat) (Option.some Jvm.ClassFile.FieldType.boolean)) ∈ gw := gw_of 84 rfl rfl
theorem tw_85 : (Jvm.Cond.methodLink "WordFieldsLaw" (42 : Nat) ({ cls := "WordFields", name := "compare", desc := "(III)I" } : Jvm.MethodName)) ∈ gw := gw_of 85 rfl rfl
theorem tw_86 : (Jvm.Cond.instanceMethod ({ cls := "WordFields", name := "compare", desc := "(III)I" } : Jvm.MethodName)) ∈ gw := gw_of 86 rfl rfl
theorem tw_87 : (Jvm.Cond.selects "WordFields" ({ cls := "WordFields", name := "compare", desc := "(III)I" } : Jvm.MethodName) ({ cls := "WordFields", name := "compare", desc := "(III)I" } : Jvm.MethodName)) ∈ gw := gw_of 87 rfl rfl
theorem tw_88 : (Jvm.Cond.code ({ cls := "WordFields", name := "compare", desc := "(III)I" } : Jvm.MethodName) prog_1_method_8_code (6 : Nat) (Option.some Jvm.ClassFile.FieldType.int)) ∈ gw := gw_of 88 rfl rfl
theorem tw_89 : (Jvm.Cond.methodLink "WordFieldsLaw" (47 : Nat) ({ cls := "WordFields", name := "isField", desc := "(I)Z" } : Jvm.MethodName)) ∈ gw := gw_of 89 rfl rfl
theorem tw_90 : (Jvm.Cond.methodLink "WordFieldsLaw" (51 : Nat) ({ cls := "WordFields", name := "letter", desc := "(I)I" } : Jvm.MethodName)) ∈ gw := gw_of 90 rfl rfl
theorem tw_91 : (Jvm.Cond.instanceMethod ({ cls := "WordFields", name := "letter", desc := "(I)I" } : Jvm.MethodName)) ∈ gw := gw_of 91 rfl rfl
theorem tw_92 : (Jvm.Cond.selects "WordFields" ({ cls := "WordFields", name := "letter", desc := "(I)I" } : Jvm.MethodName) ({ cls := "WordFields", name := "letter", desc := "(I)I" } : Jvm.MethodName)) ∈ gw := gw_of 92 rfl rfl
theorem tw_93 : (Jvm.Cond.code ({ cls := "WordFields", name := "letter", desc := "(I)I" } : Jvm.MethodName) prog_1_method_10_code (2 : Nat) (Option.some Jvm.ClassFile.FieldType.int)) ∈ gw := gw_of 93 rfl rfl
theorem tw_95 : (Jvm.Cond.methodLink "WordFields" (53 : Nat) ({ cls := "java/lang/String", name := "length", desc := "()I" } : Jvm.MethodName)) ∈ gw := gw_of 95 rfl rfl
theorem tw_96 : (Jvm.Cond.instanceMethod ({ cls := "java/lang/String", name := "length", desc := "()I" } : Jvm.MethodName)) ∈ gw := gw_of 96 rfl rfl
theorem tw_97 : (Jvm.Cond.selects "java/lang/String" ({ cls := "java/lang/String", name := "length", desc := "()I" } : Jvm.MethodName) ({ cls := "java/lang/String", name := "length", desc := "()I" } : Jvm.MethodName)) ∈ gw := gw_of 97 rfl rfl
theorem tw_98 : (Jvm.Cond.code ({ cls := "java/lang/String", name := "length", desc := "()I" } : Jvm.MethodName) prog_6_method_54_code (1 : Nat) (Option.some Jvm.ClassFile.FieldType.int)) ∈ gw := gw_of 98 rfl rfl
theorem tw_99 : (Jvm.Cond.methodLink "java/lang/String" (335 : Nat) ({ cls := "java/lang/String", name := "coder", desc := "()B" } : Jvm.MethodName)) ∈ gw := gw_of 99 rfl rfl
theorem tw_100 : (Jvm.Cond.instanceMethod ({ cls := "java/lang/String", name := "coder", desc := "()B" } : Jvm.MethodName)) ∈ gw := gw_of 100 rfl rfl
theorem tw_101 : (Jvm.Cond.selects "java/lang/String" ({ cls := "java/lang/String", name := "coder", desc := "()B" } : Jvm.MethodName) ({ cls := "java/lang/String", name := "coder", desc := "()B" } : Jvm.MethodName)) ∈ gw := gw_of 101 rfl rfl
theorem tw_102 : (Jvm.Cond.code ({ cls := "java/lang/String", name := "coder", desc := "()B" } : Jvm.MethodName) prog_6_method_152_code (1 : Nat) (Option.some Jvm.ClassFile.FieldType.byte)) ∈ gw := gw_of 102 rfl rfl
theorem tw_103 : (Jvm.Cond.fieldLink "java/lang/String" (38 : Nat) "java/lang/String" "COMPACT_STRINGS" "Z") ∈ gw := gw_of 103 rfl rfl
theorem tw_105 : (Jvm.Cond.methodLink "WordFields" (59 : Nat) ({ cls := "java/lang/String", name := "charAt", desc := "(I)C" } : Jvm.MethodName)) ∈ gw := gw_of 105 rfl rfl
theorem tw_106 : (Jvm.Cond.instanceMethod ({ cls := "java/lang/String", name := "charAt", desc := "(I)C" } : Jvm.MethodName)) ∈ gw := gw_of 106 rfl rfl
theorem tw_107 : (Jvm.Cond.selects "java/lang/String" ({ cls := "java/lang/String", name := "charAt", desc := "(I)C" } : Jvm.MethodName) ({ cls := "java/lang/String", name := "charAt", desc := "(I)C" } : Jvm.MethodName)) ∈ gw := gw_of 107 rfl rfl
theorem tw_108 : (Jvm.Cond.code ({ cls := "java/lang/String", name := "charAt", desc := "(I)C" } : Jvm.MethodName) prog_6_method_56_code (2 : Nat) (Option.some Jvm.ClassFile.FieldType.char)) ∈ gw := gw_of 108 rfl rfl
theorem tw_109 : (Jvm.Cond.methodLink "java/lang/String" (492 : Nat) ({ cls := "java/lang/String", name := "isLatin1", desc := "()Z" } : Jvm.MethodName)) ∈ gw := gw_of 109 rfl rfl
theorem tw_110 : (Jvm.Cond.instanceMethod ({ cls := "java/lang/String", name := "isLatin1", desc := "()Z" } : Jvm.MethodName)) ∈ gw := gw_of 110 rfl rfl
theorem tw_111 : (Jvm.Cond.selects "java/lang/String" ({ cls := "java/lang/String", name := "isLatin1", desc := "()Z" } : Jvm.MethodName) ({ cls := "java/lang/String", name := "isLatin1", desc := "()Z" } : Jvm.MethodName)) ∈ gw := gw_of 111 rfl rfl
theorem tw_112 : (Jvm.Cond.code ({ cls := "java/lang/String", name := "isLatin1", desc := "()Z" } : Jvm.MethodName) prog_6_method_154_code (1 : Nat) (Option.some Jvm.ClassFile.FieldType.boolean)) ∈ gw := gw_of 112 rfl rfl
theorem tw_113 : (Jvm.Cond.methodLink "java/lang/String" (495 : Nat) ({ cls := "java/lang/StringLatin1", name := "charAt", desc := "([BI)C" } : Jvm.MethodName)) ∈ gw := gw_of 113 rfl rfl
theorem tw_114 : (Jvm.Cond.static ({ cls := "java/lang/StringLatin1", name := "charAt", desc := "([BI)C" } : Jvm.MethodName)) ∈ gw := gw_of 114 rfl rfl
theorem tw_115 : (Jvm.Cond.code ({ cls := "java/lang/StringLatin1", name := "charAt", desc := "([BI)C" } : Jvm.MethodName) prog_7_method_2_code (2 : Nat) (Option.some Jvm.ClassFile.FieldType.char)) ∈ gw := gw_of 115 rfl rfl
theorem tw_116 : (Jvm.Cond.methodLink "java/lang/StringLatin1" (9 : Nat) ({ cls := "java/lang/String", name := "checkIndex", desc := "(II)V" } : Jvm.MethodName)) ∈ gw := gw_of 116 rfl rfl
theorem tw_117 : (Jvm.Cond.static ({ cls := "java/lang/String", name := "checkIndex", desc := "(II)V" } : Jvm.MethodName)) ∈ gw := gw_of 117 rfl rfl
theorem tw_118 : (Jvm.Cond.code ({ cls := "java/lang/String", name := "checkIndex", desc := "(II)V" } : Jvm.MethodName) prog_6_method_155_code (2 : Nat) (Option.none : Option Jvm.ClassFile.FieldType)) ∈ gw := gw_of 118 rfl rfl
theorem tw_119 : (Jvm.Cond.fieldLink "java/lang/String" (1053 : Nat) "jdk/internal/util/Preconditions" "SIOOBE_FORMATTER" "Ljava/util/function/BiFunction;") ∈ gw := gw_of 119 rfl rfl
theorem tw_121 : (Jvm.Cond.methodLink "java/lang/String" (1059 : Nat) ({ cls := "jdk/internal/util/Preconditions", name := "checkIndex", desc := "(IILjava/util/function/BiFunction;)I" } : Jvm.MethodName)) ∈ gw := gw_of 121 rfl rfl
theorem tw_122 : (Jvm.Cond.static ({ cls := "jdk/internal/util/Preconditions", name := "checkIndex", desc := "(IILjava/util/function/BiFunction;)I" } : Jvm.MethodName)) ∈ gw := gw_of 122 rfl rfl
theorem tw_123 : (Jvm.Cond.code ({ cls := "jdk/internal/util/Preconditions", name := "checkIndex", desc := "(IILjava/util/function/BiFunction;)I" } : Jvm.MethodName) prog_9_method_11_code (3 : Nat) (Option.some Jvm.ClassFile.FieldType.int)) ∈ gw := gw_of 123 rfl rfl
theorem tw_144 : (Jvm.Cond.methodLink "WordFieldsLaw" (55 : Nat) ({ cls := "WordFields", name := "code", desc := "(I)I" } : Jvm.MethodName)) ∈ gw := gw_of 144 rfl rfl
theorem tw_145 : (Jvm.Cond.instanceMethod ({ cls := "WordFields", name := "code", desc := "(I)I" } : Jvm.MethodName)) ∈ gw := gw_of 145 rfl rfl
theorem tw_146 : (Jvm.Cond.selects "WordFields" ({ cls := "WordFields", name := "code", desc := "(I)I" } : Jvm.MethodName) ({ cls := "WordFields", name := "code", desc := "(I)I" } : Jvm.MethodName)) ∈ gw := gw_of 146 rfl rfl
theorem tw_147 : (Jvm.Cond.code ({ cls := "WordFields", name := "code", desc := "(I)I" } : Jvm.MethodName) prog_1_method_11_code (3 : Nat) (Option.some Jvm.ClassFile.FieldType.int)) ∈ gw := gw_of 147 rfl rfl
theorem tw_148 : (Jvm.Cond.methodLink "WordFields" (63 : Nat) ({ cls := "WordFields", name := "greatLetter", desc := "(I)I" } : Jvm.MethodName)) ∈ gw := gw_of 148 rfl rfl
theorem tw_149 : (Jvm.Cond.static ({ cls := "WordFields", name := "greatLetter", desc := "(I)I" } : Jvm.MethodName)) ∈ gw := gw_of 149 rfl rfl
theorem tw_150 : (Jvm.Cond.code ({ cls := "WordFields", name := "greatLetter", desc := "(I)I" } : Jvm.MethodName) prog_1_method_21_code (1 : Nat) (Option.some Jvm.ClassFile.FieldType.int)) ∈ gw := gw_of 150 rfl rfl
theorem tw_151 : (Jvm.Cond.methodLink "WordFields" (66 : Nat) ({ cls := "java/lang/String", name := "indexOf", desc := "(I)I" } : Jvm.MethodName)) ∈ gw := gw_of 151 rfl rfl
theorem tw_152 : (Jvm.Cond.instanceMethod ({ cls := "java/lang/String", name := "indexOf", desc := "(I)I" } : Jvm.MethodName)) ∈ gw := gw_of 152 rfl rfl
theorem tw_153 : (Jvm.Cond.selects "java/lang/String" ({ cls := "java/lang/String", name := "indexOf", desc := "(I)I" } : Jvm.MethodName) ({ cls := "java/lang/String", name := "indexOf", desc := "(I)I" } : Jvm.MethodName)) ∈ gw := gw_of 153 rfl rfl
theorem tw_154 : (Jvm.Cond.code ({ cls := "java/lang/String", name := "indexOf", desc := "(I)I" } : Jvm.MethodName) prog_6_method_79_code (2 : Nat) (Option.some Jvm.ClassFile.FieldType.int)) ∈ gw := gw_of 154 rfl rfl
theorem tw_155 : (Jvm.Cond.methodLink "java/lang/String" (633 : Nat) ({ cls := "java/lang/String", name := "indexOf", desc := "(II)I" } : Jvm.MethodName)) ∈ gw := gw_of 155 rfl rfl
theorem tw_156 : (Jvm.Cond.instanceMethod ({ cls := "java/lang/String", name := "indexOf", desc := "(II)I" } : Jvm.MethodName)) ∈ gw := gw_of 156 rfl rfl
theorem tw_157 : (Jvm.Cond.selects "java/lang/String" ({ cls := "java/lang/String", name := "indexOf", desc := "(II)I" } : Jvm.MethodName) ({ cls := "java/lang/String", name := "indexOf", desc := "(II)I" } : Jvm.MethodName)) ∈ gw := gw_of 157 rfl rfl
theorem tw_158 : (Jvm.Cond.code ({ cls := "java/lang/String", name := "indexOf", desc := "(II)I" } : Jvm.MethodName) prog_6_method_80_code (3 : Nat) (Option.some Jvm.ClassFile.FieldType.int)) ∈ gw := gw_of 158 rfl rfl
theorem tw_159 : (Jvm.Cond.methodLink "java/lang/String" (505 : Nat) ({ cls := "java/lang/String", name := "length", desc := "()I" } : Jvm.MethodName)) ∈ gw := gw_of 159 rfl rfl
theorem tw_160 : (Jvm.Cond.methodLink "java/lang/String" (637 : Nat) ({ cls := "java/lang/StringLatin1", name := "indexOf", desc := "([BIII)I" } : Jvm.MethodName)) ∈ gw := gw_of 160 rfl rfl
theorem tw_161 : (Jvm.Cond.static ({ cls := "java/lang/StringLatin1", name := "indexOf", desc := "([BIII)I" } : Jvm.MethodName)) ∈ gw := gw_of 161 rfl rfl
theorem tw_162 : (Jvm.Cond.code ({ cls := "java/lang/StringLatin1", name := "indexOf", desc := "([BIII)I" } : Jvm.MethodName) prog_7_method_22_code (4 : Nat) (Option.some Jvm.ClassFile.FieldType.int)) ∈ gw := gw_of 162 rfl rfl
theorem tw_163 : (Jvm.Cond.methodLink "java/lang/StringLatin1" (88 : Nat) ({ cls := "java/lang/StringLatin1", name := "canEncode", desc := "(I)Z" } : Jvm.MethodName)) ∈ gw := gw_of 163 rfl rfl
theorem tw_164 : (Jvm.Cond.static ({ cls := "java/lang/StringLatin1", name := "canEncode", desc := "(I)Z" } : Jvm.MethodName)) ∈ gw := gw_of 164 rfl rfl
theorem tw_165 : (Jvm.Cond.code ({ cls := "java/lang/StringLatin1", name := "canEncode", desc := "(I)Z" } : Jvm.MethodName) prog_7_method_4_code (1 : Nat) (Option.some Jvm.ClassFile.FieldType.boolean)) ∈ gw := gw_of 165 rfl rfl
theorem tw_166 : (Jvm.Cond.methodLink "java/lang/StringLatin1" (92 : Nat) ({ cls := "java/lang/Math", name := "max", desc := "(II)I" } : Jvm.MethodName)) ∈ gw := gw_of 166 rfl rfl
theorem tw_167 : (Jvm.Cond.methodLink "java/lang/StringLatin1" (38 : Nat) ({ cls := "java/lang/Math", name := "min", desc := "(II)I" } : Jvm.MethodName)) ∈ gw := gw_of 167 rfl rfl
theorem tw_168 : (Jvm.Cond.static ({ cls := "java/lang/Math", name := "min", desc := "(II)I" } : Jvm.MethodName)) ∈ gw := gw_of 168 rfl rfl
theorem tw_170 : (Jvm.Cond.methodLink "java/lang/StringLatin1" (95 : Nat) ({ cls := "java/lang/StringLatin1", name := "indexOfChar", desc := "([BIII)I" } : Jvm.MethodName)) ∈ gw := gw_of 170 rfl rfl
theorem tw_171 : (Jvm.Cond.static ({ cls := "java/lang/StringLatin1", name := "indexOfChar", desc := "([BIII)I" } : Jvm.MethodName)) ∈ gw := gw_of 171 rfl rfl
theorem tw_172 : (Jvm.Cond.code ({ cls := "java/lang/StringLatin1", name := "indexOfChar", desc := "([BIII)I" } : Jvm.MethodName) prog_7_method_23_code (6 : Nat) (Option.some Jvm.ClassFile.FieldType.int)) ∈ gw := gw_of 172 rfl rfl
theorem tw_208 : (Jvm.Cond.classLink "WordFieldsLaw" (10 : Nat) "WordFieldsModel") ∈ gw := gw_of 208 rfl rfl
theorem tw_209 : (Jvm.Cond.instantiable "WordFieldsModel" (4 : Nat)) ∈ gw := gw_of 209 rfl rfl
theorem tw_210 : (Jvm.Cond.methodLink "WordFieldsLaw" (12 : Nat) ({ cls := "WordFieldsModel", name := "<init>", desc := "()V" } : Jvm.MethodName)) ∈ gw := gw_of 210 rfl rfl
theorem tw_211 : (Jvm.Cond.instanceMethod ({ cls := "WordFieldsModel", name := "<init>", desc := "()V" } : Jvm.MethodName)) ∈ gw := gw_of 211 rfl rfl
theorem tw_212 : (Jvm.Cond.code ({ cls := "WordFieldsModel", name := "<init>", desc := "()V" } : Jvm.MethodName) prog_3_method_1_code (1 : Nat) (Option.none : Option Jvm.ClassFile.FieldType)) ∈ gw := gw_of 212 rfl rfl
theorem tw_213 : (Jvm.Cond.methodLink "WordFieldsModel" (1 : Nat) ({ cls := "java/lang/Object", name := "<init>", desc := "()V" } : Jvm.MethodName)) ∈ gw := gw_of 213 rfl rfl
theorem tw_214 : (Jvm.Cond.fieldLink "WordFieldsModel" (7 : Nat) "WordFieldsModel" "minus" "[Z") ∈ gw := gw_of 214 rfl rfl
theorem tw_215 : (Jvm.Cond.fieldLink "WordFieldsModel" (13 : Nat) "WordFieldsModel" "bytes" "[I") ∈ gw := gw_of 215 rfl rfl
theorem tw_216 : (Jvm.Cond.fieldLink "WordFieldsModel" (17 : Nat) "WordFieldsModel" "letters" "[I") ∈ gw := gw_of 216 rfl rfl
theorem tw_217 : (Jvm.Cond.fieldLink "WordFieldsModel" (20 : Nat) "WordFieldsModel" "work" "[I") ∈ gw := gw_of 217 rfl rfl
theorem tw_227 : (Jvm.Cond.arrayClass Jvm.ClassFile.FieldType.boolean) ∈ gw := gw_of 227 rfl rfl
theorem tw_228 : (Jvm.Cond.methodLink "WordFieldsLaw" (17 : Nat) ({ cls := "WordFieldsModel", name := "set", desc := "(IIZ)Z" } : Jvm.MethodName)) ∈ gw := gw_of 228 rfl rfl
theorem tw_229 : (Jvm.Cond.instanceMethod ({ cls := "WordFieldsModel", name := "set", desc := "(IIZ)Z" } : Jvm.MethodName)) ∈ gw := gw_of 229 rfl rfl
theorem tw_230 : (Jvm.Cond.selects "WordFieldsModel" ({ cls := "WordFieldsModel", name := "set", desc := "(IIZ)Z" } : Jvm.MethodName) ({ cls := "WordFieldsModel", name := "set", desc := "(IIZ)Z" } : Jvm.MethodName)) ∈ gw := gw_of 230 rfl rfl
theorem tw_231 : (Jvm.Cond.code ({ cls := "WordFieldsModel", name := "set", desc := "(IIZ)Z" } : Jvm.MethodName) prog_3_method_6_code (7 : Nat) (Option.some Jvm.ClassFile.FieldType.boolean)) ∈ gw := gw_of 231 rfl rfl
theorem tw_232 : (Jvm.Cond.constant "WordFieldsModel" (23 : Nat) (-1073741824 : Int32)) ∈ gw := gw_of 232 rfl rfl
theorem tw_233 : (Jvm.Cond.methodLink "WordFieldsModel" (24 : Nat) ({ cls := "WordFieldsModel", name := "isRegister", desc := "(I)Z" } : Jvm.MethodName)) ∈ gw := gw_of 233 rfl rfl
theorem tw_234 : (Jvm.Cond.static ({ cls := "WordFieldsModel", name := "isRegister", desc := "(I)Z" } : Jvm.MethodName)) ∈ gw := gw_of 234 rfl rfl
theorem tw_235 : (Jvm.Cond.code ({ cls := "WordFieldsModel", name := "isRegister", desc := "(I)Z" } : Jvm.MethodName) prog_3_method_3_code (1 : Nat) (Option.some Jvm.ClassFile.FieldType.boolean)) ∈ gw := gw_of 235 rfl rfl
theorem tw_236 : (Jvm.Cond.constant "WordFieldsModel" (28 : Nat) (1073741824 : Int32)) ∈ gw := gw_of 236 rfl rfl
theorem tw_237 : (Jvm.Cond.methodLink "WordFieldsLaw" (22 : Nat) ({ cls := "WordFieldsModel", name := "value", desc := "(I)I" } : Jvm.MethodName)) ∈ gw := gw_of 237 rfl rfl
theorem tw_238 : (Jvm.Cond.instanceMethod ({ cls := "WordFieldsModel", name := "value", desc := "(I)I" } : Jvm.MethodName)) ∈ gw := gw_of 238 rfl rfl
theorem tw_239 : (Jvm.Cond.selects "WordFieldsModel" ({ cls := "WordFieldsModel", name := "value", desc := "(I)I" } : Jvm.MethodName) ({ cls := "WordFieldsModel", name := "value", desc := "(I)I" } : Jvm.MethodName)) ∈ gw := gw_of 239 rfl rfl
theorem tw_240 : (Jvm.Cond.code ({ cls := "WordFieldsModel", name := "value", desc := "(I)I" } : Jvm.MethodName) prog_3_method_8_code (3 : Nat) (Option.some Jvm.ClassFile.FieldType.int)) ∈ gw := gw_of 240 rfl rfl
theorem tw_241 : (Jvm.Cond.constant "WordFieldsModel" (29 : Nat) (2147483647 : Int32)) ∈ gw := gw_of 241 rfl rfl
theorem tw_242 : (Jvm.Cond.methodLink "WordFieldsModel" (30 : Nat) ({ cls := "WordFieldsModel", name := "number", desc := "(III)I" } : Jvm.MethodName)) ∈ gw := gw_of 242 rfl rfl
theorem tw_244 : (Jvm.Cond.instanceMethod ({ cls := "WordFieldsModel", name := "number", desc := "(III)I" } : Jvm.MethodName)) ∈ gw := gw_of 244 rfl rfl
theorem tw_245 : (Jvm.Cond.code ({ cls := "WordFieldsModel", name := "number", desc := "(III)I" } : Jvm.MethodName) prog_3_method_7_code (6 : Nat) (Option.some Jvm.ClassFile.FieldType.int)) ∈ gw := gw_of 245 rfl rfl
theorem tw_246 : (Jvm.Cond.constant "WordFieldsModel" (34 : Nat) (-2147483648 : Int32)) ∈ gw := gw_of 246 rfl rfl
theorem tw_247 : (Jvm.Cond.methodLink "WordFieldsLaw" (27 : Nat) ({ cls := "WordFieldsModel", name := "byteOf", desc := "(II)I" } : Jvm.MethodName)) ∈ gw := gw_of 247 rfl rfl
theorem tw_248 : (Jvm.Cond.instanceMethod ({ cls := "WordFieldsModel", name := "byteOf", desc := "(II)I" } : Jvm.MethodName)) ∈ gw := gw_of 248 rfl rfl
theorem tw_249 : (Jvm.Cond.selects "WordFieldsModel" ({ cls := "WordFieldsModel", name := "byteOf", desc := "(II)I" } : Jvm.MethodName) ({ cls := "WordFieldsModel", name := "byteOf", desc := "(II)I" } : Jvm.MethodName)) ∈ gw := gw_of 249 rfl rfl
theorem tw_250 : (Jvm.Cond.code ({ cls := "WordFieldsModel", name := "byteOf", desc := "(II)I" } : Jvm.MethodName) prog_3_method_9_code (3 : Nat) (Option.some Jvm.ClassFile.FieldType.int)) ∈ gw := gw_of 250 rfl rfl
theorem tw_251 : (Jvm.Cond.methodLink "WordFieldsLaw" (32 : Nat) ({ cls := "WordFieldsModel", name := "load", desc := "(III)Z" } : Jvm.MethodName)) ∈ gw := gw_of 251 rfl rfl
theorem tw_252 : (Jvm.Cond.instanceMethod ({ cls := "WordFieldsModel", name := "load", desc := "(III)Z" } : Jvm.MethodName)) ∈ gw := gw_of 252 rfl rfl
theorem tw_253 : (Jvm.Cond.selects "WordFieldsModel" ({ cls := "WordFieldsModel", name := "load", desc := "(III)Z" } : Jvm.MethodName) ({ cls := "WordFieldsModel", name := "load", desc := "(III)Z" } : Jvm.MethodName)) ∈ gw := gw_of 253 rfl rfl
theorem tw_254 : (Jvm.Cond.code ({ cls := "WordFieldsModel", name := "load", desc := "(III)Z" } : Jvm.MethodName) prog_3_method_11_code (6 : Nat) (Option.some Jvm.ClassFile.FieldType.boolean)) ∈ gw := gw_of 254 rfl rfl
theorem tw_255 : (Jvm.Cond.methodLink "WordFieldsModel" (38 : Nat) ({ cls := "WordFieldsModel", name := "may", desc := "(III)Z" } : Jvm.MethodName)) ∈ gw := gw_of 255 rfl rfl
theorem tw_257 : (Jvm.Cond.instanceMethod ({ cls := "WordFieldsModel", name := "may", desc := "(III)Z" } : Jvm.MethodName)) ∈ gw := gw_of 257 rfl rfl
theorem tw_258 : (Jvm.Cond.code ({ cls := "WordFieldsModel", name := "may", desc := "(III)Z" } : Jvm.MethodName) prog_3_method_10_code (4 : Nat) (Option.some Jvm.ClassFile.FieldType.boolean)) ∈ gw := gw_of 258 rfl rfl
theorem tw_259 : (Jvm.Cond.methodLink "WordFieldsModel" (35 : Nat) ({ cls := "WordFieldsModel", name := "is", desc := "(I)Z" } : Jvm.MethodName)) ∈ gw := gw_of 259 rfl rfl
theorem tw_260 : (Jvm.Cond.static ({ cls := "WordFieldsModel", name := "is", desc := "(I)Z" } : Jvm.MethodName)) ∈ gw := gw_of 260 rfl rfl
theorem tw_261 : (Jvm.Cond.code ({ cls := "WordFieldsModel", name := "is", desc := "(I)Z" } : Jvm.MethodName) prog_3_method_4_code (1 : Nat) (Option.some Jvm.ClassFile.FieldType.boolean)) ∈ gw := gw_of 261 rfl rfl
theorem tw_262 : (Jvm.Cond.methodLink "WordFieldsModel" (42 : Nat) ({ cls := "WordFieldsModel", name := "first", desc := "(I)I" } : Jvm.MethodName)) ∈ gw := gw_of 262 rfl rfl
theorem tw_263 : (Jvm.Cond.static ({ cls := "WordFieldsModel", name := "first", desc := "(I)I" } : Jvm.MethodName)) ∈ gw := gw_of 263 rfl rfl
theorem tw_264 : (Jvm.Cond.code ({ cls := "WordFieldsModel", name := "first", desc := "(I)I" } : Jvm.MethodName) prog_3_method_5_code (1 : Nat) (Option.some Jvm.ClassFile.FieldType.int)) ∈ gw := gw_of 264 rfl rfl
theorem tw_265 : (Jvm.Cond.methodLink "WordFieldsLaw" (36 : Nat) ({ cls := "WordFieldsModel", name := "store", desc := "(III)Z" } : Jvm.MethodName)) ∈ gw := gw_of 265 rfl rfl
theorem tw_266 : (Jvm.Cond.instanceMethod ({ cls := "WordFieldsModel", name := "store", desc := "(III)Z" } : Jvm.MethodName)) ∈ gw := gw_of 266 rfl rfl
theorem tw_267 : (Jvm.Cond.selects "WordFieldsModel" ({ cls := "WordFieldsModel", name := "store", desc := "(III)Z" } : Jvm.MethodName) ({ cls := "WordFieldsModel", name := "store", desc := "(III)Z" } : Jvm.MethodName)) ∈ gw := gw_of 267 rfl rfl
theorem tw_268 : (Jvm.Cond.code ({ cls := "WordFieldsModel", name := "store", desc := "(III)Z" } : Jvm.MethodName) prog_3_method_12_code (6 : Nat) (Option.some Jvm.ClassFile.FieldType.boolean)) ∈ gw := gw_of 268 rfl rfl
theorem tw_269 : (Jvm.Cond.methodLink "WordFieldsLaw" (41 : Nat) ({ cls := "WordFieldsModel", name := "turn", desc := "(I)Z" } : Jvm.MethodName)) ∈ gw := gw_of 269 rfl rfl
theorem tw_270 : (Jvm.Cond.instanceMethod ({ cls := "WordFieldsModel", name := "turn", desc := "(I)Z" } : Jvm.MethodName)) ∈ gw := gw_of 270 rfl rfl
theorem tw_271 : (Jvm.Cond.selects "WordFieldsModel" ({ cls := "WordFieldsModel", name := "turn", desc := "(I)Z" } : Jvm.MethodName) ({ cls := "WordFieldsModel", name := "turn", desc := "(I)Z" } : Jvm.MethodName)) ∈ gw := gw_of 271 rfl rfl
theorem tw_272 : (Jvm.Cond.code ({ cls := "WordFieldsModel", name := "turn", desc := "(I)Z" } : Jvm.MethodName) prog_3_method_13_code (2 : Nat) (Option.some Jvm.ClassFile.FieldType.boolean)) ∈ gw := gw_of 272 rfl rfl
theorem tw_273 : (Jvm.Cond.methodLink "WordFieldsLaw" (46 : Nat) ({ cls := "WordFieldsModel", name := "compare", desc := "(III)I" } : Jvm.MethodName)) ∈ gw := gw_of 273 rfl rfl
theorem tw_274 : (Jvm.Cond.instanceMethod ({ cls := "WordFieldsModel", name := "compare", desc := "(III)I" } : Jvm.MethodName)) ∈ gw := gw_of 274 rfl rfl
theorem tw_275 : (Jvm.Cond.selects "WordFieldsModel" ({ cls := "WordFieldsModel", name := "compare", desc := "(III)I" } : Jvm.MethodName) ({ cls := "WordFieldsModel", name := "compare", desc := "(III)I" } : Jvm.MethodName)) ∈ gw := gw_of 275 rfl rfl
theorem tw_276 : (Jvm.Cond.code ({ cls := "WordFieldsModel", name := "compare", desc := "(III)I" } : Jvm.MethodName) prog_3_method_14_code (6 : Nat) (Option.some Jvm.ClassFile.FieldType.int)) ∈ gw := gw_of 276 rfl rfl
theorem tw_277 : (Jvm.Cond.methodLink "WordFieldsLaw" (50 : Nat) ({ cls := "WordFieldsModel", name := "isField", desc := "(I)Z" } : Jvm.MethodName)) ∈ gw := gw_of 277 rfl rfl
theorem tw_278 : (Jvm.Cond.instanceMethod ({ cls := "WordFieldsModel", name := "isField", desc := "(I)Z" } : Jvm.MethodName)) ∈ gw := gw_of 278 rfl rfl
theorem tw_279 : (Jvm.Cond.selects "WordFieldsModel" ({ cls := "WordFieldsModel", name := "isField", desc := "(I)Z" } : Jvm.MethodName) ({ cls := "WordFieldsModel", name := "isField", desc := "(I)Z" } : Jvm.MethodName)) ∈ gw := gw_of 279 rfl rfl
theorem tw_280 : (Jvm.Cond.code ({ cls := "WordFieldsModel", name := "isField", desc := "(I)Z" } : Jvm.MethodName) prog_3_method_15_code (2 : Nat) (Option.some Jvm.ClassFile.FieldType.boolean)) ∈ gw := gw_of 280 rfl rfl
theorem tw_281 : (Jvm.Cond.methodLink "WordFieldsLaw" (54 : Nat) ({ cls := "WordFieldsModel", name := "letter", desc := "(I)I" } : Jvm.MethodName)) ∈ gw := gw_of 281 rfl rfl
theorem tw_282 : (Jvm.Cond.instanceMethod ({ cls := "WordFieldsModel", name := "letter", desc := "(I)I" } : Jvm.MethodName)) ∈ gw := gw_of 282 rfl rfl
theorem tw_283 : (Jvm.Cond.selects "WordFieldsModel" ({ cls := "WordFieldsModel", name := "letter", desc := "(I)I" } : Jvm.MethodName) ({ cls := "WordFieldsModel", name := "letter", desc := "(I)I" } : Jvm.MethodName)) ∈ gw := gw_of 283 rfl rfl
theorem tw_284 : (Jvm.Cond.code ({ cls := "WordFieldsModel", name := "letter", desc := "(I)I" } : Jvm.MethodName) prog_3_method_16_code (2 : Nat) (Option.some Jvm.ClassFile.FieldType.int)) ∈ gw := gw_of 284 rfl rfl
theorem tw_285 : (Jvm.Cond.methodLink "WordFieldsLaw" (58 : Nat) ({ cls := "WordFieldsModel", name := "code", desc := "(I)I" } : Jvm.MethodName)) ∈ gw := gw_of 285 rfl rfl
theorem tw_286 : (Jvm.Cond.instanceMethod ({ cls := "WordFieldsModel", name := "code", desc := "(I)I" } : Jvm.MethodName)) ∈ gw := gw_of 286 rfl rfl
theorem tw_287 : (Jvm.Cond.selects "WordFieldsModel" ({ cls := "WordFieldsModel", name := "code", desc := "(I)I" } : Jvm.MethodName) ({ cls := "WordFieldsModel", name := "code", desc := "(I)I" } : Jvm.MethodName)) ∈ gw := gw_of 287 rfl rfl
theorem tw_288 : (Jvm.Cond.code ({ cls := "WordFieldsModel", name := "code", desc := "(I)I" } : Jvm.MethodName) prog_3_method_17_code (5 : Nat) (Option.some Jvm.ClassFile.FieldType.int)) ∈ gw := gw_of 288 rfl rfl
theorem tw_289 : (Jvm.Cond.fieldLink "java/lang/String" (9 : Nat) "java/lang/String" "value" "[B") ∈ gw := gw_of 289 rfl rfl
theorem tw_290 : (Jvm.Cond.fieldLink "java/lang/String" (15 : Nat) "java/lang/String" "coder" "B") ∈ gw := gw_of 290 rfl rfl
abbrev RF : String := "WordFields"
def TF : u_T := fun k => match k with
  | _ => ("WordFields", "words", "[I", true)
def tyF : Nat → FieldType := fun k => match k with
  | _ => .array .int
theorem nmF : ∀ a, a < 1 → ∀ b, b < 1 → a ≠ b → (TF a).2.1 ≠ (TF b).2.1 := by decide +kernel
theorem tyF_ok : ∀ k, k < 1 → parseFieldDescriptor (TF k).2.2.1 = some (tyF k) := by decide +kernel
abbrev RM : String := "WordFieldsModel"
def TM : u_T := fun k => match k with
  | 0 => ("WordFieldsModel", "minus", "[Z", true)
  | 1 => ("WordFieldsModel", "bytes", "[I", true)
  | 2 => ("WordFieldsModel", "letters", "[I", true)
  | _ => ("WordFieldsModel", "work", "[I", true)
def tyM : Nat → FieldType := fun k => match k with
  | 0 => .array .boolean
  | 1 => .array .int
  | 2 => .array .int
  | _ => .array .int
theorem nmM : ∀ a, a < 4 → ∀ b, b < 4 → a ≠ b → (TM a).2.1 ≠ (TM b).2.1 := by decide +kernel
theorem tyM_ok : ∀ k, k < 4 → parseFieldDescriptor (TM k).2.2.1 = some (tyM k) := by decide +kernel
abbrev RL : String := "WordFieldsLaw"
abbrev RS : String := "java/lang/String"
abbrev RZ : String := "java/lang/StringLatin1"
abbrev RQ : String := "jdk/internal/util/Preconditions"
abbrev vwCl : List vw_C := [(RF, TF, 1), (RM, TM, 4)]
abbrev yF_isRegister : MethodName := ⟨"WordFields", "isRegister", "(I)Z"⟩
abbrev wsF_isRegister : List Cond := Cond.code yF_isRegister prog_1_method_12_code 1 (some .boolean) :: gw
abbrev yF_isMinus : MethodName := ⟨"WordFields", "isMinus", "(I)Z"⟩
abbrev wsF_isMinus : List Cond := Cond.code yF_isMinus prog_1_method_13_code 1 (some .boolean) :: gw
abbrev yF_number : MethodName := ⟨"WordFields", "number", "(I)I"⟩
abbrev wsF_number : List Cond := Cond.code yF_number prog_1_method_14_code 2 (some .int) :: gw
abbrev yF_firstByte : MethodName := ⟨"WordFields", "firstByte", "(I)I"⟩
abbrev wsF_firstByte : List Cond := Cond.code yF_firstByte prog_1_method_15_code 1 (some .int) :: gw
abbrev yF_lastByte : MethodName := ⟨"WordFields", "lastByte", "(I)I"⟩
abbrev wsF_lastByte : List Cond := Cond.code yF_lastByte prog_1_method_16_code 1 (some .int) :: gw
abbrev yF_bitsRightOf : MethodName := ⟨"WordFields", "bitsRightOf", "(I)I"⟩
abbrev wsF_bitsRightOf : List Cond := Cond.code yF_bitsRightOf prog_1_method_17_code 1 (some .int) :: gw
abbrev yF_rightMask : MethodName := ⟨"WordFields", "rightMask", "(I)I"⟩
abbrev wsF_rightMask : List Cond := Cond.code yF_rightMask prog_1_method_18_code 2 (some .int) :: gw
abbrev yF_signMask : MethodName := ⟨"WordFields", "signMask", "(I)I"⟩
abbrev wsF_signMask : List Cond := Cond.code yF_signMask prog_1_method_19_code 1 (some .int) :: gw
abbrev yF_fieldOf : MethodName := ⟨"WordFields", "fieldOf", "(II)I"⟩
abbrev wsF_fieldOf : List Cond := Cond.code yF_fieldOf prog_1_method_20_code 3 (some .int) :: gw
abbrev yF_greatLetter : MethodName := ⟨"WordFields", "greatLetter", "(I)I"⟩
abbrev wsF_greatLetter : List Cond := Cond.code yF_greatLetter prog_1_method_21_code 1 (some .int) :: gw
abbrev yF_isField : MethodName := ⟨"WordFields", "isField", "(I)Z"⟩
abbrev wsF_isField : List Cond := Cond.code yF_isField prog_1_method_9_code 2 (some .boolean) :: gw
abbrev yF_value : MethodName := ⟨"WordFields", "value", "(I)I"⟩
abbrev wsF_value : List Cond := Cond.code yF_value prog_1_method_3_code 3 (some .int) :: gw
abbrev yF_byteOf : MethodName := ⟨"WordFields", "byteOf", "(II)I"⟩
abbrev wsF_byteOf : List Cond := Cond.code yF_byteOf prog_1_method_4_code 4 (some .int) :: gw
abbrev yF_compare : MethodName := ⟨"WordFields", "compare", "(III)I"⟩
abbrev wsF_compare : List Cond := Cond.code yF_compare prog_1_method_8_code 6 (some .int) :: gw
abbrev yF_set : MethodName := ⟨"WordFields", "set", "(IIZ)Z"⟩
abbrev wsF_set : List Cond := Cond.code yF_set prog_1_method_2_code 5 (some .boolean) :: gw
abbrev yF_load : MethodName := ⟨"WordFields", "load", "(III)Z"⟩
abbrev wsF_load : List Cond := Cond.code yF_load prog_1_method_5_code 4 (some .boolean) :: gw
abbrev yF_store : MethodName := ⟨"WordFields", "store", "(III)Z"⟩
abbrev wsF_store : List Cond := Cond.code yF_store prog_1_method_6_code 7 (some .boolean) :: gw
abbrev yF_turn : MethodName := ⟨"WordFields", "turn", "(I)Z"⟩
abbrev wsF_turn : List Cond := Cond.code yF_turn prog_1_method_7_code 2 (some .boolean) :: gw
abbrev yM_isRegister : MethodName := ⟨"WordFieldsModel", "isRegister", "(I)Z"⟩
abbrev wsM_isRegister : List Cond := Cond.code yM_isRegister prog_3_method_3_code 1 (some .boolean) :: gw
abbrev yM_is : MethodName := ⟨"WordFieldsModel", "is", "(I)Z"⟩
abbrev wsM_is : List Cond := Cond.code yM_is prog_3_method_4_code 1 (some .boolean) :: gw
abbrev yM_first : MethodName := ⟨"WordFieldsModel", "first", "(I)I"⟩
abbrev wsM_first : List Cond := Cond.code yM_first prog_3_method_5_code 1 (some .int) :: gw
abbrev yM_may : MethodName := ⟨"WordFieldsModel", "may", "(III)Z"⟩
abbrev wsM_may : List Cond := Cond.code yM_may prog_3_method_10_code 4 (some .boolean) :: gw
abbrev yM_isField : MethodName := ⟨"WordFieldsModel", "isField", "(I)Z"⟩
abbrev wsM_isField : List Cond := Cond.code yM_isField prog_3_method_15_code 2 (some .boolean) :: gw
abbrev yM_number : MethodName := ⟨"WordFieldsModel", "number", "(III)I"⟩
abbrev wsM_number : List Cond := Cond.code yM_number prog_3_method_7_code 6 (some .int) :: gw
abbrev yM_value : MethodName := ⟨"WordFieldsModel", "value", "(I)I"⟩
abbrev wsM_value : List Cond := Cond.code yM_value prog_3_method_8_code 3 (some .int) :: gw
abbrev yM_byteOf : MethodName := ⟨"WordFieldsModel", "byteOf", "(II)I"⟩
abbrev wsM_byteOf : List Cond := Cond.code yM_byteOf prog_3_method_9_code 3 (some .int) :: gw
abbrev yM_compare : MethodName := ⟨"WordFieldsModel", "compare", "(III)I"⟩
abbrev wsM_compare : List Cond := Cond.code yM_compare prog_3_method_14_code 6 (some .int) :: gw
abbrev yM_letter : MethodName := ⟨"WordFieldsModel", "letter", "(I)I"⟩
abbrev wsM_letter : List Cond := Cond.code yM_letter prog_3_method_16_code 2 (some .int) :: gw
abbrev yM_turn : MethodName := ⟨"WordFieldsModel", "turn", "(I)Z"⟩
abbrev wsM_turn : List Cond := Cond.code yM_turn prog_3_method_13_code 2 (some .boolean) :: gw
abbrev yM_set : MethodName := ⟨"WordFieldsModel", "set", "(IIZ)Z"⟩
abbrev wsM_set : List Cond := Cond.code yM_set prog_3_method_6_code 7 (some .boolean) :: gw
abbrev yM_load : MethodName := ⟨"WordFieldsModel", "load", "(III)Z"⟩
abbrev wsM_load : List Cond := Cond.code yM_load prog_3_method_11_code 6 (some .boolean) :: gw
abbrev yM_store : MethodName := ⟨"WordFieldsModel", "store", "(III)Z"⟩
abbrev wsM_store : List Cond := Cond.code yM_store prog_3_method_12_code 6 (some .boolean) :: gw
abbrev yM_code : MethodName := ⟨"WordFieldsModel", "code", "(I)I"⟩
abbrev wsM_code : List Cond := Cond.code yM_code prog_3_method_17_code 5 (some .int) :: gw
abbrev yS_coder : MethodName := ⟨"java/lang/String", "coder", "()B"⟩
abbrev wsS_coder : List Cond := Cond.code yS_coder prog_6_method_152_code 1 (some .byte) :: gw
abbrev yS_isLatin1 : MethodName := ⟨"java/lang/String", "isLatin1", "()Z"⟩
abbrev wsS_isLatin1 : List Cond := Cond.code yS_isLatin1 prog_6_method_154_code 1 (some .boolean) :: gw
abbrev yS_length : MethodName := ⟨"java/lang/String", "length", "()I"⟩
abbrev wsS_length : List Cond := Cond.code yS_length prog_6_method_54_code 1 (some .int) :: gw
abbrev yQ_checkIndex : MethodName := ⟨"jdk/internal/util/Preconditions", "checkIndex", "(IILjava/util/function/BiFunction;)I"⟩
abbrev wsQ_checkIndex : List Cond := Cond.code yQ_checkIndex prog_9_method_11_code 3 (some .int) :: gw
abbrev yS_checkIndex : MethodName := ⟨"java/lang/String", "checkIndex", "(II)V"⟩
abbrev wsS_checkIndex : List Cond := Cond.code yS_checkIndex prog_6_method_155_code 2 none :: gw
abbrev yZ_charAt : MethodName := ⟨"java/lang/StringLatin1", "charAt", "([BI)C"⟩
abbrev wsZ_charAt : List Cond := Cond.code yZ_charAt prog_7_method_2_code 2 (some .char) :: gw
abbrev yS_charAt : MethodName := ⟨"java/lang/String", "charAt", "(I)C"⟩
abbrev wsS_charAt : List Cond := Cond.code yS_charAt prog_6_method_56_code 2 (some .char) :: gw
abbrev yZ_canEncode : MethodName := ⟨"java/lang/StringLatin1", "canEncode", "(I)Z"⟩
abbrev wsZ_canEncode : List Cond := Cond.code yZ_canEncode prog_7_method_4_code 1 (some .boolean) :: gw
abbrev yZ_indexOfChar : MethodName := ⟨"java/lang/StringLatin1", "indexOfChar", "([BIII)I"⟩
abbrev wsZ_indexOfChar : List Cond := Cond.code yZ_indexOfChar prog_7_method_23_code 6 (some .int) :: gw
abbrev yZ_indexOf : MethodName := ⟨"java/lang/StringLatin1", "indexOf", "([BIII)I"⟩
abbrev wsZ_indexOf : List Cond := Cond.code yZ_indexOf prog_7_method_22_code 4 (some .int) :: gw
abbrev yS_indexOf2 : MethodName := ⟨"java/lang/String", "indexOf", "(II)I"⟩
abbrev wsS_indexOf2 : List Cond := Cond.code yS_indexOf2 prog_6_method_80_code 3 (some .int) :: gw
abbrev yS_indexOf : MethodName := ⟨"java/lang/String", "indexOf", "(I)I"⟩
abbrev wsS_indexOf : List Cond := Cond.code yS_indexOf prog_6_method_79_code 2 (some .int) :: gw
abbrev yF_letter : MethodName := ⟨"WordFields", "letter", "(I)I"⟩
abbrev wsF_letter : List Cond := Cond.code yF_letter prog_1_method_10_code 2 (some .int) :: gw
abbrev yF_code : MethodName := ⟨"WordFields", "code", "(I)I"⟩
abbrev wsF_code : List Cond := Cond.code yF_code prog_1_method_11_code 3 (some .int) :: gw
abbrev yF_init : MethodName := ⟨"WordFields", "<init>", "()V"⟩
abbrev wsF_init : List Cond := Cond.code yF_init prog_1_method_1_code 1 none :: gw
abbrev yM_init : MethodName := ⟨"WordFieldsModel", "<init>", "()V"⟩
abbrev wsM_init : List Cond := Cond.code yM_init prog_3_method_1_code 1 none :: gw
