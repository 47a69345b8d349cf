section
-- ===== PART A: goes FIRST, ahead of the names: the tables' words, and 'selects' of the private methods out of them =====
/-- a private method of a class that the tables say can be made, by its rows of tables_1 -/
def lw_okq (q : MethodName × Nat) : Prop := (q.1.cls ≠ "java/lang/invoke/MethodHandle" ∧ q.1.cls ≠ "java/lang/invoke/VarHandle") ∧ Cond.instantiable q.1.cls q.2 ∈ tables_1 ∧ Cond.privateMethod q.1 ∈ tables_1 ∧ Cond.instanceMethod q.1 ∈ tables_1
theorem lw_p0 : lw_okq (⟨"WordFieldsModel", "number", "(III)I"⟩, 4) := ⟨⟨by decide +kernel, by decide +kernel⟩, List.mem_of_getElem? (i := 209) (by decide +kernel), List.mem_of_getElem? (i := 243) (by decide +kernel), List.mem_of_getElem? (i := 244) (by decide +kernel)⟩
theorem lw_p1 : lw_okq (⟨"WordFieldsModel", "may", "(III)Z"⟩, 4) := ⟨⟨by decide +kernel, by decide +kernel⟩, List.mem_of_getElem? (i := 209) (by decide +kernel), List.mem_of_getElem? (i := 256) (by decide +kernel), List.mem_of_getElem? (i := 257) (by decide +kernel)⟩
def lw_privs_1 : List (MethodName × Nat) := [(⟨"WordFieldsModel", "number", "(III)I"⟩, 4), (⟨"WordFieldsModel", "may", "(III)Z"⟩, 4)]
theorem lw_r1 : ∀ q ∈ lw_privs_1, lw_okq q := List.forall_mem_cons.mpr ⟨lw_p0, List.forall_mem_cons.mpr ⟨lw_p1, fun _ h => absurd h List.not_mem_nil⟩⟩
def lw_privs : List (MethodName × Nat) := lw_privs_1
def lw_tbl : List Cond := k2_sels lw_privs ++ tables_1
theorem lw_privs_ok : ∀ q ∈ lw_privs, lw_okq q := lw_r1

/-! the words that a callee may take along -/
def gw : List Cond := lw_tbl.filter goodWord
theorem gw_in {w : Cond} (h : w ∈ gw) : w ∈ lw_tbl := (List.mem_filter.mp h).1
theorem gw_g {w : Cond} (h : w ∈ gw) : (w.onTables && w.keeps) = true ∨ ∃ ty, w = .arrayClass ty := good_of_word (List.mem_filter.mp h).2
theorem gw_of {w : Cond} (i : Nat) (h : tables_1[i]? = some w) (hg : goodWord w = true) : w ∈ gw := List.mem_filter.mpr ⟨List.mem_append_right _ (List.mem_of_getElem? h), hg⟩
theorem gI {y : MethodName} {b : ByteArray} {k : Nat} {r : Option FieldType} (h : Cond.code y b k r ∈ gw) : GoodIn gw (Cond.code y b k r :: gw) := fun w hw => by
  rcases List.mem_cons.mp hw with rfl | hw
  · exact ⟨h, gw_g h⟩
  · exact ⟨hw, gw_g hw⟩
theorem gS {own : String} {idx : Nat} {y : MethodName} {b : ByteArray} {k : Nat} {r : Option FieldType} (h1 : Cond.methodLink own idx y ∈ gw) (h2 : Cond.static y ∈ gw) (h3 : Cond.initialized y.cls ∈ gw) (h4 : Cond.code y b k r ∈ gw) : GoodIn gw (va_wsS own idx y (Cond.code y b k r :: gw)) := fun w hw => by
  unfold va_wsS at hw
  rcases List.mem_append.mp hw with hw | hw
  · simp only [List.mem_cons, List.not_mem_nil, or_false] at hw
    rcases hw with rfl | rfl | rfl
    · exact ⟨h1, gw_g h1⟩
    · exact ⟨h2, gw_g h2⟩
    · exact ⟨h3, gw_g h3⟩
  · exact gI h4 w hw
theorem gV {own : String} {idx : Nat} {C : String} {y : MethodName} {b : ByteArray} {k : Nat} {r : Option FieldType} (h1 : Cond.methodLink own idx y ∈ gw) (h2 : Cond.instanceMethod y ∈ gw) (h3 : Cond.selects C y y ∈ gw) (h4 : Cond.initialized C ∈ gw) (h5 : Cond.code y b k r ∈ gw) : GoodIn gw (wsV own idx C y (Cond.code y b k r :: gw)) := fun w hw => by
  unfold wsV at hw
  rcases List.mem_append.mp hw with hw | hw
  · simp only [List.mem_cons, List.not_mem_nil, or_false] at hw
    rcases hw with rfl | rfl | rfl | rfl
    · exact ⟨h1, gw_g h1⟩
    · exact ⟨h2, gw_g h2⟩
    · exact ⟨h3, gw_g h3⟩
    · exact ⟨h4, gw_g h4⟩
  · exact gI h5 w hw
theorem tw_p0 : Cond.selects "WordFieldsModel" ⟨"WordFieldsModel", "number", "(III)I"⟩ ⟨"WordFieldsModel", "number", "(III)I"⟩ ∈ gw := List.mem_filter.mpr ⟨List.mem_append_left _ (List.mem_of_getElem? (i := 0) rfl), rfl⟩
theorem tw_p1 : Cond.selects "WordFieldsModel" ⟨"WordFieldsModel", "may", "(III)Z"⟩ ⟨"WordFieldsModel", "may", "(III)Z"⟩ ∈ gw := List.mem_filter.mpr ⟨List.mem_append_left _ (List.mem_of_getElem? (i := 1) rfl), rfl⟩
theorem tw_mmax : Cond.code Lib.Math.max.name Lib.Math.max.code 2 (some .int) ∈ gw := gw_of 73 rfl rfl
theorem tw_mmin : Cond.code Lib.Math.min.name Lib.Math.min.code 2 (some .int) ∈ gw := gw_of 169 rfl rfl
theorem tw_obj : Cond.code objectInit ⟨#[0xb1]⟩ 1 none ∈ gw := gw_of 16 rfl rfl

theorem tw_1 : (Jvm.Cond.initialized "WordFields") ∈ gw := gw_of 1 rfl rfl
theorem tw_2 : (Jvm.Cond.initialized "WordFieldsModel") ∈ gw := gw_of 2 rfl rfl
theorem tw_3 : (Jvm.Cond.initialized "java/lang/Math") ∈ gw := gw_of 3 rfl rfl
theorem tw_4 : (Jvm.Cond.initialized "java/lang/String") ∈ gw := gw_of 4 rfl rfl
theorem tw_5 : (Jvm.Cond.initialized "java/lang/StringLatin1") ∈ gw := gw_of 5 rfl rfl
theorem tw_6 : (Jvm.Cond.initialized "jdk/internal/util/Preconditions") ∈ gw := gw_of 6 rfl rfl
theorem tw_9 : (Jvm.Cond.classLink "WordFieldsLaw" (7 : Nat) "WordFields") ∈ gw := gw_of 9 rfl rfl
theorem tw_10 : (Jvm.Cond.instantiable "WordFields" (1 : Nat)) ∈ gw := gw_of 10 rfl rfl
theorem tw_11 : (Jvm.Cond.methodLink "WordFieldsLaw" (9 : Nat) ({ cls := "WordFields", name := "<init>", desc := "()V" } : Jvm.MethodName)) ∈ gw := gw_of 11 rfl rfl
theorem tw_12 : (Jvm.Cond.instanceMethod ({ cls := "WordFields", name := "<init>", desc := "()V" } : Jvm.MethodName)) ∈ gw := gw_of 12 rfl rfl
theorem tw_13 : (Jvm.Cond.code ({ cls := "WordFields", name := "<init>", desc := "()V" } : Jvm.MethodName) prog_1_method_1_code (1 : Nat) (Option.none : Option Jvm.ClassFile.FieldType)) ∈ gw := gw_of 13 rfl rfl
theorem tw_14 : (Jvm.Cond.methodLink "WordFields" (3 : Nat) ({ cls := "java/lang/Object", name := "<init>", desc := "()V" } : Jvm.MethodName)) ∈ gw := gw_of 14 rfl rfl
theorem tw_15 : (Jvm.Cond.instanceMethod ({ cls := "java/lang/Object", name := "<init>", desc := "()V" } : Jvm.MethodName)) ∈ gw := gw_of 15 rfl rfl
theorem tw_17 : (Jvm.Cond.fieldLink "WordFields" (9 : Nat) "WordFields" "words" "[I") ∈ gw := gw_of 17 rfl rfl
theorem tw_21 : (Jvm.Cond.arrayClass Jvm.ClassFile.FieldType.int) ∈ gw := gw_of 21 rfl rfl
theorem tw_22 : (Jvm.Cond.methodLink "WordFieldsLaw" (13 : Nat) ({ cls := "WordFields", name := "set", desc := "(IIZ)Z" } : Jvm.MethodName)) ∈ gw := gw_of 22 rfl rfl
theorem tw_23 : (Jvm.Cond.instanceMethod ({ cls := "WordFields", name := "set", desc := "(IIZ)Z" } : Jvm.MethodName)) ∈ gw := gw_of 23 rfl rfl
theorem tw_24 : (Jvm.Cond.selects "WordFields" ({ cls := "WordFields", name := "set", desc := "(IIZ)Z" } : Jvm.MethodName) ({ cls := "WordFields", name := "set", desc := "(IIZ)Z" } : Jvm.MethodName)) ∈ gw := gw_of 24 rfl rfl
theorem tw_25 : (Jvm.Cond.code ({ cls := "WordFields", name := "set", desc := "(IIZ)Z" } : Jvm.MethodName) prog_1_method_2_code (5 : Nat) (Option.some Jvm.ClassFile.FieldType.boolean)) ∈ gw := gw_of 25 rfl rfl
theorem tw_26 : (Jvm.Cond.methodLink "WordFields" (13 : Nat) ({ cls := "WordFields", name := "isRegister", desc := "(I)Z" } : Jvm.MethodName)) ∈ gw := gw_of 26 rfl rfl
theorem tw_27 : (Jvm.Cond.static ({ cls := "WordFields", name := "isRegister", desc := "(I)Z" } : Jvm.MethodName)) ∈ gw := gw_of 27 rfl rfl
theorem tw_28 : (Jvm.Cond.code ({ cls := "WordFields", name := "isRegister", desc := "(I)Z" } : Jvm.MethodName) prog_1_method_12_code (1 : Nat) (Option.some Jvm.ClassFile.FieldType.boolean)) ∈ gw := gw_of 28 rfl rfl
theorem tw_29 : (Jvm.Cond.constant "WordFields" (17 : Nat) (1073741823 : Int32)) ∈ gw := gw_of 29 rfl rfl
theorem tw_30 : (Jvm.Cond.constant "WordFields" (18 : Nat) (-1073741823 : Int32)) ∈ gw := gw_of 30 rfl rfl
theorem tw_31 : (Jvm.Cond.constant "WordFields" (19 : Nat) (1073741824 : Int32)) ∈ gw := gw_of 31 rfl rfl
theorem tw_32 : (Jvm.Cond.methodLink "WordFieldsLaw" (18 : Nat) ({ cls := "WordFields", name := "value", desc := "(I)I" } : Jvm.MethodName)) ∈ gw := gw_of 32 rfl rfl
theorem tw_33 : (Jvm.Cond.instanceMethod ({ cls := "WordFields", name := "value", desc := "(I)I" } : Jvm.MethodName)) ∈ gw := gw_of 33 rfl rfl
theorem tw_34 : (Jvm.Cond.selects "WordFields" ({ cls := "WordFields", name := "value", desc := "(I)I" } : Jvm.MethodName) ({ cls := "WordFields", name := "value", desc := "(I)I" } : Jvm.MethodName)) ∈ gw := gw_of 34 rfl rfl
theorem tw_35 : (Jvm.Cond.code ({ cls := "WordFields", name := "value", desc := "(I)I" } : Jvm.MethodName) prog_1_method_3_code (3 : Nat) (Option.some Jvm.ClassFile.FieldType.int)) ∈ gw := gw_of 35 rfl rfl
theorem tw_36 : (Jvm.Cond.constant "WordFields" (20 : Nat) (2147483647 : Int32)) ∈ gw := gw_of 36 rfl rfl
theorem tw_37 : (Jvm.Cond.constant "WordFields" (21 : Nat) (-2147483648 : Int32)) ∈ gw := gw_of 37 rfl rfl
theorem tw_38 : (Jvm.Cond.methodLink "WordFields" (22 : Nat) ({ cls := "WordFields", name := "number", desc := "(I)I" } : Jvm.MethodName)) ∈ gw := gw_of 38 rfl rfl
theorem tw_39 : (Jvm.Cond.static ({ cls := "WordFields", name := "number", desc := "(I)I" } : Jvm.MethodName)) ∈ gw := gw_of 39 rfl rfl
theorem tw_40 : (Jvm.Cond.code ({ cls := "WordFields", name := "number", desc := "(I)I" } : Jvm.MethodName) prog_1_method_14_code (2 : Nat) (Option.some Jvm.ClassFile.FieldType.int)) ∈ gw := gw_of 40 rfl rfl
theorem tw_41 : (Jvm.Cond.methodLink "WordFields" (26 : Nat) ({ cls := "WordFields", name := "isMinus", desc := "(I)Z" } : Jvm.MethodName)) ∈ gw := gw_of 41 rfl rfl
theorem tw_42 : (Jvm.Cond.static ({ cls := "WordFields", name := "isMinus", desc := "(I)Z" } : Jvm.MethodName)) ∈ gw := gw_of 42 rfl rfl
theorem tw_43 : (Jvm.Cond.code ({ cls := "WordFields", name := "isMinus", desc := "(I)Z" } : Jvm.MethodName) prog_1_method_13_code (1 : Nat) (Option.some Jvm.ClassFile.FieldType.boolean)) ∈ gw := gw_of 43 rfl rfl
theorem tw_44 : (Jvm.Cond.methodLink "WordFieldsLaw" (23 : Nat) ({ cls := "WordFields", name := "byteOf", desc := "(II)I" } : Jvm.MethodName)) ∈ gw := gw_of 44 rfl rfl
theorem tw_45 : (Jvm.Cond.instanceMethod ({ cls := "WordFields", name := "byteOf", desc := "(II)I" } : Jvm.MethodName)) ∈ gw := gw_of 45 rfl rfl
theorem tw_46 : (Jvm.Cond.selects "WordFields" ({ cls := "WordFields", name := "byteOf", desc := "(II)I" } : Jvm.MethodName) ({ cls := "WordFields", name := "byteOf", desc := "(II)I" } : Jvm.MethodName)) ∈ gw := gw_of 46 rfl rfl
theorem tw_47 : (Jvm.Cond.code ({ cls := "WordFields", name := "byteOf", desc := "(II)I" } : Jvm.MethodName) prog_1_method_4_code (4 : Nat) (Option.some Jvm.ClassFile.FieldType.int)) ∈ gw := gw_of 47 rfl rfl
theorem tw_48 : (Jvm.Cond.methodLink "WordFields" (29 : Nat) ({ cls := "WordFields", name := "bitsRightOf", desc := "(I)I" } : Jvm.MethodName)) ∈ gw := gw_of 48 rfl rfl
theorem tw_49 : (Jvm.Cond.static ({ cls := "WordFields", name := "bitsRightOf", desc := "(I)I" } : Jvm.MethodName)) ∈ gw := gw_of 49 rfl rfl
theorem tw_50 : (Jvm.Cond.code ({ cls := "WordFields", name := "bitsRightOf", desc := "(I)I" } : Jvm.MethodName) prog_1_method_17_code (1 : Nat) (Option.some Jvm.ClassFile.FieldType.int)) ∈ gw := gw_of 50 rfl rfl
theorem tw_51 : (Jvm.Cond.methodLink "WordFieldsLaw" (28 : Nat) ({ cls := "WordFields", name := "load", desc := "(III)Z" } : Jvm.MethodName)) ∈ gw := gw_of 51 rfl rfl
theorem tw_52 : (Jvm.Cond.instanceMethod ({ cls := "WordFields", name := "load", desc := "(III)Z" } : Jvm.MethodName)) ∈ gw := gw_of 52 rfl rfl
theorem tw_53 : (Jvm.Cond.selects "WordFields" ({ cls := "WordFields", name := "load", desc := "(III)Z" } : Jvm.MethodName) ({ cls := "WordFields", name := "load", desc := "(III)Z" } : Jvm.MethodName)) ∈ gw := gw_of 53 rfl rfl
theorem tw_54 : (Jvm.Cond.code ({ cls := "WordFields", name := "load", desc := "(III)Z" } : Jvm.MethodName) prog_1_method_5_code (4 : Nat) (Option.some Jvm.ClassFile.FieldType.boolean)) ∈ gw := gw_of 54 rfl rfl
theorem tw_55 : (Jvm.Cond.methodLink "WordFields" (32 : Nat) ({ cls := "WordFields", name := "isField", desc := "(I)Z" } : Jvm.MethodName)) ∈ gw := gw_of 55 rfl rfl
theorem tw_56 : (Jvm.Cond.instanceMethod ({ cls := "WordFields", name := "isField", desc := "(I)Z" } : Jvm.MethodName)) ∈ gw := gw_of 56 rfl rfl
theorem tw_57 : (Jvm.Cond.selects "WordFields" ({ cls := "WordFields", name := "isField", desc := "(I)Z" } : Jvm.MethodName) ({ cls := "WordFields", name := "isField", desc := "(I)Z" } : Jvm.MethodName)) ∈ gw := gw_of 57 rfl rfl
theorem tw_58 : (Jvm.Cond.code ({ cls := "WordFields", name := "isField", desc := "(I)Z" } : Jvm.MethodName) prog_1_method_9_code (2 : Nat) (Option.some Jvm.ClassFile.FieldType.boolean)) ∈ gw := gw_of 58 rfl rfl
theorem tw_59 : (Jvm.Cond.methodLink "WordFields" (48 : Nat) ({ cls := "WordFields", name := "firstByte", desc := "(I)I" } : Jvm.MethodName)) ∈ gw := gw_of 59 rfl rfl
theorem tw_60 : (Jvm.Cond.static ({ cls := "WordFields", name := "firstByte", desc := "(I)I" } : Jvm.MethodName)) ∈ gw := gw_of 60 rfl rfl
theorem tw_61 : (Jvm.Cond.code ({ cls := "WordFields", name := "firstByte", desc := "(I)I" } : Jvm.MethodName) prog_1_method_15_code (1 : Nat) (Option.some Jvm.ClassFile.FieldType.int)) ∈ gw := gw_of 61 rfl rfl
theorem tw_62 : (Jvm.Cond.methodLink "WordFields" (42 : Nat) ({ cls := "WordFields", name := "lastByte", desc := "(I)I" } : Jvm.MethodName)) ∈ gw := gw_of 62 rfl rfl
theorem tw_63 : (Jvm.Cond.static ({ cls := "WordFields", name := "lastByte", desc := "(I)I" } : Jvm.MethodName)) ∈ gw := gw_of 63 rfl rfl
theorem tw_64 : (Jvm.Cond.code ({ cls := "WordFields", name := "lastByte", desc := "(I)I" } : Jvm.MethodName) prog_1_method_16_code (1 : Nat) (Option.some Jvm.ClassFile.FieldType.int)) ∈ gw := gw_of 64 rfl rfl
theorem tw_65 : (Jvm.Cond.methodLink "WordFields" (35 : Nat) ({ cls := "WordFields", name := "fieldOf", desc := "(II)I" } : Jvm.MethodName)) ∈ gw := gw_of 65 rfl rfl
theorem tw_66 : (Jvm.Cond.static ({ cls := "WordFields", name := "fieldOf", desc := "(II)I" } : Jvm.MethodName)) ∈ gw := gw_of 66 rfl rfl
theorem tw_67 : (Jvm.Cond.code ({ cls := "WordFields", name := "fieldOf", desc := "(II)I" } : Jvm.MethodName) prog_1_method_20_code (3 : Nat) (Option.some Jvm.ClassFile.FieldType.int)) ∈ gw := gw_of 67 rfl rfl
theorem tw_68 : (Jvm.Cond.methodLink "WordFields" (39 : Nat) ({ cls := "WordFields", name := "rightMask", desc := "(I)I" } : Jvm.MethodName)) ∈ gw := gw_of 68 rfl rfl
theorem tw_69 : (Jvm.Cond.static ({ cls := "WordFields", name := "rightMask", desc := "(I)I" } : Jvm.MethodName)) ∈ gw := gw_of 69 rfl rfl
theorem tw_70 : (Jvm.Cond.code ({ cls := "WordFields", name := "rightMask", desc := "(I)I" } : Jvm.MethodName) prog_1_method_18_code (2 : Nat) (Option.some Jvm.ClassFile.FieldType.int)) ∈ gw := gw_of 70 rfl rfl
theorem tw_71 : (Jvm.Cond.methodLink "WordFields" (69 : Nat) ({ cls := "java/lang/Math", name := "max", desc := "(II)I" } : Jvm.MethodName)) ∈ gw := gw_of 71 rfl rfl
theorem tw_72 : (Jvm.Cond.static ({ cls := "java/lang/Math", name := "max", desc := "(II)I" } : Jvm.MethodName)) ∈ gw := gw_of 72 rfl rfl
theorem tw_74 : (Jvm.Cond.methodLink "WordFields" (45 : Nat) ({ cls := "WordFields", name := "signMask", desc := "(I)I" } : Jvm.MethodName)) ∈ gw := gw_of 74 rfl rfl
theorem tw_75 : (Jvm.Cond.static ({ cls := "WordFields", name := "signMask", desc := "(I)I" } : Jvm.MethodName)) ∈ gw := gw_of 75 rfl rfl
theorem tw_76 : (Jvm.Cond.code ({ cls := "WordFields", name := "signMask", desc := "(I)I" } : Jvm.MethodName) prog_1_method_19_code (1 : Nat) (Option.some Jvm.ClassFile.FieldType.int)) ∈ gw := gw_of 76 rfl rfl
theorem tw_77 : (Jvm.Cond.methodLink "WordFieldsLaw" (33 : Nat) ({ cls := "WordFields", name := "store", desc := "(III)Z" } : Jvm.MethodName)) ∈ gw := gw_of 77 rfl rfl
theorem tw_78 : (Jvm.Cond.instanceMethod ({ cls := "WordFields", name := "store", desc := "(III)Z" } : Jvm.MethodName)) ∈ gw := gw_of 78 rfl rfl
theorem tw_79 : (Jvm.Cond.selects "WordFields" ({ cls := "WordFields", name := "store", desc := "(III)Z" } : Jvm.MethodName) ({ cls := "WordFields", name := "store", desc := "(III)Z" } : Jvm.MethodName)) ∈ gw := gw_of 79 rfl rfl
theorem tw_80 : (Jvm.Cond.code ({ cls := "WordFields", name := "store", desc := "(III)Z" } : Jvm.MethodName) prog_1_method_6_code (7 : Nat) (Option.some Jvm.ClassFile.FieldType.boolean)) ∈ gw := gw_of 80 rfl rfl
theorem tw_81 : (Jvm.Cond.methodLink "WordFieldsLaw" (37 : Nat) ({ cls := "WordFields", name := "turn", desc := "(I)Z" } : Jvm.MethodName)) ∈ gw := gw_of 81 rfl rfl
theorem tw_82 : (Jvm.Cond.instanceMethod ({ cls := "WordFields", name := "turn", desc := "(I)Z" } : Jvm.MethodName)) ∈ gw := gw_of 82 rfl rfl
theorem tw_83 : (Jvm.Cond.selects "WordFields" ({ cls := "WordFields", name := "turn", desc := "(I)Z" } : Jvm.MethodName) ({ cls := "WordFields", name := "turn", desc := "(I)Z" } : Jvm.MethodName)) ∈ gw := gw_of 83 rfl rfl
theorem tw_84 : (Jvm.Cond.code ({ cls := "WordFields", name := "turn", desc := "(I)Z" } : Jvm.MethodName) prog_1_method_7_code (2 : Nat) (Option.some Jvm.ClassFile.FieldType.boolean)) ∈ gw := gw_of 84 rfl rfl
theorem tw_85 : (Jvm.Cond.methodLink "WordFieldsLaw" (42 : Nat) ({ cls := "WordFields", name := "compare", desc := "(III)I" } : Jvm.MethodName)) ∈ gw := gw_of 85 rfl rfl
theorem tw_86 : (Jvm.Cond.instanceMethod ({ cls := "WordFields", name := "compare", desc := "(III)I" } : Jvm.MethodName)) ∈ gw := gw_of 86 rfl rfl
theorem tw_87 : (Jvm.Cond.selects "WordFields" ({ cls := "WordFields", name := "compare", desc := "(III)I" } : Jvm.MethodName) ({ cls := "WordFields", name := "compare", desc := "(III)I" } : Jvm.MethodName)) ∈ gw := gw_of 87 rfl rfl
theorem tw_88 : (Jvm.Cond.code ({ cls := "WordFields", name := "compare", desc := "(III)I" } : Jvm.MethodName) prog_1_method_8_code (6 : Nat) (Option.some Jvm.ClassFile.FieldType.int)) ∈ gw := gw_of 88 rfl rfl
theorem tw_89 : (Jvm.Cond.methodLink "WordFieldsLaw" (47 : Nat) ({ cls := "WordFields", name := "isField", desc := "(I)Z" } : Jvm.MethodName)) ∈ gw := gw_of 89 rfl rfl
theorem tw_90 : (Jvm.Cond.methodLink "WordFieldsLaw" (51 : Nat) ({ cls := "WordFields", name := "letter", desc := "(I)I" } : Jvm.MethodName)) ∈ gw := gw_of 90 rfl rfl
theorem tw_91 : (Jvm.Cond.instanceMethod ({ cls := "WordFields", name := "letter", desc := "(I)I" } : Jvm.MethodName)) ∈ gw := gw_of 91 rfl rfl
theorem tw_92 : (Jvm.Cond.selects "WordFields" ({ cls := "WordFields", name := "letter", desc := "(I)I" } : Jvm.MethodName) ({ cls := "WordFields", name := "letter", desc := "(I)I" } : Jvm.MethodName)) ∈ gw := gw_of 92 rfl rfl
theorem tw_93 : (Jvm.Cond.code ({ cls := "WordFields", name := "letter", desc := "(I)I" } : Jvm.MethodName) prog_1_method_10_code (2 : Nat) (Option.some Jvm.ClassFile.FieldType.int)) ∈ gw := gw_of 93 rfl rfl
theorem tw_95 : (Jvm.Cond.methodLink "WordFields" (53 : Nat) ({ cls := "java/lang/String", name := "length", desc := "()I" } : Jvm.MethodName)) ∈ gw := gw_of 95 rfl rfl
theorem tw_96 : (Jvm.Cond.instanceMethod ({ cls := "java/lang/String", name := "length", desc := "()I" } : Jvm.MethodName)) ∈ gw := gw_of 96 rfl rfl
theorem tw_97 : (Jvm.Cond.selects "java/lang/String" ({ cls := "java/lang/String", name := "length", desc := "()I" } : Jvm.MethodName) ({ cls := "java/lang/String", name := "length", desc := "()I" } : Jvm.MethodName)) ∈ gw := gw_of 97 rfl rfl
theorem tw_98 : (Jvm.Cond.code ({ cls := "java/lang/String", name := "length", desc := "()I" } : Jvm.MethodName) prog_6_method_54_code (1 : Nat) (Option.some Jvm.ClassFile.FieldType.int)) ∈ gw := gw_of 98 rfl rfl
theorem tw_99 : (Jvm.Cond.methodLink "java/lang/String" (335 : Nat) ({ cls := "java/lang/String", name := "coder", desc := "()B" } : Jvm.MethodName)) ∈ gw := gw_of 99 rfl rfl
theorem tw_100 : (Jvm.Cond.instanceMethod ({ cls := "java/lang/String", name := "coder", desc := "()B" } : Jvm.MethodName)) ∈ gw := gw_of 100 rfl rfl
theorem tw_101 : (Jvm.Cond.selects "java/lang/String" ({ cls := "java/lang/String", name := "coder", desc := "()B" } : Jvm.MethodName) ({ cls := "java/lang/String", name := "coder", desc := "()B" } : Jvm.MethodName)) ∈ gw := gw_of 101 rfl rfl
theorem tw_102 : (Jvm.Cond.code ({ cls := "java/lang/String", name := "coder", desc := "()B" } : Jvm.MethodName) prog_6_method_152_code (1 : Nat) (Option.some Jvm.ClassFile.FieldType.byte)) ∈ gw := gw_of 102 rfl rfl
theorem tw_103 : (Jvm.Cond.fieldLink "java/lang/String" (38 : Nat) "java/lang/String" "COMPACT_STRINGS" "Z") ∈ gw := gw_of 103 rfl rfl
theorem tw_105 : (Jvm.Cond.methodLink "WordFields" (59 : Nat) ({ cls := "java/lang/String", name := "charAt", desc := "(I)C" } : Jvm.MethodName)) ∈ gw := gw_of 105 rfl rfl
theorem tw_106 : (Jvm.Cond.instanceMethod ({ cls := "java/lang/String", name := "charAt", desc := "(I)C" } : Jvm.MethodName)) ∈ gw := gw_of 106 rfl rfl
theorem tw_107 : (Jvm.Cond.selects "java/lang/String" ({ cls := "java/lang/String", name := "charAt", desc := "(I)C" } : Jvm.MethodName) ({ cls := "java/lang/String", name := "charAt", desc := "(I)C" } : Jvm.MethodName)) ∈ gw := gw_of 107 rfl rfl
theorem tw_108 : (Jvm.Cond.code ({ cls := "java/lang/String", name := "charAt", desc := "(I)C" } : Jvm.MethodName) prog_6_method_56_code (2 : Nat) (Option.some Jvm.ClassFile.FieldType.char)) ∈ gw := gw_of 108 rfl rfl
theorem tw_109 : (Jvm.Cond.methodLink "java/lang/String" (492 : Nat) ({ cls := "java/lang/String", name := "isLatin1", desc := "()Z" } : Jvm.MethodName)) ∈ gw := gw_of 109 rfl rfl
theorem tw_110 : (Jvm.Cond.instanceMethod ({ cls := "java/lang/String", name := "isLatin1", desc := "()Z" } : Jvm.MethodName)) ∈ gw := gw_of 110 rfl rfl
theorem tw_111 : (Jvm.Cond.selects "java/lang/String" ({ cls := "java/lang/String", name := "isLatin1", desc := "()Z" } : Jvm.MethodName) ({ cls := "java/lang/String", name := "isLatin1", desc := "()Z" } : Jvm.MethodName)) ∈ gw := gw_of 111 rfl rfl
theorem tw_112 : (Jvm.Cond.code ({ cls := "java/lang/String", name := "isLatin1", desc := "()Z" } : Jvm.MethodName) prog_6_method_154_code (1 : Nat) (Option.some Jvm.ClassFile.FieldType.boolean)) ∈ gw := gw_of 112 rfl rfl
theorem tw_113 : (Jvm.Cond.methodLink "java/lang/String" (495 : Nat) ({ cls := "java/lang/StringLatin1", name := "charAt", desc := "([BI)C" } : Jvm.MethodName)) ∈ gw := gw_of 113 rfl rfl
theorem tw_114 : (Jvm.Cond.static ({ cls := "java/lang/StringLatin1", name := "charAt", desc := "([BI)C" } : Jvm.MethodName)) ∈ gw := gw_of 114 rfl rfl
theorem tw_115 : (Jvm.Cond.code ({ cls := "java/lang/StringLatin1", name := "charAt", desc := "([BI)C" } : Jvm.MethodName) prog_7_method_2_code (2 : Nat) (Option.some Jvm.ClassFile.FieldType.char)) ∈ gw := gw_of 115 rfl rfl
theorem tw_116 : (Jvm.Cond.methodLink "java/lang/StringLatin1" (9 : Nat) ({ cls := "java/lang/String", name := "checkIndex", desc := "(II)V" } : Jvm.MethodName)) ∈ gw := gw_of 116 rfl rfl
theorem tw_117 : (Jvm.Cond.static ({ cls := "java/lang/String", name := "checkIndex", desc := "(II)V" } : Jvm.MethodName)) ∈ gw := gw_of 117 rfl rfl
theorem tw_118 : (Jvm.Cond.code ({ cls := "java/lang/String", name := "checkIndex", desc := "(II)V" } : Jvm.MethodName) prog_6_method_155_code (2 : Nat) (Option.none : Option Jvm.ClassFile.FieldType)) ∈ gw := gw_of 118 rfl rfl
theorem tw_119 : (Jvm.Cond.fieldLink "java/lang/String" (1053 : Nat) "jdk/internal/util/Preconditions" "SIOOBE_FORMATTER" "Ljava/util/function/BiFunction;") ∈ gw := gw_of 119 rfl rfl
theorem tw_121 : (Jvm.Cond.methodLink "java/lang/String" (1059 : Nat) ({ cls := "jdk/internal/util/Preconditions", name := "checkIndex", desc := "(IILjava/util/function/BiFunction;)I" } : Jvm.MethodName)) ∈ gw := gw_of 121 rfl rfl
theorem tw_122 : (Jvm.Cond.static ({ cls := "jdk/internal/util/Preconditions", name := "checkIndex", desc := "(IILjava/util/function/BiFunction;)I" } : Jvm.MethodName)) ∈ gw := gw_of 122 rfl rfl
theorem tw_123 : (Jvm.Cond.code ({ cls := "jdk/internal/util/Preconditions", name := "checkIndex", desc := "(IILjava/util/function/BiFunction;)I" } : Jvm.MethodName) prog_9_method_11_code (3 : Nat) (Option.some Jvm.ClassFile.FieldType.int)) ∈ gw := gw_of 123 rfl rfl
theorem tw_144 : (Jvm.Cond.methodLink "WordFieldsLaw" (55 : Nat) ({ cls := "WordFields", name := "code", desc := "(I)I" } : Jvm.MethodName)) ∈ gw := gw_of 144 rfl rfl
theorem tw_145 : (Jvm.Cond.instanceMethod ({ cls := "WordFields", name := "code", desc := "(I)I" } : Jvm.MethodName)) ∈ gw := gw_of 145 rfl rfl
theorem tw_146 : (Jvm.Cond.selects "WordFields" ({ cls := "WordFields", name := "code", desc := "(I)I" } : Jvm.MethodName) ({ cls := "WordFields", name := "code", desc := "(I)I" } : Jvm.MethodName)) ∈ gw := gw_of 146 rfl rfl
theorem tw_147 : (Jvm.Cond.code ({ cls := "WordFields", name := "code", desc := "(I)I" } : Jvm.MethodName) prog_1_method_11_code (3 : Nat) (Option.some Jvm.ClassFile.FieldType.int)) ∈ gw := gw_of 147 rfl rfl
theorem tw_148 : (Jvm.Cond.methodLink "WordFields" (63 : Nat) ({ cls := "WordFields", name := "greatLetter", desc := "(I)I" } : Jvm.MethodName)) ∈ gw := gw_of 148 rfl rfl
theorem tw_149 : (Jvm.Cond.static ({ cls := "WordFields", name := "greatLetter", desc := "(I)I" } : Jvm.MethodName)) ∈ gw := gw_of 149 rfl rfl
theorem tw_150 : (Jvm.Cond.code ({ cls := "WordFields", name := "greatLetter", desc := "(I)I" } : Jvm.MethodName) prog_1_method_21_code (1 : Nat) (Option.some Jvm.ClassFile.FieldType.int)) ∈ gw := gw_of 150 rfl rfl
theorem tw_151 : (Jvm.Cond.methodLink "WordFields" (66 : Nat) ({ cls := "java/lang/String", name := "indexOf", desc := "(I)I" } : Jvm.MethodName)) ∈ gw := gw_of 151 rfl rfl
theorem tw_152 : (Jvm.Cond.instanceMethod ({ cls := "java/lang/String", name := "indexOf", desc := "(I)I" } : Jvm.MethodName)) ∈ gw := gw_of 152 rfl rfl
theorem tw_153 : (Jvm.Cond.selects "java/lang/String" ({ cls := "java/lang/String", name := "indexOf", desc := "(I)I" } : Jvm.MethodName) ({ cls := "java/lang/String", name := "indexOf", desc := "(I)I" } : Jvm.MethodName)) ∈ gw := gw_of 153 rfl rfl
theorem tw_154 : (Jvm.Cond.code ({ cls := "java/lang/String", name := "indexOf", desc := "(I)I" } : Jvm.MethodName) prog_6_method_79_code (2 : Nat) (Option.some Jvm.ClassFile.FieldType.int)) ∈ gw := gw_of 154 rfl rfl
theorem tw_155 : (Jvm.Cond.methodLink "java/lang/String" (633 : Nat) ({ cls := "java/lang/String", name := "indexOf", desc := "(II)I" } : Jvm.MethodName)) ∈ gw := gw_of 155 rfl rfl
theorem tw_156 : (Jvm.Cond.instanceMethod ({ cls := "java/lang/String", name := "indexOf", desc := "(II)I" } : Jvm.MethodName)) ∈ gw := gw_of 156 rfl rfl
theorem tw_157 : (Jvm.Cond.selects "java/lang/String" ({ cls := "java/lang/String", name := "indexOf", desc := "(II)I" } : Jvm.MethodName) ({ cls := "java/lang/String", name := "indexOf", desc := "(II)I" } : Jvm.MethodName)) ∈ gw := gw_of 157 rfl rfl
theorem tw_158 : (Jvm.Cond.code ({ cls := "java/lang/String", name := "indexOf", desc := "(II)I" } : Jvm.MethodName) prog_6_method_80_code (3 : Nat) (Option.some Jvm.ClassFile.FieldType.int)) ∈ gw := gw_of 158 rfl rfl
theorem tw_159 : (Jvm.Cond.methodLink "java/lang/String" (505 : Nat) ({ cls := "java/lang/String", name := "length", desc := "()I" } : Jvm.MethodName)) ∈ gw := gw_of 159 rfl rfl
theorem tw_160 : (Jvm.Cond.methodLink "java/lang/String" (637 : Nat) ({ cls := "java/lang/StringLatin1", name := "indexOf", desc := "([BIII)I" } : Jvm.MethodName)) ∈ gw := gw_of 160 rfl rfl
theorem tw_161 : (Jvm.Cond.static ({ cls := "java/lang/StringLatin1", name := "indexOf", desc := "([BIII)I" } : Jvm.MethodName)) ∈ gw := gw_of 161 rfl rfl
theorem tw_162 : (Jvm.Cond.code ({ cls := "java/lang/StringLatin1", name := "indexOf", desc := "([BIII)I" } : Jvm.MethodName) prog_7_method_22_code (4 : Nat) (Option.some Jvm.ClassFile.FieldType.int)) ∈ gw := gw_of 162 rfl rfl
theorem tw_163 : (Jvm.Cond.methodLink "java/lang/StringLatin1" (88 : Nat) ({ cls := "java/lang/StringLatin1", name := "canEncode", desc := "(I)Z" } : Jvm.MethodName)) ∈ gw := gw_of 163 rfl rfl
theorem tw_164 : (Jvm.Cond.static ({ cls := "java/lang/StringLatin1", name := "canEncode", desc := "(I)Z" } : Jvm.MethodName)) ∈ gw := gw_of 164 rfl rfl
theorem tw_165 : (Jvm.Cond.code ({ cls := "java/lang/StringLatin1", name := "canEncode", desc := "(I)Z" } : Jvm.MethodName) prog_7_method_4_code (1 : Nat) (Option.some Jvm.ClassFile.FieldType.boolean)) ∈ gw := gw_of 165 rfl rfl
theorem tw_166 : (Jvm.Cond.methodLink "java/lang/StringLatin1" (92 : Nat) ({ cls := "java/lang/Math", name := "max", desc := "(II)I" } : Jvm.MethodName)) ∈ gw := gw_of 166 rfl rfl
theorem tw_167 : (Jvm.Cond.methodLink "java/lang/StringLatin1" (38 : Nat) ({ cls := "java/lang/Math", name := "min", desc := "(II)I" } : Jvm.MethodName)) ∈ gw := gw_of 167 rfl rfl
theorem tw_168 : (Jvm.Cond.static ({ cls := "java/lang/Math", name := "min", desc := "(II)I" } : Jvm.MethodName)) ∈ gw := gw_of 168 rfl rfl
theorem tw_170 : (Jvm.Cond.methodLink "java/lang/StringLatin1" (95 : Nat) ({ cls := "java/lang/StringLatin1", name := "indexOfChar", desc := "([BIII)I" } : Jvm.MethodName)) ∈ gw := gw_of 170 rfl rfl
theorem tw_171 : (Jvm.Cond.static ({ cls := "java/lang/StringLatin1", name := "indexOfChar", desc := "([BIII)I" } : Jvm.MethodName)) ∈ gw := gw_of 171 rfl rfl
theorem tw_172 : (Jvm.Cond.code ({ cls := "java/lang/StringLatin1", name := "indexOfChar", desc := "([BIII)I" } : Jvm.MethodName) prog_7_method_23_code (6 : Nat) (Option.some Jvm.ClassFile.FieldType.int)) ∈ gw := gw_of 172 rfl rfl
theorem tw_208 : (Jvm.Cond.classLink "WordFieldsLaw" (10 : Nat) "WordFieldsModel") ∈ gw := gw_of 208 rfl rfl
theorem tw_209 : (Jvm.Cond.instantiable "WordFieldsModel" (4 : Nat)) ∈ gw := gw_of 209 rfl rfl
theorem tw_210 : (Jvm.Cond.methodLink "WordFieldsLaw" (12 : Nat) ({ cls := "WordFieldsModel", name := "<init>", desc := "()V" } : Jvm.MethodName)) ∈ gw := gw_of 210 rfl rfl
theorem tw_211 : (Jvm.Cond.instanceMethod ({ cls := "WordFieldsModel", name := "<init>", desc := "()V" } : Jvm.MethodName)) ∈ gw := gw_of 211 rfl rfl
theorem tw_212 : (Jvm.Cond.code ({ cls := "WordFieldsModel", name := "<init>", desc := "()V" } : Jvm.MethodName) prog_3_method_1_code (1 : Nat) (Option.none : Option Jvm.ClassFile.FieldType)) ∈ gw := gw_of 212 rfl rfl
theorem tw_213 : (Jvm.Cond.methodLink "WordFieldsModel" (1 : Nat) ({ cls := "java/lang/Object", name := "<init>", desc := "()V" } : Jvm.MethodName)) ∈ gw := gw_of 213 rfl rfl
theorem tw_214 : (Jvm.Cond.fieldLink "WordFieldsModel" (7 : Nat) "WordFieldsModel" "minus" "[Z") ∈ gw := gw_of 214 rfl rfl
theorem tw_215 : (Jvm.Cond.fieldLink "WordFieldsModel" (13 : Nat) "WordFieldsModel" "bytes" "[I") ∈ gw := gw_of 215 rfl rfl
theorem tw_216 : (Jvm.Cond.fieldLink "WordFieldsModel" (17 : Nat) "WordFieldsModel" "letters" "[I") ∈ gw := gw_of 216 rfl rfl
theorem tw_217 : (Jvm.Cond.fieldLink "WordFieldsModel" (20 : Nat) "WordFieldsModel" "work" "[I") ∈ gw := gw_of 217 rfl rfl
theorem tw_227 : (Jvm.Cond.arrayClass Jvm.ClassFile.FieldType.boolean) ∈ gw := gw_of 227 rfl rfl
theorem tw_228 : (Jvm.Cond.methodLink "WordFieldsLaw" (17 : Nat) ({ cls := "WordFieldsModel", name := "set", desc := "(IIZ)Z" } : Jvm.MethodName)) ∈ gw := gw_of 228 rfl rfl
theorem tw_229 : (Jvm.Cond.instanceMethod ({ cls := "WordFieldsModel", name := "set", desc := "(IIZ)Z" } : Jvm.MethodName)) ∈ gw := gw_of 229 rfl rfl
theorem tw_230 : (Jvm.Cond.selects "WordFieldsModel" ({ cls := "WordFieldsModel", name := "set", desc := "(IIZ)Z" } : Jvm.MethodName) ({ cls := "WordFieldsModel", name := "set", desc := "(IIZ)Z" } : Jvm.MethodName)) ∈ gw := gw_of 230 rfl rfl
theorem tw_231 : (Jvm.Cond.code ({ cls := "WordFieldsModel", name := "set", desc := "(IIZ)Z" } : Jvm.MethodName) prog_3_method_6_code (7 : Nat) (Option.some Jvm.ClassFile.FieldType.boolean)) ∈ gw := gw_of 231 rfl rfl
theorem tw_232 : (Jvm.Cond.constant "WordFieldsModel" (23 : Nat) (-1073741824 : Int32)) ∈ gw := gw_of 232 rfl rfl
theorem tw_233 : (Jvm.Cond.methodLink "WordFieldsModel" (24 : Nat) ({ cls := "WordFieldsModel", name := "isRegister", desc := "(I)Z" } : Jvm.MethodName)) ∈ gw := gw_of 233 rfl rfl
theorem tw_234 : (Jvm.Cond.static ({ cls := "WordFieldsModel", name := "isRegister", desc := "(I)Z" } : Jvm.MethodName)) ∈ gw := gw_of 234 rfl rfl
theorem tw_235 : (Jvm.Cond.code ({ cls := "WordFieldsModel", name := "isRegister", desc := "(I)Z" } : Jvm.MethodName) prog_3_method_3_code (1 : Nat) (Option.some Jvm.ClassFile.FieldType.boolean)) ∈ gw := gw_of 235 rfl rfl
theorem tw_236 : (Jvm.Cond.constant "WordFieldsModel" (28 : Nat) (1073741824 : Int32)) ∈ gw := gw_of 236 rfl rfl
theorem tw_237 : (Jvm.Cond.methodLink "WordFieldsLaw" (22 : Nat) ({ cls := "WordFieldsModel", name := "value", desc := "(I)I" } : Jvm.MethodName)) ∈ gw := gw_of 237 rfl rfl
theorem tw_238 : (Jvm.Cond.instanceMethod ({ cls := "WordFieldsModel", name := "value", desc := "(I)I" } : Jvm.MethodName)) ∈ gw := gw_of 238 rfl rfl
theorem tw_239 : (Jvm.Cond.selects "WordFieldsModel" ({ cls := "WordFieldsModel", name := "value", desc := "(I)I" } : Jvm.MethodName) ({ cls := "WordFieldsModel", name := "value", desc := "(I)I" } : Jvm.MethodName)) ∈ gw := gw_of 239 rfl rfl
theorem tw_240 : (Jvm.Cond.code ({ cls := "WordFieldsModel", name := "value", desc := "(I)I" } : Jvm.MethodName) prog_3_method_8_code (3 : Nat) (Option.some Jvm.ClassFile.FieldType.int)) ∈ gw := gw_of 240 rfl rfl
theorem tw_241 : (Jvm.Cond.constant "WordFieldsModel" (29 : Nat) (2147483647 : Int32)) ∈ gw := gw_of 241 rfl rfl
theorem tw_242 : (Jvm.Cond.methodLink "WordFieldsModel" (30 : Nat) ({ cls := "WordFieldsModel", name := "number", desc := "(III)I" } : Jvm.MethodName)) ∈ gw := gw_of 242 rfl rfl
theorem tw_244 : (Jvm.Cond.instanceMethod ({ cls := "WordFieldsModel", name := "number", desc := "(III)I" } : Jvm.MethodName)) ∈ gw := gw_of 244 rfl rfl
theorem tw_245 : (Jvm.Cond.code ({ cls := "WordFieldsModel", name := "number", desc := "(III)I" } : Jvm.MethodName) prog_3_method_7_code (6 : Nat) (Option.some Jvm.ClassFile.FieldType.int)) ∈ gw := gw_of 245 rfl rfl
theorem tw_246 : (Jvm.Cond.constant "WordFieldsModel" (34 : Nat) (-2147483648 : Int32)) ∈ gw := gw_of 246 rfl rfl
theorem tw_247 : (Jvm.Cond.methodLink "WordFieldsLaw" (27 : Nat) ({ cls := "WordFieldsModel", name := "byteOf", desc := "(II)I" } : Jvm.MethodName)) ∈ gw := gw_of 247 rfl rfl
theorem tw_248 : (Jvm.Cond.instanceMethod ({ cls := "WordFieldsModel", name := "byteOf", desc := "(II)I" } : Jvm.MethodName)) ∈ gw := gw_of 248 rfl rfl
theorem tw_249 : (Jvm.Cond.selects "WordFieldsModel" ({ cls := "WordFieldsModel", name := "byteOf", desc := "(II)I" } : Jvm.MethodName) ({ cls := "WordFieldsModel", name := "byteOf", desc := "(II)I" } : Jvm.MethodName)) ∈ gw := gw_of 249 rfl rfl
theorem tw_250 : (Jvm.Cond.code ({ cls := "WordFieldsModel", name := "byteOf", desc := "(II)I" } : Jvm.MethodName) prog_3_method_9_code (3 : Nat) (Option.some Jvm.ClassFile.FieldType.int)) ∈ gw := gw_of 250 rfl rfl
theorem tw_251 : (Jvm.Cond.methodLink "WordFieldsLaw" (32 : Nat) ({ cls := "WordFieldsModel", name := "load", desc := "(III)Z" } : Jvm.MethodName)) ∈ gw := gw_of 251 rfl rfl
theorem tw_252 : (Jvm.Cond.instanceMethod ({ cls := "WordFieldsModel", name := "load", desc := "(III)Z" } : Jvm.MethodName)) ∈ gw := gw_of 252 rfl rfl
theorem tw_253 : (Jvm.Cond.selects "WordFieldsModel" ({ cls := "WordFieldsModel", name := "load", desc := "(III)Z" } : Jvm.MethodName) ({ cls := "WordFieldsModel", name := "load", desc := "(III)Z" } : Jvm.MethodName)) ∈ gw := gw_of 253 rfl rfl
theorem tw_254 : (Jvm.Cond.code ({ cls := "WordFieldsModel", name := "load", desc := "(III)Z" } : Jvm.MethodName) prog_3_method_11_code (6 : Nat) (Option.some Jvm.ClassFile.FieldType.boolean)) ∈ gw := gw_of 254 rfl rfl
theorem tw_255 : (Jvm.Cond.methodLink "WordFieldsModel" (38 : Nat) ({ cls := "WordFieldsModel", name := "may", desc := "(III)Z" } : Jvm.MethodName)) ∈ gw := gw_of 255 rfl rfl
theorem tw_257 : (Jvm.Cond.instanceMethod ({ cls := "WordFieldsModel", name := "may", desc := "(III)Z" } : Jvm.MethodName)) ∈ gw := gw_of 257 rfl rfl
theorem tw_258 : (Jvm.Cond.code ({ cls := "WordFieldsModel", name := "may", desc := "(III)Z" } : Jvm.MethodName) prog_3_method_10_code (4 : Nat) (Option.some Jvm.ClassFile.FieldType.boolean)) ∈ gw := gw_of 258 rfl rfl
theorem tw_259 : (Jvm.Cond.methodLink "WordFieldsModel" (35 : Nat) ({ cls := "WordFieldsModel", name := "is", desc := "(I)Z" } : Jvm.MethodName)) ∈ gw := gw_of 259 rfl rfl
theorem tw_260 : (Jvm.Cond.static ({ cls := "WordFieldsModel", name := "is", desc := "(I)Z" } : Jvm.MethodName)) ∈ gw := gw_of 260 rfl rfl
theorem tw_261 : (Jvm.Cond.code ({ cls := "WordFieldsModel", name := "is", desc := "(I)Z" } : Jvm.MethodName) prog_3_method_4_code (1 : Nat) (Option.some Jvm.ClassFile.FieldType.boolean)) ∈ gw := gw_of 261 rfl rfl
theorem tw_262 : (Jvm.Cond.methodLink "WordFieldsModel" (42 : Nat) ({ cls := "WordFieldsModel", name := "first", desc := "(I)I" } : Jvm.MethodName)) ∈ gw := gw_of 262 rfl rfl
theorem tw_263 : (Jvm.Cond.static ({ cls := "WordFieldsModel", name := "first", desc := "(I)I" } : Jvm.MethodName)) ∈ gw := gw_of 263 rfl rfl
theorem tw_264 : (Jvm.Cond.code ({ cls := "WordFieldsModel", name := "first", desc := "(I)I" } : Jvm.MethodName) prog_3_method_5_code (1 : Nat) (Option.some Jvm.ClassFile.FieldType.int)) ∈ gw := gw_of 264 rfl rfl
theorem tw_265 : (Jvm.Cond.methodLink "WordFieldsLaw" (36 : Nat) ({ cls := "WordFieldsModel", name := "store", desc := "(III)Z" } : Jvm.MethodName)) ∈ gw := gw_of 265 rfl rfl
theorem tw_266 : (Jvm.Cond.instanceMethod ({ cls := "WordFieldsModel", name := "store", desc := "(III)Z" } : Jvm.MethodName)) ∈ gw := gw_of 266 rfl rfl
theorem tw_267 : (Jvm.Cond.selects "WordFieldsModel" ({ cls := "WordFieldsModel", name := "store", desc := "(III)Z" } : Jvm.MethodName) ({ cls := "WordFieldsModel", name := "store", desc := "(III)Z" } : Jvm.MethodName)) ∈ gw := gw_of 267 rfl rfl
theorem tw_268 : (Jvm.Cond.code ({ cls := "WordFieldsModel", name := "store", desc := "(III)Z" } : Jvm.MethodName) prog_3_method_12_code (6 : Nat) (Option.some Jvm.ClassFile.FieldType.boolean)) ∈ gw := gw_of 268 rfl rfl
theorem tw_269 : (Jvm.Cond.methodLink "WordFieldsLaw" (41 : Nat) ({ cls := "WordFieldsModel", name := "turn", desc := "(I)Z" } : Jvm.MethodName)) ∈ gw := gw_of 269 rfl rfl
theorem tw_270 : (Jvm.Cond.instanceMethod ({ cls := "WordFieldsModel", name := "turn", desc := "(I)Z" } : Jvm.MethodName)) ∈ gw := gw_of 270 rfl rfl
theorem tw_271 : (Jvm.Cond.selects "WordFieldsModel" ({ cls := "WordFieldsModel", name := "turn", desc := "(I)Z" } : Jvm.MethodName) ({ cls := "WordFieldsModel", name := "turn", desc := "(I)Z" } : Jvm.MethodName)) ∈ gw := gw_of 271 rfl rfl
theorem tw_272 : (Jvm.Cond.code ({ cls := "WordFieldsModel", name := "turn", desc := "(I)Z" } : Jvm.MethodName) prog_3_method_13_code (2 : Nat) (Option.some Jvm.ClassFile.FieldType.boolean)) ∈ gw := gw_of 272 rfl rfl
theorem tw_273 : (Jvm.Cond.methodLink "WordFieldsLaw" (46 : Nat) ({ cls := "WordFieldsModel", name := "compare", desc := "(III)I" } : Jvm.MethodName)) ∈ gw := gw_of 273 rfl rfl
theorem tw_274 : (Jvm.Cond.instanceMethod ({ cls := "WordFieldsModel", name := "compare", desc := "(III)I" } : Jvm.MethodName)) ∈ gw := gw_of 274 rfl rfl
theorem tw_275 : (Jvm.Cond.selects "WordFieldsModel" ({ cls := "WordFieldsModel", name := "compare", desc := "(III)I" } : Jvm.MethodName) ({ cls := "WordFieldsModel", name := "compare", desc := "(III)I" } : Jvm.MethodName)) ∈ gw := gw_of 275 rfl rfl
theorem tw_276 : (Jvm.Cond.code ({ cls := "WordFieldsModel", name := "compare", desc := "(III)I" } : Jvm.MethodName) prog_3_method_14_code (6 : Nat) (Option.some Jvm.ClassFile.FieldType.int)) ∈ gw := gw_of 276 rfl rfl
theorem tw_277 : (Jvm.Cond.methodLink "WordFieldsLaw" (50 : Nat) ({ cls := "WordFieldsModel", name := "isField", desc := "(I)Z" } : Jvm.MethodName)) ∈ gw := gw_of 277 rfl rfl
theorem tw_278 : (Jvm.Cond.instanceMethod ({ cls := "WordFieldsModel", name := "isField", desc := "(I)Z" } : Jvm.MethodName)) ∈ gw := gw_of 278 rfl rfl
theorem tw_279 : (Jvm.Cond.selects "WordFieldsModel" ({ cls := "WordFieldsModel", name := "isField", desc := "(I)Z" } : Jvm.MethodName) ({ cls := "WordFieldsModel", name := "isField", desc := "(I)Z" } : Jvm.MethodName)) ∈ gw := gw_of 279 rfl rfl
theorem tw_280 : (Jvm.Cond.code ({ cls := "WordFieldsModel", name := "isField", desc := "(I)Z" } : Jvm.MethodName) prog_3_method_15_code (2 : Nat) (Option.some Jvm.ClassFile.FieldType.boolean)) ∈ gw := gw_of 280 rfl rfl
theorem tw_281 : (Jvm.Cond.methodLink "WordFieldsLaw" (54 : Nat) ({ cls := "WordFieldsModel", name := "letter", desc := "(I)I" } : Jvm.MethodName)) ∈ gw := gw_of 281 rfl rfl
theorem tw_282 : (Jvm.Cond.instanceMethod ({ cls := "WordFieldsModel", name := "letter", desc := "(I)I" } : Jvm.MethodName)) ∈ gw := gw_of 282 rfl rfl
theorem tw_283 : (Jvm.Cond.selects "WordFieldsModel" ({ cls := "WordFieldsModel", name := "letter", desc := "(I)I" } : Jvm.MethodName) ({ cls := "WordFieldsModel", name := "letter", desc := "(I)I" } : Jvm.MethodName)) ∈ gw := gw_of 283 rfl rfl
theorem tw_284 : (Jvm.Cond.code ({ cls := "WordFieldsModel", name := "letter", desc := "(I)I" } : Jvm.MethodName) prog_3_method_16_code (2 : Nat) (Option.some Jvm.ClassFile.FieldType.int)) ∈ gw := gw_of 284 rfl rfl
theorem tw_285 : (Jvm.Cond.methodLink "WordFieldsLaw" (58 : Nat) ({ cls := "WordFieldsModel", name := "code", desc := "(I)I" } : Jvm.MethodName)) ∈ gw := gw_of 285 rfl rfl
theorem tw_286 : (Jvm.Cond.instanceMethod ({ cls := "WordFieldsModel", name := "code", desc := "(I)I" } : Jvm.MethodName)) ∈ gw := gw_of 286 rfl rfl
theorem tw_287 : (Jvm.Cond.selects "WordFieldsModel" ({ cls := "WordFieldsModel", name := "code", desc := "(I)I" } : Jvm.MethodName) ({ cls := "WordFieldsModel", name := "code", desc := "(I)I" } : Jvm.MethodName)) ∈ gw := gw_of 287 rfl rfl
theorem tw_288 : (Jvm.Cond.code ({ cls := "WordFieldsModel", name := "code", desc := "(I)I" } : Jvm.MethodName) prog_3_method_17_code (5 : Nat) (Option.some Jvm.ClassFile.FieldType.int)) ∈ gw := gw_of 288 rfl rfl
theorem tw_289 : (Jvm.Cond.fieldLink "java/lang/String" (9 : Nat) "java/lang/String" "value" "[B") ∈ gw := gw_of 289 rfl rfl
theorem tw_290 : (Jvm.Cond.fieldLink "java/lang/String" (15 : Nat) "java/lang/String" "coder" "B") ∈ gw := gw_of 290 rfl rfl
abbrev RF : String := "WordFields"
def TF : u_T := fun k => match k with
  | _ => ("WordFields", "words", "[I", true)
def tyF : Nat → FieldType := fun k => match k with
  | _ => .array .int
theorem nmF : ∀ a, a < 1 → ∀ b, b < 1 → a ≠ b → (TF a).2.1 ≠ (TF b).2.1 := by decide +kernel
theorem tyF_ok : ∀ k, k < 1 → parseFieldDescriptor (TF k).2.2.1 = some (tyF k) := by decide +kernel
abbrev RM : String := "WordFieldsModel"
def TM : u_T := fun k => match k with
  | 0 => ("WordFieldsModel", "minus", "[Z", true)
  | 1 => ("WordFieldsModel", "bytes", "[I", true)
  | 2 => ("WordFieldsModel", "letters", "[I", true)
  | _ => ("WordFieldsModel", "work", "[I", true)
def tyM : Nat → FieldType := fun k => match k with
  | 0 => .array .boolean
  | 1 => .array .int
  | 2 => .array .int
  | _ => .array .int
theorem nmM : ∀ a, a < 4 → ∀ b, b < 4 → a ≠ b → (TM a).2.1 ≠ (TM b).2.1 := by decide +kernel
theorem tyM_ok : ∀ k, k < 4 → parseFieldDescriptor (TM k).2.2.1 = some (tyM k) := by decide +kernel
abbrev RL : String := "WordFieldsLaw"
abbrev RS : String := "java/lang/String"
abbrev RZ : String := "java/lang/StringLatin1"
abbrev RQ : String := "jdk/internal/util/Preconditions"
abbrev vwCl : List vw_C := [(RF, TF, 1), (RM, TM, 4)]
abbrev yF_isRegister : MethodName := ⟨"WordFields", "isRegister", "(I)Z"⟩
abbrev wsF_isRegister : List Cond := Cond.code yF_isRegister prog_1_method_12_code 1 (some .boolean) :: gw
abbrev yF_isMinus : MethodName := ⟨"WordFields", "isMinus", "(I)Z"⟩
abbrev wsF_isMinus : List Cond := Cond.code yF_isMinus prog_1_method_13_code 1 (some .boolean) :: gw
abbrev yF_number : MethodName := ⟨"WordFields", "number", "(I)I"⟩
abbrev wsF_number : List Cond := Cond.code yF_number prog_1_method_14_code 2 (some .int) :: gw
abbrev yF_firstByte : MethodName := ⟨"WordFields", "firstByte", "(I)I"⟩
abbrev wsF_firstByte : List Cond := Cond.code yF_firstByte prog_1_method_15_code 1 (some .int) :: gw
abbrev yF_lastByte : MethodName := ⟨"WordFields", "lastByte", "(I)I"⟩
abbrev wsF_lastByte : List Cond := Cond.code yF_lastByte prog_1_method_16_code 1 (some .int) :: gw
abbrev yF_bitsRightOf : MethodName := ⟨"WordFields", "bitsRightOf", "(I)I"⟩
abbrev wsF_bitsRightOf : List Cond := Cond.code yF_bitsRightOf prog_1_method_17_code 1 (some .int) :: gw
abbrev yF_rightMask : MethodName := ⟨"WordFields", "rightMask", "(I)I"⟩
abbrev wsF_rightMask : List Cond := Cond.code yF_rightMask prog_1_method_18_code 2 (some .int) :: gw
abbrev yF_signMask : MethodName := ⟨"WordFields", "signMask", "(I)I"⟩
abbrev wsF_signMask : List Cond := Cond.code yF_signMask prog_1_method_19_code 1 (some .int) :: gw
abbrev yF_fieldOf : MethodName := ⟨"WordFields", "fieldOf", "(II)I"⟩
abbrev wsF_fieldOf : List Cond := Cond.code yF_fieldOf prog_1_method_20_code 3 (some .int) :: gw
abbrev yF_greatLetter : MethodName := ⟨"WordFields", "greatLetter", "(I)I"⟩
abbrev wsF_greatLetter : List Cond := Cond.code yF_greatLetter prog_1_method_21_code 1 (some .int) :: gw
abbrev yF_isField : MethodName := ⟨"WordFields", "isField", "(I)Z"⟩
abbrev wsF_isField : List Cond := Cond.code yF_isField prog_1_method_9_code 2 (some .boolean) :: gw
abbrev yF_value : MethodName := ⟨"WordFields", "value", "(I)I"⟩
abbrev wsF_value : List Cond := Cond.code yF_value prog_1_method_3_code 3 (some .int) :: gw
abbrev yF_byteOf : MethodName := ⟨"WordFields", "byteOf", "(II)I"⟩
abbrev wsF_byteOf : List Cond := Cond.code yF_byteOf prog_1_method_4_code 4 (some .int) :: gw
abbrev yF_compare : MethodName := ⟨"WordFields", "compare", "(III)I"⟩
abbrev wsF_compare : List Cond := Cond.code yF_compare prog_1_method_8_code 6 (some .int) :: gw
abbrev yF_set : MethodName := ⟨"WordFields", "set", "(IIZ)Z"⟩
abbrev wsF_set : List Cond := Cond.code yF_set prog_1_method_2_code 5 (some .boolean) :: gw
abbrev yF_load : MethodName := ⟨"WordFields", "load", "(III)Z"⟩
abbrev wsF_load : List Cond := Cond.code yF_load prog_1_method_5_code 4 (some .boolean) :: gw
abbrev yF_store : MethodName := ⟨"WordFields", "store", "(III)Z"⟩
abbrev wsF_store : List Cond := Cond.code yF_store prog_1_method_6_code 7 (some .boolean) :: gw
abbrev yF_turn : MethodName := ⟨"WordFields", "turn", "(I)Z"⟩
abbrev wsF_turn : List Cond := Cond.code yF_turn prog_1_method_7_code 2 (some .boolean) :: gw
abbrev yM_isRegister : MethodName := ⟨"WordFieldsModel", "isRegister", "(I)Z"⟩
abbrev wsM_isRegister : List Cond := Cond.code yM_isRegister prog_3_method_3_code 1 (some .boolean) :: gw
abbrev yM_is : MethodName := ⟨"WordFieldsModel", "is", "(I)Z"⟩
abbrev wsM_is : List Cond := Cond.code yM_is prog_3_method_4_code 1 (some .boolean) :: gw
abbrev yM_first : MethodName := ⟨"WordFieldsModel", "first", "(I)I"⟩
abbrev wsM_first : List Cond := Cond.code yM_first prog_3_method_5_code 1 (some .int) :: gw
abbrev yM_may : MethodName := ⟨"WordFieldsModel", "may", "(III)Z"⟩
abbrev wsM_may : List Cond := Cond.code yM_may prog_3_method_10_code 4 (some .boolean) :: gw
abbrev yM_isField : MethodName := ⟨"WordFieldsModel", "isField", "(I)Z"⟩
abbrev wsM_isField : List Cond := Cond.code yM_isField prog_3_method_15_code 2 (some .boolean) :: gw
abbrev yM_number : MethodName := ⟨"WordFieldsModel", "number", "(III)I"⟩
abbrev wsM_number : List Cond := Cond.code yM_number prog_3_method_7_code 6 (some .int) :: gw
abbrev yM_value : MethodName := ⟨"WordFieldsModel", "value", "(I)I"⟩
abbrev wsM_value : List Cond := Cond.code yM_value prog_3_method_8_code 3 (some .int) :: gw
abbrev yM_byteOf : MethodName := ⟨"WordFieldsModel", "byteOf", "(II)I"⟩
abbrev wsM_byteOf : List Cond := Cond.code yM_byteOf prog_3_method_9_code 3 (some .int) :: gw
abbrev yM_compare : MethodName := ⟨"WordFieldsModel", "compare", "(III)I"⟩
abbrev wsM_compare : List Cond := Cond.code yM_compare prog_3_method_14_code 6 (some .int) :: gw
abbrev yM_letter : MethodName := ⟨"WordFieldsModel", "letter", "(I)I"⟩
abbrev wsM_letter : List Cond := Cond.code yM_letter prog_3_method_16_code 2 (some .int) :: gw
abbrev yM_turn : MethodName := ⟨"WordFieldsModel", "turn", "(I)Z"⟩
abbrev wsM_turn : List Cond := Cond.code yM_turn prog_3_method_13_code 2 (some .boolean) :: gw
abbrev yM_set : MethodName := ⟨"WordFieldsModel", "set", "(IIZ)Z"⟩
abbrev wsM_set : List Cond := Cond.code yM_set prog_3_method_6_code 7 (some .boolean) :: gw
abbrev yM_load : MethodName := ⟨"WordFieldsModel", "load", "(III)Z"⟩
abbrev wsM_load : List Cond := Cond.code yM_load prog_3_method_11_code 6 (some .boolean) :: gw
abbrev yM_store : MethodName := ⟨"WordFieldsModel", "store", "(III)Z"⟩
abbrev wsM_store : List Cond := Cond.code yM_store prog_3_method_12_code 6 (some .boolean) :: gw
abbrev yM_code : MethodName := ⟨"WordFieldsModel", "code", "(I)I"⟩
abbrev wsM_code : List Cond := Cond.code yM_code prog_3_method_17_code 5 (some .int) :: gw
abbrev yS_coder : MethodName := ⟨"java/lang/String", "coder", "()B"⟩
abbrev wsS_coder : List Cond := Cond.code yS_coder prog_6_method_152_code 1 (some .byte) :: gw
abbrev yS_isLatin1 : MethodName := ⟨"java/lang/String", "isLatin1", "()Z"⟩
abbrev wsS_isLatin1 : List Cond := Cond.code yS_isLatin1 prog_6_method_154_code 1 (some .boolean) :: gw
abbrev yS_length : MethodName := ⟨"java/lang/String", "length", "()I"⟩
abbrev wsS_length : List Cond := Cond.code yS_length prog_6_method_54_code 1 (some .int) :: gw
abbrev yQ_checkIndex : MethodName := ⟨"jdk/internal/util/Preconditions", "checkIndex", "(IILjava/util/function/BiFunction;)I"⟩
abbrev wsQ_checkIndex : List Cond := Cond.code yQ_checkIndex prog_9_method_11_code 3 (some .int) :: gw
abbrev yS_checkIndex : MethodName := ⟨"java/lang/String", "checkIndex", "(II)V"⟩
abbrev wsS_checkIndex : List Cond := Cond.code yS_checkIndex prog_6_method_155_code 2 none :: gw
abbrev yZ_charAt : MethodName := ⟨"java/lang/StringLatin1", "charAt", "([BI)C"⟩
abbrev wsZ_charAt : List Cond := Cond.code yZ_charAt prog_7_method_2_code 2 (some .char) :: gw
abbrev yS_charAt : MethodName := ⟨"java/lang/String", "charAt", "(I)C"⟩
abbrev wsS_charAt : List Cond := Cond.code yS_charAt prog_6_method_56_code 2 (some .char) :: gw
abbrev yZ_canEncode : MethodName := ⟨"java/lang/StringLatin1", "canEncode", "(I)Z"⟩
abbrev wsZ_canEncode : List Cond := Cond.code yZ_canEncode prog_7_method_4_code 1 (some .boolean) :: gw
abbrev yZ_indexOfChar : MethodName := ⟨"java/lang/StringLatin1", "indexOfChar", "([BIII)I"⟩
abbrev wsZ_indexOfChar : List Cond := Cond.code yZ_indexOfChar prog_7_method_23_code 6 (some .int) :: gw
abbrev yZ_indexOf : MethodName := ⟨"java/lang/StringLatin1", "indexOf", "([BIII)I"⟩
abbrev wsZ_indexOf : List Cond := Cond.code yZ_indexOf prog_7_method_22_code 4 (some .int) :: gw
abbrev yS_indexOf2 : MethodName := ⟨"java/lang/String", "indexOf", "(II)I"⟩
abbrev wsS_indexOf2 : List Cond := Cond.code yS_indexOf2 prog_6_method_80_code 3 (some .int) :: gw
abbrev yS_indexOf : MethodName := ⟨"java/lang/String", "indexOf", "(I)I"⟩
abbrev wsS_indexOf : List Cond := Cond.code yS_indexOf prog_6_method_79_code 2 (some .int) :: gw
abbrev yF_letter : MethodName := ⟨"WordFields", "letter", "(I)I"⟩
abbrev wsF_letter : List Cond := Cond.code yF_letter prog_1_method_10_code 2 (some .int) :: gw
abbrev yF_code : MethodName := ⟨"WordFields", "code", "(I)I"⟩
abbrev wsF_code : List Cond := Cond.code yF_code prog_1_method_11_code 3 (some .int) :: gw
abbrev yF_init : MethodName := ⟨"WordFields", "<init>", "()V"⟩
abbrev wsF_init : List Cond := Cond.code yF_init prog_1_method_1_code 1 none :: gw
abbrev yM_init : MethodName := ⟨"WordFieldsModel", "<init>", "()V"⟩
abbrev wsM_init : List Cond := Cond.code yM_init prog_3_method_1_code 1 none :: gw
end
section
theorem iF : ∀ w ∈ u_ws RF TF 1, w ∈ gw := by decide +kernel
theorem iM : ∀ w ∈ u_ws RM TM 4, w ∈ gw := by decide +kernel
end
section
theorem dF_isRegister_0 : decode prog_1_method_12_code 0 = .ok (.iload_n 0, 1) := by decide +kernel
theorem dF_isRegister_1 : decode prog_1_method_12_code 1 = .ok (.ifCond .lt 13, 3) := by decide +kernel
theorem dF_isRegister_4 : decode prog_1_method_12_code 4 = .ok (.iload_n 0, 1) := by decide +kernel
theorem dF_isRegister_5 : decode prog_1_method_12_code 5 = .ok (.bipush 16, 2) := by decide +kernel
theorem dF_isRegister_7 : decode prog_1_method_12_code 7 = .ok (.if_icmp .ge 7, 3) := by decide +kernel
theorem dF_isRegister_10 : decode prog_1_method_12_code 10 = .ok (.iconst 1, 1) := by decide +kernel
theorem dF_isRegister_11 : decode prog_1_method_12_code 11 = .ok (.goto 4, 3) := by decide +kernel
theorem dF_isRegister_14 : decode prog_1_method_12_code 14 = .ok (.iconst 0, 1) := by decide +kernel
theorem dF_isRegister_15 : decode prog_1_method_12_code 15 = .ok (.ireturn, 1) := by decide +kernel
theorem dF_isMinus_0 : decode prog_1_method_13_code 0 = .ok (.iload_n 0, 1) := by decide +kernel
theorem dF_isMinus_1 : decode prog_1_method_13_code 1 = .ok (.ldc 19, 2) := by decide +kernel
theorem dF_isMinus_3 : decode prog_1_method_13_code 3 = .ok (.iand, 1) := by decide +kernel
theorem dF_isMinus_4 : decode prog_1_method_13_code 4 = .ok (.ifCond .eq 7, 3) := by decide +kernel
theorem dF_isMinus_7 : decode prog_1_method_13_code 7 = .ok (.iconst 1, 1) := by decide +kernel
theorem dF_isMinus_8 : decode prog_1_method_13_code 8 = .ok (.goto 4, 3) := by decide +kernel
theorem dF_isMinus_11 : decode prog_1_method_13_code 11 = .ok (.iconst 0, 1) := by decide +kernel
theorem dF_isMinus_12 : decode prog_1_method_13_code 12 = .ok (.ireturn, 1) := by decide +kernel
theorem dF_number_0 : decode prog_1_method_14_code 0 = .ok (.iload_n 0, 1) := by decide +kernel
theorem dF_number_1 : decode prog_1_method_14_code 1 = .ok (.ldc 17, 2) := by decide +kernel
theorem dF_number_3 : decode prog_1_method_14_code 3 = .ok (.iand, 1) := by decide +kernel
theorem dF_number_4 : decode prog_1_method_14_code 4 = .ok (.istore_n 1, 1) := by decide +kernel
theorem dF_number_5 : decode prog_1_method_14_code 5 = .ok (.iload_n 0, 1) := by decide +kernel
theorem dF_number_6 : decode prog_1_method_14_code 6 = .ok (.invokestatic 26, 3) := by decide +kernel
theorem dF_number_9 : decode prog_1_method_14_code 9 = .ok (.ifCond .eq 8, 3) := by decide +kernel
theorem dF_number_12 : decode prog_1_method_14_code 12 = .ok (.iload_n 1, 1) := by decide +kernel
theorem dF_number_13 : decode prog_1_method_14_code 13 = .ok (.ineg, 1) := by decide +kernel
theorem dF_number_14 : decode prog_1_method_14_code 14 = .ok (.goto 4, 3) := by decide +kernel
theorem dF_number_17 : decode prog_1_method_14_code 17 = .ok (.iload_n 1, 1) := by decide +kernel
theorem dF_number_18 : decode prog_1_method_14_code 18 = .ok (.ireturn, 1) := by decide +kernel
theorem dF_firstByte_0 : decode prog_1_method_15_code 0 = .ok (.iload_n 0, 1) := by decide +kernel
theorem dF_firstByte_1 : decode prog_1_method_15_code 1 = .ok (.iconst 3, 1) := by decide +kernel
theorem dF_firstByte_2 : decode prog_1_method_15_code 2 = .ok (.ishr, 1) := by decide +kernel
theorem dF_firstByte_3 : decode prog_1_method_15_code 3 = .ok (.ireturn, 1) := by decide +kernel
theorem dF_lastByte_0 : decode prog_1_method_16_code 0 = .ok (.iload_n 0, 1) := by decide +kernel
theorem dF_lastByte_1 : decode prog_1_method_16_code 1 = .ok (.bipush 7, 2) := by decide +kernel
theorem dF_lastByte_3 : decode prog_1_method_16_code 3 = .ok (.iand, 1) := by decide +kernel
theorem dF_lastByte_4 : decode prog_1_method_16_code 4 = .ok (.ireturn, 1) := by decide +kernel
theorem dF_bitsRightOf_0 : decode prog_1_method_17_code 0 = .ok (.bipush 6, 2) := by decide +kernel
theorem dF_bitsRightOf_2 : decode prog_1_method_17_code 2 = .ok (.iconst 5, 1) := by decide +kernel
theorem dF_bitsRightOf_3 : decode prog_1_method_17_code 3 = .ok (.iload_n 0, 1) := by decide +kernel
theorem dF_bitsRightOf_4 : decode prog_1_method_17_code 4 = .ok (.isub, 1) := by decide +kernel
theorem dF_bitsRightOf_5 : decode prog_1_method_17_code 5 = .ok (.imul, 1) := by decide +kernel
theorem dF_bitsRightOf_6 : decode prog_1_method_17_code 6 = .ok (.ireturn, 1) := by decide +kernel
theorem dF_rightMask_0 : decode prog_1_method_18_code 0 = .ok (.iload_n 0, 1) := by decide +kernel
theorem dF_rightMask_1 : decode prog_1_method_18_code 1 = .ok (.invokestatic 42, 3) := by decide +kernel
theorem dF_rightMask_4 : decode prog_1_method_18_code 4 = .ok (.iload_n 0, 1) := by decide +kernel
theorem dF_rightMask_5 : decode prog_1_method_18_code 5 = .ok (.invokestatic 48, 3) := by decide +kernel
theorem dF_rightMask_8 : decode prog_1_method_18_code 8 = .ok (.iconst 1, 1) := by decide +kernel
theorem dF_rightMask_9 : decode prog_1_method_18_code 9 = .ok (.invokestatic 69, 3) := by decide +kernel
theorem dF_rightMask_12 : decode prog_1_method_18_code 12 = .ok (.isub, 1) := by decide +kernel
theorem dF_rightMask_13 : decode prog_1_method_18_code 13 = .ok (.iconst 1, 1) := by decide +kernel
theorem dF_rightMask_14 : decode prog_1_method_18_code 14 = .ok (.iadd, 1) := by decide +kernel
theorem dF_rightMask_15 : decode prog_1_method_18_code 15 = .ok (.istore_n 1, 1) := by decide +kernel
theorem dF_rightMask_16 : decode prog_1_method_18_code 16 = .ok (.iconst 1, 1) := by decide +kernel
theorem dF_rightMask_17 : decode prog_1_method_18_code 17 = .ok (.bipush 6, 2) := by decide +kernel
theorem dF_rightMask_19 : decode prog_1_method_18_code 19 = .ok (.iload_n 1, 1) := by decide +kernel
theorem dF_rightMask_20 : decode prog_1_method_18_code 20 = .ok (.imul, 1) := by decide +kernel
theorem dF_rightMask_21 : decode prog_1_method_18_code 21 = .ok (.ishl, 1) := by decide +kernel
theorem dF_rightMask_22 : decode prog_1_method_18_code 22 = .ok (.iconst 1, 1) := by decide +kernel
theorem dF_rightMask_23 : decode prog_1_method_18_code 23 = .ok (.isub, 1) := by decide +kernel
theorem dF_rightMask_24 : decode prog_1_method_18_code 24 = .ok (.ireturn, 1) := by decide +kernel
theorem dF_signMask_0 : decode prog_1_method_19_code 0 = .ok (.iload_n 0, 1) := by decide +kernel
theorem dF_signMask_1 : decode prog_1_method_19_code 1 = .ok (.invokestatic 48, 3) := by decide +kernel
theorem dF_signMask_4 : decode prog_1_method_19_code 4 = .ok (.ifCond .ne 8, 3) := by decide +kernel
theorem dF_signMask_7 : decode prog_1_method_19_code 7 = .ok (.ldc 19, 2) := by decide +kernel
theorem dF_signMask_9 : decode prog_1_method_19_code 9 = .ok (.goto 4, 3) := by decide +kernel
theorem dF_signMask_12 : decode prog_1_method_19_code 12 = .ok (.iconst 0, 1) := by decide +kernel
theorem dF_signMask_13 : decode prog_1_method_19_code 13 = .ok (.ireturn, 1) := by decide +kernel
theorem dF_fieldOf_0 : decode prog_1_method_20_code 0 = .ok (.iload_n 0, 1) := by decide +kernel
theorem dF_fieldOf_1 : decode prog_1_method_20_code 1 = .ok (.iload_n 1, 1) := by decide +kernel
theorem dF_fieldOf_2 : decode prog_1_method_20_code 2 = .ok (.invokestatic 42, 3) := by decide +kernel
theorem dF_fieldOf_5 : decode prog_1_method_20_code 5 = .ok (.invokestatic 29, 3) := by decide +kernel
theorem dF_fieldOf_8 : decode prog_1_method_20_code 8 = .ok (.ishr, 1) := by decide +kernel
theorem dF_fieldOf_9 : decode prog_1_method_20_code 9 = .ok (.iload_n 1, 1) := by decide +kernel
theorem dF_fieldOf_10 : decode prog_1_method_20_code 10 = .ok (.invokestatic 39, 3) := by decide +kernel
theorem dF_fieldOf_13 : decode prog_1_method_20_code 13 = .ok (.iand, 1) := by decide +kernel
theorem dF_fieldOf_14 : decode prog_1_method_20_code 14 = .ok (.istore_n 2, 1) := by decide +kernel
theorem dF_fieldOf_15 : decode prog_1_method_20_code 15 = .ok (.iload_n 2, 1) := by decide +kernel
theorem dF_fieldOf_16 : decode prog_1_method_20_code 16 = .ok (.iload_n 0, 1) := by decide +kernel
theorem dF_fieldOf_17 : decode prog_1_method_20_code 17 = .ok (.iload_n 1, 1) := by decide +kernel
theorem dF_fieldOf_18 : decode prog_1_method_20_code 18 = .ok (.invokestatic 45, 3) := by decide +kernel
theorem dF_fieldOf_21 : decode prog_1_method_20_code 21 = .ok (.iand, 1) := by decide +kernel
theorem dF_fieldOf_22 : decode prog_1_method_20_code 22 = .ok (.ior, 1) := by decide +kernel
theorem dF_fieldOf_23 : decode prog_1_method_20_code 23 = .ok (.ireturn, 1) := by decide +kernel
theorem dF_greatLetter_0 : decode prog_1_method_21_code 0 = .ok (.iload_n 0, 1) := by decide +kernel
theorem dF_greatLetter_1 : decode prog_1_method_21_code 1 = .ok (.bipush 97, 2) := by decide +kernel
theorem dF_greatLetter_3 : decode prog_1_method_21_code 3 = .ok (.if_icmp .lt 19, 3) := by decide +kernel
theorem dF_greatLetter_6 : decode prog_1_method_21_code 6 = .ok (.iload_n 0, 1) := by decide +kernel
theorem dF_greatLetter_7 : decode prog_1_method_21_code 7 = .ok (.bipush 122, 2) := by decide +kernel
theorem dF_greatLetter_9 : decode prog_1_method_21_code 9 = .ok (.if_icmp .gt 13, 3) := by decide +kernel
theorem dF_greatLetter_12 : decode prog_1_method_21_code 12 = .ok (.iload_n 0, 1) := by decide +kernel
theorem dF_greatLetter_13 : decode prog_1_method_21_code 13 = .ok (.bipush 97, 2) := by decide +kernel
theorem dF_greatLetter_15 : decode prog_1_method_21_code 15 = .ok (.isub, 1) := by decide +kernel
theorem dF_greatLetter_16 : decode prog_1_method_21_code 16 = .ok (.bipush 65, 2) := by decide +kernel
theorem dF_greatLetter_18 : decode prog_1_method_21_code 18 = .ok (.iadd, 1) := by decide +kernel
theorem dF_greatLetter_19 : decode prog_1_method_21_code 19 = .ok (.goto 4, 3) := by decide +kernel
theorem dF_greatLetter_22 : decode prog_1_method_21_code 22 = .ok (.iload_n 0, 1) := by decide +kernel
theorem dF_greatLetter_23 : decode prog_1_method_21_code 23 = .ok (.ireturn, 1) := by decide +kernel
theorem dF_isField_0 : decode prog_1_method_9_code 0 = .ok (.iload_n 1, 1) := by decide +kernel
theorem dF_isField_1 : decode prog_1_method_9_code 1 = .ok (.ifCond .lt 26, 3) := by decide +kernel
theorem dF_isField_4 : decode prog_1_method_9_code 4 = .ok (.iload_n 1, 1) := by decide +kernel
theorem dF_isField_5 : decode prog_1_method_9_code 5 = .ok (.invokestatic 48, 3) := by decide +kernel
theorem dF_isField_8 : decode prog_1_method_9_code 8 = .ok (.iload_n 1, 1) := by decide +kernel
theorem dF_isField_9 : decode prog_1_method_9_code 9 = .ok (.invokestatic 42, 3) := by decide +kernel
theorem dF_isField_12 : decode prog_1_method_9_code 12 = .ok (.if_icmp .gt 15, 3) := by decide +kernel
theorem dF_isField_15 : decode prog_1_method_9_code 15 = .ok (.iload_n 1, 1) := by decide +kernel
theorem dF_isField_16 : decode prog_1_method_9_code 16 = .ok (.invokestatic 42, 3) := by decide +kernel
theorem dF_isField_19 : decode prog_1_method_9_code 19 = .ok (.iconst 5, 1) := by decide +kernel
theorem dF_isField_20 : decode prog_1_method_9_code 20 = .ok (.if_icmp .gt 7, 3) := by decide +kernel
theorem dF_isField_23 : decode prog_1_method_9_code 23 = .ok (.iconst 1, 1) := by decide +kernel
theorem dF_isField_24 : decode prog_1_method_9_code 24 = .ok (.goto 4, 3) := by decide +kernel
theorem dF_isField_27 : decode prog_1_method_9_code 27 = .ok (.iconst 0, 1) := by decide +kernel
theorem dF_isField_28 : decode prog_1_method_9_code 28 = .ok (.ireturn, 1) := by decide +kernel
theorem dF_value_0 : decode prog_1_method_3_code 0 = .ok (.iload_n 1, 1) := by decide +kernel
theorem dF_value_1 : decode prog_1_method_3_code 1 = .ok (.invokestatic 13, 3) := by decide +kernel
theorem dF_value_4 : decode prog_1_method_3_code 4 = .ok (.ifCond .ne 6, 3) := by decide +kernel
theorem dF_value_7 : decode prog_1_method_3_code 7 = .ok (.ldc 20, 2) := by decide +kernel
theorem dF_value_9 : decode prog_1_method_3_code 9 = .ok (.ireturn, 1) := by decide +kernel
theorem dF_value_10 : decode prog_1_method_3_code 10 = .ok (.aload_n 0, 1) := by decide +kernel
theorem dF_value_11 : decode prog_1_method_3_code 11 = .ok (.getfield 9, 3) := by decide +kernel
theorem dF_value_14 : decode prog_1_method_3_code 14 = .ok (.iload_n 1, 1) := by decide +kernel
theorem dF_value_15 : decode prog_1_method_3_code 15 = .ok (.iaload, 1) := by decide +kernel
theorem dF_value_16 : decode prog_1_method_3_code 16 = .ok (.istore_n 2, 1) := by decide +kernel
theorem dF_value_17 : decode prog_1_method_3_code 17 = .ok (.iload_n 2, 1) := by decide +kernel
theorem dF_value_18 : decode prog_1_method_3_code 18 = .ok (.ldc 19, 2) := by decide +kernel
theorem dF_value_20 : decode prog_1_method_3_code 20 = .ok (.if_icmp .ne 8, 3) := by decide +kernel
theorem dF_value_23 : decode prog_1_method_3_code 23 = .ok (.ldc 21, 2) := by decide +kernel
theorem dF_value_25 : decode prog_1_method_3_code 25 = .ok (.goto 7, 3) := by decide +kernel
theorem dF_value_28 : decode prog_1_method_3_code 28 = .ok (.iload_n 2, 1) := by decide +kernel
theorem dF_value_29 : decode prog_1_method_3_code 29 = .ok (.invokestatic 22, 3) := by decide +kernel
theorem dF_value_32 : decode prog_1_method_3_code 32 = .ok (.ireturn, 1) := by decide +kernel
theorem dF_byteOf_0 : decode prog_1_method_4_code 0 = .ok (.iload_n 1, 1) := by decide +kernel
theorem dF_byteOf_1 : decode prog_1_method_4_code 1 = .ok (.invokestatic 13, 3) := by decide +kernel
theorem dF_byteOf_4 : decode prog_1_method_4_code 4 = .ok (.ifCond .eq 12, 3) := by decide +kernel
theorem dF_byteOf_7 : decode prog_1_method_4_code 7 = .ok (.iload_n 2, 1) := by decide +kernel
theorem dF_byteOf_8 : decode prog_1_method_4_code 8 = .ok (.ifCond .lt 8, 3) := by decide +kernel
theorem dF_byteOf_11 : decode prog_1_method_4_code 11 = .ok (.iload_n 2, 1) := by decide +kernel
theorem dF_byteOf_12 : decode prog_1_method_4_code 12 = .ok (.iconst 5, 1) := by decide +kernel
theorem dF_byteOf_13 : decode prog_1_method_4_code 13 = .ok (.if_icmp .le 5, 3) := by decide +kernel
theorem dF_byteOf_16 : decode prog_1_method_4_code 16 = .ok (.iconst (-1), 1) := by decide +kernel
theorem dF_byteOf_17 : decode prog_1_method_4_code 17 = .ok (.ireturn, 1) := by decide +kernel
theorem dF_byteOf_18 : decode prog_1_method_4_code 18 = .ok (.aload_n 0, 1) := by decide +kernel
theorem dF_byteOf_19 : decode prog_1_method_4_code 19 = .ok (.getfield 9, 3) := by decide +kernel
theorem dF_byteOf_22 : decode prog_1_method_4_code 22 = .ok (.iload_n 1, 1) := by decide +kernel
theorem dF_byteOf_23 : decode prog_1_method_4_code 23 = .ok (.iaload, 1) := by decide +kernel
theorem dF_byteOf_24 : decode prog_1_method_4_code 24 = .ok (.istore_n 3, 1) := by decide +kernel
theorem dF_byteOf_25 : decode prog_1_method_4_code 25 = .ok (.iload_n 2, 1) := by decide +kernel
theorem dF_byteOf_26 : decode prog_1_method_4_code 26 = .ok (.ifCond .ne 16, 3) := by decide +kernel
theorem dF_byteOf_29 : decode prog_1_method_4_code 29 = .ok (.iload_n 3, 1) := by decide +kernel
theorem dF_byteOf_30 : decode prog_1_method_4_code 30 = .ok (.invokestatic 26, 3) := by decide +kernel
theorem dF_byteOf_33 : decode prog_1_method_4_code 33 = .ok (.ifCond .eq 7, 3) := by decide +kernel
theorem dF_byteOf_36 : decode prog_1_method_4_code 36 = .ok (.iconst 1, 1) := by decide +kernel
theorem dF_byteOf_37 : decode prog_1_method_4_code 37 = .ok (.goto 4, 3) := by decide +kernel
theorem dF_byteOf_40 : decode prog_1_method_4_code 40 = .ok (.iconst 0, 1) := by decide +kernel
theorem dF_byteOf_41 : decode prog_1_method_4_code 41 = .ok (.ireturn, 1) := by decide +kernel
theorem dF_byteOf_42 : decode prog_1_method_4_code 42 = .ok (.iload_n 3, 1) := by decide +kernel
theorem dF_byteOf_43 : decode prog_1_method_4_code 43 = .ok (.iload_n 2, 1) := by decide +kernel
theorem dF_byteOf_44 : decode prog_1_method_4_code 44 = .ok (.invokestatic 29, 3) := by decide +kernel
theorem dF_byteOf_47 : decode prog_1_method_4_code 47 = .ok (.ishr, 1) := by decide +kernel
theorem dF_byteOf_48 : decode prog_1_method_4_code 48 = .ok (.bipush 63, 2) := by decide +kernel
theorem dF_byteOf_50 : decode prog_1_method_4_code 50 = .ok (.iand, 1) := by decide +kernel
theorem dF_byteOf_51 : decode prog_1_method_4_code 51 = .ok (.ireturn, 1) := by decide +kernel
theorem dF_compare_0 : decode prog_1_method_8_code 0 = .ok (.iload_n 1, 1) := by decide +kernel
theorem dF_compare_1 : decode prog_1_method_8_code 1 = .ok (.invokestatic 13, 3) := by decide +kernel
theorem dF_compare_4 : decode prog_1_method_8_code 4 = .ok (.ifCond .eq 18, 3) := by decide +kernel
theorem dF_compare_7 : decode prog_1_method_8_code 7 = .ok (.iload_n 2, 1) := by decide +kernel
theorem dF_compare_8 : decode prog_1_method_8_code 8 = .ok (.invokestatic 13, 3) := by decide +kernel
theorem dF_compare_11 : decode prog_1_method_8_code 11 = .ok (.ifCond .eq 11, 3) := by decide +kernel
theorem dF_compare_14 : decode prog_1_method_8_code 14 = .ok (.aload_n 0, 1) := by decide +kernel
theorem dF_compare_15 : decode prog_1_method_8_code 15 = .ok (.iload_n 3, 1) := by decide +kernel
theorem dF_compare_16 : decode prog_1_method_8_code 16 = .ok (.invokevirtual 32, 3) := by decide +kernel
theorem dF_compare_19 : decode prog_1_method_8_code 19 = .ok (.ifCond .ne 6, 3) := by decide +kernel
theorem dF_compare_22 : decode prog_1_method_8_code 22 = .ok (.bipush (-2), 2) := by decide +kernel
theorem dF_compare_24 : decode prog_1_method_8_code 24 = .ok (.ireturn, 1) := by decide +kernel
theorem dF_compare_25 : decode prog_1_method_8_code 25 = .ok (.aload_n 0, 1) := by decide +kernel
theorem dF_compare_26 : decode prog_1_method_8_code 26 = .ok (.getfield 9, 3) := by decide +kernel
theorem dF_compare_29 : decode prog_1_method_8_code 29 = .ok (.iload_n 1, 1) := by decide +kernel
theorem dF_compare_30 : decode prog_1_method_8_code 30 = .ok (.iaload, 1) := by decide +kernel
theorem dF_compare_31 : decode prog_1_method_8_code 31 = .ok (.iload_n 3, 1) := by decide +kernel
theorem dF_compare_32 : decode prog_1_method_8_code 32 = .ok (.invokestatic 35, 3) := by decide +kernel
theorem dF_compare_35 : decode prog_1_method_8_code 35 = .ok (.invokestatic 22, 3) := by decide +kernel
theorem dF_compare_38 : decode prog_1_method_8_code 38 = .ok (.istore 4, 2) := by decide +kernel
theorem dF_compare_40 : decode prog_1_method_8_code 40 = .ok (.aload_n 0, 1) := by decide +kernel
theorem dF_compare_41 : decode prog_1_method_8_code 41 = .ok (.getfield 9, 3) := by decide +kernel
theorem dF_compare_44 : decode prog_1_method_8_code 44 = .ok (.iload_n 2, 1) := by decide +kernel
theorem dF_compare_45 : decode prog_1_method_8_code 45 = .ok (.iaload, 1) := by decide +kernel
theorem dF_compare_46 : decode prog_1_method_8_code 46 = .ok (.iload_n 3, 1) := by decide +kernel
theorem dF_compare_47 : decode prog_1_method_8_code 47 = .ok (.invokestatic 35, 3) := by decide +kernel
theorem dF_compare_50 : decode prog_1_method_8_code 50 = .ok (.invokestatic 22, 3) := by decide +kernel
theorem dF_compare_53 : decode prog_1_method_8_code 53 = .ok (.istore 5, 2) := by decide +kernel
theorem dF_compare_55 : decode prog_1_method_8_code 55 = .ok (.iload 4, 2) := by decide +kernel
theorem dF_compare_57 : decode prog_1_method_8_code 57 = .ok (.iload 5, 2) := by decide +kernel
theorem dF_compare_59 : decode prog_1_method_8_code 59 = .ok (.if_icmp .ge 7, 3) := by decide +kernel
theorem dF_compare_62 : decode prog_1_method_8_code 62 = .ok (.iconst (-1), 1) := by decide +kernel
theorem dF_compare_63 : decode prog_1_method_8_code 63 = .ok (.goto 15, 3) := by decide +kernel
theorem dF_compare_66 : decode prog_1_method_8_code 66 = .ok (.iload 4, 2) := by decide +kernel
theorem dF_compare_68 : decode prog_1_method_8_code 68 = .ok (.iload 5, 2) := by decide +kernel
theorem dF_compare_70 : decode prog_1_method_8_code 70 = .ok (.if_icmp .le 7, 3) := by decide +kernel
theorem dF_compare_73 : decode prog_1_method_8_code 73 = .ok (.iconst 1, 1) := by decide +kernel
theorem dF_compare_74 : decode prog_1_method_8_code 74 = .ok (.goto 4, 3) := by decide +kernel
theorem dF_compare_77 : decode prog_1_method_8_code 77 = .ok (.iconst 0, 1) := by decide +kernel
theorem dF_compare_78 : decode prog_1_method_8_code 78 = .ok (.ireturn, 1) := by decide +kernel
theorem dF_set_0 : decode prog_1_method_2_code 0 = .ok (.iload_n 1, 1) := by decide +kernel
theorem dF_set_1 : decode prog_1_method_2_code 1 = .ok (.invokestatic 13, 3) := by decide +kernel
theorem dF_set_4 : decode prog_1_method_2_code 4 = .ok (.ifCond .eq 15, 3) := by decide +kernel
theorem dF_set_7 : decode prog_1_method_2_code 7 = .ok (.iload_n 2, 1) := by decide +kernel
theorem dF_set_8 : decode prog_1_method_2_code 8 = .ok (.ldc 17, 2) := by decide +kernel
theorem dF_set_10 : decode prog_1_method_2_code 10 = .ok (.if_icmp .gt 9, 3) := by decide +kernel
theorem dF_set_13 : decode prog_1_method_2_code 13 = .ok (.iload_n 2, 1) := by decide +kernel
theorem dF_set_14 : decode prog_1_method_2_code 14 = .ok (.ldc 18, 2) := by decide +kernel
theorem dF_set_16 : decode prog_1_method_2_code 16 = .ok (.if_icmp .ge 5, 3) := by decide +kernel
theorem dF_set_19 : decode prog_1_method_2_code 19 = .ok (.iconst 0, 1) := by decide +kernel
theorem dF_set_20 : decode prog_1_method_2_code 20 = .ok (.ireturn, 1) := by decide +kernel
theorem dF_set_21 : decode prog_1_method_2_code 21 = .ok (.iload_n 2, 1) := by decide +kernel
theorem dF_set_22 : decode prog_1_method_2_code 22 = .ok (.ifCond .lt 11, 3) := by decide +kernel
theorem dF_set_25 : decode prog_1_method_2_code 25 = .ok (.iload_n 2, 1) := by decide +kernel
theorem dF_set_26 : decode prog_1_method_2_code 26 = .ok (.ifCond .ne 11, 3) := by decide +kernel
theorem dF_set_29 : decode prog_1_method_2_code 29 = .ok (.iload_n 3, 1) := by decide +kernel
theorem dF_set_30 : decode prog_1_method_2_code 30 = .ok (.ifCond .eq 7, 3) := by decide +kernel
theorem dF_set_33 : decode prog_1_method_2_code 33 = .ok (.iconst 1, 1) := by decide +kernel
theorem dF_set_34 : decode prog_1_method_2_code 34 = .ok (.goto 4, 3) := by decide +kernel
theorem dF_set_37 : decode prog_1_method_2_code 37 = .ok (.iconst 0, 1) := by decide +kernel
theorem dF_set_38 : decode prog_1_method_2_code 38 = .ok (.istore 4, 2) := by decide +kernel
theorem dF_set_40 : decode prog_1_method_2_code 40 = .ok (.aload_n 0, 1) := by decide +kernel
theorem dF_set_41 : decode prog_1_method_2_code 41 = .ok (.getfield 9, 3) := by decide +kernel
theorem dF_set_44 : decode prog_1_method_2_code 44 = .ok (.iload_n 1, 1) := by decide +kernel
theorem dF_set_45 : decode prog_1_method_2_code 45 = .ok (.iload_n 2, 1) := by decide +kernel
theorem dF_set_46 : decode prog_1_method_2_code 46 = .ok (.ifCond .ge 8, 3) := by decide +kernel
theorem dF_set_49 : decode prog_1_method_2_code 49 = .ok (.iload_n 2, 1) := by decide +kernel
theorem dF_set_50 : decode prog_1_method_2_code 50 = .ok (.ineg, 1) := by decide +kernel
theorem dF_set_51 : decode prog_1_method_2_code 51 = .ok (.goto 4, 3) := by decide +kernel
theorem dF_set_54 : decode prog_1_method_2_code 54 = .ok (.iload_n 2, 1) := by decide +kernel
theorem dF_set_55 : decode prog_1_method_2_code 55 = .ok (.iload 4, 2) := by decide +kernel
theorem dF_set_57 : decode prog_1_method_2_code 57 = .ok (.ifCond .eq 8, 3) := by decide +kernel
theorem dF_set_60 : decode prog_1_method_2_code 60 = .ok (.ldc 19, 2) := by decide +kernel
theorem dF_set_62 : decode prog_1_method_2_code 62 = .ok (.goto 4, 3) := by decide +kernel
theorem dF_set_65 : decode prog_1_method_2_code 65 = .ok (.iconst 0, 1) := by decide +kernel
theorem dF_set_66 : decode prog_1_method_2_code 66 = .ok (.ior, 1) := by decide +kernel
theorem dF_set_67 : decode prog_1_method_2_code 67 = .ok (.iastore, 1) := by decide +kernel
theorem dF_set_68 : decode prog_1_method_2_code 68 = .ok (.iconst 1, 1) := by decide +kernel
theorem dF_set_69 : decode prog_1_method_2_code 69 = .ok (.ireturn, 1) := by decide +kernel
theorem dF_load_0 : decode prog_1_method_5_code 0 = .ok (.iload_n 1, 1) := by decide +kernel
theorem dF_load_1 : decode prog_1_method_5_code 1 = .ok (.invokestatic 13, 3) := by decide +kernel
theorem dF_load_4 : decode prog_1_method_5_code 4 = .ok (.ifCond .eq 18, 3) := by decide +kernel
theorem dF_load_7 : decode prog_1_method_5_code 7 = .ok (.iload_n 2, 1) := by decide +kernel
theorem dF_load_8 : decode prog_1_method_5_code 8 = .ok (.invokestatic 13, 3) := by decide +kernel
theorem dF_load_11 : decode prog_1_method_5_code 11 = .ok (.ifCond .eq 11, 3) := by decide +kernel
theorem dF_load_14 : decode prog_1_method_5_code 14 = .ok (.aload_n 0, 1) := by decide +kernel
theorem dF_load_15 : decode prog_1_method_5_code 15 = .ok (.iload_n 3, 1) := by decide +kernel
theorem dF_load_16 : decode prog_1_method_5_code 16 = .ok (.invokevirtual 32, 3) := by decide +kernel
theorem dF_load_19 : decode prog_1_method_5_code 19 = .ok (.ifCond .ne 5, 3) := by decide +kernel
theorem dF_load_22 : decode prog_1_method_5_code 22 = .ok (.iconst 0, 1) := by decide +kernel
theorem dF_load_23 : decode prog_1_method_5_code 23 = .ok (.ireturn, 1) := by decide +kernel
theorem dF_load_24 : decode prog_1_method_5_code 24 = .ok (.aload_n 0, 1) := by decide +kernel
theorem dF_load_25 : decode prog_1_method_5_code 25 = .ok (.getfield 9, 3) := by decide +kernel
theorem dF_load_28 : decode prog_1_method_5_code 28 = .ok (.iload_n 1, 1) := by decide +kernel
theorem dF_load_29 : decode prog_1_method_5_code 29 = .ok (.aload_n 0, 1) := by decide +kernel
theorem dF_load_30 : decode prog_1_method_5_code 30 = .ok (.getfield 9, 3) := by decide +kernel
theorem dF_load_33 : decode prog_1_method_5_code 33 = .ok (.iload_n 2, 1) := by decide +kernel
theorem dF_load_34 : decode prog_1_method_5_code 34 = .ok (.iaload, 1) := by decide +kernel
theorem dF_load_35 : decode prog_1_method_5_code 35 = .ok (.iload_n 3, 1) := by decide +kernel
theorem dF_load_36 : decode prog_1_method_5_code 36 = .ok (.invokestatic 35, 3) := by decide +kernel
theorem dF_load_39 : decode prog_1_method_5_code 39 = .ok (.iastore, 1) := by decide +kernel
theorem dF_load_40 : decode prog_1_method_5_code 40 = .ok (.iconst 1, 1) := by decide +kernel
theorem dF_load_41 : decode prog_1_method_5_code 41 = .ok (.ireturn, 1) := by decide +kernel
theorem dF_store_0 : decode prog_1_method_6_code 0 = .ok (.iload_n 1, 1) := by decide +kernel
theorem dF_store_1 : decode prog_1_method_6_code 1 = .ok (.invokestatic 13, 3) := by decide +kernel
theorem dF_store_4 : decode prog_1_method_6_code 4 = .ok (.ifCond .eq 18, 3) := by decide +kernel
theorem dF_store_7 : decode prog_1_method_6_code 7 = .ok (.iload_n 2, 1) := by decide +kernel
theorem dF_store_8 : decode prog_1_method_6_code 8 = .ok (.invokestatic 13, 3) := by decide +kernel
theorem dF_store_11 : decode prog_1_method_6_code 11 = .ok (.ifCond .eq 11, 3) := by decide +kernel
theorem dF_store_14 : decode prog_1_method_6_code 14 = .ok (.aload_n 0, 1) := by decide +kernel
theorem dF_store_15 : decode prog_1_method_6_code 15 = .ok (.iload_n 3, 1) := by decide +kernel
theorem dF_store_16 : decode prog_1_method_6_code 16 = .ok (.invokevirtual 32, 3) := by decide +kernel
theorem dF_store_19 : decode prog_1_method_6_code 19 = .ok (.ifCond .ne 5, 3) := by decide +kernel
theorem dF_store_22 : decode prog_1_method_6_code 22 = .ok (.iconst 0, 1) := by decide +kernel
theorem dF_store_23 : decode prog_1_method_6_code 23 = .ok (.ireturn, 1) := by decide +kernel
theorem dF_store_24 : decode prog_1_method_6_code 24 = .ok (.aload_n 0, 1) := by decide +kernel
theorem dF_store_25 : decode prog_1_method_6_code 25 = .ok (.getfield 9, 3) := by decide +kernel
theorem dF_store_28 : decode prog_1_method_6_code 28 = .ok (.iload_n 2, 1) := by decide +kernel
theorem dF_store_29 : decode prog_1_method_6_code 29 = .ok (.iaload, 1) := by decide +kernel
theorem dF_store_30 : decode prog_1_method_6_code 30 = .ok (.istore 4, 2) := by decide +kernel
theorem dF_store_32 : decode prog_1_method_6_code 32 = .ok (.iload 4, 2) := by decide +kernel
theorem dF_store_34 : decode prog_1_method_6_code 34 = .ok (.iload_n 3, 1) := by decide +kernel
theorem dF_store_35 : decode prog_1_method_6_code 35 = .ok (.invokestatic 39, 3) := by decide +kernel
theorem dF_store_38 : decode prog_1_method_6_code 38 = .ok (.iand, 1) := by decide +kernel
theorem dF_store_39 : decode prog_1_method_6_code 39 = .ok (.iload_n 3, 1) := by decide +kernel
theorem dF_store_40 : decode prog_1_method_6_code 40 = .ok (.invokestatic 42, 3) := by decide +kernel
theorem dF_store_43 : decode prog_1_method_6_code 43 = .ok (.invokestatic 29, 3) := by decide +kernel
theorem dF_store_46 : decode prog_1_method_6_code 46 = .ok (.ishl, 1) := by decide +kernel
theorem dF_store_47 : decode prog_1_method_6_code 47 = .ok (.istore 5, 2) := by decide +kernel
theorem dF_store_49 : decode prog_1_method_6_code 49 = .ok (.iload_n 3, 1) := by decide +kernel
theorem dF_store_50 : decode prog_1_method_6_code 50 = .ok (.invokestatic 39, 3) := by decide +kernel
theorem dF_store_53 : decode prog_1_method_6_code 53 = .ok (.iload_n 3, 1) := by decide +kernel
theorem dF_store_54 : decode prog_1_method_6_code 54 = .ok (.invokestatic 42, 3) := by decide +kernel
theorem dF_store_57 : decode prog_1_method_6_code 57 = .ok (.invokestatic 29, 3) := by decide +kernel
theorem dF_store_60 : decode prog_1_method_6_code 60 = .ok (.ishl, 1) := by decide +kernel
theorem dF_store_61 : decode prog_1_method_6_code 61 = .ok (.iload_n 3, 1) := by decide +kernel
theorem dF_store_62 : decode prog_1_method_6_code 62 = .ok (.invokestatic 45, 3) := by decide +kernel
theorem dF_store_65 : decode prog_1_method_6_code 65 = .ok (.ior, 1) := by decide +kernel
theorem dF_store_66 : decode prog_1_method_6_code 66 = .ok (.istore 6, 2) := by decide +kernel
theorem dF_store_68 : decode prog_1_method_6_code 68 = .ok (.aload_n 0, 1) := by decide +kernel
theorem dF_store_69 : decode prog_1_method_6_code 69 = .ok (.getfield 9, 3) := by decide +kernel
theorem dF_store_72 : decode prog_1_method_6_code 72 = .ok (.iload_n 1, 1) := by decide +kernel
theorem dF_store_73 : decode prog_1_method_6_code 73 = .ok (.aload_n 0, 1) := by decide +kernel
theorem dF_store_74 : decode prog_1_method_6_code 74 = .ok (.getfield 9, 3) := by decide +kernel
theorem dF_store_77 : decode prog_1_method_6_code 77 = .ok (.iload_n 1, 1) := by decide +kernel
theorem dF_store_78 : decode prog_1_method_6_code 78 = .ok (.iaload, 1) := by decide +kernel
theorem dF_store_79 : decode prog_1_method_6_code 79 = .ok (.iload 6, 2) := by decide +kernel
theorem dF_store_81 : decode prog_1_method_6_code 81 = .ok (.iconst (-1), 1) := by decide +kernel
theorem dF_store_82 : decode prog_1_method_6_code 82 = .ok (.ixor, 1) := by decide +kernel
theorem dF_store_83 : decode prog_1_method_6_code 83 = .ok (.iand, 1) := by decide +kernel
theorem dF_store_84 : decode prog_1_method_6_code 84 = .ok (.iload 5, 2) := by decide +kernel
theorem dF_store_86 : decode prog_1_method_6_code 86 = .ok (.ior, 1) := by decide +kernel
theorem dF_store_87 : decode prog_1_method_6_code 87 = .ok (.iload 4, 2) := by decide +kernel
theorem dF_store_89 : decode prog_1_method_6_code 89 = .ok (.iload_n 3, 1) := by decide +kernel
theorem dF_store_90 : decode prog_1_method_6_code 90 = .ok (.invokestatic 45, 3) := by decide +kernel
theorem dF_store_93 : decode prog_1_method_6_code 93 = .ok (.iand, 1) := by decide +kernel
theorem dF_store_94 : decode prog_1_method_6_code 94 = .ok (.ior, 1) := by decide +kernel
theorem dF_store_95 : decode prog_1_method_6_code 95 = .ok (.iastore, 1) := by decide +kernel
theorem dF_store_96 : decode prog_1_method_6_code 96 = .ok (.iconst 1, 1) := by decide +kernel
theorem dF_store_97 : decode prog_1_method_6_code 97 = .ok (.ireturn, 1) := by decide +kernel
theorem dF_turn_0 : decode prog_1_method_7_code 0 = .ok (.iload_n 1, 1) := by decide +kernel
theorem dF_turn_1 : decode prog_1_method_7_code 1 = .ok (.invokestatic 13, 3) := by decide +kernel
theorem dF_turn_4 : decode prog_1_method_7_code 4 = .ok (.ifCond .ne 5, 3) := by decide +kernel
theorem dF_turn_7 : decode prog_1_method_7_code 7 = .ok (.iconst 0, 1) := by decide +kernel
theorem dF_turn_8 : decode prog_1_method_7_code 8 = .ok (.ireturn, 1) := by decide +kernel
theorem dF_turn_9 : decode prog_1_method_7_code 9 = .ok (.aload_n 0, 1) := by decide +kernel
theorem dF_turn_10 : decode prog_1_method_7_code 10 = .ok (.getfield 9, 3) := by decide +kernel
theorem dF_turn_13 : decode prog_1_method_7_code 13 = .ok (.iload_n 1, 1) := by decide +kernel
theorem dF_turn_14 : decode prog_1_method_7_code 14 = .ok (.dup2, 1) := by decide +kernel
theorem dF_turn_15 : decode prog_1_method_7_code 15 = .ok (.iaload, 1) := by decide +kernel
theorem dF_turn_16 : decode prog_1_method_7_code 16 = .ok (.ldc 19, 2) := by decide +kernel
theorem dF_turn_18 : decode prog_1_method_7_code 18 = .ok (.ixor, 1) := by decide +kernel
theorem dF_turn_19 : decode prog_1_method_7_code 19 = .ok (.iastore, 1) := by decide +kernel
theorem dF_turn_20 : decode prog_1_method_7_code 20 = .ok (.iconst 1, 1) := by decide +kernel
theorem dF_turn_21 : decode prog_1_method_7_code 21 = .ok (.ireturn, 1) := by decide +kernel
theorem dS_coder_0 : decode prog_6_method_152_code 0 = .ok (.getstatic 38, 3) := by decide +kernel
theorem dS_coder_3 : decode prog_6_method_152_code 3 = .ok (.ifCond .eq 10, 3) := by decide +kernel
theorem dS_coder_6 : decode prog_6_method_152_code 6 = .ok (.aload_n 0, 1) := by decide +kernel
theorem dS_coder_7 : decode prog_6_method_152_code 7 = .ok (.getfield 15, 3) := by decide +kernel
theorem dS_coder_10 : decode prog_6_method_152_code 10 = .ok (.goto 4, 3) := by decide +kernel
theorem dS_coder_13 : decode prog_6_method_152_code 13 = .ok (.iconst 1, 1) := by decide +kernel
theorem dS_coder_14 : decode prog_6_method_152_code 14 = .ok (.ireturn, 1) := by decide +kernel
theorem dS_isLatin1_0 : decode prog_6_method_154_code 0 = .ok (.getstatic 38, 3) := by decide +kernel
theorem dS_isLatin1_3 : decode prog_6_method_154_code 3 = .ok (.ifCond .eq 14, 3) := by decide +kernel
theorem dS_isLatin1_6 : decode prog_6_method_154_code 6 = .ok (.aload_n 0, 1) := by decide +kernel
theorem dS_isLatin1_7 : decode prog_6_method_154_code 7 = .ok (.getfield 15, 3) := by decide +kernel
theorem dS_isLatin1_10 : decode prog_6_method_154_code 10 = .ok (.ifCond .ne 7, 3) := by decide +kernel
theorem dS_isLatin1_13 : decode prog_6_method_154_code 13 = .ok (.iconst 1, 1) := by decide +kernel
theorem dS_isLatin1_14 : decode prog_6_method_154_code 14 = .ok (.goto 4, 3) := by decide +kernel
theorem dS_isLatin1_17 : decode prog_6_method_154_code 17 = .ok (.iconst 0, 1) := by decide +kernel
theorem dS_isLatin1_18 : decode prog_6_method_154_code 18 = .ok (.ireturn, 1) := by decide +kernel
theorem dS_length_0 : decode prog_6_method_54_code 0 = .ok (.aload_n 0, 1) := by decide +kernel
theorem dS_length_1 : decode prog_6_method_54_code 1 = .ok (.getfield 9, 3) := by decide +kernel
theorem dS_length_4 : decode prog_6_method_54_code 4 = .ok (.arraylength, 1) := by decide +kernel
theorem dS_length_5 : decode prog_6_method_54_code 5 = .ok (.aload_n 0, 1) := by decide +kernel
theorem dS_length_6 : decode prog_6_method_54_code 6 = .ok (.invokevirtual 335, 3) := by decide +kernel
theorem dS_length_9 : decode prog_6_method_54_code 9 = .ok (.ishr, 1) := by decide +kernel
theorem dS_length_10 : decode prog_6_method_54_code 10 = .ok (.ireturn, 1) := by decide +kernel
theorem dQ_checkIndex_0 : decode prog_9_method_11_code 0 = .ok (.iload_n 0, 1) := by decide +kernel
theorem dQ_checkIndex_1 : decode prog_9_method_11_code 1 = .ok (.ifCond .lt 8, 3) := by decide +kernel
theorem dQ_checkIndex_4 : decode prog_9_method_11_code 4 = .ok (.iload_n 0, 1) := by decide +kernel
theorem dQ_checkIndex_5 : decode prog_9_method_11_code 5 = .ok (.iload_n 1, 1) := by decide +kernel
theorem dQ_checkIndex_6 : decode prog_9_method_11_code 6 = .ok (.if_icmp .lt 10, 3) := by decide +kernel
theorem dQ_checkIndex_9 : decode prog_9_method_11_code 9 = .ok (.aload_n 2, 1) := by decide +kernel
theorem dQ_checkIndex_10 : decode prog_9_method_11_code 10 = .ok (.iload_n 0, 1) := by decide +kernel
theorem dQ_checkIndex_11 : decode prog_9_method_11_code 11 = .ok (.iload_n 1, 1) := by decide +kernel
theorem dQ_checkIndex_12 : decode prog_9_method_11_code 12 = .ok (.invokestatic 95, 3) := by decide +kernel
theorem dQ_checkIndex_15 : decode prog_9_method_11_code 15 = .ok (.athrow, 1) := by decide +kernel
theorem dQ_checkIndex_16 : decode prog_9_method_11_code 16 = .ok (.iload_n 0, 1) := by decide +kernel
theorem dQ_checkIndex_17 : decode prog_9_method_11_code 17 = .ok (.ireturn, 1) := by decide +kernel
theorem dS_checkIndex_0 : decode prog_6_method_155_code 0 = .ok (.iload_n 0, 1) := by decide +kernel
theorem dS_checkIndex_1 : decode prog_6_method_155_code 1 = .ok (.iload_n 1, 1) := by decide +kernel
theorem dS_checkIndex_2 : decode prog_6_method_155_code 2 = .ok (.getstatic 1053, 3) := by decide +kernel
theorem dS_checkIndex_5 : decode prog_6_method_155_code 5 = .ok (.invokestatic 1059, 3) := by decide +kernel
theorem dS_checkIndex_8 : decode prog_6_method_155_code 8 = .ok (.pop, 1) := by decide +kernel
theorem dS_checkIndex_9 : decode prog_6_method_155_code 9 = .ok (.return_, 1) := by decide +kernel
theorem dZ_charAt_0 : decode prog_7_method_2_code 0 = .ok (.iload_n 1, 1) := by decide +kernel
theorem dZ_charAt_1 : decode prog_7_method_2_code 1 = .ok (.aload_n 0, 1) := by decide +kernel
theorem dZ_charAt_2 : decode prog_7_method_2_code 2 = .ok (.arraylength, 1) := by decide +kernel
theorem dZ_charAt_3 : decode prog_7_method_2_code 3 = .ok (.invokestatic 9, 3) := by decide +kernel
theorem dZ_charAt_6 : decode prog_7_method_2_code 6 = .ok (.aload_n 0, 1) := by decide +kernel
theorem dZ_charAt_7 : decode prog_7_method_2_code 7 = .ok (.iload_n 1, 1) := by decide +kernel
theorem dZ_charAt_8 : decode prog_7_method_2_code 8 = .ok (.baload, 1) := by decide +kernel
theorem dZ_charAt_9 : decode prog_7_method_2_code 9 = .ok (.sipush 255, 3) := by decide +kernel
theorem dZ_charAt_12 : decode prog_7_method_2_code 12 = .ok (.iand, 1) := by decide +kernel
theorem dZ_charAt_13 : decode prog_7_method_2_code 13 = .ok (.i2c, 1) := by decide +kernel
theorem dZ_charAt_14 : decode prog_7_method_2_code 14 = .ok (.ireturn, 1) := by decide +kernel
theorem dS_charAt_0 : decode prog_6_method_56_code 0 = .ok (.aload_n 0, 1) := by decide +kernel
theorem dS_charAt_1 : decode prog_6_method_56_code 1 = .ok (.invokevirtual 492, 3) := by decide +kernel
theorem dS_charAt_4 : decode prog_6_method_56_code 4 = .ok (.ifCond .eq 12, 3) := by decide +kernel
theorem dS_charAt_7 : decode prog_6_method_56_code 7 = .ok (.aload_n 0, 1) := by decide +kernel
theorem dS_charAt_8 : decode prog_6_method_56_code 8 = .ok (.getfield 9, 3) := by decide +kernel
theorem dS_charAt_11 : decode prog_6_method_56_code 11 = .ok (.iload_n 1, 1) := by decide +kernel
theorem dS_charAt_12 : decode prog_6_method_56_code 12 = .ok (.invokestatic 495, 3) := by decide +kernel
theorem dS_charAt_15 : decode prog_6_method_56_code 15 = .ok (.ireturn, 1) := by decide +kernel
theorem dS_charAt_16 : decode prog_6_method_56_code 16 = .ok (.aload_n 0, 1) := by decide +kernel
theorem dS_charAt_17 : decode prog_6_method_56_code 17 = .ok (.getfield 9, 3) := by decide +kernel
theorem dS_charAt_20 : decode prog_6_method_56_code 20 = .ok (.iload_n 1, 1) := by decide +kernel
theorem dS_charAt_21 : decode prog_6_method_56_code 21 = .ok (.invokestatic 498, 3) := by decide +kernel
theorem dS_charAt_24 : decode prog_6_method_56_code 24 = .ok (.ireturn, 1) := by decide +kernel
theorem dZ_canEncode_0 : decode prog_7_method_4_code 0 = .ok (.iload_n 0, 1) := by decide +kernel
theorem dZ_canEncode_1 : decode prog_7_method_4_code 1 = .ok (.ifCond .lt 14, 3) := by decide +kernel
theorem dZ_canEncode_4 : decode prog_7_method_4_code 4 = .ok (.iload_n 0, 1) := by decide +kernel
theorem dZ_canEncode_5 : decode prog_7_method_4_code 5 = .ok (.sipush 255, 3) := by decide +kernel
theorem dZ_canEncode_8 : decode prog_7_method_4_code 8 = .ok (.if_icmp .gt 7, 3) := by decide +kernel
theorem dZ_canEncode_11 : decode prog_7_method_4_code 11 = .ok (.iconst 1, 1) := by decide +kernel
theorem dZ_canEncode_12 : decode prog_7_method_4_code 12 = .ok (.goto 4, 3) := by decide +kernel
theorem dZ_canEncode_15 : decode prog_7_method_4_code 15 = .ok (.iconst 0, 1) := by decide +kernel
theorem dZ_canEncode_16 : decode prog_7_method_4_code 16 = .ok (.ireturn, 1) := by decide +kernel
theorem dZ_indexOfChar_0 : decode prog_7_method_23_code 0 = .ok (.iload_n 1, 1) := by decide +kernel
theorem dZ_indexOfChar_1 : decode prog_7_method_23_code 1 = .ok (.i2b, 1) := by decide +kernel
theorem dZ_indexOfChar_2 : decode prog_7_method_23_code 2 = .ok (.istore 4, 2) := by decide +kernel
theorem dZ_indexOfChar_4 : decode prog_7_method_23_code 4 = .ok (.iload_n 2, 1) := by decide +kernel
theorem dZ_indexOfChar_5 : decode prog_7_method_23_code 5 = .ok (.istore 5, 2) := by decide +kernel
theorem dZ_indexOfChar_7 : decode prog_7_method_23_code 7 = .ok (.iload 5, 2) := by decide +kernel
theorem dZ_indexOfChar_9 : decode prog_7_method_23_code 9 = .ok (.iload_n 3, 1) := by decide +kernel
theorem dZ_indexOfChar_10 : decode prog_7_method_23_code 10 = .ok (.if_icmp .ge 21, 3) := by decide +kernel
theorem dZ_indexOfChar_13 : decode prog_7_method_23_code 13 = .ok (.aload_n 0, 1) := by decide +kernel
theorem dZ_indexOfChar_14 : decode prog_7_method_23_code 14 = .ok (.iload 5, 2) := by decide +kernel
theorem dZ_indexOfChar_16 : decode prog_7_method_23_code 16 = .ok (.baload, 1) := by decide +kernel
theorem dZ_indexOfChar_17 : decode prog_7_method_23_code 17 = .ok (.iload 4, 2) := by decide +kernel
theorem dZ_indexOfChar_19 : decode prog_7_method_23_code 19 = .ok (.if_icmp .ne 6, 3) := by decide +kernel
theorem dZ_indexOfChar_22 : decode prog_7_method_23_code 22 = .ok (.iload 5, 2) := by decide +kernel
theorem dZ_indexOfChar_24 : decode prog_7_method_23_code 24 = .ok (.ireturn, 1) := by decide +kernel
theorem dZ_indexOfChar_25 : decode prog_7_method_23_code 25 = .ok (.iinc 5 1, 3) := by decide +kernel
theorem dZ_indexOfChar_28 : decode prog_7_method_23_code 28 = .ok (.goto (-21), 3) := by decide +kernel
theorem dZ_indexOfChar_31 : decode prog_7_method_23_code 31 = .ok (.iconst (-1), 1) := by decide +kernel
theorem dZ_indexOfChar_32 : decode prog_7_method_23_code 32 = .ok (.ireturn, 1) := by decide +kernel
theorem dZ_indexOf_0 : decode prog_7_method_22_code 0 = .ok (.iload_n 1, 1) := by decide +kernel
theorem dZ_indexOf_1 : decode prog_7_method_22_code 1 = .ok (.invokestatic 88, 3) := by decide +kernel
theorem dZ_indexOf_4 : decode prog_7_method_22_code 4 = .ok (.ifCond .ne 5, 3) := by decide +kernel
theorem dZ_indexOf_7 : decode prog_7_method_22_code 7 = .ok (.iconst (-1), 1) := by decide +kernel
theorem dZ_indexOf_8 : decode prog_7_method_22_code 8 = .ok (.ireturn, 1) := by decide +kernel
theorem dZ_indexOf_9 : decode prog_7_method_22_code 9 = .ok (.iload_n 2, 1) := by decide +kernel
theorem dZ_indexOf_10 : decode prog_7_method_22_code 10 = .ok (.iconst 0, 1) := by decide +kernel
theorem dZ_indexOf_11 : decode prog_7_method_22_code 11 = .ok (.invokestatic 92, 3) := by decide +kernel
theorem dZ_indexOf_14 : decode prog_7_method_22_code 14 = .ok (.istore_n 2, 1) := by decide +kernel
theorem dZ_indexOf_15 : decode prog_7_method_22_code 15 = .ok (.iload_n 3, 1) := by decide +kernel
theorem dZ_indexOf_16 : decode prog_7_method_22_code 16 = .ok (.aload_n 0, 1) := by decide +kernel
theorem dZ_indexOf_17 : decode prog_7_method_22_code 17 = .ok (.arraylength, 1) := by decide +kernel
theorem dZ_indexOf_18 : decode prog_7_method_22_code 18 = .ok (.invokestatic 38, 3) := by decide +kernel
theorem dZ_indexOf_21 : decode prog_7_method_22_code 21 = .ok (.istore_n 3, 1) := by decide +kernel
theorem dZ_indexOf_22 : decode prog_7_method_22_code 22 = .ok (.iload_n 2, 1) := by decide +kernel
theorem dZ_indexOf_23 : decode prog_7_method_22_code 23 = .ok (.iload_n 3, 1) := by decide +kernel
theorem dZ_indexOf_24 : decode prog_7_method_22_code 24 = .ok (.if_icmp .lt 5, 3) := by decide +kernel
theorem dZ_indexOf_27 : decode prog_7_method_22_code 27 = .ok (.iconst (-1), 1) := by decide +kernel
theorem dZ_indexOf_28 : decode prog_7_method_22_code 28 = .ok (.ireturn, 1) := by decide +kernel
theorem dZ_indexOf_29 : decode prog_7_method_22_code 29 = .ok (.aload_n 0, 1) := by decide +kernel
theorem dZ_indexOf_30 : decode prog_7_method_22_code 30 = .ok (.iload_n 1, 1) := by decide +kernel
theorem dZ_indexOf_31 : decode prog_7_method_22_code 31 = .ok (.iload_n 2, 1) := by decide +kernel
theorem dZ_indexOf_32 : decode prog_7_method_22_code 32 = .ok (.iload_n 3, 1) := by decide +kernel
theorem dZ_indexOf_33 : decode prog_7_method_22_code 33 = .ok (.invokestatic 95, 3) := by decide +kernel
theorem dZ_indexOf_36 : decode prog_7_method_22_code 36 = .ok (.ireturn, 1) := by decide +kernel
theorem dS_indexOf2_0 : decode prog_6_method_80_code 0 = .ok (.aload_n 0, 1) := by decide +kernel
theorem dS_indexOf2_1 : decode prog_6_method_80_code 1 = .ok (.invokevirtual 492, 3) := by decide +kernel
theorem dS_indexOf2_4 : decode prog_6_method_80_code 4 = .ok (.ifCond .eq 19, 3) := by decide +kernel
theorem dS_indexOf2_7 : decode prog_6_method_80_code 7 = .ok (.aload_n 0, 1) := by decide +kernel
theorem dS_indexOf2_8 : decode prog_6_method_80_code 8 = .ok (.getfield 9, 3) := by decide +kernel
theorem dS_indexOf2_11 : decode prog_6_method_80_code 11 = .ok (.iload_n 1, 1) := by decide +kernel
theorem dS_indexOf2_12 : decode prog_6_method_80_code 12 = .ok (.iload_n 2, 1) := by decide +kernel
theorem dS_indexOf2_13 : decode prog_6_method_80_code 13 = .ok (.aload_n 0, 1) := by decide +kernel
theorem dS_indexOf2_14 : decode prog_6_method_80_code 14 = .ok (.invokevirtual 505, 3) := by decide +kernel
theorem dS_indexOf2_17 : decode prog_6_method_80_code 17 = .ok (.invokestatic 637, 3) := by decide +kernel
theorem dS_indexOf2_20 : decode prog_6_method_80_code 20 = .ok (.goto 16, 3) := by decide +kernel
theorem dS_indexOf2_23 : decode prog_6_method_80_code 23 = .ok (.aload_n 0, 1) := by decide +kernel
theorem dS_indexOf2_24 : decode prog_6_method_80_code 24 = .ok (.getfield 9, 3) := by decide +kernel
theorem dS_indexOf2_27 : decode prog_6_method_80_code 27 = .ok (.iload_n 1, 1) := by decide +kernel
theorem dS_indexOf2_28 : decode prog_6_method_80_code 28 = .ok (.iload_n 2, 1) := by decide +kernel
theorem dS_indexOf2_29 : decode prog_6_method_80_code 29 = .ok (.aload_n 0, 1) := by decide +kernel
theorem dS_indexOf2_30 : decode prog_6_method_80_code 30 = .ok (.invokevirtual 505, 3) := by decide +kernel
theorem dS_indexOf2_33 : decode prog_6_method_80_code 33 = .ok (.invokestatic 640, 3) := by decide +kernel
theorem dS_indexOf2_36 : decode prog_6_method_80_code 36 = .ok (.ireturn, 1) := by decide +kernel
theorem dS_indexOf_0 : decode prog_6_method_79_code 0 = .ok (.aload_n 0, 1) := by decide +kernel
theorem dS_indexOf_1 : decode prog_6_method_79_code 1 = .ok (.iload_n 1, 1) := by decide +kernel
theorem dS_indexOf_2 : decode prog_6_method_79_code 2 = .ok (.iconst 0, 1) := by decide +kernel
theorem dS_indexOf_3 : decode prog_6_method_79_code 3 = .ok (.invokevirtual 633, 3) := by decide +kernel
theorem dS_indexOf_6 : decode prog_6_method_79_code 6 = .ok (.ireturn, 1) := by decide +kernel
theorem dF_letter_0 : decode prog_1_method_10_code 0 = .ok (.iload_n 1, 1) := by decide +kernel
theorem dF_letter_1 : decode prog_1_method_10_code 1 = .ok (.ifCond .lt 9, 3) := by decide +kernel
theorem dF_letter_4 : decode prog_1_method_10_code 4 = .ok (.iload_n 1, 1) := by decide +kernel
theorem dF_letter_5 : decode prog_1_method_10_code 5 = .ok (.bipush 63, 2) := by decide +kernel
theorem dF_letter_7 : decode prog_1_method_10_code 7 = .ok (.if_icmp .le 5, 3) := by decide +kernel
theorem dF_letter_10 : decode prog_1_method_10_code 10 = .ok (.iconst (-1), 1) := by decide +kernel
theorem dF_letter_11 : decode prog_1_method_10_code 11 = .ok (.ireturn, 1) := by decide +kernel
theorem dF_letter_12 : decode prog_1_method_10_code 12 = .ok (.iload_n 1, 1) := by decide +kernel
theorem dF_letter_13 : decode prog_1_method_10_code 13 = .ok (.ldc 51, 2) := by decide +kernel
theorem dF_letter_15 : decode prog_1_method_10_code 15 = .ok (.invokevirtual 53, 3) := by decide +kernel
theorem dF_letter_18 : decode prog_1_method_10_code 18 = .ok (.if_icmp .ge 12, 3) := by decide +kernel
theorem dF_letter_21 : decode prog_1_method_10_code 21 = .ok (.ldc 51, 2) := by decide +kernel
theorem dF_letter_23 : decode prog_1_method_10_code 23 = .ok (.iload_n 1, 1) := by decide +kernel
theorem dF_letter_24 : decode prog_1_method_10_code 24 = .ok (.invokevirtual 59, 3) := by decide +kernel
theorem dF_letter_27 : decode prog_1_method_10_code 27 = .ok (.goto 5, 3) := by decide +kernel
theorem dF_letter_30 : decode prog_1_method_10_code 30 = .ok (.bipush 63, 2) := by decide +kernel
theorem dF_letter_32 : decode prog_1_method_10_code 32 = .ok (.ireturn, 1) := by decide +kernel
theorem dF_code_0 : decode prog_1_method_11_code 0 = .ok (.iload_n 1, 1) := by decide +kernel
theorem dF_code_1 : decode prog_1_method_11_code 1 = .ok (.ifCond .lt 10, 3) := by decide +kernel
theorem dF_code_4 : decode prog_1_method_11_code 4 = .ok (.iload_n 1, 1) := by decide +kernel
theorem dF_code_5 : decode prog_1_method_11_code 5 = .ok (.sipush 255, 3) := by decide +kernel
theorem dF_code_8 : decode prog_1_method_11_code 8 = .ok (.if_icmp .le 5, 3) := by decide +kernel
theorem dF_code_11 : decode prog_1_method_11_code 11 = .ok (.iconst (-1), 1) := by decide +kernel
theorem dF_code_12 : decode prog_1_method_11_code 12 = .ok (.ireturn, 1) := by decide +kernel
theorem dF_code_13 : decode prog_1_method_11_code 13 = .ok (.ldc 51, 2) := by decide +kernel
theorem dF_code_15 : decode prog_1_method_11_code 15 = .ok (.iload_n 1, 1) := by decide +kernel
theorem dF_code_16 : decode prog_1_method_11_code 16 = .ok (.invokestatic 63, 3) := by decide +kernel
theorem dF_code_19 : decode prog_1_method_11_code 19 = .ok (.i2c, 1) := by decide +kernel
theorem dF_code_20 : decode prog_1_method_11_code 20 = .ok (.invokevirtual 66, 3) := by decide +kernel
theorem dF_code_23 : decode prog_1_method_11_code 23 = .ok (.istore_n 2, 1) := by decide +kernel
theorem dF_code_24 : decode prog_1_method_11_code 24 = .ok (.iload_n 2, 1) := by decide +kernel
theorem dF_code_25 : decode prog_1_method_11_code 25 = .ok (.ifCond .ge 7, 3) := by decide +kernel
theorem dF_code_28 : decode prog_1_method_11_code 28 = .ok (.iconst 0, 1) := by decide +kernel
theorem dF_code_29 : decode prog_1_method_11_code 29 = .ok (.goto 4, 3) := by decide +kernel
theorem dF_code_32 : decode prog_1_method_11_code 32 = .ok (.iload_n 2, 1) := by decide +kernel
theorem dF_code_33 : decode prog_1_method_11_code 33 = .ok (.ireturn, 1) := by decide +kernel
theorem dF_init_0 : decode prog_1_method_1_code 0 = .ok (.aload_n 0, 1) := by decide +kernel
theorem dF_init_1 : decode prog_1_method_1_code 1 = .ok (.invokespecial 3, 3) := by decide +kernel
theorem dF_init_4 : decode prog_1_method_1_code 4 = .ok (.aload_n 0, 1) := by decide +kernel
theorem dF_init_5 : decode prog_1_method_1_code 5 = .ok (.bipush 16, 2) := by decide +kernel
theorem dF_init_7 : decode prog_1_method_1_code 7 = .ok (.newarray .int, 2) := by decide +kernel
theorem dF_init_9 : decode prog_1_method_1_code 9 = .ok (.putfield 9, 3) := by decide +kernel
theorem dF_init_12 : decode prog_1_method_1_code 12 = .ok (.return_, 1) := by decide +kernel
end
section
theorem dM_isRegister_0 : decode prog_3_method_3_code 0 = .ok (.iload_n 0, 1) := by decide +kernel
theorem dM_isRegister_1 : decode prog_3_method_3_code 1 = .ok (.ifCond .lt 13, 3) := by decide +kernel
theorem dM_isRegister_4 : decode prog_3_method_3_code 4 = .ok (.iload_n 0, 1) := by decide +kernel
theorem dM_isRegister_5 : decode prog_3_method_3_code 5 = .ok (.bipush 16, 2) := by decide +kernel
theorem dM_isRegister_7 : decode prog_3_method_3_code 7 = .ok (.if_icmp .ge 7, 3) := by decide +kernel
theorem dM_isRegister_10 : decode prog_3_method_3_code 10 = .ok (.iconst 1, 1) := by decide +kernel
theorem dM_isRegister_11 : decode prog_3_method_3_code 11 = .ok (.goto 4, 3) := by decide +kernel
theorem dM_isRegister_14 : decode prog_3_method_3_code 14 = .ok (.iconst 0, 1) := by decide +kernel
theorem dM_isRegister_15 : decode prog_3_method_3_code 15 = .ok (.ireturn, 1) := by decide +kernel
theorem dM_is_0 : decode prog_3_method_4_code 0 = .ok (.iload_n 0, 1) := by decide +kernel
theorem dM_is_1 : decode prog_3_method_4_code 1 = .ok (.ifCond .lt 33, 3) := by decide +kernel
theorem dM_is_4 : decode prog_3_method_4_code 4 = .ok (.iload_n 0, 1) := by decide +kernel
theorem dM_is_5 : decode prog_3_method_4_code 5 = .ok (.bipush 48, 2) := by decide +kernel
theorem dM_is_7 : decode prog_3_method_4_code 7 = .ok (.if_icmp .ge 27, 3) := by decide +kernel
theorem dM_is_10 : decode prog_3_method_4_code 10 = .ok (.iload_n 0, 1) := by decide +kernel
theorem dM_is_11 : decode prog_3_method_4_code 11 = .ok (.bipush 8, 2) := by decide +kernel
theorem dM_is_13 : decode prog_3_method_4_code 13 = .ok (.irem, 1) := by decide +kernel
theorem dM_is_14 : decode prog_3_method_4_code 14 = .ok (.bipush 6, 2) := by decide +kernel
theorem dM_is_16 : decode prog_3_method_4_code 16 = .ok (.if_icmp .ge 18, 3) := by decide +kernel
theorem dM_is_19 : decode prog_3_method_4_code 19 = .ok (.iload_n 0, 1) := by decide +kernel
theorem dM_is_20 : decode prog_3_method_4_code 20 = .ok (.bipush 8, 2) := by decide +kernel
theorem dM_is_22 : decode prog_3_method_4_code 22 = .ok (.idiv, 1) := by decide +kernel
theorem dM_is_23 : decode prog_3_method_4_code 23 = .ok (.iload_n 0, 1) := by decide +kernel
theorem dM_is_24 : decode prog_3_method_4_code 24 = .ok (.bipush 8, 2) := by decide +kernel
theorem dM_is_26 : decode prog_3_method_4_code 26 = .ok (.irem, 1) := by decide +kernel
theorem dM_is_27 : decode prog_3_method_4_code 27 = .ok (.if_icmp .gt 7, 3) := by decide +kernel
theorem dM_is_30 : decode prog_3_method_4_code 30 = .ok (.iconst 1, 1) := by decide +kernel
theorem dM_is_31 : decode prog_3_method_4_code 31 = .ok (.goto 4, 3) := by decide +kernel
theorem dM_is_34 : decode prog_3_method_4_code 34 = .ok (.iconst 0, 1) := by decide +kernel
theorem dM_is_35 : decode prog_3_method_4_code 35 = .ok (.ireturn, 1) := by decide +kernel
theorem dM_first_0 : decode prog_3_method_5_code 0 = .ok (.iload_n 0, 1) := by decide +kernel
theorem dM_first_1 : decode prog_3_method_5_code 1 = .ok (.bipush 8, 2) := by decide +kernel
theorem dM_first_3 : decode prog_3_method_5_code 3 = .ok (.if_icmp .ge 7, 3) := by decide +kernel
theorem dM_first_6 : decode prog_3_method_5_code 6 = .ok (.iconst 1, 1) := by decide +kernel
theorem dM_first_7 : decode prog_3_method_5_code 7 = .ok (.goto 7, 3) := by decide +kernel
theorem dM_first_10 : decode prog_3_method_5_code 10 = .ok (.iload_n 0, 1) := by decide +kernel
theorem dM_first_11 : decode prog_3_method_5_code 11 = .ok (.bipush 8, 2) := by decide +kernel
theorem dM_first_13 : decode prog_3_method_5_code 13 = .ok (.idiv, 1) := by decide +kernel
theorem dM_first_14 : decode prog_3_method_5_code 14 = .ok (.ireturn, 1) := by decide +kernel
theorem dM_may_0 : decode prog_3_method_10_code 0 = .ok (.iload_n 1, 1) := by decide +kernel
theorem dM_may_1 : decode prog_3_method_10_code 1 = .ok (.invokestatic 24, 3) := by decide +kernel
theorem dM_may_4 : decode prog_3_method_10_code 4 = .ok (.ifCond .eq 21, 3) := by decide +kernel
theorem dM_may_7 : decode prog_3_method_10_code 7 = .ok (.iload_n 2, 1) := by decide +kernel
theorem dM_may_8 : decode prog_3_method_10_code 8 = .ok (.invokestatic 24, 3) := by decide +kernel
theorem dM_may_11 : decode prog_3_method_10_code 11 = .ok (.ifCond .eq 14, 3) := by decide +kernel
theorem dM_may_14 : decode prog_3_method_10_code 14 = .ok (.iload_n 3, 1) := by decide +kernel
theorem dM_may_15 : decode prog_3_method_10_code 15 = .ok (.invokestatic 35, 3) := by decide +kernel
theorem dM_may_18 : decode prog_3_method_10_code 18 = .ok (.ifCond .eq 7, 3) := by decide +kernel
theorem dM_may_21 : decode prog_3_method_10_code 21 = .ok (.iconst 1, 1) := by decide +kernel
theorem dM_may_22 : decode prog_3_method_10_code 22 = .ok (.goto 4, 3) := by decide +kernel
theorem dM_may_25 : decode prog_3_method_10_code 25 = .ok (.iconst 0, 1) := by decide +kernel
theorem dM_may_26 : decode prog_3_method_10_code 26 = .ok (.ireturn, 1) := by decide +kernel
theorem dM_isField_0 : decode prog_3_method_15_code 0 = .ok (.iload_n 1, 1) := by decide +kernel
theorem dM_isField_1 : decode prog_3_method_15_code 1 = .ok (.invokestatic 35, 3) := by decide +kernel
theorem dM_isField_4 : decode prog_3_method_15_code 4 = .ok (.ireturn, 1) := by decide +kernel
theorem dM_number_0 : decode prog_3_method_7_code 0 = .ok (.iconst 0, 1) := by decide +kernel
theorem dM_number_1 : decode prog_3_method_7_code 1 = .ok (.istore 4, 2) := by decide +kernel
theorem dM_number_3 : decode prog_3_method_7_code 3 = .ok (.iload_n 2, 1) := by decide +kernel
theorem dM_number_4 : decode prog_3_method_7_code 4 = .ok (.istore 5, 2) := by decide +kernel
theorem dM_number_6 : decode prog_3_method_7_code 6 = .ok (.iload 5, 2) := by decide +kernel
theorem dM_number_8 : decode prog_3_method_7_code 8 = .ok (.iload_n 3, 1) := by decide +kernel
theorem dM_number_9 : decode prog_3_method_7_code 9 = .ok (.if_icmp .gt 29, 3) := by decide +kernel
theorem dM_number_12 : decode prog_3_method_7_code 12 = .ok (.bipush 64, 2) := by decide +kernel
theorem dM_number_14 : decode prog_3_method_7_code 14 = .ok (.iload 4, 2) := by decide +kernel
theorem dM_number_16 : decode prog_3_method_7_code 16 = .ok (.imul, 1) := by decide +kernel
theorem dM_number_17 : decode prog_3_method_7_code 17 = .ok (.aload_n 0, 1) := by decide +kernel
theorem dM_number_18 : decode prog_3_method_7_code 18 = .ok (.getfield 13, 3) := by decide +kernel
theorem dM_number_21 : decode prog_3_method_7_code 21 = .ok (.bipush 6, 2) := by decide +kernel
theorem dM_number_23 : decode prog_3_method_7_code 23 = .ok (.iload_n 1, 1) := by decide +kernel
theorem dM_number_24 : decode prog_3_method_7_code 24 = .ok (.imul, 1) := by decide +kernel
theorem dM_number_25 : decode prog_3_method_7_code 25 = .ok (.iload 5, 2) := by decide +kernel
theorem dM_number_27 : decode prog_3_method_7_code 27 = .ok (.iadd, 1) := by decide +kernel
theorem dM_number_28 : decode prog_3_method_7_code 28 = .ok (.iaload, 1) := by decide +kernel
theorem dM_number_29 : decode prog_3_method_7_code 29 = .ok (.iadd, 1) := by decide +kernel
theorem dM_number_30 : decode prog_3_method_7_code 30 = .ok (.istore 4, 2) := by decide +kernel
theorem dM_number_32 : decode prog_3_method_7_code 32 = .ok (.iinc 5 1, 3) := by decide +kernel
theorem dM_number_35 : decode prog_3_method_7_code 35 = .ok (.goto (-29), 3) := by decide +kernel
theorem dM_number_38 : decode prog_3_method_7_code 38 = .ok (.iload 4, 2) := by decide +kernel
theorem dM_number_40 : decode prog_3_method_7_code 40 = .ok (.ireturn, 1) := by decide +kernel
theorem dM_value_0 : decode prog_3_method_8_code 0 = .ok (.iload_n 1, 1) := by decide +kernel
theorem dM_value_1 : decode prog_3_method_8_code 1 = .ok (.invokestatic 24, 3) := by decide +kernel
theorem dM_value_4 : decode prog_3_method_8_code 4 = .ok (.ifCond .ne 6, 3) := by decide +kernel
theorem dM_value_7 : decode prog_3_method_8_code 7 = .ok (.ldc 29, 2) := by decide +kernel
theorem dM_value_9 : decode prog_3_method_8_code 9 = .ok (.ireturn, 1) := by decide +kernel
theorem dM_value_10 : decode prog_3_method_8_code 10 = .ok (.aload_n 0, 1) := by decide +kernel
theorem dM_value_11 : decode prog_3_method_8_code 11 = .ok (.iload_n 1, 1) := by decide +kernel
theorem dM_value_12 : decode prog_3_method_8_code 12 = .ok (.iconst 1, 1) := by decide +kernel
theorem dM_value_13 : decode prog_3_method_8_code 13 = .ok (.iconst 5, 1) := by decide +kernel
theorem dM_value_14 : decode prog_3_method_8_code 14 = .ok (.invokevirtual 30, 3) := by decide +kernel
theorem dM_value_17 : decode prog_3_method_8_code 17 = .ok (.istore_n 2, 1) := by decide +kernel
theorem dM_value_18 : decode prog_3_method_8_code 18 = .ok (.aload_n 0, 1) := by decide +kernel
theorem dM_value_19 : decode prog_3_method_8_code 19 = .ok (.getfield 7, 3) := by decide +kernel
theorem dM_value_22 : decode prog_3_method_8_code 22 = .ok (.iload_n 1, 1) := by decide +kernel
theorem dM_value_23 : decode prog_3_method_8_code 23 = .ok (.baload, 1) := by decide +kernel
theorem dM_value_24 : decode prog_3_method_8_code 24 = .ok (.ifCond .ne 7, 3) := by decide +kernel
theorem dM_value_27 : decode prog_3_method_8_code 27 = .ok (.iload_n 2, 1) := by decide +kernel
theorem dM_value_28 : decode prog_3_method_8_code 28 = .ok (.goto 14, 3) := by decide +kernel
theorem dM_value_31 : decode prog_3_method_8_code 31 = .ok (.iload_n 2, 1) := by decide +kernel
theorem dM_value_32 : decode prog_3_method_8_code 32 = .ok (.ifCond .ne 8, 3) := by decide +kernel
theorem dM_value_35 : decode prog_3_method_8_code 35 = .ok (.ldc 34, 2) := by decide +kernel
theorem dM_value_37 : decode prog_3_method_8_code 37 = .ok (.goto 5, 3) := by decide +kernel
theorem dM_value_40 : decode prog_3_method_8_code 40 = .ok (.iload_n 2, 1) := by decide +kernel
theorem dM_value_41 : decode prog_3_method_8_code 41 = .ok (.ineg, 1) := by decide +kernel
theorem dM_value_42 : decode prog_3_method_8_code 42 = .ok (.ireturn, 1) := by decide +kernel
theorem dM_byteOf_0 : decode prog_3_method_9_code 0 = .ok (.iload_n 1, 1) := by decide +kernel
theorem dM_byteOf_1 : decode prog_3_method_9_code 1 = .ok (.invokestatic 24, 3) := by decide +kernel
theorem dM_byteOf_4 : decode prog_3_method_9_code 4 = .ok (.ifCond .eq 12, 3) := by decide +kernel
theorem dM_byteOf_7 : decode prog_3_method_9_code 7 = .ok (.iload_n 2, 1) := by decide +kernel
theorem dM_byteOf_8 : decode prog_3_method_9_code 8 = .ok (.ifCond .lt 8, 3) := by decide +kernel
theorem dM_byteOf_11 : decode prog_3_method_9_code 11 = .ok (.iload_n 2, 1) := by decide +kernel
theorem dM_byteOf_12 : decode prog_3_method_9_code 12 = .ok (.iconst 5, 1) := by decide +kernel
theorem dM_byteOf_13 : decode prog_3_method_9_code 13 = .ok (.if_icmp .le 5, 3) := by decide +kernel
theorem dM_byteOf_16 : decode prog_3_method_9_code 16 = .ok (.iconst (-1), 1) := by decide +kernel
theorem dM_byteOf_17 : decode prog_3_method_9_code 17 = .ok (.ireturn, 1) := by decide +kernel
theorem dM_byteOf_18 : decode prog_3_method_9_code 18 = .ok (.iload_n 2, 1) := by decide +kernel
theorem dM_byteOf_19 : decode prog_3_method_9_code 19 = .ok (.ifCond .le 17, 3) := by decide +kernel
theorem dM_byteOf_22 : decode prog_3_method_9_code 22 = .ok (.aload_n 0, 1) := by decide +kernel
theorem dM_byteOf_23 : decode prog_3_method_9_code 23 = .ok (.getfield 13, 3) := by decide +kernel
theorem dM_byteOf_26 : decode prog_3_method_9_code 26 = .ok (.bipush 6, 2) := by decide +kernel
theorem dM_byteOf_28 : decode prog_3_method_9_code 28 = .ok (.iload_n 1, 1) := by decide +kernel
theorem dM_byteOf_29 : decode prog_3_method_9_code 29 = .ok (.imul, 1) := by decide +kernel
theorem dM_byteOf_30 : decode prog_3_method_9_code 30 = .ok (.iload_n 2, 1) := by decide +kernel
theorem dM_byteOf_31 : decode prog_3_method_9_code 31 = .ok (.iadd, 1) := by decide +kernel
theorem dM_byteOf_32 : decode prog_3_method_9_code 32 = .ok (.iaload, 1) := by decide +kernel
theorem dM_byteOf_33 : decode prog_3_method_9_code 33 = .ok (.goto 17, 3) := by decide +kernel
theorem dM_byteOf_36 : decode prog_3_method_9_code 36 = .ok (.aload_n 0, 1) := by decide +kernel
theorem dM_byteOf_37 : decode prog_3_method_9_code 37 = .ok (.getfield 7, 3) := by decide +kernel
theorem dM_byteOf_40 : decode prog_3_method_9_code 40 = .ok (.iload_n 1, 1) := by decide +kernel
theorem dM_byteOf_41 : decode prog_3_method_9_code 41 = .ok (.baload, 1) := by decide +kernel
theorem dM_byteOf_42 : decode prog_3_method_9_code 42 = .ok (.ifCond .eq 7, 3) := by decide +kernel
theorem dM_byteOf_45 : decode prog_3_method_9_code 45 = .ok (.iconst 1, 1) := by decide +kernel
theorem dM_byteOf_46 : decode prog_3_method_9_code 46 = .ok (.goto 4, 3) := by decide +kernel
theorem dM_byteOf_49 : decode prog_3_method_9_code 49 = .ok (.iconst 0, 1) := by decide +kernel
theorem dM_byteOf_50 : decode prog_3_method_9_code 50 = .ok (.ireturn, 1) := by decide +kernel
theorem dM_compare_0 : decode prog_3_method_14_code 0 = .ok (.aload_n 0, 1) := by decide +kernel
theorem dM_compare_1 : decode prog_3_method_14_code 1 = .ok (.iload_n 1, 1) := by decide +kernel
theorem dM_compare_2 : decode prog_3_method_14_code 2 = .ok (.iload_n 2, 1) := by decide +kernel
theorem dM_compare_3 : decode prog_3_method_14_code 3 = .ok (.iload_n 3, 1) := by decide +kernel
theorem dM_compare_4 : decode prog_3_method_14_code 4 = .ok (.invokevirtual 38, 3) := by decide +kernel
theorem dM_compare_7 : decode prog_3_method_14_code 7 = .ok (.ifCond .ne 6, 3) := by decide +kernel
theorem dM_compare_10 : decode prog_3_method_14_code 10 = .ok (.bipush (-2), 2) := by decide +kernel
theorem dM_compare_12 : decode prog_3_method_14_code 12 = .ok (.ireturn, 1) := by decide +kernel
theorem dM_compare_13 : decode prog_3_method_14_code 13 = .ok (.aload_n 0, 1) := by decide +kernel
theorem dM_compare_14 : decode prog_3_method_14_code 14 = .ok (.iload_n 1, 1) := by decide +kernel
theorem dM_compare_15 : decode prog_3_method_14_code 15 = .ok (.iload_n 3, 1) := by decide +kernel
theorem dM_compare_16 : decode prog_3_method_14_code 16 = .ok (.invokestatic 42, 3) := by decide +kernel
theorem dM_compare_19 : decode prog_3_method_14_code 19 = .ok (.iload_n 3, 1) := by decide +kernel
theorem dM_compare_20 : decode prog_3_method_14_code 20 = .ok (.bipush 8, 2) := by decide +kernel
theorem dM_compare_22 : decode prog_3_method_14_code 22 = .ok (.irem, 1) := by decide +kernel
theorem dM_compare_23 : decode prog_3_method_14_code 23 = .ok (.invokevirtual 30, 3) := by decide +kernel
theorem dM_compare_26 : decode prog_3_method_14_code 26 = .ok (.istore 4, 2) := by decide +kernel
theorem dM_compare_28 : decode prog_3_method_14_code 28 = .ok (.aload_n 0, 1) := by decide +kernel
theorem dM_compare_29 : decode prog_3_method_14_code 29 = .ok (.iload_n 2, 1) := by decide +kernel
theorem dM_compare_30 : decode prog_3_method_14_code 30 = .ok (.iload_n 3, 1) := by decide +kernel
theorem dM_compare_31 : decode prog_3_method_14_code 31 = .ok (.invokestatic 42, 3) := by decide +kernel
theorem dM_compare_34 : decode prog_3_method_14_code 34 = .ok (.iload_n 3, 1) := by decide +kernel
theorem dM_compare_35 : decode prog_3_method_14_code 35 = .ok (.bipush 8, 2) := by decide +kernel
theorem dM_compare_37 : decode prog_3_method_14_code 37 = .ok (.irem, 1) := by decide +kernel
theorem dM_compare_38 : decode prog_3_method_14_code 38 = .ok (.invokevirtual 30, 3) := by decide +kernel
theorem dM_compare_41 : decode prog_3_method_14_code 41 = .ok (.istore 5, 2) := by decide +kernel
theorem dM_compare_43 : decode prog_3_method_14_code 43 = .ok (.iload_n 3, 1) := by decide +kernel
theorem dM_compare_44 : decode prog_3_method_14_code 44 = .ok (.bipush 8, 2) := by decide +kernel
theorem dM_compare_46 : decode prog_3_method_14_code 46 = .ok (.if_icmp .ge 18, 3) := by decide +kernel
theorem dM_compare_49 : decode prog_3_method_14_code 49 = .ok (.aload_n 0, 1) := by decide +kernel
theorem dM_compare_50 : decode prog_3_method_14_code 50 = .ok (.getfield 7, 3) := by decide +kernel
theorem dM_compare_53 : decode prog_3_method_14_code 53 = .ok (.iload_n 1, 1) := by decide +kernel
theorem dM_compare_54 : decode prog_3_method_14_code 54 = .ok (.baload, 1) := by decide +kernel
theorem dM_compare_55 : decode prog_3_method_14_code 55 = .ok (.ifCond .eq 9, 3) := by decide +kernel
theorem dM_compare_58 : decode prog_3_method_14_code 58 = .ok (.iload 4, 2) := by decide +kernel
theorem dM_compare_60 : decode prog_3_method_14_code 60 = .ok (.ineg, 1) := by decide +kernel
theorem dM_compare_61 : decode prog_3_method_14_code 61 = .ok (.goto 5, 3) := by decide +kernel
theorem dM_compare_64 : decode prog_3_method_14_code 64 = .ok (.iload 4, 2) := by decide +kernel
theorem dM_compare_66 : decode prog_3_method_14_code 66 = .ok (.istore 4, 2) := by decide +kernel
theorem dM_compare_68 : decode prog_3_method_14_code 68 = .ok (.iload_n 3, 1) := by decide +kernel
theorem dM_compare_69 : decode prog_3_method_14_code 69 = .ok (.bipush 8, 2) := by decide +kernel
theorem dM_compare_71 : decode prog_3_method_14_code 71 = .ok (.if_icmp .ge 18, 3) := by decide +kernel
theorem dM_compare_74 : decode prog_3_method_14_code 74 = .ok (.aload_n 0, 1) := by decide +kernel
theorem dM_compare_75 : decode prog_3_method_14_code 75 = .ok (.getfield 7, 3) := by decide +kernel
theorem dM_compare_78 : decode prog_3_method_14_code 78 = .ok (.iload_n 2, 1) := by decide +kernel
theorem dM_compare_79 : decode prog_3_method_14_code 79 = .ok (.baload, 1) := by decide +kernel
theorem dM_compare_80 : decode prog_3_method_14_code 80 = .ok (.ifCond .eq 9, 3) := by decide +kernel
theorem dM_compare_83 : decode prog_3_method_14_code 83 = .ok (.iload 5, 2) := by decide +kernel
theorem dM_compare_85 : decode prog_3_method_14_code 85 = .ok (.ineg, 1) := by decide +kernel
theorem dM_compare_86 : decode prog_3_method_14_code 86 = .ok (.goto 5, 3) := by decide +kernel
theorem dM_compare_89 : decode prog_3_method_14_code 89 = .ok (.iload 5, 2) := by decide +kernel
theorem dM_compare_91 : decode prog_3_method_14_code 91 = .ok (.istore 5, 2) := by decide +kernel
theorem dM_compare_93 : decode prog_3_method_14_code 93 = .ok (.iload 4, 2) := by decide +kernel
theorem dM_compare_95 : decode prog_3_method_14_code 95 = .ok (.iload 5, 2) := by decide +kernel
theorem dM_compare_97 : decode prog_3_method_14_code 97 = .ok (.if_icmp .ge 7, 3) := by decide +kernel
theorem dM_compare_100 : decode prog_3_method_14_code 100 = .ok (.iconst (-1), 1) := by decide +kernel
theorem dM_compare_101 : decode prog_3_method_14_code 101 = .ok (.goto 15, 3) := by decide +kernel
theorem dM_compare_104 : decode prog_3_method_14_code 104 = .ok (.iload 4, 2) := by decide +kernel
theorem dM_compare_106 : decode prog_3_method_14_code 106 = .ok (.iload 5, 2) := by decide +kernel
theorem dM_compare_108 : decode prog_3_method_14_code 108 = .ok (.if_icmp .le 7, 3) := by decide +kernel
theorem dM_compare_111 : decode prog_3_method_14_code 111 = .ok (.iconst 1, 1) := by decide +kernel
theorem dM_compare_112 : decode prog_3_method_14_code 112 = .ok (.goto 4, 3) := by decide +kernel
theorem dM_compare_115 : decode prog_3_method_14_code 115 = .ok (.iconst 0, 1) := by decide +kernel
theorem dM_compare_116 : decode prog_3_method_14_code 116 = .ok (.ireturn, 1) := by decide +kernel
theorem dM_letter_0 : decode prog_3_method_16_code 0 = .ok (.iload_n 1, 1) := by decide +kernel
theorem dM_letter_1 : decode prog_3_method_16_code 1 = .ok (.ifCond .lt 9, 3) := by decide +kernel
theorem dM_letter_4 : decode prog_3_method_16_code 4 = .ok (.iload_n 1, 1) := by decide +kernel
theorem dM_letter_5 : decode prog_3_method_16_code 5 = .ok (.bipush 63, 2) := by decide +kernel
theorem dM_letter_7 : decode prog_3_method_16_code 7 = .ok (.if_icmp .le 7, 3) := by decide +kernel
theorem dM_letter_10 : decode prog_3_method_16_code 10 = .ok (.iconst (-1), 1) := by decide +kernel
theorem dM_letter_11 : decode prog_3_method_16_code 11 = .ok (.goto 20, 3) := by decide +kernel
theorem dM_letter_14 : decode prog_3_method_16_code 14 = .ok (.iload_n 1, 1) := by decide +kernel
theorem dM_letter_15 : decode prog_3_method_16_code 15 = .ok (.bipush 56, 2) := by decide +kernel
theorem dM_letter_17 : decode prog_3_method_16_code 17 = .ok (.if_icmp .ge 12, 3) := by decide +kernel
theorem dM_letter_20 : decode prog_3_method_16_code 20 = .ok (.aload_n 0, 1) := by decide +kernel
theorem dM_letter_21 : decode prog_3_method_16_code 21 = .ok (.getfield 17, 3) := by decide +kernel
theorem dM_letter_24 : decode prog_3_method_16_code 24 = .ok (.iload_n 1, 1) := by decide +kernel
theorem dM_letter_25 : decode prog_3_method_16_code 25 = .ok (.iaload, 1) := by decide +kernel
theorem dM_letter_26 : decode prog_3_method_16_code 26 = .ok (.goto 5, 3) := by decide +kernel
theorem dM_letter_29 : decode prog_3_method_16_code 29 = .ok (.bipush 63, 2) := by decide +kernel
theorem dM_letter_31 : decode prog_3_method_16_code 31 = .ok (.ireturn, 1) := by decide +kernel
theorem dM_turn_0 : decode prog_3_method_13_code 0 = .ok (.iload_n 1, 1) := by decide +kernel
theorem dM_turn_1 : decode prog_3_method_13_code 1 = .ok (.invokestatic 24, 3) := by decide +kernel
theorem dM_turn_4 : decode prog_3_method_13_code 4 = .ok (.ifCond .ne 5, 3) := by decide +kernel
theorem dM_turn_7 : decode prog_3_method_13_code 7 = .ok (.iconst 0, 1) := by decide +kernel
theorem dM_turn_8 : decode prog_3_method_13_code 8 = .ok (.ireturn, 1) := by decide +kernel
theorem dM_turn_9 : decode prog_3_method_13_code 9 = .ok (.aload_n 0, 1) := by decide +kernel
theorem dM_turn_10 : decode prog_3_method_13_code 10 = .ok (.getfield 7, 3) := by decide +kernel
theorem dM_turn_13 : decode prog_3_method_13_code 13 = .ok (.iload_n 1, 1) := by decide +kernel
theorem dM_turn_14 : decode prog_3_method_13_code 14 = .ok (.aload_n 0, 1) := by decide +kernel
theorem dM_turn_15 : decode prog_3_method_13_code 15 = .ok (.getfield 7, 3) := by decide +kernel
theorem dM_turn_18 : decode prog_3_method_13_code 18 = .ok (.iload_n 1, 1) := by decide +kernel
theorem dM_turn_19 : decode prog_3_method_13_code 19 = .ok (.baload, 1) := by decide +kernel
theorem dM_turn_20 : decode prog_3_method_13_code 20 = .ok (.ifCond .ne 7, 3) := by decide +kernel
theorem dM_turn_23 : decode prog_3_method_13_code 23 = .ok (.iconst 1, 1) := by decide +kernel
theorem dM_turn_24 : decode prog_3_method_13_code 24 = .ok (.goto 4, 3) := by decide +kernel
theorem dM_turn_27 : decode prog_3_method_13_code 27 = .ok (.iconst 0, 1) := by decide +kernel
theorem dM_turn_28 : decode prog_3_method_13_code 28 = .ok (.bastore, 1) := by decide +kernel
theorem dM_turn_29 : decode prog_3_method_13_code 29 = .ok (.iconst 1, 1) := by decide +kernel
theorem dM_turn_30 : decode prog_3_method_13_code 30 = .ok (.ireturn, 1) := by decide +kernel
theorem dM_set_0 : decode prog_3_method_6_code 0 = .ok (.ldc 23, 2) := by decide +kernel
theorem dM_set_2 : decode prog_3_method_6_code 2 = .ok (.istore 4, 2) := by decide +kernel
theorem dM_set_4 : decode prog_3_method_6_code 4 = .ok (.iload_n 1, 1) := by decide +kernel
theorem dM_set_5 : decode prog_3_method_6_code 5 = .ok (.invokestatic 24, 3) := by decide +kernel
theorem dM_set_8 : decode prog_3_method_6_code 8 = .ok (.ifCond .eq 15, 3) := by decide +kernel
theorem dM_set_11 : decode prog_3_method_6_code 11 = .ok (.iload_n 2, 1) := by decide +kernel
theorem dM_set_12 : decode prog_3_method_6_code 12 = .ok (.iload 4, 2) := by decide +kernel
theorem dM_set_14 : decode prog_3_method_6_code 14 = .ok (.if_icmp .le 9, 3) := by decide +kernel
theorem dM_set_17 : decode prog_3_method_6_code 17 = .ok (.iload_n 2, 1) := by decide +kernel
theorem dM_set_18 : decode prog_3_method_6_code 18 = .ok (.ldc 28, 2) := by decide +kernel
theorem dM_set_20 : decode prog_3_method_6_code 20 = .ok (.if_icmp .lt 5, 3) := by decide +kernel
theorem dM_set_23 : decode prog_3_method_6_code 23 = .ok (.iconst 0, 1) := by decide +kernel
theorem dM_set_24 : decode prog_3_method_6_code 24 = .ok (.ireturn, 1) := by decide +kernel
theorem dM_set_25 : decode prog_3_method_6_code 25 = .ok (.aload_n 0, 1) := by decide +kernel
theorem dM_set_26 : decode prog_3_method_6_code 26 = .ok (.getfield 7, 3) := by decide +kernel
theorem dM_set_29 : decode prog_3_method_6_code 29 = .ok (.iload_n 1, 1) := by decide +kernel
theorem dM_set_30 : decode prog_3_method_6_code 30 = .ok (.iload_n 2, 1) := by decide +kernel
theorem dM_set_31 : decode prog_3_method_6_code 31 = .ok (.ifCond .lt 11, 3) := by decide +kernel
theorem dM_set_34 : decode prog_3_method_6_code 34 = .ok (.iload_n 2, 1) := by decide +kernel
theorem dM_set_35 : decode prog_3_method_6_code 35 = .ok (.ifCond .ne 11, 3) := by decide +kernel
theorem dM_set_38 : decode prog_3_method_6_code 38 = .ok (.iload_n 3, 1) := by decide +kernel
theorem dM_set_39 : decode prog_3_method_6_code 39 = .ok (.ifCond .eq 7, 3) := by decide +kernel
theorem dM_set_42 : decode prog_3_method_6_code 42 = .ok (.iconst 1, 1) := by decide +kernel
theorem dM_set_43 : decode prog_3_method_6_code 43 = .ok (.goto 4, 3) := by decide +kernel
theorem dM_set_46 : decode prog_3_method_6_code 46 = .ok (.iconst 0, 1) := by decide +kernel
theorem dM_set_47 : decode prog_3_method_6_code 47 = .ok (.bastore, 1) := by decide +kernel
theorem dM_set_48 : decode prog_3_method_6_code 48 = .ok (.iload_n 2, 1) := by decide +kernel
theorem dM_set_49 : decode prog_3_method_6_code 49 = .ok (.ifCond .ge 8, 3) := by decide +kernel
theorem dM_set_52 : decode prog_3_method_6_code 52 = .ok (.iload_n 2, 1) := by decide +kernel
theorem dM_set_53 : decode prog_3_method_6_code 53 = .ok (.ineg, 1) := by decide +kernel
theorem dM_set_54 : decode prog_3_method_6_code 54 = .ok (.goto 4, 3) := by decide +kernel
theorem dM_set_57 : decode prog_3_method_6_code 57 = .ok (.iload_n 2, 1) := by decide +kernel
theorem dM_set_58 : decode prog_3_method_6_code 58 = .ok (.istore 5, 2) := by decide +kernel
theorem dM_set_60 : decode prog_3_method_6_code 60 = .ok (.iconst 5, 1) := by decide +kernel
theorem dM_set_61 : decode prog_3_method_6_code 61 = .ok (.istore 6, 2) := by decide +kernel
theorem dM_set_63 : decode prog_3_method_6_code 63 = .ok (.iload 6, 2) := by decide +kernel
theorem dM_set_65 : decode prog_3_method_6_code 65 = .ok (.ifCond .le 33, 3) := by decide +kernel
theorem dM_set_68 : decode prog_3_method_6_code 68 = .ok (.aload_n 0, 1) := by decide +kernel
theorem dM_set_69 : decode prog_3_method_6_code 69 = .ok (.getfield 13, 3) := by decide +kernel
theorem dM_set_72 : decode prog_3_method_6_code 72 = .ok (.bipush 6, 2) := by decide +kernel
theorem dM_set_74 : decode prog_3_method_6_code 74 = .ok (.iload_n 1, 1) := by decide +kernel
theorem dM_set_75 : decode prog_3_method_6_code 75 = .ok (.imul, 1) := by decide +kernel
theorem dM_set_76 : decode prog_3_method_6_code 76 = .ok (.iload 6, 2) := by decide +kernel
theorem dM_set_78 : decode prog_3_method_6_code 78 = .ok (.iadd, 1) := by decide +kernel
theorem dM_set_79 : decode prog_3_method_6_code 79 = .ok (.iload 5, 2) := by decide +kernel
theorem dM_set_81 : decode prog_3_method_6_code 81 = .ok (.bipush 64, 2) := by decide +kernel
theorem dM_set_83 : decode prog_3_method_6_code 83 = .ok (.irem, 1) := by decide +kernel
theorem dM_set_84 : decode prog_3_method_6_code 84 = .ok (.iastore, 1) := by decide +kernel
theorem dM_set_85 : decode prog_3_method_6_code 85 = .ok (.iload 5, 2) := by decide +kernel
theorem dM_set_87 : decode prog_3_method_6_code 87 = .ok (.bipush 64, 2) := by decide +kernel
theorem dM_set_89 : decode prog_3_method_6_code 89 = .ok (.idiv, 1) := by decide +kernel
theorem dM_set_90 : decode prog_3_method_6_code 90 = .ok (.istore 5, 2) := by decide +kernel
theorem dM_set_92 : decode prog_3_method_6_code 92 = .ok (.iinc 6 (-1), 3) := by decide +kernel
theorem dM_set_95 : decode prog_3_method_6_code 95 = .ok (.goto (-32), 3) := by decide +kernel
theorem dM_set_98 : decode prog_3_method_6_code 98 = .ok (.iconst 1, 1) := by decide +kernel
theorem dM_set_99 : decode prog_3_method_6_code 99 = .ok (.ireturn, 1) := by decide +kernel
theorem dM_load_0 : decode prog_3_method_11_code 0 = .ok (.aload_n 0, 1) := by decide +kernel
theorem dM_load_1 : decode prog_3_method_11_code 1 = .ok (.iload_n 1, 1) := by decide +kernel
theorem dM_load_2 : decode prog_3_method_11_code 2 = .ok (.iload_n 2, 1) := by decide +kernel
theorem dM_load_3 : decode prog_3_method_11_code 3 = .ok (.iload_n 3, 1) := by decide +kernel
theorem dM_load_4 : decode prog_3_method_11_code 4 = .ok (.invokevirtual 38, 3) := by decide +kernel
theorem dM_load_7 : decode prog_3_method_11_code 7 = .ok (.ifCond .ne 5, 3) := by decide +kernel
theorem dM_load_10 : decode prog_3_method_11_code 10 = .ok (.iconst 0, 1) := by decide +kernel
theorem dM_load_11 : decode prog_3_method_11_code 11 = .ok (.ireturn, 1) := by decide +kernel
theorem dM_load_12 : decode prog_3_method_11_code 12 = .ok (.iconst 1, 1) := by decide +kernel
theorem dM_load_13 : decode prog_3_method_11_code 13 = .ok (.istore 4, 2) := by decide +kernel
theorem dM_load_15 : decode prog_3_method_11_code 15 = .ok (.iload 4, 2) := by decide +kernel
theorem dM_load_17 : decode prog_3_method_11_code 17 = .ok (.bipush 6, 2) := by decide +kernel
theorem dM_load_19 : decode prog_3_method_11_code 19 = .ok (.if_icmp .ge 52, 3) := by decide +kernel
theorem dM_load_22 : decode prog_3_method_11_code 22 = .ok (.iload 4, 2) := by decide +kernel
theorem dM_load_24 : decode prog_3_method_11_code 24 = .ok (.iconst 5, 1) := by decide +kernel
theorem dM_load_25 : decode prog_3_method_11_code 25 = .ok (.isub, 1) := by decide +kernel
theorem dM_load_26 : decode prog_3_method_11_code 26 = .ok (.iload_n 3, 1) := by decide +kernel
theorem dM_load_27 : decode prog_3_method_11_code 27 = .ok (.bipush 8, 2) := by decide +kernel
theorem dM_load_29 : decode prog_3_method_11_code 29 = .ok (.irem, 1) := by decide +kernel
theorem dM_load_30 : decode prog_3_method_11_code 30 = .ok (.iadd, 1) := by decide +kernel
theorem dM_load_31 : decode prog_3_method_11_code 31 = .ok (.istore 5, 2) := by decide +kernel
theorem dM_load_33 : decode prog_3_method_11_code 33 = .ok (.aload_n 0, 1) := by decide +kernel
theorem dM_load_34 : decode prog_3_method_11_code 34 = .ok (.getfield 20, 3) := by decide +kernel
theorem dM_load_37 : decode prog_3_method_11_code 37 = .ok (.iload 4, 2) := by decide +kernel
theorem dM_load_39 : decode prog_3_method_11_code 39 = .ok (.iload 5, 2) := by decide +kernel
theorem dM_load_41 : decode prog_3_method_11_code 41 = .ok (.iload_n 3, 1) := by decide +kernel
theorem dM_load_42 : decode prog_3_method_11_code 42 = .ok (.invokestatic 42, 3) := by decide +kernel
theorem dM_load_45 : decode prog_3_method_11_code 45 = .ok (.if_icmp .lt 18, 3) := by decide +kernel
theorem dM_load_48 : decode prog_3_method_11_code 48 = .ok (.aload_n 0, 1) := by decide +kernel
theorem dM_load_49 : decode prog_3_method_11_code 49 = .ok (.getfield 13, 3) := by decide +kernel
theorem dM_load_52 : decode prog_3_method_11_code 52 = .ok (.bipush 6, 2) := by decide +kernel
theorem dM_load_54 : decode prog_3_method_11_code 54 = .ok (.iload_n 2, 1) := by decide +kernel
theorem dM_load_55 : decode prog_3_method_11_code 55 = .ok (.imul, 1) := by decide +kernel
theorem dM_load_56 : decode prog_3_method_11_code 56 = .ok (.iload 5, 2) := by decide +kernel
theorem dM_load_58 : decode prog_3_method_11_code 58 = .ok (.iadd, 1) := by decide +kernel
theorem dM_load_59 : decode prog_3_method_11_code 59 = .ok (.iaload, 1) := by decide +kernel
theorem dM_load_60 : decode prog_3_method_11_code 60 = .ok (.goto 4, 3) := by decide +kernel
theorem dM_load_63 : decode prog_3_method_11_code 63 = .ok (.iconst 0, 1) := by decide +kernel
theorem dM_load_64 : decode prog_3_method_11_code 64 = .ok (.iastore, 1) := by decide +kernel
theorem dM_load_65 : decode prog_3_method_11_code 65 = .ok (.iinc 4 1, 3) := by decide +kernel
theorem dM_load_68 : decode prog_3_method_11_code 68 = .ok (.goto (-53), 3) := by decide +kernel
theorem dM_load_71 : decode prog_3_method_11_code 71 = .ok (.iconst 1, 1) := by decide +kernel
theorem dM_load_72 : decode prog_3_method_11_code 72 = .ok (.istore 4, 2) := by decide +kernel
theorem dM_load_74 : decode prog_3_method_11_code 74 = .ok (.iload 4, 2) := by decide +kernel
theorem dM_load_76 : decode prog_3_method_11_code 76 = .ok (.bipush 6, 2) := by decide +kernel
theorem dM_load_78 : decode prog_3_method_11_code 78 = .ok (.if_icmp .ge 28, 3) := by decide +kernel
theorem dM_load_81 : decode prog_3_method_11_code 81 = .ok (.aload_n 0, 1) := by decide +kernel
theorem dM_load_82 : decode prog_3_method_11_code 82 = .ok (.getfield 13, 3) := by decide +kernel
theorem dM_load_85 : decode prog_3_method_11_code 85 = .ok (.bipush 6, 2) := by decide +kernel
theorem dM_load_87 : decode prog_3_method_11_code 87 = .ok (.iload_n 1, 1) := by decide +kernel
theorem dM_load_88 : decode prog_3_method_11_code 88 = .ok (.imul, 1) := by decide +kernel
theorem dM_load_89 : decode prog_3_method_11_code 89 = .ok (.iload 4, 2) := by decide +kernel
theorem dM_load_91 : decode prog_3_method_11_code 91 = .ok (.iadd, 1) := by decide +kernel
theorem dM_load_92 : decode prog_3_method_11_code 92 = .ok (.aload_n 0, 1) := by decide +kernel
theorem dM_load_93 : decode prog_3_method_11_code 93 = .ok (.getfield 20, 3) := by decide +kernel
theorem dM_load_96 : decode prog_3_method_11_code 96 = .ok (.iload 4, 2) := by decide +kernel
theorem dM_load_98 : decode prog_3_method_11_code 98 = .ok (.iaload, 1) := by decide +kernel
theorem dM_load_99 : decode prog_3_method_11_code 99 = .ok (.iastore, 1) := by decide +kernel
theorem dM_load_100 : decode prog_3_method_11_code 100 = .ok (.iinc 4 1, 3) := by decide +kernel
theorem dM_load_103 : decode prog_3_method_11_code 103 = .ok (.goto (-29), 3) := by decide +kernel
theorem dM_load_106 : decode prog_3_method_11_code 106 = .ok (.aload_n 0, 1) := by decide +kernel
theorem dM_load_107 : decode prog_3_method_11_code 107 = .ok (.getfield 7, 3) := by decide +kernel
theorem dM_load_110 : decode prog_3_method_11_code 110 = .ok (.iload_n 1, 1) := by decide +kernel
theorem dM_load_111 : decode prog_3_method_11_code 111 = .ok (.iload_n 3, 1) := by decide +kernel
theorem dM_load_112 : decode prog_3_method_11_code 112 = .ok (.bipush 8, 2) := by decide +kernel
theorem dM_load_114 : decode prog_3_method_11_code 114 = .ok (.if_icmp .ge 16, 3) := by decide +kernel
theorem dM_load_117 : decode prog_3_method_11_code 117 = .ok (.aload_n 0, 1) := by decide +kernel
theorem dM_load_118 : decode prog_3_method_11_code 118 = .ok (.getfield 7, 3) := by decide +kernel
theorem dM_load_121 : decode prog_3_method_11_code 121 = .ok (.iload_n 2, 1) := by decide +kernel
theorem dM_load_122 : decode prog_3_method_11_code 122 = .ok (.baload, 1) := by decide +kernel
theorem dM_load_123 : decode prog_3_method_11_code 123 = .ok (.ifCond .eq 7, 3) := by decide +kernel
theorem dM_load_126 : decode prog_3_method_11_code 126 = .ok (.iconst 1, 1) := by decide +kernel
theorem dM_load_127 : decode prog_3_method_11_code 127 = .ok (.goto 4, 3) := by decide +kernel
theorem dM_load_130 : decode prog_3_method_11_code 130 = .ok (.iconst 0, 1) := by decide +kernel
theorem dM_load_131 : decode prog_3_method_11_code 131 = .ok (.bastore, 1) := by decide +kernel
theorem dM_load_132 : decode prog_3_method_11_code 132 = .ok (.iconst 1, 1) := by decide +kernel
theorem dM_load_133 : decode prog_3_method_11_code 133 = .ok (.ireturn, 1) := by decide +kernel
theorem dM_store_0 : decode prog_3_method_12_code 0 = .ok (.aload_n 0, 1) := by decide +kernel
theorem dM_store_1 : decode prog_3_method_12_code 1 = .ok (.iload_n 1, 1) := by decide +kernel
theorem dM_store_2 : decode prog_3_method_12_code 2 = .ok (.iload_n 2, 1) := by decide +kernel
theorem dM_store_3 : decode prog_3_method_12_code 3 = .ok (.iload_n 3, 1) := by decide +kernel
theorem dM_store_4 : decode prog_3_method_12_code 4 = .ok (.invokevirtual 38, 3) := by decide +kernel
theorem dM_store_7 : decode prog_3_method_12_code 7 = .ok (.ifCond .ne 5, 3) := by decide +kernel
theorem dM_store_10 : decode prog_3_method_12_code 10 = .ok (.iconst 0, 1) := by decide +kernel
theorem dM_store_11 : decode prog_3_method_12_code 11 = .ok (.ireturn, 1) := by decide +kernel
theorem dM_store_12 : decode prog_3_method_12_code 12 = .ok (.iconst 1, 1) := by decide +kernel
theorem dM_store_13 : decode prog_3_method_12_code 13 = .ok (.istore 4, 2) := by decide +kernel
theorem dM_store_15 : decode prog_3_method_12_code 15 = .ok (.iload 4, 2) := by decide +kernel
theorem dM_store_17 : decode prog_3_method_12_code 17 = .ok (.bipush 6, 2) := by decide +kernel
theorem dM_store_19 : decode prog_3_method_12_code 19 = .ok (.if_icmp .ge 80, 3) := by decide +kernel
theorem dM_store_22 : decode prog_3_method_12_code 22 = .ok (.iload 4, 2) := by decide +kernel
theorem dM_store_24 : decode prog_3_method_12_code 24 = .ok (.iload_n 3, 1) := by decide +kernel
theorem dM_store_25 : decode prog_3_method_12_code 25 = .ok (.invokestatic 42, 3) := by decide +kernel
theorem dM_store_28 : decode prog_3_method_12_code 28 = .ok (.if_icmp .lt 16, 3) := by decide +kernel
theorem dM_store_31 : decode prog_3_method_12_code 31 = .ok (.iload 4, 2) := by decide +kernel
theorem dM_store_33 : decode prog_3_method_12_code 33 = .ok (.iload_n 3, 1) := by decide +kernel
theorem dM_store_34 : decode prog_3_method_12_code 34 = .ok (.bipush 8, 2) := by decide +kernel
theorem dM_store_36 : decode prog_3_method_12_code 36 = .ok (.irem, 1) := by decide +kernel
theorem dM_store_37 : decode prog_3_method_12_code 37 = .ok (.if_icmp .gt 7, 3) := by decide +kernel
theorem dM_store_40 : decode prog_3_method_12_code 40 = .ok (.iconst 1, 1) := by decide +kernel
theorem dM_store_41 : decode prog_3_method_12_code 41 = .ok (.goto 4, 3) := by decide +kernel
theorem dM_store_44 : decode prog_3_method_12_code 44 = .ok (.iconst 0, 1) := by decide +kernel
theorem dM_store_45 : decode prog_3_method_12_code 45 = .ok (.istore 5, 2) := by decide +kernel
theorem dM_store_47 : decode prog_3_method_12_code 47 = .ok (.aload_n 0, 1) := by decide +kernel
theorem dM_store_48 : decode prog_3_method_12_code 48 = .ok (.getfield 20, 3) := by decide +kernel
theorem dM_store_51 : decode prog_3_method_12_code 51 = .ok (.iload 4, 2) := by decide +kernel
theorem dM_store_53 : decode prog_3_method_12_code 53 = .ok (.iload 5, 2) := by decide +kernel
theorem dM_store_55 : decode prog_3_method_12_code 55 = .ok (.ifCond .eq 25, 3) := by decide +kernel
theorem dM_store_58 : decode prog_3_method_12_code 58 = .ok (.aload_n 0, 1) := by decide +kernel
theorem dM_store_59 : decode prog_3_method_12_code 59 = .ok (.getfield 13, 3) := by decide +kernel
theorem dM_store_62 : decode prog_3_method_12_code 62 = .ok (.bipush 6, 2) := by decide +kernel
theorem dM_store_64 : decode prog_3_method_12_code 64 = .ok (.iload_n 2, 1) := by decide +kernel
theorem dM_store_65 : decode prog_3_method_12_code 65 = .ok (.imul, 1) := by decide +kernel
theorem dM_store_66 : decode prog_3_method_12_code 66 = .ok (.iload 4, 2) := by decide +kernel
theorem dM_store_68 : decode prog_3_method_12_code 68 = .ok (.iadd, 1) := by decide +kernel
theorem dM_store_69 : decode prog_3_method_12_code 69 = .ok (.iconst 5, 1) := by decide +kernel
theorem dM_store_70 : decode prog_3_method_12_code 70 = .ok (.iadd, 1) := by decide +kernel
theorem dM_store_71 : decode prog_3_method_12_code 71 = .ok (.iload_n 3, 1) := by decide +kernel
theorem dM_store_72 : decode prog_3_method_12_code 72 = .ok (.bipush 8, 2) := by decide +kernel
theorem dM_store_74 : decode prog_3_method_12_code 74 = .ok (.irem, 1) := by decide +kernel
theorem dM_store_75 : decode prog_3_method_12_code 75 = .ok (.isub, 1) := by decide +kernel
theorem dM_store_76 : decode prog_3_method_12_code 76 = .ok (.iaload, 1) := by decide +kernel
theorem dM_store_77 : decode prog_3_method_12_code 77 = .ok (.goto 15, 3) := by decide +kernel
theorem dM_store_80 : decode prog_3_method_12_code 80 = .ok (.aload_n 0, 1) := by decide +kernel
theorem dM_store_81 : decode prog_3_method_12_code 81 = .ok (.getfield 13, 3) := by decide +kernel
theorem dM_store_84 : decode prog_3_method_12_code 84 = .ok (.bipush 6, 2) := by decide +kernel
theorem dM_store_86 : decode prog_3_method_12_code 86 = .ok (.iload_n 1, 1) := by decide +kernel
theorem dM_store_87 : decode prog_3_method_12_code 87 = .ok (.imul, 1) := by decide +kernel
theorem dM_store_88 : decode prog_3_method_12_code 88 = .ok (.iload 4, 2) := by decide +kernel
theorem dM_store_90 : decode prog_3_method_12_code 90 = .ok (.iadd, 1) := by decide +kernel
theorem dM_store_91 : decode prog_3_method_12_code 91 = .ok (.iaload, 1) := by decide +kernel
theorem dM_store_92 : decode prog_3_method_12_code 92 = .ok (.iastore, 1) := by decide +kernel
theorem dM_store_93 : decode prog_3_method_12_code 93 = .ok (.iinc 4 1, 3) := by decide +kernel
theorem dM_store_96 : decode prog_3_method_12_code 96 = .ok (.goto (-81), 3) := by decide +kernel
theorem dM_store_99 : decode prog_3_method_12_code 99 = .ok (.iconst 1, 1) := by decide +kernel
theorem dM_store_100 : decode prog_3_method_12_code 100 = .ok (.istore 4, 2) := by decide +kernel
theorem dM_store_102 : decode prog_3_method_12_code 102 = .ok (.iload 4, 2) := by decide +kernel
theorem dM_store_104 : decode prog_3_method_12_code 104 = .ok (.bipush 6, 2) := by decide +kernel
theorem dM_store_106 : decode prog_3_method_12_code 106 = .ok (.if_icmp .ge 28, 3) := by decide +kernel
theorem dM_store_109 : decode prog_3_method_12_code 109 = .ok (.aload_n 0, 1) := by decide +kernel
theorem dM_store_110 : decode prog_3_method_12_code 110 = .ok (.getfield 13, 3) := by decide +kernel
theorem dM_store_113 : decode prog_3_method_12_code 113 = .ok (.bipush 6, 2) := by decide +kernel
theorem dM_store_115 : decode prog_3_method_12_code 115 = .ok (.iload_n 1, 1) := by decide +kernel
theorem dM_store_116 : decode prog_3_method_12_code 116 = .ok (.imul, 1) := by decide +kernel
theorem dM_store_117 : decode prog_3_method_12_code 117 = .ok (.iload 4, 2) := by decide +kernel
theorem dM_store_119 : decode prog_3_method_12_code 119 = .ok (.iadd, 1) := by decide +kernel
theorem dM_store_120 : decode prog_3_method_12_code 120 = .ok (.aload_n 0, 1) := by decide +kernel
theorem dM_store_121 : decode prog_3_method_12_code 121 = .ok (.getfield 20, 3) := by decide +kernel
theorem dM_store_124 : decode prog_3_method_12_code 124 = .ok (.iload 4, 2) := by decide +kernel
theorem dM_store_126 : decode prog_3_method_12_code 126 = .ok (.iaload, 1) := by decide +kernel
theorem dM_store_127 : decode prog_3_method_12_code 127 = .ok (.iastore, 1) := by decide +kernel
theorem dM_store_128 : decode prog_3_method_12_code 128 = .ok (.iinc 4 1, 3) := by decide +kernel
theorem dM_store_131 : decode prog_3_method_12_code 131 = .ok (.goto (-29), 3) := by decide +kernel
theorem dM_store_134 : decode prog_3_method_12_code 134 = .ok (.aload_n 0, 1) := by decide +kernel
theorem dM_store_135 : decode prog_3_method_12_code 135 = .ok (.getfield 7, 3) := by decide +kernel
theorem dM_store_138 : decode prog_3_method_12_code 138 = .ok (.iload_n 1, 1) := by decide +kernel
theorem dM_store_139 : decode prog_3_method_12_code 139 = .ok (.iload_n 3, 1) := by decide +kernel
theorem dM_store_140 : decode prog_3_method_12_code 140 = .ok (.bipush 8, 2) := by decide +kernel
theorem dM_store_142 : decode prog_3_method_12_code 142 = .ok (.if_icmp .ge 12, 3) := by decide +kernel
theorem dM_store_145 : decode prog_3_method_12_code 145 = .ok (.aload_n 0, 1) := by decide +kernel
theorem dM_store_146 : decode prog_3_method_12_code 146 = .ok (.getfield 7, 3) := by decide +kernel
theorem dM_store_149 : decode prog_3_method_12_code 149 = .ok (.iload_n 2, 1) := by decide +kernel
theorem dM_store_150 : decode prog_3_method_12_code 150 = .ok (.baload, 1) := by decide +kernel
theorem dM_store_151 : decode prog_3_method_12_code 151 = .ok (.goto 9, 3) := by decide +kernel
theorem dM_store_154 : decode prog_3_method_12_code 154 = .ok (.aload_n 0, 1) := by decide +kernel
theorem dM_store_155 : decode prog_3_method_12_code 155 = .ok (.getfield 7, 3) := by decide +kernel
theorem dM_store_158 : decode prog_3_method_12_code 158 = .ok (.iload_n 1, 1) := by decide +kernel
theorem dM_store_159 : decode prog_3_method_12_code 159 = .ok (.baload, 1) := by decide +kernel
theorem dM_store_160 : decode prog_3_method_12_code 160 = .ok (.bastore, 1) := by decide +kernel
theorem dM_store_161 : decode prog_3_method_12_code 161 = .ok (.iconst 1, 1) := by decide +kernel
theorem dM_store_162 : decode prog_3_method_12_code 162 = .ok (.ireturn, 1) := by decide +kernel
theorem dM_code_0 : decode prog_3_method_17_code 0 = .ok (.iload_n 1, 1) := by decide +kernel
theorem dM_code_1 : decode prog_3_method_17_code 1 = .ok (.ifCond .lt 10, 3) := by decide +kernel
theorem dM_code_4 : decode prog_3_method_17_code 4 = .ok (.iload_n 1, 1) := by decide +kernel
theorem dM_code_5 : decode prog_3_method_17_code 5 = .ok (.sipush 255, 3) := by decide +kernel
theorem dM_code_8 : decode prog_3_method_17_code 8 = .ok (.if_icmp .le 5, 3) := by decide +kernel
theorem dM_code_11 : decode prog_3_method_17_code 11 = .ok (.iconst (-1), 1) := by decide +kernel
theorem dM_code_12 : decode prog_3_method_17_code 12 = .ok (.ireturn, 1) := by decide +kernel
theorem dM_code_13 : decode prog_3_method_17_code 13 = .ok (.iload_n 1, 1) := by decide +kernel
theorem dM_code_14 : decode prog_3_method_17_code 14 = .ok (.bipush 97, 2) := by decide +kernel
theorem dM_code_16 : decode prog_3_method_17_code 16 = .ok (.if_icmp .lt 16, 3) := by decide +kernel
theorem dM_code_19 : decode prog_3_method_17_code 19 = .ok (.iload_n 1, 1) := by decide +kernel
theorem dM_code_20 : decode prog_3_method_17_code 20 = .ok (.bipush 122, 2) := by decide +kernel
theorem dM_code_22 : decode prog_3_method_17_code 22 = .ok (.if_icmp .gt 10, 3) := by decide +kernel
theorem dM_code_25 : decode prog_3_method_17_code 25 = .ok (.iload_n 1, 1) := by decide +kernel
theorem dM_code_26 : decode prog_3_method_17_code 26 = .ok (.bipush 32, 2) := by decide +kernel
theorem dM_code_28 : decode prog_3_method_17_code 28 = .ok (.isub, 1) := by decide +kernel
theorem dM_code_29 : decode prog_3_method_17_code 29 = .ok (.goto 4, 3) := by decide +kernel
theorem dM_code_32 : decode prog_3_method_17_code 32 = .ok (.iload_n 1, 1) := by decide +kernel
theorem dM_code_33 : decode prog_3_method_17_code 33 = .ok (.istore_n 2, 1) := by decide +kernel
theorem dM_code_34 : decode prog_3_method_17_code 34 = .ok (.iconst 0, 1) := by decide +kernel
theorem dM_code_35 : decode prog_3_method_17_code 35 = .ok (.istore_n 3, 1) := by decide +kernel
theorem dM_code_36 : decode prog_3_method_17_code 36 = .ok (.iconst 0, 1) := by decide +kernel
theorem dM_code_37 : decode prog_3_method_17_code 37 = .ok (.istore 4, 2) := by decide +kernel
theorem dM_code_39 : decode prog_3_method_17_code 39 = .ok (.iload 4, 2) := by decide +kernel
theorem dM_code_41 : decode prog_3_method_17_code 41 = .ok (.bipush 56, 2) := by decide +kernel
theorem dM_code_43 : decode prog_3_method_17_code 43 = .ok (.if_icmp .ge 27, 3) := by decide +kernel
theorem dM_code_46 : decode prog_3_method_17_code 46 = .ok (.aload_n 0, 1) := by decide +kernel
theorem dM_code_47 : decode prog_3_method_17_code 47 = .ok (.getfield 17, 3) := by decide +kernel
theorem dM_code_50 : decode prog_3_method_17_code 50 = .ok (.iload 4, 2) := by decide +kernel
theorem dM_code_52 : decode prog_3_method_17_code 52 = .ok (.iaload, 1) := by decide +kernel
theorem dM_code_53 : decode prog_3_method_17_code 53 = .ok (.iload_n 2, 1) := by decide +kernel
theorem dM_code_54 : decode prog_3_method_17_code 54 = .ok (.if_icmp .ne 8, 3) := by decide +kernel
theorem dM_code_57 : decode prog_3_method_17_code 57 = .ok (.iload 4, 2) := by decide +kernel
theorem dM_code_59 : decode prog_3_method_17_code 59 = .ok (.goto 4, 3) := by decide +kernel
theorem dM_code_62 : decode prog_3_method_17_code 62 = .ok (.iload_n 3, 1) := by decide +kernel
theorem dM_code_63 : decode prog_3_method_17_code 63 = .ok (.istore_n 3, 1) := by decide +kernel
theorem dM_code_64 : decode prog_3_method_17_code 64 = .ok (.iinc 4 1, 3) := by decide +kernel
theorem dM_code_67 : decode prog_3_method_17_code 67 = .ok (.goto (-28), 3) := by decide +kernel
theorem dM_code_70 : decode prog_3_method_17_code 70 = .ok (.iload_n 3, 1) := by decide +kernel
theorem dM_code_71 : decode prog_3_method_17_code 71 = .ok (.ireturn, 1) := by decide +kernel
theorem dM_init_0 : decode prog_3_method_1_code 0 = .ok (.aload_n 0, 1) := by decide +kernel
theorem dM_init_1 : decode prog_3_method_1_code 1 = .ok (.invokespecial 1, 3) := by decide +kernel
theorem dM_init_4 : decode prog_3_method_1_code 4 = .ok (.aload_n 0, 1) := by decide +kernel
theorem dM_init_5 : decode prog_3_method_1_code 5 = .ok (.bipush 16, 2) := by decide +kernel
theorem dM_init_7 : decode prog_3_method_1_code 7 = .ok (.newarray .boolean, 2) := by decide +kernel
theorem dM_init_9 : decode prog_3_method_1_code 9 = .ok (.putfield 7, 3) := by decide +kernel
theorem dM_init_12 : decode prog_3_method_1_code 12 = .ok (.aload_n 0, 1) := by decide +kernel
theorem dM_init_13 : decode prog_3_method_1_code 13 = .ok (.bipush 96, 2) := by decide +kernel
theorem dM_init_15 : decode prog_3_method_1_code 15 = .ok (.newarray .int, 2) := by decide +kernel
theorem dM_init_17 : decode prog_3_method_1_code 17 = .ok (.putfield 13, 3) := by decide +kernel
theorem dM_init_20 : decode prog_3_method_1_code 20 = .ok (.aload_n 0, 1) := by decide +kernel
theorem dM_init_21 : decode prog_3_method_1_code 21 = .ok (.bipush 56, 2) := by decide +kernel
theorem dM_init_23 : decode prog_3_method_1_code 23 = .ok (.newarray .int, 2) := by decide +kernel
theorem dM_init_25 : decode prog_3_method_1_code 25 = .ok (.dup, 1) := by decide +kernel
theorem dM_init_26 : decode prog_3_method_1_code 26 = .ok (.iconst 0, 1) := by decide +kernel
theorem dM_init_27 : decode prog_3_method_1_code 27 = .ok (.bipush 32, 2) := by decide +kernel
theorem dM_init_29 : decode prog_3_method_1_code 29 = .ok (.iastore, 1) := by decide +kernel
theorem dM_init_30 : decode prog_3_method_1_code 30 = .ok (.dup, 1) := by decide +kernel
theorem dM_init_31 : decode prog_3_method_1_code 31 = .ok (.iconst 1, 1) := by decide +kernel
theorem dM_init_32 : decode prog_3_method_1_code 32 = .ok (.bipush 65, 2) := by decide +kernel
theorem dM_init_34 : decode prog_3_method_1_code 34 = .ok (.iastore, 1) := by decide +kernel
theorem dM_init_35 : decode prog_3_method_1_code 35 = .ok (.dup, 1) := by decide +kernel
theorem dM_init_36 : decode prog_3_method_1_code 36 = .ok (.iconst 2, 1) := by decide +kernel
theorem dM_init_37 : decode prog_3_method_1_code 37 = .ok (.bipush 66, 2) := by decide +kernel
theorem dM_init_39 : decode prog_3_method_1_code 39 = .ok (.iastore, 1) := by decide +kernel
theorem dM_init_40 : decode prog_3_method_1_code 40 = .ok (.dup, 1) := by decide +kernel
theorem dM_init_41 : decode prog_3_method_1_code 41 = .ok (.iconst 3, 1) := by decide +kernel
theorem dM_init_42 : decode prog_3_method_1_code 42 = .ok (.bipush 67, 2) := by decide +kernel
theorem dM_init_44 : decode prog_3_method_1_code 44 = .ok (.iastore, 1) := by decide +kernel
theorem dM_init_45 : decode prog_3_method_1_code 45 = .ok (.dup, 1) := by decide +kernel
theorem dM_init_46 : decode prog_3_method_1_code 46 = .ok (.iconst 4, 1) := by decide +kernel
theorem dM_init_47 : decode prog_3_method_1_code 47 = .ok (.bipush 68, 2) := by decide +kernel
theorem dM_init_49 : decode prog_3_method_1_code 49 = .ok (.iastore, 1) := by decide +kernel
theorem dM_init_50 : decode prog_3_method_1_code 50 = .ok (.dup, 1) := by decide +kernel
theorem dM_init_51 : decode prog_3_method_1_code 51 = .ok (.iconst 5, 1) := by decide +kernel
theorem dM_init_52 : decode prog_3_method_1_code 52 = .ok (.bipush 69, 2) := by decide +kernel
theorem dM_init_54 : decode prog_3_method_1_code 54 = .ok (.iastore, 1) := by decide +kernel
theorem dM_init_55 : decode prog_3_method_1_code 55 = .ok (.dup, 1) := by decide +kernel
theorem dM_init_56 : decode prog_3_method_1_code 56 = .ok (.bipush 6, 2) := by decide +kernel
theorem dM_init_58 : decode prog_3_method_1_code 58 = .ok (.bipush 70, 2) := by decide +kernel
theorem dM_init_60 : decode prog_3_method_1_code 60 = .ok (.iastore, 1) := by decide +kernel
theorem dM_init_61 : decode prog_3_method_1_code 61 = .ok (.dup, 1) := by decide +kernel
theorem dM_init_62 : decode prog_3_method_1_code 62 = .ok (.bipush 7, 2) := by decide +kernel
theorem dM_init_64 : decode prog_3_method_1_code 64 = .ok (.bipush 71, 2) := by decide +kernel
theorem dM_init_66 : decode prog_3_method_1_code 66 = .ok (.iastore, 1) := by decide +kernel
theorem dM_init_67 : decode prog_3_method_1_code 67 = .ok (.dup, 1) := by decide +kernel
theorem dM_init_68 : decode prog_3_method_1_code 68 = .ok (.bipush 8, 2) := by decide +kernel
theorem dM_init_70 : decode prog_3_method_1_code 70 = .ok (.bipush 72, 2) := by decide +kernel
theorem dM_init_72 : decode prog_3_method_1_code 72 = .ok (.iastore, 1) := by decide +kernel
theorem dM_init_73 : decode prog_3_method_1_code 73 = .ok (.dup, 1) := by decide +kernel
theorem dM_init_74 : decode prog_3_method_1_code 74 = .ok (.bipush 9, 2) := by decide +kernel
theorem dM_init_76 : decode prog_3_method_1_code 76 = .ok (.bipush 73, 2) := by decide +kernel
theorem dM_init_78 : decode prog_3_method_1_code 78 = .ok (.iastore, 1) := by decide +kernel
theorem dM_init_79 : decode prog_3_method_1_code 79 = .ok (.dup, 1) := by decide +kernel
theorem dM_init_80 : decode prog_3_method_1_code 80 = .ok (.bipush 10, 2) := by decide +kernel
theorem dM_init_82 : decode prog_3_method_1_code 82 = .ok (.bipush 126, 2) := by decide +kernel
theorem dM_init_84 : decode prog_3_method_1_code 84 = .ok (.iastore, 1) := by decide +kernel
theorem dM_init_85 : decode prog_3_method_1_code 85 = .ok (.dup, 1) := by decide +kernel
theorem dM_init_86 : decode prog_3_method_1_code 86 = .ok (.bipush 11, 2) := by decide +kernel
theorem dM_init_88 : decode prog_3_method_1_code 88 = .ok (.bipush 74, 2) := by decide +kernel
theorem dM_init_90 : decode prog_3_method_1_code 90 = .ok (.iastore, 1) := by decide +kernel
theorem dM_init_91 : decode prog_3_method_1_code 91 = .ok (.dup, 1) := by decide +kernel
theorem dM_init_92 : decode prog_3_method_1_code 92 = .ok (.bipush 12, 2) := by decide +kernel
theorem dM_init_94 : decode prog_3_method_1_code 94 = .ok (.bipush 75, 2) := by decide +kernel
theorem dM_init_96 : decode prog_3_method_1_code 96 = .ok (.iastore, 1) := by decide +kernel
theorem dM_init_97 : decode prog_3_method_1_code 97 = .ok (.dup, 1) := by decide +kernel
theorem dM_init_98 : decode prog_3_method_1_code 98 = .ok (.bipush 13, 2) := by decide +kernel
theorem dM_init_100 : decode prog_3_method_1_code 100 = .ok (.bipush 76, 2) := by decide +kernel
theorem dM_init_102 : decode prog_3_method_1_code 102 = .ok (.iastore, 1) := by decide +kernel
theorem dM_init_103 : decode prog_3_method_1_code 103 = .ok (.dup, 1) := by decide +kernel
theorem dM_init_104 : decode prog_3_method_1_code 104 = .ok (.bipush 14, 2) := by decide +kernel
theorem dM_init_106 : decode prog_3_method_1_code 106 = .ok (.bipush 77, 2) := by decide +kernel
theorem dM_init_108 : decode prog_3_method_1_code 108 = .ok (.iastore, 1) := by decide +kernel
theorem dM_init_109 : decode prog_3_method_1_code 109 = .ok (.dup, 1) := by decide +kernel
theorem dM_init_110 : decode prog_3_method_1_code 110 = .ok (.bipush 15, 2) := by decide +kernel
theorem dM_init_112 : decode prog_3_method_1_code 112 = .ok (.bipush 78, 2) := by decide +kernel
theorem dM_init_114 : decode prog_3_method_1_code 114 = .ok (.iastore, 1) := by decide +kernel
theorem dM_init_115 : decode prog_3_method_1_code 115 = .ok (.dup, 1) := by decide +kernel
theorem dM_init_116 : decode prog_3_method_1_code 116 = .ok (.bipush 16, 2) := by decide +kernel
theorem dM_init_118 : decode prog_3_method_1_code 118 = .ok (.bipush 79, 2) := by decide +kernel
theorem dM_init_120 : decode prog_3_method_1_code 120 = .ok (.iastore, 1) := by decide +kernel
theorem dM_init_121 : decode prog_3_method_1_code 121 = .ok (.dup, 1) := by decide +kernel
theorem dM_init_122 : decode prog_3_method_1_code 122 = .ok (.bipush 17, 2) := by decide +kernel
theorem dM_init_124 : decode prog_3_method_1_code 124 = .ok (.bipush 80, 2) := by decide +kernel
theorem dM_init_126 : decode prog_3_method_1_code 126 = .ok (.iastore, 1) := by decide +kernel
theorem dM_init_127 : decode prog_3_method_1_code 127 = .ok (.dup, 1) := by decide +kernel
theorem dM_init_128 : decode prog_3_method_1_code 128 = .ok (.bipush 18, 2) := by decide +kernel
theorem dM_init_130 : decode prog_3_method_1_code 130 = .ok (.bipush 81, 2) := by decide +kernel
theorem dM_init_132 : decode prog_3_method_1_code 132 = .ok (.iastore, 1) := by decide +kernel
theorem dM_init_133 : decode prog_3_method_1_code 133 = .ok (.dup, 1) := by decide +kernel
theorem dM_init_134 : decode prog_3_method_1_code 134 = .ok (.bipush 19, 2) := by decide +kernel
theorem dM_init_136 : decode prog_3_method_1_code 136 = .ok (.bipush 82, 2) := by decide +kernel
theorem dM_init_138 : decode prog_3_method_1_code 138 = .ok (.iastore, 1) := by decide +kernel
theorem dM_init_139 : decode prog_3_method_1_code 139 = .ok (.dup, 1) := by decide +kernel
theorem dM_init_140 : decode prog_3_method_1_code 140 = .ok (.bipush 20, 2) := by decide +kernel
theorem dM_init_142 : decode prog_3_method_1_code 142 = .ok (.bipush 91, 2) := by decide +kernel
theorem dM_init_144 : decode prog_3_method_1_code 144 = .ok (.iastore, 1) := by decide +kernel
theorem dM_init_145 : decode prog_3_method_1_code 145 = .ok (.dup, 1) := by decide +kernel
theorem dM_init_146 : decode prog_3_method_1_code 146 = .ok (.bipush 21, 2) := by decide +kernel
theorem dM_init_148 : decode prog_3_method_1_code 148 = .ok (.bipush 35, 2) := by decide +kernel
theorem dM_init_150 : decode prog_3_method_1_code 150 = .ok (.iastore, 1) := by decide +kernel
theorem dM_init_151 : decode prog_3_method_1_code 151 = .ok (.dup, 1) := by decide +kernel
theorem dM_init_152 : decode prog_3_method_1_code 152 = .ok (.bipush 22, 2) := by decide +kernel
theorem dM_init_154 : decode prog_3_method_1_code 154 = .ok (.bipush 83, 2) := by decide +kernel
theorem dM_init_156 : decode prog_3_method_1_code 156 = .ok (.iastore, 1) := by decide +kernel
theorem dM_init_157 : decode prog_3_method_1_code 157 = .ok (.dup, 1) := by decide +kernel
theorem dM_init_158 : decode prog_3_method_1_code 158 = .ok (.bipush 23, 2) := by decide +kernel
theorem dM_init_160 : decode prog_3_method_1_code 160 = .ok (.bipush 84, 2) := by decide +kernel
theorem dM_init_162 : decode prog_3_method_1_code 162 = .ok (.iastore, 1) := by decide +kernel
theorem dM_init_163 : decode prog_3_method_1_code 163 = .ok (.dup, 1) := by decide +kernel
theorem dM_init_164 : decode prog_3_method_1_code 164 = .ok (.bipush 24, 2) := by decide +kernel
theorem dM_init_166 : decode prog_3_method_1_code 166 = .ok (.bipush 85, 2) := by decide +kernel
theorem dM_init_168 : decode prog_3_method_1_code 168 = .ok (.iastore, 1) := by decide +kernel
theorem dM_init_169 : decode prog_3_method_1_code 169 = .ok (.dup, 1) := by decide +kernel
theorem dM_init_170 : decode prog_3_method_1_code 170 = .ok (.bipush 25, 2) := by decide +kernel
theorem dM_init_172 : decode prog_3_method_1_code 172 = .ok (.bipush 86, 2) := by decide +kernel
theorem dM_init_174 : decode prog_3_method_1_code 174 = .ok (.iastore, 1) := by decide +kernel
theorem dM_init_175 : decode prog_3_method_1_code 175 = .ok (.dup, 1) := by decide +kernel
theorem dM_init_176 : decode prog_3_method_1_code 176 = .ok (.bipush 26, 2) := by decide +kernel
theorem dM_init_178 : decode prog_3_method_1_code 178 = .ok (.bipush 87, 2) := by decide +kernel
theorem dM_init_180 : decode prog_3_method_1_code 180 = .ok (.iastore, 1) := by decide +kernel
theorem dM_init_181 : decode prog_3_method_1_code 181 = .ok (.dup, 1) := by decide +kernel
theorem dM_init_182 : decode prog_3_method_1_code 182 = .ok (.bipush 27, 2) := by decide +kernel
theorem dM_init_184 : decode prog_3_method_1_code 184 = .ok (.bipush 88, 2) := by decide +kernel
theorem dM_init_186 : decode prog_3_method_1_code 186 = .ok (.iastore, 1) := by decide +kernel
theorem dM_init_187 : decode prog_3_method_1_code 187 = .ok (.dup, 1) := by decide +kernel
theorem dM_init_188 : decode prog_3_method_1_code 188 = .ok (.bipush 28, 2) := by decide +kernel
theorem dM_init_190 : decode prog_3_method_1_code 190 = .ok (.bipush 89, 2) := by decide +kernel
theorem dM_init_192 : decode prog_3_method_1_code 192 = .ok (.iastore, 1) := by decide +kernel
theorem dM_init_193 : decode prog_3_method_1_code 193 = .ok (.dup, 1) := by decide +kernel
theorem dM_init_194 : decode prog_3_method_1_code 194 = .ok (.bipush 29, 2) := by decide +kernel
theorem dM_init_196 : decode prog_3_method_1_code 196 = .ok (.bipush 90, 2) := by decide +kernel
theorem dM_init_198 : decode prog_3_method_1_code 198 = .ok (.iastore, 1) := by decide +kernel
theorem dM_init_199 : decode prog_3_method_1_code 199 = .ok (.dup, 1) := by decide +kernel
theorem dM_init_200 : decode prog_3_method_1_code 200 = .ok (.bipush 30, 2) := by decide +kernel
theorem dM_init_202 : decode prog_3_method_1_code 202 = .ok (.bipush 48, 2) := by decide +kernel
theorem dM_init_204 : decode prog_3_method_1_code 204 = .ok (.iastore, 1) := by decide +kernel
theorem dM_init_205 : decode prog_3_method_1_code 205 = .ok (.dup, 1) := by decide +kernel
theorem dM_init_206 : decode prog_3_method_1_code 206 = .ok (.bipush 31, 2) := by decide +kernel
theorem dM_init_208 : decode prog_3_method_1_code 208 = .ok (.bipush 49, 2) := by decide +kernel
theorem dM_init_210 : decode prog_3_method_1_code 210 = .ok (.iastore, 1) := by decide +kernel
theorem dM_init_211 : decode prog_3_method_1_code 211 = .ok (.dup, 1) := by decide +kernel
theorem dM_init_212 : decode prog_3_method_1_code 212 = .ok (.bipush 32, 2) := by decide +kernel
theorem dM_init_214 : decode prog_3_method_1_code 214 = .ok (.bipush 50, 2) := by decide +kernel
theorem dM_init_216 : decode prog_3_method_1_code 216 = .ok (.iastore, 1) := by decide +kernel
theorem dM_init_217 : decode prog_3_method_1_code 217 = .ok (.dup, 1) := by decide +kernel
theorem dM_init_218 : decode prog_3_method_1_code 218 = .ok (.bipush 33, 2) := by decide +kernel
theorem dM_init_220 : decode prog_3_method_1_code 220 = .ok (.bipush 51, 2) := by decide +kernel
theorem dM_init_222 : decode prog_3_method_1_code 222 = .ok (.iastore, 1) := by decide +kernel
theorem dM_init_223 : decode prog_3_method_1_code 223 = .ok (.dup, 1) := by decide +kernel
theorem dM_init_224 : decode prog_3_method_1_code 224 = .ok (.bipush 34, 2) := by decide +kernel
theorem dM_init_226 : decode prog_3_method_1_code 226 = .ok (.bipush 52, 2) := by decide +kernel
theorem dM_init_228 : decode prog_3_method_1_code 228 = .ok (.iastore, 1) := by decide +kernel
theorem dM_init_229 : decode prog_3_method_1_code 229 = .ok (.dup, 1) := by decide +kernel
theorem dM_init_230 : decode prog_3_method_1_code 230 = .ok (.bipush 35, 2) := by decide +kernel
theorem dM_init_232 : decode prog_3_method_1_code 232 = .ok (.bipush 53, 2) := by decide +kernel
theorem dM_init_234 : decode prog_3_method_1_code 234 = .ok (.iastore, 1) := by decide +kernel
theorem dM_init_235 : decode prog_3_method_1_code 235 = .ok (.dup, 1) := by decide +kernel
theorem dM_init_236 : decode prog_3_method_1_code 236 = .ok (.bipush 36, 2) := by decide +kernel
theorem dM_init_238 : decode prog_3_method_1_code 238 = .ok (.bipush 54, 2) := by decide +kernel
theorem dM_init_240 : decode prog_3_method_1_code 240 = .ok (.iastore, 1) := by decide +kernel
theorem dM_init_241 : decode prog_3_method_1_code 241 = .ok (.dup, 1) := by decide +kernel
theorem dM_init_242 : decode prog_3_method_1_code 242 = .ok (.bipush 37, 2) := by decide +kernel
theorem dM_init_244 : decode prog_3_method_1_code 244 = .ok (.bipush 55, 2) := by decide +kernel
theorem dM_init_246 : decode prog_3_method_1_code 246 = .ok (.iastore, 1) := by decide +kernel
theorem dM_init_247 : decode prog_3_method_1_code 247 = .ok (.dup, 1) := by decide +kernel
theorem dM_init_248 : decode prog_3_method_1_code 248 = .ok (.bipush 38, 2) := by decide +kernel
theorem dM_init_250 : decode prog_3_method_1_code 250 = .ok (.bipush 56, 2) := by decide +kernel
theorem dM_init_252 : decode prog_3_method_1_code 252 = .ok (.iastore, 1) := by decide +kernel
theorem dM_init_253 : decode prog_3_method_1_code 253 = .ok (.dup, 1) := by decide +kernel
theorem dM_init_254 : decode prog_3_method_1_code 254 = .ok (.bipush 39, 2) := by decide +kernel
theorem dM_init_256 : decode prog_3_method_1_code 256 = .ok (.bipush 57, 2) := by decide +kernel
theorem dM_init_258 : decode prog_3_method_1_code 258 = .ok (.iastore, 1) := by decide +kernel
theorem dM_init_259 : decode prog_3_method_1_code 259 = .ok (.dup, 1) := by decide +kernel
theorem dM_init_260 : decode prog_3_method_1_code 260 = .ok (.bipush 40, 2) := by decide +kernel
theorem dM_init_262 : decode prog_3_method_1_code 262 = .ok (.bipush 46, 2) := by decide +kernel
theorem dM_init_264 : decode prog_3_method_1_code 264 = .ok (.iastore, 1) := by decide +kernel
theorem dM_init_265 : decode prog_3_method_1_code 265 = .ok (.dup, 1) := by decide +kernel
theorem dM_init_266 : decode prog_3_method_1_code 266 = .ok (.bipush 41, 2) := by decide +kernel
theorem dM_init_268 : decode prog_3_method_1_code 268 = .ok (.bipush 44, 2) := by decide +kernel
theorem dM_init_270 : decode prog_3_method_1_code 270 = .ok (.iastore, 1) := by decide +kernel
theorem dM_init_271 : decode prog_3_method_1_code 271 = .ok (.dup, 1) := by decide +kernel
theorem dM_init_272 : decode prog_3_method_1_code 272 = .ok (.bipush 42, 2) := by decide +kernel
theorem dM_init_274 : decode prog_3_method_1_code 274 = .ok (.bipush 40, 2) := by decide +kernel
theorem dM_init_276 : decode prog_3_method_1_code 276 = .ok (.iastore, 1) := by decide +kernel
theorem dM_init_277 : decode prog_3_method_1_code 277 = .ok (.dup, 1) := by decide +kernel
theorem dM_init_278 : decode prog_3_method_1_code 278 = .ok (.bipush 43, 2) := by decide +kernel
theorem dM_init_280 : decode prog_3_method_1_code 280 = .ok (.bipush 41, 2) := by decide +kernel
theorem dM_init_282 : decode prog_3_method_1_code 282 = .ok (.iastore, 1) := by decide +kernel
theorem dM_init_283 : decode prog_3_method_1_code 283 = .ok (.dup, 1) := by decide +kernel
theorem dM_init_284 : decode prog_3_method_1_code 284 = .ok (.bipush 44, 2) := by decide +kernel
theorem dM_init_286 : decode prog_3_method_1_code 286 = .ok (.bipush 43, 2) := by decide +kernel
theorem dM_init_288 : decode prog_3_method_1_code 288 = .ok (.iastore, 1) := by decide +kernel
theorem dM_init_289 : decode prog_3_method_1_code 289 = .ok (.dup, 1) := by decide +kernel
theorem dM_init_290 : decode prog_3_method_1_code 290 = .ok (.bipush 45, 2) := by decide +kernel
theorem dM_init_292 : decode prog_3_method_1_code 292 = .ok (.bipush 45, 2) := by decide +kernel
theorem dM_init_294 : decode prog_3_method_1_code 294 = .ok (.iastore, 1) := by decide +kernel
theorem dM_init_295 : decode prog_3_method_1_code 295 = .ok (.dup, 1) := by decide +kernel
theorem dM_init_296 : decode prog_3_method_1_code 296 = .ok (.bipush 46, 2) := by decide +kernel
theorem dM_init_298 : decode prog_3_method_1_code 298 = .ok (.bipush 42, 2) := by decide +kernel
theorem dM_init_300 : decode prog_3_method_1_code 300 = .ok (.iastore, 1) := by decide +kernel
theorem dM_init_301 : decode prog_3_method_1_code 301 = .ok (.dup, 1) := by decide +kernel
theorem dM_init_302 : decode prog_3_method_1_code 302 = .ok (.bipush 47, 2) := by decide +kernel
theorem dM_init_304 : decode prog_3_method_1_code 304 = .ok (.bipush 47, 2) := by decide +kernel
theorem dM_init_306 : decode prog_3_method_1_code 306 = .ok (.iastore, 1) := by decide +kernel
theorem dM_init_307 : decode prog_3_method_1_code 307 = .ok (.dup, 1) := by decide +kernel
theorem dM_init_308 : decode prog_3_method_1_code 308 = .ok (.bipush 48, 2) := by decide +kernel
theorem dM_init_310 : decode prog_3_method_1_code 310 = .ok (.bipush 61, 2) := by decide +kernel
theorem dM_init_312 : decode prog_3_method_1_code 312 = .ok (.iastore, 1) := by decide +kernel
theorem dM_init_313 : decode prog_3_method_1_code 313 = .ok (.dup, 1) := by decide +kernel
theorem dM_init_314 : decode prog_3_method_1_code 314 = .ok (.bipush 49, 2) := by decide +kernel
theorem dM_init_316 : decode prog_3_method_1_code 316 = .ok (.bipush 36, 2) := by decide +kernel
theorem dM_init_318 : decode prog_3_method_1_code 318 = .ok (.iastore, 1) := by decide +kernel
theorem dM_init_319 : decode prog_3_method_1_code 319 = .ok (.dup, 1) := by decide +kernel
theorem dM_init_320 : decode prog_3_method_1_code 320 = .ok (.bipush 50, 2) := by decide +kernel
theorem dM_init_322 : decode prog_3_method_1_code 322 = .ok (.bipush 60, 2) := by decide +kernel
theorem dM_init_324 : decode prog_3_method_1_code 324 = .ok (.iastore, 1) := by decide +kernel
theorem dM_init_325 : decode prog_3_method_1_code 325 = .ok (.dup, 1) := by decide +kernel
theorem dM_init_326 : decode prog_3_method_1_code 326 = .ok (.bipush 51, 2) := by decide +kernel
theorem dM_init_328 : decode prog_3_method_1_code 328 = .ok (.bipush 62, 2) := by decide +kernel
theorem dM_init_330 : decode prog_3_method_1_code 330 = .ok (.iastore, 1) := by decide +kernel
theorem dM_init_331 : decode prog_3_method_1_code 331 = .ok (.dup, 1) := by decide +kernel
theorem dM_init_332 : decode prog_3_method_1_code 332 = .ok (.bipush 52, 2) := by decide +kernel
theorem dM_init_334 : decode prog_3_method_1_code 334 = .ok (.bipush 64, 2) := by decide +kernel
theorem dM_init_336 : decode prog_3_method_1_code 336 = .ok (.iastore, 1) := by decide +kernel
theorem dM_init_337 : decode prog_3_method_1_code 337 = .ok (.dup, 1) := by decide +kernel
theorem dM_init_338 : decode prog_3_method_1_code 338 = .ok (.bipush 53, 2) := by decide +kernel
theorem dM_init_340 : decode prog_3_method_1_code 340 = .ok (.bipush 59, 2) := by decide +kernel
theorem dM_init_342 : decode prog_3_method_1_code 342 = .ok (.iastore, 1) := by decide +kernel
theorem dM_init_343 : decode prog_3_method_1_code 343 = .ok (.dup, 1) := by decide +kernel
theorem dM_init_344 : decode prog_3_method_1_code 344 = .ok (.bipush 54, 2) := by decide +kernel
theorem dM_init_346 : decode prog_3_method_1_code 346 = .ok (.bipush 58, 2) := by decide +kernel
theorem dM_init_348 : decode prog_3_method_1_code 348 = .ok (.iastore, 1) := by decide +kernel
theorem dM_init_349 : decode prog_3_method_1_code 349 = .ok (.dup, 1) := by decide +kernel
theorem dM_init_350 : decode prog_3_method_1_code 350 = .ok (.bipush 55, 2) := by decide +kernel
theorem dM_init_352 : decode prog_3_method_1_code 352 = .ok (.bipush 39, 2) := by decide +kernel
theorem dM_init_354 : decode prog_3_method_1_code 354 = .ok (.iastore, 1) := by decide +kernel
theorem dM_init_355 : decode prog_3_method_1_code 355 = .ok (.putfield 17, 3) := by decide +kernel
theorem dM_init_358 : decode prog_3_method_1_code 358 = .ok (.aload_n 0, 1) := by decide +kernel
theorem dM_init_359 : decode prog_3_method_1_code 359 = .ok (.bipush 6, 2) := by decide +kernel
theorem dM_init_361 : decode prog_3_method_1_code 361 = .ok (.newarray .int, 2) := by decide +kernel
theorem dM_init_363 : decode prog_3_method_1_code 363 = .ok (.putfield 20, 3) := by decide +kernel
theorem dM_init_366 : decode prog_3_method_1_code 366 = .ok (.return_, 1) := by decide +kernel
end
section
theorem dL_law_0 : decode code 0 = .ok (.new 7, 3) := by decide +kernel
theorem dL_law_3 : decode code 3 = .ok (.dup, 1) := by decide +kernel
theorem dL_law_4 : decode code 4 = .ok (.invokespecial 9, 3) := by decide +kernel
theorem dL_law_7 : decode code 7 = .ok (.astore_n 1, 1) := by decide +kernel
theorem dL_law_8 : decode code 8 = .ok (.new 10, 3) := by decide +kernel
theorem dL_law_11 : decode code 11 = .ok (.dup, 1) := by decide +kernel
theorem dL_law_12 : decode code 12 = .ok (.invokespecial 12, 3) := by decide +kernel
theorem dL_law_15 : decode code 15 = .ok (.astore_n 2, 1) := by decide +kernel
theorem dL_law_16 : decode code 16 = .ok (.iconst 0, 1) := by decide +kernel
theorem dL_law_17 : decode code 17 = .ok (.istore_n 3, 1) := by decide +kernel
theorem dL_law_18 : decode code 18 = .ok (.iload_n 3, 1) := by decide +kernel
theorem dL_law_19 : decode code 19 = .ok (.aload_n 0, 1) := by decide +kernel
theorem dL_law_20 : decode code 20 = .ok (.arraylength, 1) := by decide +kernel
theorem dL_law_21 : decode code 21 = .ok (.iconst 4, 1) := by decide +kernel
theorem dL_law_22 : decode code 22 = .ok (.isub, 1) := by decide +kernel
theorem dL_law_23 : decode code 23 = .ok (.if_icmp .gt 407, 3) := by decide +kernel
theorem dL_law_26 : decode code 26 = .ok (.aload_n 0, 1) := by decide +kernel
theorem dL_law_27 : decode code 27 = .ok (.iload_n 3, 1) := by decide +kernel
theorem dL_law_28 : decode code 28 = .ok (.iaload, 1) := by decide +kernel
theorem dL_law_29 : decode code 29 = .ok (.bipush 15, 2) := by decide +kernel
theorem dL_law_31 : decode code 31 = .ok (.iand, 1) := by decide +kernel
theorem dL_law_32 : decode code 32 = .ok (.tableswitch 392 0 9 #[56, 115, 138, 171, 214, 257, 280, 323, 346, 369], 56) := by decide +kernel
theorem dL_law_88 : decode code 88 = .ok (.aload_n 1, 1) := by decide +kernel
theorem dL_law_89 : decode code 89 = .ok (.aload_n 0, 1) := by decide +kernel
theorem dL_law_90 : decode code 90 = .ok (.iload_n 3, 1) := by decide +kernel
theorem dL_law_91 : decode code 91 = .ok (.iconst 1, 1) := by decide +kernel
theorem dL_law_92 : decode code 92 = .ok (.iadd, 1) := by decide +kernel
theorem dL_law_93 : decode code 93 = .ok (.iaload, 1) := by decide +kernel
theorem dL_law_94 : decode code 94 = .ok (.aload_n 0, 1) := by decide +kernel
theorem dL_law_95 : decode code 95 = .ok (.iload_n 3, 1) := by decide +kernel
theorem dL_law_96 : decode code 96 = .ok (.iconst 2, 1) := by decide +kernel
theorem dL_law_97 : decode code 97 = .ok (.iadd, 1) := by decide +kernel
theorem dL_law_98 : decode code 98 = .ok (.iaload, 1) := by decide +kernel
theorem dL_law_99 : decode code 99 = .ok (.aload_n 0, 1) := by decide +kernel
theorem dL_law_100 : decode code 100 = .ok (.iload_n 3, 1) := by decide +kernel
theorem dL_law_101 : decode code 101 = .ok (.iconst 3, 1) := by decide +kernel
theorem dL_law_102 : decode code 102 = .ok (.iadd, 1) := by decide +kernel
theorem dL_law_103 : decode code 103 = .ok (.iaload, 1) := by decide +kernel
theorem dL_law_104 : decode code 104 = .ok (.ifCond .eq 7, 3) := by decide +kernel
theorem dL_law_107 : decode code 107 = .ok (.iconst 1, 1) := by decide +kernel
theorem dL_law_108 : decode code 108 = .ok (.goto 4, 3) := by decide +kernel
theorem dL_law_111 : decode code 111 = .ok (.iconst 0, 1) := by decide +kernel
theorem dL_law_112 : decode code 112 = .ok (.invokevirtual 13, 3) := by decide +kernel
theorem dL_law_115 : decode code 115 = .ok (.aload_n 2, 1) := by decide +kernel
theorem dL_law_116 : decode code 116 = .ok (.aload_n 0, 1) := by decide +kernel
theorem dL_law_117 : decode code 117 = .ok (.iload_n 3, 1) := by decide +kernel
theorem dL_law_118 : decode code 118 = .ok (.iconst 1, 1) := by decide +kernel
theorem dL_law_119 : decode code 119 = .ok (.iadd, 1) := by decide +kernel
theorem dL_law_120 : decode code 120 = .ok (.iaload, 1) := by decide +kernel
theorem dL_law_121 : decode code 121 = .ok (.aload_n 0, 1) := by decide +kernel
theorem dL_law_122 : decode code 122 = .ok (.iload_n 3, 1) := by decide +kernel
theorem dL_law_123 : decode code 123 = .ok (.iconst 2, 1) := by decide +kernel
theorem dL_law_124 : decode code 124 = .ok (.iadd, 1) := by decide +kernel
theorem dL_law_125 : decode code 125 = .ok (.iaload, 1) := by decide +kernel
theorem dL_law_126 : decode code 126 = .ok (.aload_n 0, 1) := by decide +kernel
theorem dL_law_127 : decode code 127 = .ok (.iload_n 3, 1) := by decide +kernel
theorem dL_law_128 : decode code 128 = .ok (.iconst 3, 1) := by decide +kernel
theorem dL_law_129 : decode code 129 = .ok (.iadd, 1) := by decide +kernel
theorem dL_law_130 : decode code 130 = .ok (.iaload, 1) := by decide +kernel
theorem dL_law_131 : decode code 131 = .ok (.ifCond .eq 7, 3) := by decide +kernel
theorem dL_law_134 : decode code 134 = .ok (.iconst 1, 1) := by decide +kernel
theorem dL_law_135 : decode code 135 = .ok (.goto 4, 3) := by decide +kernel
theorem dL_law_138 : decode code 138 = .ok (.iconst 0, 1) := by decide +kernel
theorem dL_law_139 : decode code 139 = .ok (.invokevirtual 17, 3) := by decide +kernel
theorem dL_law_142 : decode code 142 = .ok (.if_icmp .eq 282, 3) := by decide +kernel
theorem dL_law_145 : decode code 145 = .ok (.iconst 0, 1) := by decide +kernel
theorem dL_law_146 : decode code 146 = .ok (.ireturn, 1) := by decide +kernel
theorem dL_law_147 : decode code 147 = .ok (.aload_n 1, 1) := by decide +kernel
theorem dL_law_148 : decode code 148 = .ok (.aload_n 0, 1) := by decide +kernel
theorem dL_law_149 : decode code 149 = .ok (.iload_n 3, 1) := by decide +kernel
theorem dL_law_150 : decode code 150 = .ok (.iconst 1, 1) := by decide +kernel
theorem dL_law_151 : decode code 151 = .ok (.iadd, 1) := by decide +kernel
theorem dL_law_152 : decode code 152 = .ok (.iaload, 1) := by decide +kernel
theorem dL_law_153 : decode code 153 = .ok (.invokevirtual 18, 3) := by decide +kernel
theorem dL_law_156 : decode code 156 = .ok (.aload_n 2, 1) := by decide +kernel
theorem dL_law_157 : decode code 157 = .ok (.aload_n 0, 1) := by decide +kernel
theorem dL_law_158 : decode code 158 = .ok (.iload_n 3, 1) := by decide +kernel
theorem dL_law_159 : decode code 159 = .ok (.iconst 1, 1) := by decide +kernel
theorem dL_law_160 : decode code 160 = .ok (.iadd, 1) := by decide +kernel
theorem dL_law_161 : decode code 161 = .ok (.iaload, 1) := by decide +kernel
theorem dL_law_162 : decode code 162 = .ok (.invokevirtual 22, 3) := by decide +kernel
theorem dL_law_165 : decode code 165 = .ok (.if_icmp .eq 259, 3) := by decide +kernel
theorem dL_law_168 : decode code 168 = .ok (.iconst 0, 1) := by decide +kernel
theorem dL_law_169 : decode code 169 = .ok (.ireturn, 1) := by decide +kernel
theorem dL_law_170 : decode code 170 = .ok (.aload_n 1, 1) := by decide +kernel
theorem dL_law_171 : decode code 171 = .ok (.aload_n 0, 1) := by decide +kernel
theorem dL_law_172 : decode code 172 = .ok (.iload_n 3, 1) := by decide +kernel
theorem dL_law_173 : decode code 173 = .ok (.iconst 1, 1) := by decide +kernel
theorem dL_law_174 : decode code 174 = .ok (.iadd, 1) := by decide +kernel
theorem dL_law_175 : decode code 175 = .ok (.iaload, 1) := by decide +kernel
theorem dL_law_176 : decode code 176 = .ok (.aload_n 0, 1) := by decide +kernel
theorem dL_law_177 : decode code 177 = .ok (.iload_n 3, 1) := by decide +kernel
theorem dL_law_178 : decode code 178 = .ok (.iconst 2, 1) := by decide +kernel
theorem dL_law_179 : decode code 179 = .ok (.iadd, 1) := by decide +kernel
theorem dL_law_180 : decode code 180 = .ok (.iaload, 1) := by decide +kernel
theorem dL_law_181 : decode code 181 = .ok (.invokevirtual 23, 3) := by decide +kernel
theorem dL_law_184 : decode code 184 = .ok (.aload_n 2, 1) := by decide +kernel
theorem dL_law_185 : decode code 185 = .ok (.aload_n 0, 1) := by decide +kernel
theorem dL_law_186 : decode code 186 = .ok (.iload_n 3, 1) := by decide +kernel
theorem dL_law_187 : decode code 187 = .ok (.iconst 1, 1) := by decide +kernel
theorem dL_law_188 : decode code 188 = .ok (.iadd, 1) := by decide +kernel
theorem dL_law_189 : decode code 189 = .ok (.iaload, 1) := by decide +kernel
theorem dL_law_190 : decode code 190 = .ok (.aload_n 0, 1) := by decide +kernel
theorem dL_law_191 : decode code 191 = .ok (.iload_n 3, 1) := by decide +kernel
theorem dL_law_192 : decode code 192 = .ok (.iconst 2, 1) := by decide +kernel
theorem dL_law_193 : decode code 193 = .ok (.iadd, 1) := by decide +kernel
theorem dL_law_194 : decode code 194 = .ok (.iaload, 1) := by decide +kernel
theorem dL_law_195 : decode code 195 = .ok (.invokevirtual 27, 3) := by decide +kernel
theorem dL_law_198 : decode code 198 = .ok (.if_icmp .eq 226, 3) := by decide +kernel
theorem dL_law_201 : decode code 201 = .ok (.iconst 0, 1) := by decide +kernel
theorem dL_law_202 : decode code 202 = .ok (.ireturn, 1) := by decide +kernel
theorem dL_law_203 : decode code 203 = .ok (.aload_n 1, 1) := by decide +kernel
theorem dL_law_204 : decode code 204 = .ok (.aload_n 0, 1) := by decide +kernel
theorem dL_law_205 : decode code 205 = .ok (.iload_n 3, 1) := by decide +kernel
theorem dL_law_206 : decode code 206 = .ok (.iconst 1, 1) := by decide +kernel
theorem dL_law_207 : decode code 207 = .ok (.iadd, 1) := by decide +kernel
theorem dL_law_208 : decode code 208 = .ok (.iaload, 1) := by decide +kernel
theorem dL_law_209 : decode code 209 = .ok (.aload_n 0, 1) := by decide +kernel
theorem dL_law_210 : decode code 210 = .ok (.iload_n 3, 1) := by decide +kernel
theorem dL_law_211 : decode code 211 = .ok (.iconst 2, 1) := by decide +kernel
theorem dL_law_212 : decode code 212 = .ok (.iadd, 1) := by decide +kernel
theorem dL_law_213 : decode code 213 = .ok (.iaload, 1) := by decide +kernel
theorem dL_law_214 : decode code 214 = .ok (.aload_n 0, 1) := by decide +kernel
theorem dL_law_215 : decode code 215 = .ok (.iload_n 3, 1) := by decide +kernel
theorem dL_law_216 : decode code 216 = .ok (.iconst 3, 1) := by decide +kernel
theorem dL_law_217 : decode code 217 = .ok (.iadd, 1) := by decide +kernel
theorem dL_law_218 : decode code 218 = .ok (.iaload, 1) := by decide +kernel
theorem dL_law_219 : decode code 219 = .ok (.invokevirtual 28, 3) := by decide +kernel
theorem dL_law_222 : decode code 222 = .ok (.aload_n 2, 1) := by decide +kernel
theorem dL_law_223 : decode code 223 = .ok (.aload_n 0, 1) := by decide +kernel
theorem dL_law_224 : decode code 224 = .ok (.iload_n 3, 1) := by decide +kernel
theorem dL_law_225 : decode code 225 = .ok (.iconst 1, 1) := by decide +kernel
theorem dL_law_226 : decode code 226 = .ok (.iadd, 1) := by decide +kernel
theorem dL_law_227 : decode code 227 = .ok (.iaload, 1) := by decide +kernel
theorem dL_law_228 : decode code 228 = .ok (.aload_n 0, 1) := by decide +kernel
theorem dL_law_229 : decode code 229 = .ok (.iload_n 3, 1) := by decide +kernel
theorem dL_law_230 : decode code 230 = .ok (.iconst 2, 1) := by decide +kernel
theorem dL_law_231 : decode code 231 = .ok (.iadd, 1) := by decide +kernel
theorem dL_law_232 : decode code 232 = .ok (.iaload, 1) := by decide +kernel
theorem dL_law_233 : decode code 233 = .ok (.aload_n 0, 1) := by decide +kernel
theorem dL_law_234 : decode code 234 = .ok (.iload_n 3, 1) := by decide +kernel
theorem dL_law_235 : decode code 235 = .ok (.iconst 3, 1) := by decide +kernel
theorem dL_law_236 : decode code 236 = .ok (.iadd, 1) := by decide +kernel
theorem dL_law_237 : decode code 237 = .ok (.iaload, 1) := by decide +kernel
theorem dL_law_238 : decode code 238 = .ok (.invokevirtual 32, 3) := by decide +kernel
theorem dL_law_241 : decode code 241 = .ok (.if_icmp .eq 183, 3) := by decide +kernel
theorem dL_law_244 : decode code 244 = .ok (.iconst 0, 1) := by decide +kernel
theorem dL_law_245 : decode code 245 = .ok (.ireturn, 1) := by decide +kernel
theorem dL_law_246 : decode code 246 = .ok (.aload_n 1, 1) := by decide +kernel
theorem dL_law_247 : decode code 247 = .ok (.aload_n 0, 1) := by decide +kernel
theorem dL_law_248 : decode code 248 = .ok (.iload_n 3, 1) := by decide +kernel
theorem dL_law_249 : decode code 249 = .ok (.iconst 1, 1) := by decide +kernel
theorem dL_law_250 : decode code 250 = .ok (.iadd, 1) := by decide +kernel
theorem dL_law_251 : decode code 251 = .ok (.iaload, 1) := by decide +kernel
theorem dL_law_252 : decode code 252 = .ok (.aload_n 0, 1) := by decide +kernel
theorem dL_law_253 : decode code 253 = .ok (.iload_n 3, 1) := by decide +kernel
theorem dL_law_254 : decode code 254 = .ok (.iconst 2, 1) := by decide +kernel
theorem dL_law_255 : decode code 255 = .ok (.iadd, 1) := by decide +kernel
theorem dL_law_256 : decode code 256 = .ok (.iaload, 1) := by decide +kernel
theorem dL_law_257 : decode code 257 = .ok (.aload_n 0, 1) := by decide +kernel
theorem dL_law_258 : decode code 258 = .ok (.iload_n 3, 1) := by decide +kernel
theorem dL_law_259 : decode code 259 = .ok (.iconst 3, 1) := by decide +kernel
theorem dL_law_260 : decode code 260 = .ok (.iadd, 1) := by decide +kernel
theorem dL_law_261 : decode code 261 = .ok (.iaload, 1) := by decide +kernel
theorem dL_law_262 : decode code 262 = .ok (.invokevirtual 33, 3) := by decide +kernel
theorem dL_law_265 : decode code 265 = .ok (.aload_n 2, 1) := by decide +kernel
theorem dL_law_266 : decode code 266 = .ok (.aload_n 0, 1) := by decide +kernel
theorem dL_law_267 : decode code 267 = .ok (.iload_n 3, 1) := by decide +kernel
theorem dL_law_268 : decode code 268 = .ok (.iconst 1, 1) := by decide +kernel
theorem dL_law_269 : decode code 269 = .ok (.iadd, 1) := by decide +kernel
theorem dL_law_270 : decode code 270 = .ok (.iaload, 1) := by decide +kernel
theorem dL_law_271 : decode code 271 = .ok (.aload_n 0, 1) := by decide +kernel
theorem dL_law_272 : decode code 272 = .ok (.iload_n 3, 1) := by decide +kernel
theorem dL_law_273 : decode code 273 = .ok (.iconst 2, 1) := by decide +kernel
theorem dL_law_274 : decode code 274 = .ok (.iadd, 1) := by decide +kernel
theorem dL_law_275 : decode code 275 = .ok (.iaload, 1) := by decide +kernel
theorem dL_law_276 : decode code 276 = .ok (.aload_n 0, 1) := by decide +kernel
theorem dL_law_277 : decode code 277 = .ok (.iload_n 3, 1) := by decide +kernel
theorem dL_law_278 : decode code 278 = .ok (.iconst 3, 1) := by decide +kernel
theorem dL_law_279 : decode code 279 = .ok (.iadd, 1) := by decide +kernel
theorem dL_law_280 : decode code 280 = .ok (.iaload, 1) := by decide +kernel
theorem dL_law_281 : decode code 281 = .ok (.invokevirtual 36, 3) := by decide +kernel
theorem dL_law_284 : decode code 284 = .ok (.if_icmp .eq 140, 3) := by decide +kernel
theorem dL_law_287 : decode code 287 = .ok (.iconst 0, 1) := by decide +kernel
theorem dL_law_288 : decode code 288 = .ok (.ireturn, 1) := by decide +kernel
theorem dL_law_289 : decode code 289 = .ok (.aload_n 1, 1) := by decide +kernel
theorem dL_law_290 : decode code 290 = .ok (.aload_n 0, 1) := by decide +kernel
theorem dL_law_291 : decode code 291 = .ok (.iload_n 3, 1) := by decide +kernel
theorem dL_law_292 : decode code 292 = .ok (.iconst 1, 1) := by decide +kernel
theorem dL_law_293 : decode code 293 = .ok (.iadd, 1) := by decide +kernel
theorem dL_law_294 : decode code 294 = .ok (.iaload, 1) := by decide +kernel
theorem dL_law_295 : decode code 295 = .ok (.invokevirtual 37, 3) := by decide +kernel
theorem dL_law_298 : decode code 298 = .ok (.aload_n 2, 1) := by decide +kernel
theorem dL_law_299 : decode code 299 = .ok (.aload_n 0, 1) := by decide +kernel
theorem dL_law_300 : decode code 300 = .ok (.iload_n 3, 1) := by decide +kernel
theorem dL_law_301 : decode code 301 = .ok (.iconst 1, 1) := by decide +kernel
theorem dL_law_302 : decode code 302 = .ok (.iadd, 1) := by decide +kernel
theorem dL_law_303 : decode code 303 = .ok (.iaload, 1) := by decide +kernel
theorem dL_law_304 : decode code 304 = .ok (.invokevirtual 41, 3) := by decide +kernel
theorem dL_law_307 : decode code 307 = .ok (.if_icmp .eq 117, 3) := by decide +kernel
theorem dL_law_310 : decode code 310 = .ok (.iconst 0, 1) := by decide +kernel
theorem dL_law_311 : decode code 311 = .ok (.ireturn, 1) := by decide +kernel
theorem dL_law_312 : decode code 312 = .ok (.aload_n 1, 1) := by decide +kernel
theorem dL_law_313 : decode code 313 = .ok (.aload_n 0, 1) := by decide +kernel
theorem dL_law_314 : decode code 314 = .ok (.iload_n 3, 1) := by decide +kernel
theorem dL_law_315 : decode code 315 = .ok (.iconst 1, 1) := by decide +kernel
theorem dL_law_316 : decode code 316 = .ok (.iadd, 1) := by decide +kernel
theorem dL_law_317 : decode code 317 = .ok (.iaload, 1) := by decide +kernel
theorem dL_law_318 : decode code 318 = .ok (.aload_n 0, 1) := by decide +kernel
theorem dL_law_319 : decode code 319 = .ok (.iload_n 3, 1) := by decide +kernel
theorem dL_law_320 : decode code 320 = .ok (.iconst 2, 1) := by decide +kernel
theorem dL_law_321 : decode code 321 = .ok (.iadd, 1) := by decide +kernel
theorem dL_law_322 : decode code 322 = .ok (.iaload, 1) := by decide +kernel
theorem dL_law_323 : decode code 323 = .ok (.aload_n 0, 1) := by decide +kernel
theorem dL_law_324 : decode code 324 = .ok (.iload_n 3, 1) := by decide +kernel
theorem dL_law_325 : decode code 325 = .ok (.iconst 3, 1) := by decide +kernel
theorem dL_law_326 : decode code 326 = .ok (.iadd, 1) := by decide +kernel
theorem dL_law_327 : decode code 327 = .ok (.iaload, 1) := by decide +kernel
theorem dL_law_328 : decode code 328 = .ok (.invokevirtual 42, 3) := by decide +kernel
theorem dL_law_331 : decode code 331 = .ok (.aload_n 2, 1) := by decide +kernel
theorem dL_law_332 : decode code 332 = .ok (.aload_n 0, 1) := by decide +kernel
theorem dL_law_333 : decode code 333 = .ok (.iload_n 3, 1) := by decide +kernel
theorem dL_law_334 : decode code 334 = .ok (.iconst 1, 1) := by decide +kernel
theorem dL_law_335 : decode code 335 = .ok (.iadd, 1) := by decide +kernel
theorem dL_law_336 : decode code 336 = .ok (.iaload, 1) := by decide +kernel
theorem dL_law_337 : decode code 337 = .ok (.aload_n 0, 1) := by decide +kernel
theorem dL_law_338 : decode code 338 = .ok (.iload_n 3, 1) := by decide +kernel
theorem dL_law_339 : decode code 339 = .ok (.iconst 2, 1) := by decide +kernel
theorem dL_law_340 : decode code 340 = .ok (.iadd, 1) := by decide +kernel
theorem dL_law_341 : decode code 341 = .ok (.iaload, 1) := by decide +kernel
theorem dL_law_342 : decode code 342 = .ok (.aload_n 0, 1) := by decide +kernel
theorem dL_law_343 : decode code 343 = .ok (.iload_n 3, 1) := by decide +kernel
theorem dL_law_344 : decode code 344 = .ok (.iconst 3, 1) := by decide +kernel
theorem dL_law_345 : decode code 345 = .ok (.iadd, 1) := by decide +kernel
theorem dL_law_346 : decode code 346 = .ok (.iaload, 1) := by decide +kernel
theorem dL_law_347 : decode code 347 = .ok (.invokevirtual 46, 3) := by decide +kernel
theorem dL_law_350 : decode code 350 = .ok (.if_icmp .eq 74, 3) := by decide +kernel
theorem dL_law_353 : decode code 353 = .ok (.iconst 0, 1) := by decide +kernel
theorem dL_law_354 : decode code 354 = .ok (.ireturn, 1) := by decide +kernel
theorem dL_law_355 : decode code 355 = .ok (.aload_n 1, 1) := by decide +kernel
theorem dL_law_356 : decode code 356 = .ok (.aload_n 0, 1) := by decide +kernel
theorem dL_law_357 : decode code 357 = .ok (.iload_n 3, 1) := by decide +kernel
theorem dL_law_358 : decode code 358 = .ok (.iconst 1, 1) := by decide +kernel
theorem dL_law_359 : decode code 359 = .ok (.iadd, 1) := by decide +kernel
theorem dL_law_360 : decode code 360 = .ok (.iaload, 1) := by decide +kernel
theorem dL_law_361 : decode code 361 = .ok (.invokevirtual 47, 3) := by decide +kernel
theorem dL_law_364 : decode code 364 = .ok (.aload_n 2, 1) := by decide +kernel
theorem dL_law_365 : decode code 365 = .ok (.aload_n 0, 1) := by decide +kernel
theorem dL_law_366 : decode code 366 = .ok (.iload_n 3, 1) := by decide +kernel
theorem dL_law_367 : decode code 367 = .ok (.iconst 1, 1) := by decide +kernel
theorem dL_law_368 : decode code 368 = .ok (.iadd, 1) := by decide +kernel
theorem dL_law_369 : decode code 369 = .ok (.iaload, 1) := by decide +kernel
theorem dL_law_370 : decode code 370 = .ok (.invokevirtual 50, 3) := by decide +kernel
theorem dL_law_373 : decode code 373 = .ok (.if_icmp .eq 51, 3) := by decide +kernel
theorem dL_law_376 : decode code 376 = .ok (.iconst 0, 1) := by decide +kernel
theorem dL_law_377 : decode code 377 = .ok (.ireturn, 1) := by decide +kernel
theorem dL_law_378 : decode code 378 = .ok (.aload_n 1, 1) := by decide +kernel
theorem dL_law_379 : decode code 379 = .ok (.aload_n 0, 1) := by decide +kernel
theorem dL_law_380 : decode code 380 = .ok (.iload_n 3, 1) := by decide +kernel
theorem dL_law_381 : decode code 381 = .ok (.iconst 1, 1) := by decide +kernel
theorem dL_law_382 : decode code 382 = .ok (.iadd, 1) := by decide +kernel
theorem dL_law_383 : decode code 383 = .ok (.iaload, 1) := by decide +kernel
theorem dL_law_384 : decode code 384 = .ok (.invokevirtual 51, 3) := by decide +kernel
theorem dL_law_387 : decode code 387 = .ok (.aload_n 2, 1) := by decide +kernel
theorem dL_law_388 : decode code 388 = .ok (.aload_n 0, 1) := by decide +kernel
theorem dL_law_389 : decode code 389 = .ok (.iload_n 3, 1) := by decide +kernel
theorem dL_law_390 : decode code 390 = .ok (.iconst 1, 1) := by decide +kernel
theorem dL_law_391 : decode code 391 = .ok (.iadd, 1) := by decide +kernel
theorem dL_law_392 : decode code 392 = .ok (.iaload, 1) := by decide +kernel
theorem dL_law_393 : decode code 393 = .ok (.invokevirtual 54, 3) := by decide +kernel
theorem dL_law_396 : decode code 396 = .ok (.if_icmp .eq 28, 3) := by decide +kernel
theorem dL_law_399 : decode code 399 = .ok (.iconst 0, 1) := by decide +kernel
theorem dL_law_400 : decode code 400 = .ok (.ireturn, 1) := by decide +kernel
theorem dL_law_401 : decode code 401 = .ok (.aload_n 1, 1) := by decide +kernel
theorem dL_law_402 : decode code 402 = .ok (.aload_n 0, 1) := by decide +kernel
theorem dL_law_403 : decode code 403 = .ok (.iload_n 3, 1) := by decide +kernel
theorem dL_law_404 : decode code 404 = .ok (.iconst 1, 1) := by decide +kernel
theorem dL_law_405 : decode code 405 = .ok (.iadd, 1) := by decide +kernel
theorem dL_law_406 : decode code 406 = .ok (.iaload, 1) := by decide +kernel
theorem dL_law_407 : decode code 407 = .ok (.invokevirtual 55, 3) := by decide +kernel
theorem dL_law_410 : decode code 410 = .ok (.aload_n 2, 1) := by decide +kernel
theorem dL_law_411 : decode code 411 = .ok (.aload_n 0, 1) := by decide +kernel
theorem dL_law_412 : decode code 412 = .ok (.iload_n 3, 1) := by decide +kernel
theorem dL_law_413 : decode code 413 = .ok (.iconst 1, 1) := by decide +kernel
theorem dL_law_414 : decode code 414 = .ok (.iadd, 1) := by decide +kernel
theorem dL_law_415 : decode code 415 = .ok (.iaload, 1) := by decide +kernel
theorem dL_law_416 : decode code 416 = .ok (.invokevirtual 58, 3) := by decide +kernel
theorem dL_law_419 : decode code 419 = .ok (.if_icmp .eq 5, 3) := by decide +kernel
theorem dL_law_422 : decode code 422 = .ok (.iconst 0, 1) := by decide +kernel
theorem dL_law_423 : decode code 423 = .ok (.ireturn, 1) := by decide +kernel
theorem dL_law_424 : decode code 424 = .ok (.iinc 3 4, 3) := by decide +kernel
theorem dL_law_427 : decode code 427 = .ok (.goto (-409), 3) := by decide +kernel
theorem dL_law_430 : decode code 430 = .ok (.iconst 1, 1) := by decide +kernel
theorem dL_law_431 : decode code 431 = .ok (.ireturn, 1) := by decide +kernel
end
section
/-! the worlds: the class's cells, the reference's cells, both -/
abbrev wsF (h0 q1 : Nat) (k1 : ClassId) (f : Nat → Int32) : va_W := [(h0, .inr (0, [.ref q1])), (q1, .inl (k1, 16, .inl f))]
abbrev wsM (h0 q1 q2 q3 q4 : Nat) (k1 k2 k3 k4 : ClassId) (g b t w : Nat → Int32) : va_W := [(h0, .inr (1, [.ref q1, .ref q2, .ref q3, .ref q4])), (q1, .inl (k1, 16, .inl g)), (q2, .inl (k2, 96, .inl b)), (q3, .inl (k3, 56, .inl t)), (q4, .inl (k4, 6, .inl w))]
abbrev wsL (hF qF : Nat) (kF : ClassId) (hM q1 q2 q3 q4 : Nat) (k1 k2 k3 k4 : ClassId) (f g b t w : Nat → Int32) : va_W := [(hF, .inr (0, [.ref qF])), (qF, .inl (kF, 16, .inl f)), (hM, .inr (1, [.ref q1, .ref q2, .ref q3, .ref q4])), (q1, .inl (k1, 16, .inl g)), (q2, .inl (k2, 96, .inl b)), (q3, .inl (k3, 56, .inl t)), (q4, .inl (k4, 6, .inl w))]
/-! the class's one text: where it lies, what it holds -/
def tx_let : String := " ABCDEFGHI~JKLMNOPQR[#STUVWXYZ0123456789.,()+-*/=$<>@;:'"
def ltL : List Int32 := [32, 65, 66, 67, 68, 69, 70, 71, 72, 73, 126, 74, 75, 76, 77, 78, 79, 80, 81, 82, 91, 35, 83, 84, 85, 86, 87, 88, 89, 90, 48, 49, 50, 51, 52, 53, 54, 55, 56, 57, 46, 44, 40, 41, 43, 45, 42, 47, 61, 36, 60, 62, 64, 59, 58, 39]
def sby (j : Nat) : Int32 := ltL.getD j 0
def sOK (sK sV : Nat) (A : Nat → Prop) (U : State) (H : Heap) : Prop :=
  va_O "java/lang/String" sK A U H ∧ va_OF "java/lang/String" "coder" "B" (.int 0) sK A U H ∧ va_OF "java/lang/String" "value" "[B" (.ref sV) sK A U H ∧ va_T .byte sV 56 (fun j => .int (sby j)) A U H ∧ va_Z "java/lang/String" "COMPACT_STRINGS" "Z" (.int 1) A U H ∧ va_Zq "jdk/internal/util/Preconditions" "SIOOBE_FORMATTER" "Ljava/util/function/BiFunction;" A U H ∧ vk_R "WordFields" 51 tx_let sK U
theorem sOK.bl {sK sV : Nat} {A : Nat → Prop} {U : State} {g : JFrame} {mk : MethodId} {a : Array Value} (h : sOK sK sV A U U.heap) : sOK sK sV A (U.calling g mk a) (U.calling g mk a).heap :=
  ⟨va_O.moved (Vm.Alike.refl U.vm) h.1, va_OF.moved (Vm.Alike.refl U.vm) h.2.1, va_OF.moved (Vm.Alike.refl U.vm) h.2.2.1, va_T.moved (Vm.Alike.refl U.vm) h.2.2.2.1, va_Z.moved (Vm.Alike.refl U.vm) h.2.2.2.2.1, va_Zq.moved (Vm.Alike.refl U.vm) h.2.2.2.2.2.1, vk_R.same rfl h.2.2.2.2.2.2⟩
theorem sOK.go {sK sV : Nat} {A : Nat → Prop} {s U : State} {H : Heap} {locs : List Loc} (h : sOK sK sV A s s.heap) (hS : va_S A s.heap H locs) (hU : U.heap = H) (hW : s.WarmedH U.vm) : sOK sK sV (fun _ => False) U U.heap := by
  rw [hU]
  exact ⟨((va_O.moved hW.alike h.1).kept hS.2.1).narrow (fun _ z => z.elim), ((va_OF.moved hW.alike h.2.1).kept hS.2.1).narrow (fun _ z => z.elim), ((va_OF.moved hW.alike h.2.2.1).kept hS.2.1).narrow (fun _ z => z.elim), ((va_T.moved hW.alike h.2.2.2.1).kept hS.2.1).narrow (fun _ z => z.elim), ((va_Z.moved hW.alike h.2.2.2.2.1).kept hS.2.1).narrow (fun _ z => z.elim), ((va_Zq.moved hW.alike h.2.2.2.2.2.1).kept hS.2.1).narrow (fun _ z => z.elim), vk_R.warm hW h.2.2.2.2.2.2⟩
theorem sOK.zq {sK sV : Nat} {A : Nat → Prop} {U : State} {H : Heap} (h : sOK sK sV A U H) : va_Z "jdk/internal/util/Preconditions" "SIOOBE_FORMATTER" "Ljava/util/function/BiFunction;" .null A U H ∨ ∃ t : Nat, va_Z "jdk/internal/util/Preconditions" "SIOOBE_FORMATTER" "Ljava/util/function/BiFunction;" (.ref t) A U H := h.2.2.2.2.2.1
theorem sOK.rc {sK sV : Nat} {A : Nat → Prop} {s : State} {H : Heap} {locs : List Loc} (h : sOK sK sV A s s.heap) (hS : va_S A s.heap H locs) : ∃ cell : Cell, H[sK]? = some cell ∧ cell.vm.isStatics = false ∧ s.vm.findClass "java/lang/String" = some cell.cls := by
  obtain ⟨cell, h1, h2, h3, -⟩ := h.1.kept hS.2.1
  exact ⟨cell, h1, h2, h3⟩
def ixF (c : Int32) : Nat → Nat → Int32
  | 0, _ => -1
  | n + 1, k => if sby k = c then nI k else ixF c n (k + 1)
def cdS (t : Nat → Int32) (c : Int32) : Nat → Int32
  | 0 => 0
  | k + 1 => if t k = c then nI k else cdS t c k
theorem lt_56 {k : Nat} (hk : k ≤ 56) (h : ¬ (56 : Int32) ≤ nI k) : k < 56 := by
  rw [show (56 : Int32) = nI 56 from rfl, nI_leI (by decide) (by omega)] at h
  omega
theorem eq_56 {k : Nat} (hk : k ≤ 56) (h : (56 : Int32) ≤ nI k) : k = 56 := by
  rw [show (56 : Int32) = nI 56 from rfl, nI_leI (by decide) (by omega)] at h
  omega
theorem ixF_s {c : Int32} {k : Nat} (hk : k < 56) (h : ¬ sby k = c) : ixF c (56 - k) k = ixF c (56 - (k + 1)) (k + 1) := by
  rw [show 56 - k = (56 - (k + 1)) + 1 by omega]
  show (if sby k = c then nI k else ixF c (56 - (k + 1)) (k + 1)) = _
  rw [if_neg h]
theorem ixF_h {c : Int32} {k : Nat} (hk : k < 56) (h : sby k = c) : ixF c (56 - k) k = nI k := by
  rw [show 56 - k = (56 - (k + 1)) + 1 by omega]
  show (if sby k = c then nI k else ixF c (56 - (k + 1)) (k + 1)) = _
  rw [if_pos h]
theorem ixF_e {c : Int32} {k : Nat} (hk : k ≤ 56) (h : (56 : Int32) ≤ nI k) : ixF c (56 - k) k = (-1 : Int32) := by
  rw [eq_56 hk h]
  rfl
theorem in_n0 {a : Int32} (h : vp_in a 56) : ¬ a < 0 := fun q => h (Or.inl q)
theorem in_n56 {a : Int32} (h : vp_in a 56) : a < (56 : Int32) := by
  rw [vp_in_iff] at h
  rw [Int32.lt_iff_toInt_lt]
  have e1 : (56 : Int32).toInt = 56 := by decide
  omega
/-- the reference's letters as they are laid one by one -/
def ltS : Nat → (Nat → Int32)
  | 0 => fun _ => 0
  | k + 1 => upd (ltS k) k (sby k)
/-! my own rows over the kit: a join of two roads, a call that changes nothing -/
section KK
variable {p : Program} {l : Launch} {e : Env} {R : Room} {s : State} {m : MethodId} {args : Array Value} {below : List Frame} {meth : Method} {c : Code} {H : Heap} {locs : List Loc} {cells slots : Nat} {Q : State → Prop}
variable {pc : Nat} {ls : Array Slot} {rest st0 : List Value} {a : Array Value} {A0 : Nat → Prop} {H0 : Heap}
theorem kk_mrg {pc' : Nat} {ls' : Array Slot} {rest' : List Value} {x : Int32} {g : JFrame}
    (h : (∀ v : Int32, v = x → W p l e R s m args below meth c H locs cells slots Q (F0 m pc' ls' (.int v :: rest'))) → W p l e R s m args below meth c H locs cells slots Q g)
    (k : ∀ v : Int32, v = x → W p l e R s m args below meth c H locs cells slots Q (F0 m pc' ls' (.int v :: rest'))) : W p l e R s m args below meth c H locs cells slots Q g := h k
theorem kk_top {x y : Int32} (h : x = y) (k : W p l e R s m args below meth c H locs cells slots Q (F0 m pc ls (.int y :: rest))) : W p l e R s m args below meth c H locs cells slots Q (F0 m pc ls (.int x :: rest)) := by
  subst h
  exact k
theorem kk_call0 {v : Int32} (hr : va_Run p l e R s m args below meth c H locs cells slots 0 0 (F0 m pc ls st0) rest (va_Qi (fun (r : Int32) (_ : Unit) => r = v) (fun _ _ => True) (fun _ => False) a) (fun _ => False)) (hS : va_S A0 H0 H locs)
    (kk : ∀ (H1 : Heap) (locs1 : List Loc), va_S A0 H0 H1 locs1 → W p l e R s m args below meth c H1 locs1 cells slots Q (F0 m (pc + 3) ls (.int v :: rest))) : W p l e R s m args below meth c H locs cells slots Q (F0 m pc ls st0) :=
  va_calli hr hS (fun _ _ h => h.elim) (fun _ h => h.elim) (fun r u t H1 locs1 ht hvm hw hB hz hk hS1 => by
    subst hw
    exact kk H1 locs1 hS1)
theorem kk_callP {D : va_G} {cl : List vw_C} {ws : va_W} {v : Int32} (hr : va_Run p l e R s m args below meth c H locs cells slots 0 0 (F0 m pc ls st0) rest (va_Qi (fun (r : Int32) (_ : Unit) => r = v) (fun _ _ => True) (fun _ => False) a) (fun _ => False)) (hS : va_S A0 H0 H locs) (hP : va_P D cl ws H)
    (kk : ∀ (H1 : Heap) (locs1 : List Loc), va_S A0 H0 H1 locs1 → va_P D cl ws H1 → W p l e R s m args below meth c H1 locs1 cells slots Q (F0 m (pc + 3) ls (.int v :: rest))) : W p l e R s m args below meth c H locs cells slots Q (F0 m pc ls st0) :=
  va_calli hr hS (fun _ _ h => h.elim) (fun _ h => h.elim) (fun r u t H1 locs1 ht hvm hw hB hz hk hS1 => by
    subst hw
    exact kk H1 locs1 hS1 (hP.kept (fun k q hq => hk q.1 (hP k q hq).lt (fun z => z))))
theorem kk_callv0 (hr : va_Run p l e R s m args below meth c H locs cells slots 0 0 (F0 m pc ls st0) rest (va_Qv (fun _ : Unit => True) (fun _ _ => True) (fun _ => False) a) (fun _ => False)) (hS : va_S A0 H0 H locs)
    (kk : ∀ (H1 : Heap) (locs1 : List Loc), va_S A0 H0 H1 locs1 → W p l e R s m args below meth c H1 locs1 cells slots Q (F0 m (pc + 3) ls rest)) : W p l e R s m args below meth c H locs cells slots Q (F0 m pc ls st0) :=
  va_callv hr hS (fun _ _ h => h.elim) (fun _ h => h.elim) (fun u t H1 locs1 ht hvm hw hB hz hk hS1 => kk H1 locs1 hS1)
/-- a counted loop: from k to N, a number carried along -/
theorem kk_ind {st : List Value} (I : Nat → Int32 → Array Slot → Prop) (N : Nat)
    (step : ∀ (k : Nat) (fd : Int32) (ls : Array Slot), k ≤ N → I k fd ls → (∀ (fd' : Int32) (ls' : Array Slot), k < N → I (k + 1) fd' ls' → W p l e R s m args below meth c H locs cells slots Q (F0 m pc ls' st)) → W p l e R s m args below meth c H locs cells slots Q (F0 m pc ls st)) :
    ∀ (k : Nat) (fd : Int32) (ls : Array Slot), k ≤ N → I k fd ls → W p l e R s m args below meth c H locs cells slots Q (F0 m pc ls st) := by
  have key : ∀ (n k : Nat) (fd : Int32) (ls : Array Slot), k + n = N → I k fd ls → W p l e R s m args below meth c H locs cells slots Q (F0 m pc ls st) := by
    intro n
    induction n with
    | zero => intro k fd ls hk hI; exact step k fd ls (by omega) hI (fun _ _ h => absurd h (by omega))
    | succ n ih => intro k fd ls hk hI; exact step k fd ls (by omega) hI (fun fd' ls' _ h => ih (k + 1) fd' ls' (by omega) h)
  intro k fd ls hk hI
  exact key (N - k) k fd ls (by omega) hI
end KK
section KW
variable {p : Program} {l : Launch} {e : Env} {R : Room} {s : State} {m : MethodId} {args : Array Value} {below : List Frame} {meth : Method} {c : Code} {H : Heap} {locs : List Loc} {cells slots : Nat} {Q : State → Prop}
variable {pc : Nat} {ls : Array Slot} {rest st0 : List Value} {a : Array Value} {A0 : Nat → Prop} {H0 : Heap}
/-- a call that writes a part of the world: the rest stays -/
theorem kk_callW {D : va_G} {cl : List vw_C} {ws wc wr w1 w2 : va_W} {v : Int32} (hr : va_Run p l e R s m args below meth c H locs cells slots 0 0 (F0 m pc ls st0) rest (va_Qi (fun (r : Int32) (_ : Unit) => r = v) (fun _ t => va_P D cl w1 t.heap ∧ va_D (va_A wc H.size) w1) (va_A wc H.size) a) (va_A wc H.size)) (hS : va_S A0 H0 H locs) (hP : va_P D cl ws H) (hD : va_D A0 ws) (hA : ∀ q, H0.size ≤ q → A0 q)
    (isC isR : List Nat) (hC : isC.map (fun i => ws[i]?) = wc.map some) (hR : isR.map (fun i => ws[i]?) = wr.map some) (hn : va_nd isR = true) (hdis : ∀ i ∈ isR, i ∉ isC) (is2 : List Nat) (h2 : is2.map (fun i => (wr ++ w1)[i]?) = w2.map some) (h3 : is2.filterMap (fun i => (wr ++ w1)[i]?) = w2) (hn2 : va_nd is2 = true)
    (kk : ∀ (H1 : Heap) (locs1 : List Loc), va_S A0 H0 H1 locs1 → va_P D cl w2 H1 → va_D A0 w2 → W p l e R s m args below meth c H1 locs1 cells slots Q (F0 m (pc + 3) ls (.int v :: rest))) : W p l e R s m args below meth c H locs cells slots Q (F0 m pc ls st0) := by
  have hF := va_free (wc := wc) hD hS hA isC hC
  refine va_calli hr hS (fun q _ h => hF q h) hF (fun r u t H1 locs1 ht hvm hw hB hz hk hS1 => ?_)
  subst hw
  obtain ⟨hP1, hD1⟩ := hB
  rw [ht] at hP1
  obtain ⟨hP2, hD2⟩ := va_join hP hD isC isR hC hR hn hdis hk hF hP1 hD1
  exact kk H1 locs1 hS1 (hP2.sub is2 h3) (hD2.sub is2 hn2 h2)
end KW
end
section
def f_F_isRegister (a1 : Int32) : Int32 := (if a1 < 0 then (0 : Int32) else (if (16 : Int32) ≤ a1 then (0 : Int32) else (1 : Int32)))
def f_F_isMinus (a1 : Int32) : Int32 := (if (a1 &&& (1073741824 : Int32)) = 0 then (0 : Int32) else (1 : Int32))
def f_F_number (a1 : Int32) : Int32 := (if (f_F_isMinus a1) = 0 then (a1 &&& (1073741823 : Int32)) else (-(a1 &&& (1073741823 : Int32))))
def f_F_firstByte (a1 : Int32) : Int32 := (a1 >>> ((3 : Int32) &&& 31))
def f_F_lastByte (a1 : Int32) : Int32 := (a1 &&& (7 : Int32))
def f_F_bitsRightOf (a1 : Int32) : Int32 := ((6 : Int32) * ((5 : Int32) - a1))
def f_F_rightMask (a1 : Int32) : Int32 := (((1 : Int32) <<< (((6 : Int32) * (((f_F_lastByte a1) - (if (f_F_firstByte a1) < (1 : Int32) then (1 : Int32) else (f_F_firstByte a1))) + (1 : Int32))) &&& 31)) - (1 : Int32))
def f_F_signMask (a1 : Int32) : Int32 := (if (f_F_firstByte a1) = 0 then (1073741824 : Int32) else (0 : Int32))
def f_F_fieldOf (a1 a2 : Int32) : Int32 := (((a1 >>> ((f_F_bitsRightOf (f_F_lastByte a2)) &&& 31)) &&& (f_F_rightMask a2)) ||| (a1 &&& (f_F_signMask a2)))
def f_F_greatLetter (a1 : Int32) : Int32 := (if a1 < (97 : Int32) then a1 else (if (122 : Int32) < a1 then a1 else ((a1 - (97 : Int32)) + (65 : Int32))))
def f_F_isField (a1 : Int32) : Int32 := (if a1 < 0 then (0 : Int32) else (if (f_F_lastByte a1) < (f_F_firstByte a1) then (0 : Int32) else (if (5 : Int32) < (f_F_lastByte a1) then (0 : Int32) else (1 : Int32))))
def f_F_value (f : Nat → Int32) (a1 : Int32) : Int32 := (if (f_F_isRegister a1) = 0 then (2147483647 : Int32) else (if (f a1.toNatClampNeg) = (1073741824 : Int32) then (-2147483648 : Int32) else (f_F_number (f a1.toNatClampNeg))))
def f_F_byteOf (f : Nat → Int32) (a1 a2 : Int32) : Int32 := (if (f_F_isRegister a1) = 0 then (-1 : Int32) else (if a2 < 0 then (-1 : Int32) else (if a2 ≤ (5 : Int32) then (if a2 = 0 then (if (f_F_isMinus (f a1.toNatClampNeg)) = 0 then (0 : Int32) else (1 : Int32)) else (((f a1.toNatClampNeg) >>> ((f_F_bitsRightOf a2) &&& 31)) &&& (63 : Int32))) else (-1 : Int32))))
def f_F_compare (f : Nat → Int32) (a1 a2 a3 : Int32) : Int32 := (if (f_F_isRegister a1) = 0 then (-2 : Int32) else (if (f_F_isRegister a2) = 0 then (-2 : Int32) else (if (f_F_isField a3) = 0 then (-2 : Int32) else (if (f_F_number (f_F_fieldOf (f a2.toNatClampNeg) a3)) ≤ (f_F_number (f_F_fieldOf (f a1.toNatClampNeg) a3)) then (if (f_F_number (f_F_fieldOf (f a1.toNatClampNeg) a3)) ≤ (f_F_number (f_F_fieldOf (f a2.toNatClampNeg) a3)) then (0 : Int32) else (1 : Int32)) else (-1 : Int32)))))
def f_F_set (f : Nat → Int32) (a1 a2 a3 : Int32) : Int32 := (if (f_F_isRegister a1) = 0 then (0 : Int32) else (if (1073741823 : Int32) < a2 then (0 : Int32) else (if (-1073741823 : Int32) ≤ a2 then (1 : Int32) else (0 : Int32))))
def u_F_set_f (f : Nat → Int32) (a1 a2 a3 : Int32) : Nat → Int32 := (if (f_F_isRegister a1) = 0 then f else (if (1073741823 : Int32) < a2 then f else (if (-1073741823 : Int32) ≤ a2 then upd f a1.toNatClampNeg ((if 0 ≤ a2 then a2 else (-a2)) ||| (if (if a2 < 0 then (1 : Int32) else (if a2 = 0 then (if a3 = 0 then (0 : Int32) else (1 : Int32)) else (0 : Int32))) = 0 then (0 : Int32) else (1073741824 : Int32))) else f)))
def f_F_load (f : Nat → Int32) (a1 a2 a3 : Int32) : Int32 := (if (f_F_isRegister a1) = 0 then (0 : Int32) else (if (f_F_isRegister a2) = 0 then (0 : Int32) else (if (f_F_isField a3) = 0 then (0 : Int32) else (1 : Int32))))
def u_F_load_f (f : Nat → Int32) (a1 a2 a3 : Int32) : Nat → Int32 := (if (f_F_isRegister a1) = 0 then f else (if (f_F_isRegister a2) = 0 then f else (if (f_F_isField a3) = 0 then f else upd f a1.toNatClampNeg (f_F_fieldOf (f a2.toNatClampNeg) a3))))
def f_F_store (f : Nat → Int32) (a1 a2 a3 : Int32) : Int32 := (if (f_F_isRegister a1) = 0 then (0 : Int32) else (if (f_F_isRegister a2) = 0 then (0 : Int32) else (if (f_F_isField a3) = 0 then (0 : Int32) else (1 : Int32))))
def u_F_store_f (f : Nat → Int32) (a1 a2 a3 : Int32) : Nat → Int32 := (if (f_F_isRegister a1) = 0 then f else (if (f_F_isRegister a2) = 0 then f else (if (f_F_isField a3) = 0 then f else upd f a1.toNatClampNeg ((((f a1.toNatClampNeg) &&& ((((f_F_rightMask a3) <<< ((f_F_bitsRightOf (f_F_lastByte a3)) &&& 31)) ||| (f_F_signMask a3)) ^^^ (-1 : Int32))) ||| (((f a2.toNatClampNeg) &&& (f_F_rightMask a3)) <<< ((f_F_bitsRightOf (f_F_lastByte a3)) &&& 31))) ||| ((f a2.toNatClampNeg) &&& (f_F_signMask a3))))))
def f_F_turn (f : Nat → Int32) (a1 : Int32) : Int32 := (if (f_F_isRegister a1) = 0 then (0 : Int32) else (1 : Int32))
def u_F_turn_f (f : Nat → Int32) (a1 : Int32) : Nat → Int32 := (if (f_F_isRegister a1) = 0 then f else upd f a1.toNatClampNeg ((f a1.toNatClampNeg) ^^^ (1073741824 : Int32)))
def f_M_isRegister (a1 : Int32) : Int32 := (if a1 < 0 then (0 : Int32) else (if (16 : Int32) ≤ a1 then (0 : Int32) else (1 : Int32)))
def f_M_is (a1 : Int32) : Int32 := (if a1 < 0 then (0 : Int32) else (if (48 : Int32) ≤ a1 then (0 : Int32) else (if (6 : Int32) ≤ (a1 - a1 / (8 : Int32) * (8 : Int32)) then (0 : Int32) else (if (a1 - a1 / (8 : Int32) * (8 : Int32)) < (a1 / (8 : Int32)) then (0 : Int32) else (1 : Int32)))))
def f_M_first (a1 : Int32) : Int32 := (if (8 : Int32) ≤ a1 then (a1 / (8 : Int32)) else (1 : Int32))
def f_M_may (a1 a2 a3 : Int32) : Int32 := (if (f_M_isRegister a1) = 0 then (0 : Int32) else (if (f_M_isRegister a2) = 0 then (0 : Int32) else (if (f_M_is a3) = 0 then (0 : Int32) else (1 : Int32))))
def f_M_isField (a1 : Int32) : Int32 := (f_M_is a1)
def f_M_number (g : Nat → Int32) (b : Nat → Int32) (t : Nat → Int32) (w : Nat → Int32) (a1 a2 a3 : Int32) : Int32 := (if a3 < a2 then (0 : Int32) else (if a3 < (a2 + (1 : Int32)) then (((64 : Int32) * (0 : Int32)) + (b (((6 : Int32) * a1) + a2).toNatClampNeg)) else (if a3 < ((a2 + (1 : Int32)) + (1 : Int32)) then (((64 : Int32) * (((64 : Int32) * (0 : Int32)) + (b (((6 : Int32) * a1) + a2).toNatClampNeg))) + (b (((6 : Int32) * a1) + (a2 + (1 : Int32))).toNatClampNeg)) else (if a3 < (((a2 + (1 : Int32)) + (1 : Int32)) + (1 : Int32)) then (((64 : Int32) * (((64 : Int32) * (((64 : Int32) * (0 : Int32)) + (b (((6 : Int32) * a1) + a2).toNatClampNeg))) + (b (((6 : Int32) * a1) + (a2 + (1 : Int32))).toNatClampNeg))) + (b (((6 : Int32) * a1) + ((a2 + (1 : Int32)) + (1 : Int32))).toNatClampNeg)) else (if a3 < ((((a2 + (1 : Int32)) + (1 : Int32)) + (1 : Int32)) + (1 : Int32)) then (((64 : Int32) * (((64 : Int32) * (((64 : Int32) * (((64 : Int32) * (0 : Int32)) + (b (((6 : Int32) * a1) + a2).toNatClampNeg))) + (b (((6 : Int32) * a1) + (a2 + (1 : Int32))).toNatClampNeg))) + (b (((6 : Int32) * a1) + ((a2 + (1 : Int32)) + (1 : Int32))).toNatClampNeg))) + (b (((6 : Int32) * a1) + (((a2 + (1 : Int32)) + (1 : Int32)) + (1 : Int32))).toNatClampNeg)) else (((64 : Int32) * (((64 : Int32) * (((64 : Int32) * (((64 : Int32) * (((64 : Int32) * (0 : Int32)) + (b (((6 : Int32) * a1) + a2).toNatClampNeg))) + (b (((6 : Int32) * a1) + (a2 + (1 : Int32))).toNatClampNeg))) + (b (((6 : Int32) * a1) + ((a2 + (1 : Int32)) + (1 : Int32))).toNatClampNeg))) + (b (((6 : Int32) * a1) + (((a2 + (1 : Int32)) + (1 : Int32)) + (1 : Int32))).toNatClampNeg))) + (b (((6 : Int32) * a1) + ((((a2 + (1 : Int32)) + (1 : Int32)) + (1 : Int32)) + (1 : Int32))).toNatClampNeg)))))))
def f_M_value (g : Nat → Int32) (b : Nat → Int32) (t : Nat → Int32) (w : Nat → Int32) (a1 : Int32) : Int32 := (if (f_M_isRegister a1) = 0 then (2147483647 : Int32) else (if (g a1.toNatClampNeg) = 0 then (f_M_number g b t w a1 (1 : Int32) (5 : Int32)) else (if (f_M_number g b t w a1 (1 : Int32) (5 : Int32)) = 0 then (-2147483648 : Int32) else (-(f_M_number g b t w a1 (1 : Int32) (5 : Int32))))))
def f_M_byteOf (g : Nat → Int32) (b : Nat → Int32) (t : Nat → Int32) (w : Nat → Int32) (a1 a2 : Int32) : Int32 := (if (f_M_isRegister a1) = 0 then (-1 : Int32) else (if a2 < 0 then (-1 : Int32) else (if a2 ≤ (5 : Int32) then (if a2 ≤ 0 then (if (g a1.toNatClampNeg) = 0 then (0 : Int32) else (1 : Int32)) else (b (((6 : Int32) * a1) + a2).toNatClampNeg)) else (-1 : Int32))))
def f_M_compare (g : Nat → Int32) (b : Nat → Int32) (t : Nat → Int32) (w : Nat → Int32) (a1 a2 a3 : Int32) : Int32 := (if (f_M_may a1 a2 a3) = 0 then (-2 : Int32) else (if (if (8 : Int32) ≤ a3 then (f_M_number g b t w a2 (f_M_first a3) (a3 - a3 / (8 : Int32) * (8 : Int32))) else (if (g a2.toNatClampNeg) = 0 then (f_M_number g b t w a2 (f_M_first a3) (a3 - a3 / (8 : Int32) * (8 : Int32))) else (-(f_M_number g b t w a2 (f_M_first a3) (a3 - a3 / (8 : Int32) * (8 : Int32)))))) ≤ (if (8 : Int32) ≤ a3 then (f_M_number g b t w a1 (f_M_first a3) (a3 - a3 / (8 : Int32) * (8 : Int32))) else (if (g a1.toNatClampNeg) = 0 then (f_M_number g b t w a1 (f_M_first a3) (a3 - a3 / (8 : Int32) * (8 : Int32))) else (-(f_M_number g b t w a1 (f_M_first a3) (a3 - a3 / (8 : Int32) * (8 : Int32)))))) then (if (if (8 : Int32) ≤ a3 then (f_M_number g b t w a1 (f_M_first a3) (a3 - a3 / (8 : Int32) * (8 : Int32))) else (if (g a1.toNatClampNeg) = 0 then (f_M_number g b t w a1 (f_M_first a3) (a3 - a3 / (8 : Int32) * (8 : Int32))) else (-(f_M_number g b t w a1 (f_M_first a3) (a3 - a3 / (8 : Int32) * (8 : Int32)))))) ≤ (if (8 : Int32) ≤ a3 then (f_M_number g b t w a2 (f_M_first a3) (a3 - a3 / (8 : Int32) * (8 : Int32))) else (if (g a2.toNatClampNeg) = 0 then (f_M_number g b t w a2 (f_M_first a3) (a3 - a3 / (8 : Int32) * (8 : Int32))) else (-(f_M_number g b t w a2 (f_M_first a3) (a3 - a3 / (8 : Int32) * (8 : Int32)))))) then (0 : Int32) else (1 : Int32)) else (-1 : Int32)))
def f_M_letter (g : Nat → Int32) (b : Nat → Int32) (t : Nat → Int32) (w : Nat → Int32) (a1 : Int32) : Int32 := (if a1 < 0 then (-1 : Int32) else (if a1 ≤ (63 : Int32) then (if (56 : Int32) ≤ a1 then (63 : Int32) else (t a1.toNatClampNeg)) else (-1 : Int32)))
def f_M_turn (g : Nat → Int32) (b : Nat → Int32) (t : Nat → Int32) (w : Nat → Int32) (a1 : Int32) : Int32 := (if (f_M_isRegister a1) = 0 then (0 : Int32) else (1 : Int32))
def u_M_turn_g (g : Nat → Int32) (b : Nat → Int32) (t : Nat → Int32) (w : Nat → Int32) (a1 : Int32) : Nat → Int32 := (if (f_M_isRegister a1) = 0 then g else upd g a1.toNatClampNeg (vp_nar .boolean (if (g a1.toNatClampNeg) = 0 then (1 : Int32) else (0 : Int32))))
def f_M_set (g : Nat → Int32) (b : Nat → Int32) (t : Nat → Int32) (w : Nat → Int32) (a1 a2 a3 : Int32) : Int32 := (if (f_M_isRegister a1) = 0 then (0 : Int32) else (if a2 ≤ (-1073741824 : Int32) then (0 : Int32) else (if a2 < (1073741824 : Int32) then (1 : Int32) else (0 : Int32))))
def u_M_set_g (g : Nat → Int32) (b : Nat → Int32) (t : Nat → Int32) (w : Nat → Int32) (a1 a2 a3 : Int32) : Nat → Int32 := (if (f_M_isRegister a1) = 0 then g else (if a2 ≤ (-1073741824 : Int32) then g else (if a2 < (1073741824 : Int32) then upd g a1.toNatClampNeg (vp_nar .boolean (if a2 < 0 then (1 : Int32) else (if a2 = 0 then (if a3 = 0 then (0 : Int32) else (1 : Int32)) else (0 : Int32)))) else g)))
def u_M_set_b (g : Nat → Int32) (b : Nat → Int32) (t : Nat → Int32) (w : Nat → Int32) (a1 a2 a3 : Int32) : Nat → Int32 := (if (f_M_isRegister a1) = 0 then b else (if a2 ≤ (-1073741824 : Int32) then b else (if a2 < (1073741824 : Int32) then upd (upd (upd (upd (upd b (((6 : Int32) * a1) + (5 : Int32)).toNatClampNeg ((if 0 ≤ a2 then a2 else (-a2)) - (if 0 ≤ a2 then a2 else (-a2)) / (64 : Int32) * (64 : Int32))) (((6 : Int32) * a1) + (4 : Int32)).toNatClampNeg (((if 0 ≤ a2 then a2 else (-a2)) / (64 : Int32)) - ((if 0 ≤ a2 then a2 else (-a2)) / (64 : Int32)) / (64 : Int32) * (64 : Int32))) (((6 : Int32) * a1) + (3 : Int32)).toNatClampNeg ((((if 0 ≤ a2 then a2 else (-a2)) / (64 : Int32)) / (64 : Int32)) - (((if 0 ≤ a2 then a2 else (-a2)) / (64 : Int32)) / (64 : Int32)) / (64 : Int32) * (64 : Int32))) (((6 : Int32) * a1) + (2 : Int32)).toNatClampNeg (((((if 0 ≤ a2 then a2 else (-a2)) / (64 : Int32)) / (64 : Int32)) / (64 : Int32)) - ((((if 0 ≤ a2 then a2 else (-a2)) / (64 : Int32)) / (64 : Int32)) / (64 : Int32)) / (64 : Int32) * (64 : Int32))) (((6 : Int32) * a1) + (1 : Int32)).toNatClampNeg ((((((if 0 ≤ a2 then a2 else (-a2)) / (64 : Int32)) / (64 : Int32)) / (64 : Int32)) / (64 : Int32)) - (((((if 0 ≤ a2 then a2 else (-a2)) / (64 : Int32)) / (64 : Int32)) / (64 : Int32)) / (64 : Int32)) / (64 : Int32) * (64 : Int32)) else b)))
def f_M_load (g : Nat → Int32) (b : Nat → Int32) (t : Nat → Int32) (w : Nat → Int32) (a1 a2 a3 : Int32) : Int32 := (if (f_M_may a1 a2 a3) = 0 then (0 : Int32) else (1 : Int32))
def u_M_load_g (g : Nat → Int32) (b : Nat → Int32) (t : Nat → Int32) (w : Nat → Int32) (a1 a2 a3 : Int32) : Nat → Int32 := (if (f_M_may a1 a2 a3) = 0 then g else upd g a1.toNatClampNeg (vp_nar .boolean (if (8 : Int32) ≤ a3 then (0 : Int32) else (if (g a2.toNatClampNeg) = 0 then (0 : Int32) else (1 : Int32)))))
def u_M_load_b (g : Nat → Int32) (b : Nat → Int32) (t : Nat → Int32) (w : Nat → Int32) (a1 a2 a3 : Int32) : Nat → Int32 := (if (f_M_may a1 a2 a3) = 0 then b else upd (upd (upd (upd (upd b (((6 : Int32) * a1) + (1 : Int32)).toNatClampNeg (if (((1 : Int32) - (5 : Int32)) + (a3 - a3 / (8 : Int32) * (8 : Int32))) < (f_M_first a3) then (0 : Int32) else (b (((6 : Int32) * a2) + (((1 : Int32) - (5 : Int32)) + (a3 - a3 / (8 : Int32) * (8 : Int32)))).toNatClampNeg))) (((6 : Int32) * a1) + (2 : Int32)).toNatClampNeg (if (((2 : Int32) - (5 : Int32)) + (a3 - a3 / (8 : Int32) * (8 : Int32))) < (f_M_first a3) then (0 : Int32) else (b (((6 : Int32) * a2) + (((2 : Int32) - (5 : Int32)) + (a3 - a3 / (8 : Int32) * (8 : Int32)))).toNatClampNeg))) (((6 : Int32) * a1) + (3 : Int32)).toNatClampNeg (if (((3 : Int32) - (5 : Int32)) + (a3 - a3 / (8 : Int32) * (8 : Int32))) < (f_M_first a3) then (0 : Int32) else (b (((6 : Int32) * a2) + (((3 : Int32) - (5 : Int32)) + (a3 - a3 / (8 : Int32) * (8 : Int32)))).toNatClampNeg))) (((6 : Int32) * a1) + (4 : Int32)).toNatClampNeg (if (((4 : Int32) - (5 : Int32)) + (a3 - a3 / (8 : Int32) * (8 : Int32))) < (f_M_first a3) then (0 : Int32) else (b (((6 : Int32) * a2) + (((4 : Int32) - (5 : Int32)) + (a3 - a3 / (8 : Int32) * (8 : Int32)))).toNatClampNeg))) (((6 : Int32) * a1) + (5 : Int32)).toNatClampNeg (if (((5 : Int32) - (5 : Int32)) + (a3 - a3 / (8 : Int32) * (8 : Int32))) < (f_M_first a3) then (0 : Int32) else (b (((6 : Int32) * a2) + (((5 : Int32) - (5 : Int32)) + (a3 - a3 / (8 : Int32) * (8 : Int32)))).toNatClampNeg)))
def u_M_load_w (g : Nat → Int32) (b : Nat → Int32) (t : Nat → Int32) (w : Nat → Int32) (a1 a2 a3 : Int32) : Nat → Int32 := (if (f_M_may a1 a2 a3) = 0 then w else upd (upd (upd (upd (upd w 1 (if (((1 : Int32) - (5 : Int32)) + (a3 - a3 / (8 : Int32) * (8 : Int32))) < (f_M_first a3) then (0 : Int32) else (b (((6 : Int32) * a2) + (((1 : Int32) - (5 : Int32)) + (a3 - a3 / (8 : Int32) * (8 : Int32)))).toNatClampNeg))) 2 (if (((2 : Int32) - (5 : Int32)) + (a3 - a3 / (8 : Int32) * (8 : Int32))) < (f_M_first a3) then (0 : Int32) else (b (((6 : Int32) * a2) + (((2 : Int32) - (5 : Int32)) + (a3 - a3 / (8 : Int32) * (8 : Int32)))).toNatClampNeg))) 3 (if (((3 : Int32) - (5 : Int32)) + (a3 - a3 / (8 : Int32) * (8 : Int32))) < (f_M_first a3) then (0 : Int32) else (b (((6 : Int32) * a2) + (((3 : Int32) - (5 : Int32)) + (a3 - a3 / (8 : Int32) * (8 : Int32)))).toNatClampNeg))) 4 (if (((4 : Int32) - (5 : Int32)) + (a3 - a3 / (8 : Int32) * (8 : Int32))) < (f_M_first a3) then (0 : Int32) else (b (((6 : Int32) * a2) + (((4 : Int32) - (5 : Int32)) + (a3 - a3 / (8 : Int32) * (8 : Int32)))).toNatClampNeg))) 5 (if (((5 : Int32) - (5 : Int32)) + (a3 - a3 / (8 : Int32) * (8 : Int32))) < (f_M_first a3) then (0 : Int32) else (b (((6 : Int32) * a2) + (((5 : Int32) - (5 : Int32)) + (a3 - a3 / (8 : Int32) * (8 : Int32)))).toNatClampNeg)))
def f_M_store (g : Nat → Int32) (b : Nat → Int32) (t : Nat → Int32) (w : Nat → Int32) (a1 a2 a3 : Int32) : Int32 := (if (f_M_may a1 a2 a3) = 0 then (0 : Int32) else (1 : Int32))
def u_M_store_g (g : Nat → Int32) (b : Nat → Int32) (t : Nat → Int32) (w : Nat → Int32) (a1 a2 a3 : Int32) : Nat → Int32 := (if (f_M_may a1 a2 a3) = 0 then g else upd g a1.toNatClampNeg (vp_nar .boolean (if (8 : Int32) ≤ a3 then (g a1.toNatClampNeg) else (g a2.toNatClampNeg))))
def u_M_store_b (g : Nat → Int32) (b : Nat → Int32) (t : Nat → Int32) (w : Nat → Int32) (a1 a2 a3 : Int32) : Nat → Int32 := (if (f_M_may a1 a2 a3) = 0 then b else upd (upd (upd (upd (upd b (((6 : Int32) * a1) + (1 : Int32)).toNatClampNeg (if (if (1 : Int32) < (f_M_first a3) then (0 : Int32) else (if (a3 - a3 / (8 : Int32) * (8 : Int32)) < (1 : Int32) then (0 : Int32) else (1 : Int32))) = 0 then (b (((6 : Int32) * a1) + (1 : Int32)).toNatClampNeg) else (b (((((6 : Int32) * a2) + (1 : Int32)) + (5 : Int32)) - (a3 - a3 / (8 : Int32) * (8 : Int32))).toNatClampNeg))) (((6 : Int32) * a1) + (2 : Int32)).toNatClampNeg (if (if (2 : Int32) < (f_M_first a3) then (0 : Int32) else (if (a3 - a3 / (8 : Int32) * (8 : Int32)) < (2 : Int32) then (0 : Int32) else (1 : Int32))) = 0 then (b (((6 : Int32) * a1) + (2 : Int32)).toNatClampNeg) else (b (((((6 : Int32) * a2) + (2 : Int32)) + (5 : Int32)) - (a3 - a3 / (8 : Int32) * (8 : Int32))).toNatClampNeg))) (((6 : Int32) * a1) + (3 : Int32)).toNatClampNeg (if (if (3 : Int32) < (f_M_first a3) then (0 : Int32) else (if (a3 - a3 / (8 : Int32) * (8 : Int32)) < (3 : Int32) then (0 : Int32) else (1 : Int32))) = 0 then (b (((6 : Int32) * a1) + (3 : Int32)).toNatClampNeg) else (b (((((6 : Int32) * a2) + (3 : Int32)) + (5 : Int32)) - (a3 - a3 / (8 : Int32) * (8 : Int32))).toNatClampNeg))) (((6 : Int32) * a1) + (4 : Int32)).toNatClampNeg (if (if (4 : Int32) < (f_M_first a3) then (0 : Int32) else (if (a3 - a3 / (8 : Int32) * (8 : Int32)) < (4 : Int32) then (0 : Int32) else (1 : Int32))) = 0 then (b (((6 : Int32) * a1) + (4 : Int32)).toNatClampNeg) else (b (((((6 : Int32) * a2) + (4 : Int32)) + (5 : Int32)) - (a3 - a3 / (8 : Int32) * (8 : Int32))).toNatClampNeg))) (((6 : Int32) * a1) + (5 : Int32)).toNatClampNeg (if (if (5 : Int32) < (f_M_first a3) then (0 : Int32) else (if (a3 - a3 / (8 : Int32) * (8 : Int32)) < (5 : Int32) then (0 : Int32) else (1 : Int32))) = 0 then (b (((6 : Int32) * a1) + (5 : Int32)).toNatClampNeg) else (b (((((6 : Int32) * a2) + (5 : Int32)) + (5 : Int32)) - (a3 - a3 / (8 : Int32) * (8 : Int32))).toNatClampNeg)))
def u_M_store_w (g : Nat → Int32) (b : Nat → Int32) (t : Nat → Int32) (w : Nat → Int32) (a1 a2 a3 : Int32) : Nat → Int32 := (if (f_M_may a1 a2 a3) = 0 then w else upd (upd (upd (upd (upd w 1 (if (if (1 : Int32) < (f_M_first a3) then (0 : Int32) else (if (a3 - a3 / (8 : Int32) * (8 : Int32)) < (1 : Int32) then (0 : Int32) else (1 : Int32))) = 0 then (b (((6 : Int32) * a1) + (1 : Int32)).toNatClampNeg) else (b (((((6 : Int32) * a2) + (1 : Int32)) + (5 : Int32)) - (a3 - a3 / (8 : Int32) * (8 : Int32))).toNatClampNeg))) 2 (if (if (2 : Int32) < (f_M_first a3) then (0 : Int32) else (if (a3 - a3 / (8 : Int32) * (8 : Int32)) < (2 : Int32) then (0 : Int32) else (1 : Int32))) = 0 then (b (((6 : Int32) * a1) + (2 : Int32)).toNatClampNeg) else (b (((((6 : Int32) * a2) + (2 : Int32)) + (5 : Int32)) - (a3 - a3 / (8 : Int32) * (8 : Int32))).toNatClampNeg))) 3 (if (if (3 : Int32) < (f_M_first a3) then (0 : Int32) else (if (a3 - a3 / (8 : Int32) * (8 : Int32)) < (3 : Int32) then (0 : Int32) else (1 : Int32))) = 0 then (b (((6 : Int32) * a1) + (3 : Int32)).toNatClampNeg) else (b (((((6 : Int32) * a2) + (3 : Int32)) + (5 : Int32)) - (a3 - a3 / (8 : Int32) * (8 : Int32))).toNatClampNeg))) 4 (if (if (4 : Int32) < (f_M_first a3) then (0 : Int32) else (if (a3 - a3 / (8 : Int32) * (8 : Int32)) < (4 : Int32) then (0 : Int32) else (1 : Int32))) = 0 then (b (((6 : Int32) * a1) + (4 : Int32)).toNatClampNeg) else (b (((((6 : Int32) * a2) + (4 : Int32)) + (5 : Int32)) - (a3 - a3 / (8 : Int32) * (8 : Int32))).toNatClampNeg))) 5 (if (if (5 : Int32) < (f_M_first a3) then (0 : Int32) else (if (a3 - a3 / (8 : Int32) * (8 : Int32)) < (5 : Int32) then (0 : Int32) else (1 : Int32))) = 0 then (b (((6 : Int32) * a1) + (5 : Int32)).toNatClampNeg) else (b (((((6 : Int32) * a2) + (5 : Int32)) + (5 : Int32)) - (a3 - a3 / (8 : Int32) * (8 : Int32))).toNatClampNeg)))
def f_M_code (g : Nat → Int32) (b : Nat → Int32) (t : Nat → Int32) (w : Nat → Int32) (a1 : Int32) : Int32 := (if a1 < 0 then (-1 : Int32) else (if a1 ≤ (255 : Int32) then cdS t (if a1 < (97 : Int32) then a1 else (if (122 : Int32) < a1 then a1 else (a1 - (32 : Int32)))) 56 else (-1 : Int32)))
def f_Q_checkIndex (a1 : Int32) : Int32 := a1
def f_Q_checkIndexR (a1 : Int32) : Int32 := a1
def f_Z_charAt (a1 : Int32) : Int32 := (((sby a1.toNatClampNeg) &&& (255 : Int32)).toUInt32 % 65536).toInt32
def f_S_charAt (a1 : Int32) : Int32 := (f_Z_charAt a1)
def f_Z_canEncode (a1 : Int32) : Int32 := (if a1 < 0 then (0 : Int32) else (if (255 : Int32) < a1 then (0 : Int32) else (1 : Int32)))
def f_Z_indexOfChar (a1 : Int32) : Int32 := ixF a1.toInt8.toInt32 56 0
def f_Z_indexOf (a1 : Int32) : Int32 := (if (f_Z_canEncode a1) = 0 then (-1 : Int32) else (f_Z_indexOfChar a1))
def f_S_indexOf2 (a1 : Int32) : Int32 := (f_Z_indexOf a1)
def f_S_indexOf (a1 : Int32) : Int32 := (f_S_indexOf2 a1)
def f_F_letter (a1 : Int32) : Int32 := (if a1 < 0 then (-1 : Int32) else (if a1 ≤ (63 : Int32) then (if (56 : Int32) ≤ a1 then (63 : Int32) else (f_S_charAt a1)) else (-1 : Int32)))
def f_F_code (a1 : Int32) : Int32 := (if a1 < 0 then (-1 : Int32) else (if a1 ≤ (255 : Int32) then (if 0 ≤ (f_S_indexOf ((f_F_greatLetter a1).toUInt32 % 65536).toInt32) then (f_S_indexOf ((f_F_greatLetter a1).toUInt32 % 65536).toInt32) else (0 : Int32)) else (-1 : Int32)))
theorem in_F {a : Int32} (h : ¬ f_F_isRegister a = 0) : vp_in a 16 := by
  rw [vp_in_iff]
  unfold f_F_isRegister at h
  split at h
  · exact absurd rfl h
  · rename_i h0
    split at h
    · exact absurd rfl h
    · rename_i h1
      rw [Int32.lt_iff_toInt_lt] at h0
      rw [Int32.le_iff_toInt_le] at h1
      have e1 : (16 : Int32).toInt = 16 := by decide
      have e0 : (0 : Int32).toInt = 0 := by decide
      omega
theorem in_M {a : Int32} (h : ¬ f_M_isRegister a = 0) : vp_in a 16 := by
  rw [vp_in_iff]
  unfold f_M_isRegister at h
  split at h
  · exact absurd rfl h
  · rename_i h0
    split at h
    · exact absurd rfl h
    · rename_i h1
      rw [Int32.lt_iff_toInt_lt] at h0
      rw [Int32.le_iff_toInt_le] at h1
      have e1 : (16 : Int32).toInt = 16 := by decide
      have e0 : (0 : Int32).toInt = 0 := by decide
      omega
theorem ix_e {j k : Nat} (hj : j < 16) (hk : k < 6) : (((6 : Int32) * nI j) + nI k).toNatClampNeg = 6 * j + k := by
  have e : (6 : Int32) * nI j + nI k = nI (6 * j + k) := by
    rw [show (6 : Int32) = nI 6 from rfl, pk_mul, nI_add]
  rw [e, nI_clamp (by omega)]
theorem in_96 {a k : Int32} (h : ¬ f_M_isRegister a = 0) (hk : vp_in k 6) : vp_in (((6 : Int32) * a) + k) 96 := by
  obtain ⟨j, hj, rfl⟩ := vp_in_of (in_M h) (by decide)
  obtain ⟨i, hi, rfl⟩ := vp_in_of hk (by decide)
  have e : (6 : Int32) * nI j + nI i = nI (6 * j + i) := by
    rw [show (6 : Int32) = nI 6 from rfl, pk_mul, nI_add]
  rw [e]
  exact vp_in_nI (by omega) (by decide)
theorem in_6 {k : Int32} (h0 : ¬ k < 0) (h5 : k ≤ (5 : Int32)) : vp_in k 6 := by
  rw [vp_in_iff]
  rw [Int32.lt_iff_toInt_lt] at h0
  rw [Int32.le_iff_toInt_le] at h5
  have e1 : (5 : Int32).toInt = 5 := by decide
  have e0 : (0 : Int32).toInt = 0 := by decide
  omega
theorem in_56 {k : Int32} (h0 : ¬ k < 0) (h5 : ¬ (56 : Int32) ≤ k) : vp_in k 56 := by
  rw [vp_in_iff]
  rw [Int32.lt_iff_toInt_lt] at h0
  rw [Int32.le_iff_toInt_le] at h5
  have e1 : (56 : Int32).toInt = 56 := by decide
  have e0 : (0 : Int32).toInt = 0 := by decide
  omega
def nQ (j : Nat) (k : Int32) : Prop := ∃ i : Nat, k = nI i ∧ j ≤ i ∧ i < 2 ^ 31
theorem n_1 {a : Int32} (h : ¬ a < 1) : nQ 1 a := by
  rw [Int32.lt_iff_toInt_lt] at h
  have e1 : (1 : Int32).toInt = 1 := by decide
  have h0 : ¬ a < 0 := by
    rw [Int32.lt_iff_toInt_lt]
    have e0 : (0 : Int32).toInt = 0 := by decide
    omega
  obtain ⟨j, hj, rfl⟩ := nI_of h0
  rw [nI_toInt hj] at h
  exact ⟨j, rfl, by omega, hj⟩
theorem n_5 {i : Nat} {a3 : Int32} (hi : i < 2 ^ 31) (hc : ¬ a3 < nI i) (h3 : ¬ (5 : Int32) < a3) : i ≤ 5 := by
  rw [Int32.lt_iff_toInt_lt] at hc h3
  rw [nI_toInt hi] at hc
  have e1 : (5 : Int32).toInt = 5 := by decide
  omega
theorem n_s {j : Nat} {k a3 k' : Int32} (h : nQ j k) (hc : ¬ a3 < k) (h3 : ¬ (5 : Int32) < a3) (e : k' = (k + (1 : Int32))) : nQ (j + 1) k' := by
  obtain ⟨i, rfl, h1, h2⟩ := h
  have h5 := n_5 h2 hc h3
  exact ⟨i + 1, by rw [e, nI_1], by omega, by omega⟩
theorem n_in {j : Nat} {k a3 : Int32} (h : nQ j k) (hc : ¬ a3 < k) (h3 : ¬ (5 : Int32) < a3) : vp_in k 6 := by
  obtain ⟨i, rfl, h1, h2⟩ := h
  have h5 := n_5 h2 hc h3
  exact vp_in_nI (by omega) (by decide)
theorem n_e {k a3 : Int32} (h : nQ 6 k) (h3 : ¬ (5 : Int32) < a3) : a3 < k := by
  obtain ⟨i, rfl, h1, h2⟩ := h
  rw [Int32.lt_iff_toInt_lt] at h3 ⊢
  rw [nI_toInt h2]
  have e1 : (5 : Int32).toInt = 5 := by decide
  omega
theorem may_1 {a b c : Int32} (h : ¬ f_M_may a b c = 0) : ¬ f_M_isRegister a = 0 := by
  intro q
  apply h
  unfold f_M_may
  rw [if_pos q]
theorem may_2 {a b c : Int32} (h : ¬ f_M_may a b c = 0) : ¬ f_M_isRegister b = 0 := by
  intro q
  apply h
  unfold f_M_may
  rw [if_neg (may_1 h), if_pos q]
theorem may_3 {a b c : Int32} (h : ¬ f_M_may a b c = 0) : ¬ f_M_is c = 0 := by
  intro q
  apply h
  unfold f_M_may
  rw [if_neg (may_1 h), if_neg (may_2 h), if_pos q]
theorem rem_8 {n : Nat} (h : n < 2 ^ 31) : nI n - nI n / (8 : Int32) * (8 : Int32) = nI (n % 8) := pk_rem (d := 8) h (by decide) (by decide)
theorem div_8 {n : Nat} (h : n < 2 ^ 31) : nI n / (8 : Int32) = nI (n / 8) := pk_div (d := 8) h (by decide) (by decide)
theorem is_of {c : Int32} (h : ¬ f_M_is c = 0) : ∃ L R : Nat, L ≤ R ∧ R ≤ 5 ∧ c = nI (8 * L + R) := by
  unfold f_M_is at h
  split at h
  · exact absurd rfl h
  rename_i h0
  obtain ⟨n, hn, rfl⟩ := nI_of h0
  rw [rem_8 hn, div_8 hn] at h
  split at h
  · exact absurd rfl h
  rename_i h1
  split at h
  · exact absurd rfl h
  rename_i h2
  split at h
  · exact absurd rfl h
  rename_i h3
  rw [show (48 : Int32) = nI 48 from rfl, nI_leI (by decide) hn] at h1
  rw [show (6 : Int32) = nI 6 from rfl, nI_leI (by decide) (by omega)] at h2
  rw [nI_ltI (by omega) (by omega)] at h3
  exact ⟨n / 8, n % 8, by omega, by omega, by rw [show 8 * (n / 8) + n % 8 = n by omega]⟩
theorem f_e {L R : Nat} (hR : R ≤ 5) (hL : L ≤ 5) : f_M_first (nI (8 * L + R)) = nI (if L = 0 then 1 else L) := by
  unfold f_M_first
  rw [div_8 (by omega), show (8 : Int32) = nI 8 from rfl]
  by_cases h : L = 0
  · subst h
    rw [if_neg (by rw [nI_leI (by decide) (by omega)]; omega), if_pos rfl]
    rfl
  · rw [if_pos (by rw [nI_leI (by decide) (by omega)]; omega), if_neg h, show (8 * L + R) / 8 = L by omega]
theorem r_e {L R : Nat} (hR : R ≤ 5) (hL : L ≤ 5) : nI (8 * L + R) - nI (8 * L + R) / (8 : Int32) * (8 : Int32) = nI R := by
  rw [rem_8 (by omega), show (8 * L + R) % 8 = R by omega]
theorem may_f {a b c : Int32} (h : ¬ f_M_may a b c = 0) : ¬ f_M_first c < 1 := by
  obtain ⟨L, R, h1, h2, rfl⟩ := is_of (may_3 h)
  rw [f_e h2 (by omega), show (1 : Int32) = nI 1 from rfl, nI_ltI (by split <;> omega) (by decide)]
  split <;> omega
theorem may_l {a b c : Int32} (h : ¬ f_M_may a b c = 0) : ¬ (5 : Int32) < (c - c / (8 : Int32) * (8 : Int32)) := by
  obtain ⟨L, R, h1, h2, rfl⟩ := is_of (may_3 h)
  rw [r_e h2 (by omega), show (5 : Int32) = nI 5 from rfl, nI_ltI (by decide) (by omega)]
  omega
theorem tb_L1 : ∀ k, k < 6 → ∀ R, R < 6 → ∀ F, F < 6 → (decide (((nI k - (5 : Int32)) + nI R) < nI F) = decide (k + R < 5 + F) ∨ F = 0) := by decide +kernel
theorem tb_L2 : ∀ k, k < 6 → ∀ R, R < 6 → ((nI k - (5 : Int32)) + nI R = nI (k + R - 5) ∨ k + R < 5) := by decide +kernel
theorem tb_L (k : Nat) (hk : k < 6) (R : Nat) (hR : R < 6) (F : Nat) (hF : F < 6) (h0 : 0 < F) : (((nI k - (5 : Int32)) + nI R) < nI F ↔ k + R < 5 + F) ∧ (5 ≤ k + R → (nI k - (5 : Int32)) + nI R = nI (k + R - 5)) := by
  refine ⟨?_, fun h => (tb_L2 k hk R hR).resolve_right (by omega)⟩
  exact decide_eq_decide.mp ((tb_L1 k hk R hR F hF).resolve_right (by omega))
theorem in_96L {a b fl x k : Int32} (h : ¬ f_M_may a b fl = 0) (hk : vp_in k 6) (ex : x = ((k - (5 : Int32)) + (fl - fl / (8 : Int32) * (8 : Int32)))) (hc : ¬ x < (f_M_first fl)) : vp_in (((6 : Int32) * b) + x) 96 := by
  have hb := may_2 h
  obtain ⟨L, R, h1, h2, rfl⟩ := is_of (may_3 h)
  obtain ⟨j, hj, rfl⟩ := vp_in_of hk (by decide)
  rw [r_e h2 (by omega)] at ex
  rw [f_e h2 (by omega)] at hc
  have t := tb_L j hj R (by omega) (if L = 0 then 1 else L) (by split <;> omega) (by split <;> omega)
  rw [ex, t.1] at hc
  have hF : 0 < (if L = 0 then 1 else L) := by split <;> omega
  have e := t.2 (by omega)
  rw [ex, e]
  exact in_96 hb (vp_in_nI (by omega) (by decide))
theorem in_96S {a b fl v k : Int32} (h : ¬ f_M_may a b fl = 0) (hk : vp_in k 6) (ev : v = (if k < (f_M_first fl) then (0 : Int32) else (if (fl - fl / (8 : Int32) * (8 : Int32)) < k then (0 : Int32) else (1 : Int32)))) (hc : ¬ v = 0) : vp_in (((((6 : Int32) * b) + k) + (5 : Int32)) - (fl - fl / (8 : Int32) * (8 : Int32))) 96 := by
  have hb := may_2 h
  obtain ⟨L, R, h1, h2, rfl⟩ := is_of (may_3 h)
  obtain ⟨j, hj, rfl⟩ := vp_in_of hk (by decide)
  obtain ⟨i, hi, rfl⟩ := vp_in_of (in_M hb) (by decide)
  rw [r_e h2 (by omega)] at ev ⊢
  rw [ev] at hc
  split at hc
  · exact absurd rfl hc
  split at hc
  · exact absurd rfl hc
  rename_i q1 q2
  rw [nI_ltI (by omega) (by omega)] at q2
  have e : (6 : Int32) * nI i + nI j + (5 : Int32) - nI R = nI (6 * i + j + 5 - R) := by
    rw [show (6 : Int32) = nI 6 from rfl, show (5 : Int32) = nI 5 from rfl, pk_mul, nI_add, nI_add, pk_sub (by omega)]
  rw [e]
  exact vp_in_nI (by omega) (by decide)
theorem nar_is (x : Int32) : narrow .boolean (.int (f_M_is x)) = .int (f_M_is x) := by
  unfold f_M_is
  repeat' split
  all_goals rfl
end
section
set_option maxHeartbeats 4000000 in
set_option maxRecDepth 100000 in
theorem c_F_isRegister (l : Launch) (a1 : Int32) : Met l yF_isRegister wsF_isRegister ({ frames := 0, cells := 0, slots := 0, locals := 0 }) (va_Pc [.int a1] (fun _ => True)) (va_Qi (fun (r : Int32) (_ : Unit) => r = f_F_isRegister a1) (fun _ _ => True) (fun _ => False)) 0 0 (fun _ => False) := by
  refine Met.ofW (cc := prog_1_method_12_code) (maxL := 1) (ret := (some .boolean)) (by decide) rfl ?_
  intro p e s m args below meth c s₁ B hml hv
  obtain ⟨rfl, -⟩ := hv
  have hx := B.exec
  have hb := B.bytes
  have hr := B.returns
  have hts := fun (w : Cond) (h : w ∈ gw) => atoms_spec (ws := wsF_isRegister) B.pre w (List.mem_cons_of_mem _ h)
  have hown : s.vm.findClass RF = some m.cls := findClass_of_methodNamed B.named
  have hlocks := B.notSynchronized
  have hS : va_S (fun _ => False) s.heap s.heap [] := va_S.rf
  have hl := lv_entry ([.int a1]) (n := 1) (Nat.le_of_ble_eq_true rfl)
  rw [lg_entry_eq]
  generalize (lg_sl ([.int a1]) ++ List.replicate (1 - (lg_sl ([.int a1])).length) Slot.unset).toArray = ls at hl ⊢
  have hl : lv_has ls 1 [(0, .int a1)] := hl
  refine lv_iload_n hx hb dF_isRegister_0 rfl (lv_at hl 0 rfl) ?_
  refine lv_if_lt (tgt := 14) hx hb dF_isRegister_1 (by decide) (fun c_1 => ?_) (fun c_1 => ?_)
  · refine lv_iconst (v := (0 : Int32)) hx hb dF_isRegister_14 (by decide) ?_
    exact W.zret (v := (0 : Int32)) hx hb hr (by decide) (fun tt ht hW => ⟨⟨(0 : Int32), (), rfl, (by unfold f_F_isRegister; rw [if_pos c_1]), trivial⟩, hS.F ht⟩) hS.2.2 dF_isRegister_15
  · refine lv_iload_n hx hb dF_isRegister_4 rfl (lv_at hl 0 rfl) ?_
    refine lv_bipush (v := (16 : Int32)) hx hb dF_isRegister_5 (by decide) ?_
    refine lv_icmp_ge (tgt := 14) hx hb dF_isRegister_7 (by decide) (fun c_2 => ?_) (fun c_2 => ?_)
    · refine lv_iconst (v := (0 : Int32)) hx hb dF_isRegister_14 (by decide) ?_
      exact W.zret (v := (0 : Int32)) hx hb hr (by decide) (fun tt ht hW => ⟨⟨(0 : Int32), (), rfl, (by unfold f_F_isRegister; rw [if_neg c_1, if_pos c_2]), trivial⟩, hS.F ht⟩) hS.2.2 dF_isRegister_15
    · refine lv_iconst (v := (1 : Int32)) hx hb dF_isRegister_10 (by decide) ?_
      refine lv_goto (tgt := 15) hx hb dF_isRegister_11 (by decide) ?_
      exact W.zret (v := (1 : Int32)) hx hb hr (by decide) (fun tt ht hW => ⟨⟨(1 : Int32), (), rfl, (by unfold f_F_isRegister; rw [if_neg c_1, if_neg c_2]), trivial⟩, hS.F ht⟩) hS.2.2 dF_isRegister_15

set_option maxHeartbeats 4000000 in
set_option maxRecDepth 100000 in
theorem c_F_isMinus (l : Launch) (a1 : Int32) : Met l yF_isMinus wsF_isMinus ({ frames := 0, cells := 0, slots := 0, locals := 0 }) (va_Pc [.int a1] (fun _ => True)) (va_Qi (fun (r : Int32) (_ : Unit) => r = f_F_isMinus a1) (fun _ _ => True) (fun _ => False)) 0 0 (fun _ => False) := by
  refine Met.ofW (cc := prog_1_method_13_code) (maxL := 1) (ret := (some .boolean)) (by decide) rfl ?_
  intro p e s m args below meth c s₁ B hml hv
  obtain ⟨rfl, -⟩ := hv
  have hx := B.exec
  have hb := B.bytes
  have hr := B.returns
  have hts := fun (w : Cond) (h : w ∈ gw) => atoms_spec (ws := wsF_isMinus) B.pre w (List.mem_cons_of_mem _ h)
  have hown : s.vm.findClass RF = some m.cls := findClass_of_methodNamed B.named
  have hlocks := B.notSynchronized
  have hS : va_S (fun _ => False) s.heap s.heap [] := va_S.rf
  have hl := lv_entry ([.int a1]) (n := 1) (Nat.le_of_ble_eq_true rfl)
  rw [lg_entry_eq]
  generalize (lg_sl ([.int a1]) ++ List.replicate (1 - (lg_sl ([.int a1])).length) Slot.unset).toArray = ls at hl ⊢
  have hl : lv_has ls 1 [(0, .int a1)] := hl
  refine lv_iload_n hx hb dF_isMinus_0 rfl (lv_at hl 0 rfl) ?_
  refine lv_ldc (v := (1073741824 : Int32)) hx hb hown (hts _ tw_31) dF_isMinus_1 ?_
  refine lv_iand hx hb dF_isMinus_3 ?_
  refine lv_if_eq (tgt := 11) hx hb dF_isMinus_4 (by decide) (fun c_1 => ?_) (fun c_1 => ?_)
  · refine lv_iconst (v := (0 : Int32)) hx hb dF_isMinus_11 (by decide) ?_
    exact W.zret (v := (0 : Int32)) hx hb hr (by decide) (fun tt ht hW => ⟨⟨(0 : Int32), (), rfl, (by unfold f_F_isMinus; rw [if_pos c_1]), trivial⟩, hS.F ht⟩) hS.2.2 dF_isMinus_12
  · refine lv_iconst (v := (1 : Int32)) hx hb dF_isMinus_7 (by decide) ?_
    refine lv_goto (tgt := 12) hx hb dF_isMinus_8 (by decide) ?_
    exact W.zret (v := (1 : Int32)) hx hb hr (by decide) (fun tt ht hW => ⟨⟨(1 : Int32), (), rfl, (by unfold f_F_isMinus; rw [if_neg c_1]), trivial⟩, hS.F ht⟩) hS.2.2 dF_isMinus_12

set_option maxHeartbeats 4000000 in
set_option maxRecDepth 100000 in
theorem c_F_number (l : Launch) (a1 : Int32) : Met l yF_number wsF_number ({ frames := 1, cells := 0, slots := 0, locals := 20 }) (va_Pc [.int a1] (fun _ => True)) (va_Qi (fun (r : Int32) (_ : Unit) => r = f_F_number a1) (fun _ _ => True) (fun _ => False)) 0 0 (fun _ => False) := by
  refine Met.ofW (cc := prog_1_method_14_code) (maxL := 2) (ret := (some .int)) (by decide) rfl ?_
  intro p e s m args below meth c s₁ B hml hv
  obtain ⟨rfl, -⟩ := hv
  have hx := B.exec
  have hb := B.bytes
  have hr := B.returns
  have hts := fun (w : Cond) (h : w ∈ gw) => atoms_spec (ws := wsF_number) B.pre w (List.mem_cons_of_mem _ h)
  have hown : s.vm.findClass RF = some m.cls := findClass_of_methodNamed B.named
  have hlocks := B.notSynchronized
  have hS : va_S (fun _ => False) s.heap s.heap [] := va_S.rf
  have hl := lv_entry ([.int a1]) (n := 2) (Nat.le_of_ble_eq_true rfl)
  rw [lg_entry_eq]
  generalize (lg_sl ([.int a1]) ++ List.replicate (2 - (lg_sl ([.int a1])).length) Slot.unset).toArray = ls at hl ⊢
  have hl : lv_has ls 2 [(0, .int a1)] := hl
  refine lv_iload_n hx hb dF_number_0 rfl (lv_at hl 0 rfl) ?_
  refine lv_ldc (v := (1073741823 : Int32)) hx hb hown (hts _ tw_29) dF_number_1 ?_
  refine lv_iand hx hb dF_number_3 ?_
  refine lv_topi (fun x_1 ex_1 => ?_)
  refine lv_istore_n (lv' := [(1, .int x_1), (0, .int a1)]) hx hb dF_number_4 rfl hl (by decide) rfl (fun ls hl => ?_)
  refine lv_iload_n hx hb dF_number_5 rfl (lv_at hl 1 rfl) ?_
  refine kk_call0 (va_runS (As := [.int a1]) (rest := []) ⟨hx, hb, hml, hown, hts⟩ (c_F_isMinus l a1) (va_cwS 1 hts (gS tw_41 tw_42 tw_1 tw_43) rfl rfl rfl (by decide +kernel) ⟨Nat.le_of_ble_eq_true rfl, Nat.le_of_ble_eq_true rfl⟩) ⟨fun _ _ _ _ q => q, fun _ _ _ => ⟨rfl, trivial⟩⟩ rfl rfl hl.1 rfl (lv_room (Nat.le_of_ble_eq_true rfl)) dF_number_6 ⟨Nat.le_of_ble_eq_true rfl, Nat.le_of_ble_eq_true rfl⟩) hS (fun H locs hS => ?_)
  refine lv_if_eq (tgt := 17) hx hb dF_number_9 (by decide) (fun c_2 => ?_) (fun c_2 => ?_)
  · refine lv_iload_n hx hb dF_number_17 rfl (lv_at hl 0 rfl) ?_
    exact W.iret (v := x_1) hx hb hr (fun tt ht hW => ⟨⟨x_1, (), rfl, (by subst ex_1; unfold f_F_number; rw [if_pos c_2]), trivial⟩, hS.F ht⟩) hS.2.2 dF_number_18
  · refine lv_iload_n hx hb dF_number_12 rfl (lv_at hl 0 rfl) ?_
    refine lv_ineg hx hb dF_number_13 ?_
    refine lv_goto (tgt := 18) hx hb dF_number_14 (by decide) ?_
    exact W.iret (v := (-x_1)) hx hb hr (fun tt ht hW => ⟨⟨(-x_1), (), rfl, (by subst ex_1; unfold f_F_number; rw [if_neg c_2]), trivial⟩, hS.F ht⟩) hS.2.2 dF_number_18

set_option maxHeartbeats 4000000 in
set_option maxRecDepth 100000 in
theorem c_F_firstByte (l : Launch) (a1 : Int32) : Met l yF_firstByte wsF_firstByte ({ frames := 0, cells := 0, slots := 0, locals := 0 }) (va_Pc [.int a1] (fun _ => True)) (va_Qi (fun (r : Int32) (_ : Unit) => r = f_F_firstByte a1) (fun _ _ => True) (fun _ => False)) 0 0 (fun _ => False) := by
  refine Met.ofW (cc := prog_1_method_15_code) (maxL := 1) (ret := (some .int)) (by decide) rfl ?_
  intro p e s m args below meth c s₁ B hml hv
  obtain ⟨rfl, -⟩ := hv
  have hx := B.exec
  have hb := B.bytes
  have hr := B.returns
  have hts := fun (w : Cond) (h : w ∈ gw) => atoms_spec (ws := wsF_firstByte) B.pre w (List.mem_cons_of_mem _ h)
  have hown : s.vm.findClass RF = some m.cls := findClass_of_methodNamed B.named
  have hlocks := B.notSynchronized
  have hS : va_S (fun _ => False) s.heap s.heap [] := va_S.rf
  have hl := lv_entry ([.int a1]) (n := 1) (Nat.le_of_ble_eq_true rfl)
  rw [lg_entry_eq]
  generalize (lg_sl ([.int a1]) ++ List.replicate (1 - (lg_sl ([.int a1])).length) Slot.unset).toArray = ls at hl ⊢
  have hl : lv_has ls 1 [(0, .int a1)] := hl
  refine lv_iload_n hx hb dF_firstByte_0 rfl (lv_at hl 0 rfl) ?_
  refine lv_iconst (v := (3 : Int32)) hx hb dF_firstByte_1 (by decide) ?_
  refine lv_ishr hx hb dF_firstByte_2 ?_
  exact W.iret (v := (a1 >>> ((3 : Int32) &&& 31))) hx hb hr (fun tt ht hW => ⟨⟨(a1 >>> ((3 : Int32) &&& 31)), (), rfl, (by rfl), trivial⟩, hS.F ht⟩) hS.2.2 dF_firstByte_3

set_option maxHeartbeats 4000000 in
set_option maxRecDepth 100000 in
theorem c_F_lastByte (l : Launch) (a1 : Int32) : Met l yF_lastByte wsF_lastByte ({ frames := 0, cells := 0, slots := 0, locals := 0 }) (va_Pc [.int a1] (fun _ => True)) (va_Qi (fun (r : Int32) (_ : Unit) => r = f_F_lastByte a1) (fun _ _ => True) (fun _ => False)) 0 0 (fun _ => False) := by
  refine Met.ofW (cc := prog_1_method_16_code) (maxL := 1) (ret := (some .int)) (by decide) rfl ?_
  intro p e s m args below meth c s₁ B hml hv
  obtain ⟨rfl, -⟩ := hv
  have hx := B.exec
  have hb := B.bytes
  have hr := B.returns
  have hts := fun (w : Cond) (h : w ∈ gw) => atoms_spec (ws := wsF_lastByte) B.pre w (List.mem_cons_of_mem _ h)
  have hown : s.vm.findClass RF = some m.cls := findClass_of_methodNamed B.named
  have hlocks := B.notSynchronized
  have hS : va_S (fun _ => False) s.heap s.heap [] := va_S.rf
  have hl := lv_entry ([.int a1]) (n := 1) (Nat.le_of_ble_eq_true rfl)
  rw [lg_entry_eq]
  generalize (lg_sl ([.int a1]) ++ List.replicate (1 - (lg_sl ([.int a1])).length) Slot.unset).toArray = ls at hl ⊢
  have hl : lv_has ls 1 [(0, .int a1)] := hl
  refine lv_iload_n hx hb dF_lastByte_0 rfl (lv_at hl 0 rfl) ?_
  refine lv_bipush (v := (7 : Int32)) hx hb dF_lastByte_1 (by decide) ?_
  refine lv_iand hx hb dF_lastByte_3 ?_
  exact W.iret (v := (a1 &&& (7 : Int32))) hx hb hr (fun tt ht hW => ⟨⟨(a1 &&& (7 : Int32)), (), rfl, (by rfl), trivial⟩, hS.F ht⟩) hS.2.2 dF_lastByte_4

set_option maxHeartbeats 4000000 in
set_option maxRecDepth 100000 in
theorem c_F_bitsRightOf (l : Launch) (a1 : Int32) : Met l yF_bitsRightOf wsF_bitsRightOf ({ frames := 0, cells := 0, slots := 0, locals := 0 }) (va_Pc [.int a1] (fun _ => True)) (va_Qi (fun (r : Int32) (_ : Unit) => r = f_F_bitsRightOf a1) (fun _ _ => True) (fun _ => False)) 0 0 (fun _ => False) := by
  refine Met.ofW (cc := prog_1_method_17_code) (maxL := 1) (ret := (some .int)) (by decide) rfl ?_
  intro p e s m args below meth c s₁ B hml hv
  obtain ⟨rfl, -⟩ := hv
  have hx := B.exec
  have hb := B.bytes
  have hr := B.returns
  have hts := fun (w : Cond) (h : w ∈ gw) => atoms_spec (ws := wsF_bitsRightOf) B.pre w (List.mem_cons_of_mem _ h)
  have hown : s.vm.findClass RF = some m.cls := findClass_of_methodNamed B.named
  have hlocks := B.notSynchronized
  have hS : va_S (fun _ => False) s.heap s.heap [] := va_S.rf
  have hl := lv_entry ([.int a1]) (n := 1) (Nat.le_of_ble_eq_true rfl)
  rw [lg_entry_eq]
  generalize (lg_sl ([.int a1]) ++ List.replicate (1 - (lg_sl ([.int a1])).length) Slot.unset).toArray = ls at hl ⊢
  have hl : lv_has ls 1 [(0, .int a1)] := hl
  refine lv_bipush (v := (6 : Int32)) hx hb dF_bitsRightOf_0 (by decide) ?_
  refine lv_iconst (v := (5 : Int32)) hx hb dF_bitsRightOf_2 (by decide) ?_
  refine lv_iload_n hx hb dF_bitsRightOf_3 rfl (lv_at hl 0 rfl) ?_
  refine lv_isub hx hb dF_bitsRightOf_4 ?_
  refine lv_imul hx hb dF_bitsRightOf_5 ?_
  exact W.iret (v := ((6 : Int32) * ((5 : Int32) - a1))) hx hb hr (fun tt ht hW => ⟨⟨((6 : Int32) * ((5 : Int32) - a1)), (), rfl, (by rfl), trivial⟩, hS.F ht⟩) hS.2.2 dF_bitsRightOf_6

set_option maxHeartbeats 4000000 in
set_option maxRecDepth 100000 in
theorem c_F_rightMask (l : Launch) (a1 : Int32) : Met l yF_rightMask wsF_rightMask ({ frames := 1, cells := 0, slots := 0, locals := 20 }) (va_Pc [.int a1] (fun _ => True)) (va_Qi (fun (r : Int32) (_ : Unit) => r = f_F_rightMask a1) (fun _ _ => True) (fun _ => False)) 0 0 (fun _ => False) := by
  refine Met.ofW (cc := prog_1_method_18_code) (maxL := 2) (ret := (some .int)) (by decide) rfl ?_
  intro p e s m args below meth c s₁ B hml hv
  obtain ⟨rfl, -⟩ := hv
  have hx := B.exec
  have hb := B.bytes
  have hr := B.returns
  have hts := fun (w : Cond) (h : w ∈ gw) => atoms_spec (ws := wsF_rightMask) B.pre w (List.mem_cons_of_mem _ h)
  have hown : s.vm.findClass RF = some m.cls := findClass_of_methodNamed B.named
  have hlocks := B.notSynchronized
  have hS : va_S (fun _ => False) s.heap s.heap [] := va_S.rf
  have hl := lv_entry ([.int a1]) (n := 2) (Nat.le_of_ble_eq_true rfl)
  rw [lg_entry_eq]
  generalize (lg_sl ([.int a1]) ++ List.replicate (2 - (lg_sl ([.int a1])).length) Slot.unset).toArray = ls at hl ⊢
  have hl : lv_has ls 2 [(0, .int a1)] := hl
  refine lv_iload_n hx hb dF_rightMask_0 rfl (lv_at hl 0 rfl) ?_
  refine kk_call0 (va_runS (As := [.int a1]) (rest := []) ⟨hx, hb, hml, hown, hts⟩ (c_F_lastByte l a1) (va_cwS 1 hts (gS tw_62 tw_63 tw_1 tw_64) rfl rfl rfl (by decide +kernel) ⟨Nat.le_of_ble_eq_true rfl, Nat.le_of_ble_eq_true rfl⟩) ⟨fun _ _ _ _ q => q, fun _ _ _ => ⟨rfl, trivial⟩⟩ rfl rfl hl.1 rfl (lv_room (Nat.le_of_ble_eq_true rfl)) dF_rightMask_1 ⟨Nat.le_of_ble_eq_true rfl, Nat.le_of_ble_eq_true rfl⟩) hS (fun H locs hS => ?_)
  refine lv_iload_n hx hb dF_rightMask_4 rfl (lv_at hl 0 rfl) ?_
  refine kk_call0 (va_runS (As := [.int a1]) (rest := [.int (f_F_lastByte a1)]) ⟨hx, hb, hml, hown, hts⟩ (c_F_firstByte l a1) (va_cwS 1 hts (gS tw_59 tw_60 tw_1 tw_61) rfl rfl rfl (by decide +kernel) ⟨Nat.le_of_ble_eq_true rfl, Nat.le_of_ble_eq_true rfl⟩) ⟨fun _ _ _ _ q => q, fun _ _ _ => ⟨rfl, trivial⟩⟩ rfl rfl hl.1 rfl (lv_room (Nat.le_of_ble_eq_true rfl)) dF_rightMask_5 ⟨Nat.le_of_ble_eq_true rfl, Nat.le_of_ble_eq_true rfl⟩) hS (fun H locs hS => ?_)
  refine lv_iconst (v := (1 : Int32)) hx hb dF_rightMask_8 (by decide) ?_
  refine va_mmax hx hb (hml.trans hl.1.symm) hown (hts _ tw_71) (hts _ tw_72) (hts _ tw_3) (hts _ tw_mmax) (Nat.le_of_ble_eq_true rfl) (Nat.le_of_ble_eq_true rfl) (Nat.le_of_ble_eq_true rfl) (Nat.le_of_ble_eq_true rfl) dF_rightMask_9 ?_
  refine lv_isub hx hb dF_rightMask_12 ?_
  refine lv_iconst (v := (1 : Int32)) hx hb dF_rightMask_13 (by decide) ?_
  refine lv_iadd hx hb dF_rightMask_14 ?_
  refine lv_topi (fun x_1 ex_1 => ?_)
  refine lv_istore_n (lv' := [(1, .int x_1), (0, .int a1)]) hx hb dF_rightMask_15 rfl hl (by decide) rfl (fun ls hl => ?_)
  refine lv_iconst (v := (1 : Int32)) hx hb dF_rightMask_16 (by decide) ?_
  refine lv_bipush (v := (6 : Int32)) hx hb dF_rightMask_17 (by decide) ?_
  refine lv_iload_n hx hb dF_rightMask_19 rfl (lv_at hl 0 rfl) ?_
  refine lv_imul hx hb dF_rightMask_20 ?_
  refine lv_ishl hx hb dF_rightMask_21 ?_
  refine lv_iconst (v := (1 : Int32)) hx hb dF_rightMask_22 (by decide) ?_
  refine lv_isub hx hb dF_rightMask_23 ?_
  exact W.iret (v := (((1 : Int32) <<< (((6 : Int32) * x_1) &&& 31)) - (1 : Int32))) hx hb hr (fun tt ht hW => ⟨⟨(((1 : Int32) <<< (((6 : Int32) * x_1) &&& 31)) - (1 : Int32)), (), rfl, (by subst ex_1; rfl), trivial⟩, hS.F ht⟩) hS.2.2 dF_rightMask_24

set_option maxHeartbeats 4000000 in
set_option maxRecDepth 100000 in
theorem c_F_signMask (l : Launch) (a1 : Int32) : Met l yF_signMask wsF_signMask ({ frames := 1, cells := 0, slots := 0, locals := 20 }) (va_Pc [.int a1] (fun _ => True)) (va_Qi (fun (r : Int32) (_ : Unit) => r = f_F_signMask a1) (fun _ _ => True) (fun _ => False)) 0 0 (fun _ => False) := by
  refine Met.ofW (cc := prog_1_method_19_code) (maxL := 1) (ret := (some .int)) (by decide) rfl ?_
  intro p e s m args below meth c s₁ B hml hv
  obtain ⟨rfl, -⟩ := hv
  have hx := B.exec
  have hb := B.bytes
  have hr := B.returns
  have hts := fun (w : Cond) (h : w ∈ gw) => atoms_spec (ws := wsF_signMask) B.pre w (List.mem_cons_of_mem _ h)
  have hown : s.vm.findClass RF = some m.cls := findClass_of_methodNamed B.named
  have hlocks := B.notSynchronized
  have hS : va_S (fun _ => False) s.heap s.heap [] := va_S.rf
  have hl := lv_entry ([.int a1]) (n := 1) (Nat.le_of_ble_eq_true rfl)
  rw [lg_entry_eq]
  generalize (lg_sl ([.int a1]) ++ List.replicate (1 - (lg_sl ([.int a1])).length) Slot.unset).toArray = ls at hl ⊢
  have hl : lv_has ls 1 [(0, .int a1)] := hl
  refine lv_iload_n hx hb dF_signMask_0 rfl (lv_at hl 0 rfl) ?_
  refine kk_call0 (va_runS (As := [.int a1]) (rest := []) ⟨hx, hb, hml, hown, hts⟩ (c_F_firstByte l a1) (va_cwS 1 hts (gS tw_59 tw_60 tw_1 tw_61) rfl rfl rfl (by decide +kernel) ⟨Nat.le_of_ble_eq_true rfl, Nat.le_of_ble_eq_true rfl⟩) ⟨fun _ _ _ _ q => q, fun _ _ _ => ⟨rfl, trivial⟩⟩ rfl rfl hl.1 rfl (lv_room (Nat.le_of_ble_eq_true rfl)) dF_signMask_1 ⟨Nat.le_of_ble_eq_true rfl, Nat.le_of_ble_eq_true rfl⟩) hS (fun H locs hS => ?_)
  refine lv_if_ne (tgt := 12) hx hb dF_signMask_4 (by decide) (fun c_1 => ?_) (fun c_1 => ?_)
  · refine lv_iconst (v := (0 : Int32)) hx hb dF_signMask_12 (by decide) ?_
    exact W.iret (v := (0 : Int32)) hx hb hr (fun tt ht hW => ⟨⟨(0 : Int32), (), rfl, (by unfold f_F_signMask; rw [if_neg c_1]), trivial⟩, hS.F ht⟩) hS.2.2 dF_signMask_13
  · refine lv_ldc (v := (1073741824 : Int32)) hx hb hown (hts _ tw_31) dF_signMask_7 ?_
    refine lv_goto (tgt := 13) hx hb dF_signMask_9 (by decide) ?_
    exact W.iret (v := (1073741824 : Int32)) hx hb hr (fun tt ht hW => ⟨⟨(1073741824 : Int32), (), rfl, (by unfold f_F_signMask; rw [if_pos c_1]), trivial⟩, hS.F ht⟩) hS.2.2 dF_signMask_13

set_option maxHeartbeats 4000000 in
set_option maxRecDepth 100000 in
theorem c_F_fieldOf (l : Launch) (a1 a2 : Int32) : Met l yF_fieldOf wsF_fieldOf ({ frames := 2, cells := 0, slots := 0, locals := 41 }) (va_Pc [.int a1, .int a2] (fun _ => True)) (va_Qi (fun (r : Int32) (_ : Unit) => r = f_F_fieldOf a1 a2) (fun _ _ => True) (fun _ => False)) 0 0 (fun _ => False) := by
  refine Met.ofW (cc := prog_1_method_20_code) (maxL := 3) (ret := (some .int)) (by decide) rfl ?_
  intro p e s m args below meth c s₁ B hml hv
  obtain ⟨rfl, -⟩ := hv
  have hx := B.exec
  have hb := B.bytes
  have hr := B.returns
  have hts := fun (w : Cond) (h : w ∈ gw) => atoms_spec (ws := wsF_fieldOf) B.pre w (List.mem_cons_of_mem _ h)
  have hown : s.vm.findClass RF = some m.cls := findClass_of_methodNamed B.named
  have hlocks := B.notSynchronized
  have hS : va_S (fun _ => False) s.heap s.heap [] := va_S.rf
  have hl := lv_entry ([.int a1, .int a2]) (n := 3) (Nat.le_of_ble_eq_true rfl)
  rw [lg_entry_eq]
  generalize (lg_sl ([.int a1, .int a2]) ++ List.replicate (3 - (lg_sl ([.int a1, .int a2])).length) Slot.unset).toArray = ls at hl ⊢
  have hl : lv_has ls 3 [(0, .int a1), (1, .int a2)] := hl
  refine lv_iload_n hx hb dF_fieldOf_0 rfl (lv_at hl 0 rfl) ?_
  refine lv_iload_n hx hb dF_fieldOf_1 rfl (lv_at hl 1 rfl) ?_
  refine kk_call0 (va_runS (As := [.int a2]) (rest := [.int a1]) ⟨hx, hb, hml, hown, hts⟩ (c_F_lastByte l a2) (va_cwS 1 hts (gS tw_62 tw_63 tw_1 tw_64) rfl rfl rfl (by decide +kernel) ⟨Nat.le_of_ble_eq_true rfl, Nat.le_of_ble_eq_true rfl⟩) ⟨fun _ _ _ _ q => q, fun _ _ _ => ⟨rfl, trivial⟩⟩ rfl rfl hl.1 rfl (lv_room (Nat.le_of_ble_eq_true rfl)) dF_fieldOf_2 ⟨Nat.le_of_ble_eq_true rfl, Nat.le_of_ble_eq_true rfl⟩) hS (fun H locs hS => ?_)
  refine kk_call0 (va_runS (As := [.int (f_F_lastByte a2)]) (rest := [.int a1]) ⟨hx, hb, hml, hown, hts⟩ (c_F_bitsRightOf l (f_F_lastByte a2)) (va_cwS 1 hts (gS tw_48 tw_49 tw_1 tw_50) rfl rfl rfl (by decide +kernel) ⟨Nat.le_of_ble_eq_true rfl, Nat.le_of_ble_eq_true rfl⟩) ⟨fun _ _ _ _ q => q, fun _ _ _ => ⟨rfl, trivial⟩⟩ rfl rfl hl.1 rfl (lv_room (Nat.le_of_ble_eq_true rfl)) dF_fieldOf_5 ⟨Nat.le_of_ble_eq_true rfl, Nat.le_of_ble_eq_true rfl⟩) hS (fun H locs hS => ?_)
  refine lv_ishr hx hb dF_fieldOf_8 ?_
  refine lv_iload_n hx hb dF_fieldOf_9 rfl (lv_at hl 1 rfl) ?_
  refine kk_call0 (va_runS (As := [.int a2]) (rest := [.int (a1 >>> ((f_F_bitsRightOf (f_F_lastByte a2)) &&& 31))]) ⟨hx, hb, hml, hown, hts⟩ (c_F_rightMask l a2) (va_cwS 1 hts (gS tw_68 tw_69 tw_1 tw_70) rfl rfl rfl (by decide +kernel) ⟨Nat.le_of_ble_eq_true rfl, Nat.le_of_ble_eq_true rfl⟩) ⟨fun _ _ _ _ q => q, fun _ _ _ => ⟨rfl, trivial⟩⟩ rfl rfl hl.1 rfl (lv_room (Nat.le_of_ble_eq_true rfl)) dF_fieldOf_10 ⟨Nat.le_of_ble_eq_true rfl, Nat.le_of_ble_eq_true rfl⟩) hS (fun H locs hS => ?_)
  refine lv_iand hx hb dF_fieldOf_13 ?_
  refine lv_topi (fun x_1 ex_1 => ?_)
  refine lv_istore_n (lv' := [(2, .int x_1), (0, .int a1), (1, .int a2)]) hx hb dF_fieldOf_14 rfl hl (by decide) rfl (fun ls hl => ?_)
  refine lv_iload_n hx hb dF_fieldOf_15 rfl (lv_at hl 0 rfl) ?_
  refine lv_iload_n hx hb dF_fieldOf_16 rfl (lv_at hl 1 rfl) ?_
  refine lv_iload_n hx hb dF_fieldOf_17 rfl (lv_at hl 2 rfl) ?_
  refine kk_call0 (va_runS (As := [.int a2]) (rest := [.int a1, .int x_1]) ⟨hx, hb, hml, hown, hts⟩ (c_F_signMask l a2) (va_cwS 1 hts (gS tw_74 tw_75 tw_1 tw_76) rfl rfl rfl (by decide +kernel) ⟨Nat.le_of_ble_eq_true rfl, Nat.le_of_ble_eq_true rfl⟩) ⟨fun _ _ _ _ q => q, fun _ _ _ => ⟨rfl, trivial⟩⟩ rfl rfl hl.1 rfl (lv_room (Nat.le_of_ble_eq_true rfl)) dF_fieldOf_18 ⟨Nat.le_of_ble_eq_true rfl, Nat.le_of_ble_eq_true rfl⟩) hS (fun H locs hS => ?_)
  refine lv_iand hx hb dF_fieldOf_21 ?_
  refine lv_ior hx hb dF_fieldOf_22 ?_
  exact W.iret (v := (x_1 ||| (a1 &&& (f_F_signMask a2)))) hx hb hr (fun tt ht hW => ⟨⟨(x_1 ||| (a1 &&& (f_F_signMask a2))), (), rfl, (by subst ex_1; rfl), trivial⟩, hS.F ht⟩) hS.2.2 dF_fieldOf_23

set_option maxHeartbeats 4000000 in
set_option maxRecDepth 100000 in
theorem c_F_greatLetter (l : Launch) (a1 : Int32) : Met l yF_greatLetter wsF_greatLetter ({ frames := 0, cells := 0, slots := 0, locals := 0 }) (va_Pc [.int a1] (fun _ => True)) (va_Qi (fun (r : Int32) (_ : Unit) => r = f_F_greatLetter a1) (fun _ _ => True) (fun _ => False)) 0 0 (fun _ => False) := by
  refine Met.ofW (cc := prog_1_method_21_code) (maxL := 1) (ret := (some .int)) (by decide) rfl ?_
  intro p e s m args below meth c s₁ B hml hv
  obtain ⟨rfl, -⟩ := hv
  have hx := B.exec
  have hb := B.bytes
  have hr := B.returns
  have hts := fun (w : Cond) (h : w ∈ gw) => atoms_spec (ws := wsF_greatLetter) B.pre w (List.mem_cons_of_mem _ h)
  have hown : s.vm.findClass RF = some m.cls := findClass_of_methodNamed B.named
  have hlocks := B.notSynchronized
  have hS : va_S (fun _ => False) s.heap s.heap [] := va_S.rf
  have hl := lv_entry ([.int a1]) (n := 1) (Nat.le_of_ble_eq_true rfl)
  rw [lg_entry_eq]
  generalize (lg_sl ([.int a1]) ++ List.replicate (1 - (lg_sl ([.int a1])).length) Slot.unset).toArray = ls at hl ⊢
  have hl : lv_has ls 1 [(0, .int a1)] := hl
  refine lv_iload_n hx hb dF_greatLetter_0 rfl (lv_at hl 0 rfl) ?_
  refine lv_bipush (v := (97 : Int32)) hx hb dF_greatLetter_1 (by decide) ?_
  refine lv_icmp_lt (tgt := 22) hx hb dF_greatLetter_3 (by decide) (fun c_1 => ?_) (fun c_1 => ?_)
  · refine lv_iload_n hx hb dF_greatLetter_22 rfl (lv_at hl 0 rfl) ?_
    exact W.iret (v := a1) hx hb hr (fun tt ht hW => ⟨⟨a1, (), rfl, (by unfold f_F_greatLetter; rw [if_pos c_1]), trivial⟩, hS.F ht⟩) hS.2.2 dF_greatLetter_23
  · refine lv_iload_n hx hb dF_greatLetter_6 rfl (lv_at hl 0 rfl) ?_
    refine lv_bipush (v := (122 : Int32)) hx hb dF_greatLetter_7 (by decide) ?_
    refine lv_icmp_gt (tgt := 22) hx hb dF_greatLetter_9 (by decide) (fun c_2 => ?_) (fun c_2 => ?_)
    · refine lv_iload_n hx hb dF_greatLetter_22 rfl (lv_at hl 0 rfl) ?_
      exact W.iret (v := a1) hx hb hr (fun tt ht hW => ⟨⟨a1, (), rfl, (by unfold f_F_greatLetter; rw [if_neg c_1, if_pos c_2]), trivial⟩, hS.F ht⟩) hS.2.2 dF_greatLetter_23
    · refine lv_iload_n hx hb dF_greatLetter_12 rfl (lv_at hl 0 rfl) ?_
      refine lv_bipush (v := (97 : Int32)) hx hb dF_greatLetter_13 (by decide) ?_
      refine lv_isub hx hb dF_greatLetter_15 ?_
      refine lv_bipush (v := (65 : Int32)) hx hb dF_greatLetter_16 (by decide) ?_
      refine lv_iadd hx hb dF_greatLetter_18 ?_
      refine lv_goto (tgt := 23) hx hb dF_greatLetter_19 (by decide) ?_
      exact W.iret (v := ((a1 - (97 : Int32)) + (65 : Int32))) hx hb hr (fun tt ht hW => ⟨⟨((a1 - (97 : Int32)) + (65 : Int32)), (), rfl, (by unfold f_F_greatLetter; rw [if_neg c_1, if_neg c_2]), trivial⟩, hS.F ht⟩) hS.2.2 dF_greatLetter_23

set_option maxHeartbeats 4000000 in
set_option maxRecDepth 100000 in
theorem c_F_isField (l : Launch) (h0 : Nat) (a1 : Int32) : Met l yF_isField wsF_isField ({ frames := 1, cells := 0, slots := 0, locals := 20 }) (va_Pc [.ref h0, .int a1] (fun _ => True)) (va_Qi (fun (r : Int32) (_ : Unit) => r = f_F_isField a1) (fun _ _ => True) (fun _ => False)) 0 0 (fun _ => False) := by
  refine Met.ofW (cc := prog_1_method_9_code) (maxL := 2) (ret := (some .boolean)) (by decide) rfl ?_
  intro p e s m args below meth c s₁ B hml hv
  obtain ⟨rfl, -⟩ := hv
  have hx := B.exec
  have hb := B.bytes
  have hr := B.returns
  have hts := fun (w : Cond) (h : w ∈ gw) => atoms_spec (ws := wsF_isField) B.pre w (List.mem_cons_of_mem _ h)
  have hown : s.vm.findClass RF = some m.cls := findClass_of_methodNamed B.named
  have hlocks := B.notSynchronized
  have hS : va_S (fun _ => False) s.heap s.heap [] := va_S.rf
  have hl := lv_entry ([.ref h0, .int a1]) (n := 2) (Nat.le_of_ble_eq_true rfl)
  rw [lg_entry_eq]
  generalize (lg_sl ([.ref h0, .int a1]) ++ List.replicate (2 - (lg_sl ([.ref h0, .int a1])).length) Slot.unset).toArray = ls at hl ⊢
  have hl : lv_has ls 2 [(0, .ref h0), (1, .int a1)] := hl
  refine lv_iload_n hx hb dF_isField_0 rfl (lv_at hl 1 rfl) ?_
  refine lv_if_lt (tgt := 27) hx hb dF_isField_1 (by decide) (fun c_1 => ?_) (fun c_1 => ?_)
  · refine lv_iconst (v := (0 : Int32)) hx hb dF_isField_27 (by decide) ?_
    exact W.zret (v := (0 : Int32)) hx hb hr (by decide) (fun tt ht hW => ⟨⟨(0 : Int32), (), rfl, (by unfold f_F_isField; rw [if_pos c_1]), trivial⟩, hS.F ht⟩) hS.2.2 dF_isField_28
  · refine lv_iload_n hx hb dF_isField_4 rfl (lv_at hl 1 rfl) ?_
    refine kk_call0 (va_runS (As := [.int a1]) (rest := []) ⟨hx, hb, hml, hown, hts⟩ (c_F_firstByte l a1) (va_cwS 1 hts (gS tw_59 tw_60 tw_1 tw_61) rfl rfl rfl (by decide +kernel) ⟨Nat.le_of_ble_eq_true rfl, Nat.le_of_ble_eq_true rfl⟩) ⟨fun _ _ _ _ q => q, fun _ _ _ => ⟨rfl, trivial⟩⟩ rfl rfl hl.1 rfl (lv_room (Nat.le_of_ble_eq_true rfl)) dF_isField_5 ⟨Nat.le_of_ble_eq_true rfl, Nat.le_of_ble_eq_true rfl⟩) hS (fun H locs hS => ?_)
    refine lv_iload_n hx hb dF_isField_8 rfl (lv_at hl 1 rfl) ?_
    refine kk_call0 (va_runS (As := [.int a1]) (rest := [.int (f_F_firstByte a1)]) ⟨hx, hb, hml, hown, hts⟩ (c_F_lastByte l a1) (va_cwS 1 hts (gS tw_62 tw_63 tw_1 tw_64) rfl rfl rfl (by decide +kernel) ⟨Nat.le_of_ble_eq_true rfl, Nat.le_of_ble_eq_true rfl⟩) ⟨fun _ _ _ _ q => q, fun _ _ _ => ⟨rfl, trivial⟩⟩ rfl rfl hl.1 rfl (lv_room (Nat.le_of_ble_eq_true rfl)) dF_isField_9 ⟨Nat.le_of_ble_eq_true rfl, Nat.le_of_ble_eq_true rfl⟩) hS (fun H locs hS => ?_)
    refine lv_icmp_gt (tgt := 27) hx hb dF_isField_12 (by decide) (fun c_2 => ?_) (fun c_2 => ?_)
    · refine lv_iconst (v := (0 : Int32)) hx hb dF_isField_27 (by decide) ?_
      exact W.zret (v := (0 : Int32)) hx hb hr (by decide) (fun tt ht hW => ⟨⟨(0 : Int32), (), rfl, (by unfold f_F_isField; rw [if_neg c_1, if_pos c_2]), trivial⟩, hS.F ht⟩) hS.2.2 dF_isField_28
    · refine lv_iload_n hx hb dF_isField_15 rfl (lv_at hl 1 rfl) ?_
      refine kk_call0 (va_runS (As := [.int a1]) (rest := []) ⟨hx, hb, hml, hown, hts⟩ (c_F_lastByte l a1) (va_cwS 1 hts (gS tw_62 tw_63 tw_1 tw_64) rfl rfl rfl (by decide +kernel) ⟨Nat.le_of_ble_eq_true rfl, Nat.le_of_ble_eq_true rfl⟩) ⟨fun _ _ _ _ q => q, fun _ _ _ => ⟨rfl, trivial⟩⟩ rfl rfl hl.1 rfl (lv_room (Nat.le_of_ble_eq_true rfl)) dF_isField_16 ⟨Nat.le_of_ble_eq_true rfl, Nat.le_of_ble_eq_true rfl⟩) hS (fun H locs hS => ?_)
      refine lv_iconst (v := (5 : Int32)) hx hb dF_isField_19 (by decide) ?_
      refine lv_icmp_gt (tgt := 27) hx hb dF_isField_20 (by decide) (fun c_3 => ?_) (fun c_3 => ?_)
      · refine lv_iconst (v := (0 : Int32)) hx hb dF_isField_27 (by decide) ?_
        exact W.zret (v := (0 : Int32)) hx hb hr (by decide) (fun tt ht hW => ⟨⟨(0 : Int32), (), rfl, (by unfold f_F_isField; rw [if_neg c_1, if_neg c_2, if_pos c_3]), trivial⟩, hS.F ht⟩) hS.2.2 dF_isField_28
      · refine lv_iconst (v := (1 : Int32)) hx hb dF_isField_23 (by decide) ?_
        refine lv_goto (tgt := 28) hx hb dF_isField_24 (by decide) ?_
        exact W.zret (v := (1 : Int32)) hx hb hr (by decide) (fun tt ht hW => ⟨⟨(1 : Int32), (), rfl, (by unfold f_F_isField; rw [if_neg c_1, if_neg c_2, if_neg c_3]), trivial⟩, hS.F ht⟩) hS.2.2 dF_isField_28
end
section
set_option maxHeartbeats 4000000 in
set_option maxRecDepth 100000 in
theorem c_F_value (l : Launch) (dC : Nat → ClassId) (dI : Nat → Nat → Nat) (h0 q1 : Nat) (k1 : ClassId) (f : Nat → Int32) (a1 : Int32) : Met l yF_value wsF_value ({ frames := 2, cells := 0, slots := 0, locals := 41 }) (va_Pc [.ref h0, .int a1] (fun U => va_P (dC, dI) vwCl (wsF h0 q1 k1 f) U.heap ∧ va_K (dC, dI) vwCl [(k1, .int)] U)) (va_Qi (fun (r : Int32) (_ : Unit) => r = f_F_value f a1) (fun _ _ => True) (fun _ => False)) 0 0 (fun _ => False) := by
  refine Met.ofW (cc := prog_1_method_3_code) (maxL := 3) (ret := (some .int)) (by decide) rfl ?_
  intro p e s m args below meth c s₁ B hml hv
  obtain ⟨rfl, hP, hK⟩ := hv
  have hx := B.exec
  have hb := B.bytes
  have hr := B.returns
  have hts := fun (w : Cond) (h : w ∈ gw) => atoms_spec (ws := wsF_value) B.pre w (List.mem_cons_of_mem _ h)
  have hown : s.vm.findClass RF = some m.cls := findClass_of_methodNamed B.named
  have hlocks := B.notSynchronized
  have hS : va_S (fun _ => False) s.heap s.heap [] := va_S.rf
  have hl := lv_entry ([.ref h0, .int a1]) (n := 3) (Nat.le_of_ble_eq_true rfl)
  rw [lg_entry_eq]
  generalize (lg_sl ([.ref h0, .int a1]) ++ List.replicate (3 - (lg_sl ([.ref h0, .int a1])).length) Slot.unset).toArray = ls at hl ⊢
  have hl : lv_has ls 3 [(0, .ref h0), (1, .int a1)] := hl
  refine lv_iload_n hx hb dF_value_0 rfl (lv_at hl 1 rfl) ?_
  refine kk_callP (va_runS (As := [.int a1]) (rest := []) ⟨hx, hb, hml, hown, hts⟩ (c_F_isRegister l a1) (va_cwS 1 hts (gS tw_26 tw_27 tw_1 tw_28) rfl rfl rfl (by decide +kernel) ⟨Nat.le_of_ble_eq_true rfl, Nat.le_of_ble_eq_true rfl⟩) ⟨fun _ _ _ _ q => q, fun _ _ _ => ⟨rfl, trivial⟩⟩ rfl rfl hl.1 rfl (lv_room (Nat.le_of_ble_eq_true rfl)) dF_value_1 ⟨Nat.le_of_ble_eq_true rfl, Nat.le_of_ble_eq_true rfl⟩) hS hP (fun H locs hS hP => ?_)
  refine lv_if_ne (tgt := 10) hx hb dF_value_4 (by decide) (fun c_1 => ?_) (fun c_1 => ?_)
  · refine lv_aload_n hx hb dF_value_10 rfl (lv_at hl 0 rfl) ?_
    refine va_get (D := (dC, dI)) (ci := 0) (v := .ref q1) (C := RF) (T := TF) (N := 1) hx hb hts iF hown hK hP 0 rfl rfl 0 (by decide) (hts _ tw_17) (fun _ h9 => h9) rfl dF_value_11 ?_
    refine lv_iload_n hx hb dF_value_14 rfl (lv_at hl 1 rfl) ?_
    refine va_iald hx hb hK hP 1 0 rfl rfl (in_F c_1) dF_value_15 ?_
    refine lv_istore_n (lv' := [(2, .int (f a1.toNatClampNeg)), (0, .ref h0), (1, .int a1)]) hx hb dF_value_16 rfl hl (by decide) rfl (fun ls hl => ?_)
    refine lv_iload_n hx hb dF_value_17 rfl (lv_at hl 0 rfl) ?_
    refine lv_ldc (v := (1073741824 : Int32)) hx hb hown (hts _ tw_31) dF_value_18 ?_
    refine lv_icmp_ne (tgt := 28) hx hb dF_value_20 (by decide) (fun c_2 => ?_) (fun c_2 => ?_)
    · refine lv_iload_n hx hb dF_value_28 rfl (lv_at hl 0 rfl) ?_
      refine kk_callP (va_runS (As := [.int (f a1.toNatClampNeg)]) (rest := []) ⟨hx, hb, hml, hown, hts⟩ (c_F_number l (f a1.toNatClampNeg)) (va_cwS 1 hts (gS tw_38 tw_39 tw_1 tw_40) rfl rfl rfl (by decide +kernel) ⟨Nat.le_of_ble_eq_true rfl, Nat.le_of_ble_eq_true rfl⟩) ⟨fun _ _ _ _ q => q, fun _ _ _ => ⟨rfl, trivial⟩⟩ rfl rfl hl.1 rfl (lv_room (Nat.le_of_ble_eq_true rfl)) dF_value_29 ⟨Nat.le_of_ble_eq_true rfl, Nat.le_of_ble_eq_true rfl⟩) hS hP (fun H locs hS hP => ?_)
      exact W.iret (v := (f_F_number (f a1.toNatClampNeg))) hx hb hr (fun tt ht hW => ⟨⟨(f_F_number (f a1.toNatClampNeg)), (), rfl, (by unfold f_F_value; rw [if_neg c_1, if_neg c_2]), trivial⟩, hS.F ht⟩) hS.2.2 dF_value_32
    · refine lv_ldc (v := (-2147483648 : Int32)) hx hb hown (hts _ tw_37) dF_value_23 ?_
      refine lv_goto (tgt := 32) hx hb dF_value_25 (by decide) ?_
      exact W.iret (v := (-2147483648 : Int32)) hx hb hr (fun tt ht hW => ⟨⟨(-2147483648 : Int32), (), rfl, (by unfold f_F_value; rw [if_neg c_1, if_pos c_2]), trivial⟩, hS.F ht⟩) hS.2.2 dF_value_32
  · refine lv_ldc (v := (2147483647 : Int32)) hx hb hown (hts _ tw_36) dF_value_7 ?_
    exact W.iret (v := (2147483647 : Int32)) hx hb hr (fun tt ht hW => ⟨⟨(2147483647 : Int32), (), rfl, (by unfold f_F_value; rw [if_pos c_1]), trivial⟩, hS.F ht⟩) hS.2.2 dF_value_9

set_option maxHeartbeats 4000000 in
set_option maxRecDepth 100000 in
theorem c_F_byteOf (l : Launch) (dC : Nat → ClassId) (dI : Nat → Nat → Nat) (h0 q1 : Nat) (k1 : ClassId) (f : Nat → Int32) (a1 a2 : Int32) : Met l yF_byteOf wsF_byteOf ({ frames := 1, cells := 0, slots := 0, locals := 20 }) (va_Pc [.ref h0, .int a1, .int a2] (fun U => va_P (dC, dI) vwCl (wsF h0 q1 k1 f) U.heap ∧ va_K (dC, dI) vwCl [(k1, .int)] U)) (va_Qi (fun (r : Int32) (_ : Unit) => r = f_F_byteOf f a1 a2) (fun _ _ => True) (fun _ => False)) 0 0 (fun _ => False) := by
  refine Met.ofW (cc := prog_1_method_4_code) (maxL := 4) (ret := (some .int)) (by decide) rfl ?_
  intro p e s m args below meth c s₁ B hml hv
  obtain ⟨rfl, hP, hK⟩ := hv
  have hx := B.exec
  have hb := B.bytes
  have hr := B.returns
  have hts := fun (w : Cond) (h : w ∈ gw) => atoms_spec (ws := wsF_byteOf) B.pre w (List.mem_cons_of_mem _ h)
  have hown : s.vm.findClass RF = some m.cls := findClass_of_methodNamed B.named
  have hlocks := B.notSynchronized
  have hS : va_S (fun _ => False) s.heap s.heap [] := va_S.rf
  have hl := lv_entry ([.ref h0, .int a1, .int a2]) (n := 4) (Nat.le_of_ble_eq_true rfl)
  rw [lg_entry_eq]
  generalize (lg_sl ([.ref h0, .int a1, .int a2]) ++ List.replicate (4 - (lg_sl ([.ref h0, .int a1, .int a2])).length) Slot.unset).toArray = ls at hl ⊢
  have hl : lv_has ls 4 [(0, .ref h0), (1, .int a1), (2, .int a2)] := hl
  refine lv_iload_n hx hb dF_byteOf_0 rfl (lv_at hl 1 rfl) ?_
  refine kk_callP (va_runS (As := [.int a1]) (rest := []) ⟨hx, hb, hml, hown, hts⟩ (c_F_isRegister l a1) (va_cwS 1 hts (gS tw_26 tw_27 tw_1 tw_28) rfl rfl rfl (by decide +kernel) ⟨Nat.le_of_ble_eq_true rfl, Nat.le_of_ble_eq_true rfl⟩) ⟨fun _ _ _ _ q => q, fun _ _ _ => ⟨rfl, trivial⟩⟩ rfl rfl hl.1 rfl (lv_room (Nat.le_of_ble_eq_true rfl)) dF_byteOf_1 ⟨Nat.le_of_ble_eq_true rfl, Nat.le_of_ble_eq_true rfl⟩) hS hP (fun H locs hS hP => ?_)
  refine lv_if_eq (tgt := 16) hx hb dF_byteOf_4 (by decide) (fun c_1 => ?_) (fun c_1 => ?_)
  · refine lv_iconst (v := (-1 : Int32)) hx hb dF_byteOf_16 (by decide) ?_
    exact W.iret (v := (-1 : Int32)) hx hb hr (fun tt ht hW => ⟨⟨(-1 : Int32), (), rfl, (by unfold f_F_byteOf; rw [if_pos c_1]), trivial⟩, hS.F ht⟩) hS.2.2 dF_byteOf_17
  · refine lv_iload_n hx hb dF_byteOf_7 rfl (lv_at hl 2 rfl) ?_
    refine lv_if_lt (tgt := 16) hx hb dF_byteOf_8 (by decide) (fun c_2 => ?_) (fun c_2 => ?_)
    · refine lv_iconst (v := (-1 : Int32)) hx hb dF_byteOf_16 (by decide) ?_
      exact W.iret (v := (-1 : Int32)) hx hb hr (fun tt ht hW => ⟨⟨(-1 : Int32), (), rfl, (by unfold f_F_byteOf; rw [if_neg c_1, if_pos c_2]), trivial⟩, hS.F ht⟩) hS.2.2 dF_byteOf_17
    · refine lv_iload_n hx hb dF_byteOf_11 rfl (lv_at hl 2 rfl) ?_
      refine lv_iconst (v := (5 : Int32)) hx hb dF_byteOf_12 (by decide) ?_
      refine lv_icmp_le (tgt := 18) hx hb dF_byteOf_13 (by decide) (fun c_3 => ?_) (fun c_3 => ?_)
      · refine lv_aload_n hx hb dF_byteOf_18 rfl (lv_at hl 0 rfl) ?_
        refine va_get (D := (dC, dI)) (ci := 0) (v := .ref q1) (C := RF) (T := TF) (N := 1) hx hb hts iF hown hK hP 0 rfl rfl 0 (by decide) (hts _ tw_17) (fun _ h9 => h9) rfl dF_byteOf_19 ?_
        refine lv_iload_n hx hb dF_byteOf_22 rfl (lv_at hl 1 rfl) ?_
        refine va_iald hx hb hK hP 1 0 rfl rfl (in_F c_1) dF_byteOf_23 ?_
        refine lv_istore_n (lv' := [(3, .int (f a1.toNatClampNeg)), (0, .ref h0), (1, .int a1), (2, .int a2)]) hx hb dF_byteOf_24 rfl hl (by decide) rfl (fun ls hl => ?_)
        refine lv_iload_n hx hb dF_byteOf_25 rfl (lv_at hl 3 rfl) ?_
        refine lv_if_ne (tgt := 42) hx hb dF_byteOf_26 (by decide) (fun c_4 => ?_) (fun c_4 => ?_)
        · refine lv_iload_n hx hb dF_byteOf_42 rfl (lv_at hl 0 rfl) ?_
          refine lv_iload_n hx hb dF_byteOf_43 rfl (lv_at hl 3 rfl) ?_
          refine kk_callP (va_runS (As := [.int a2]) (rest := [.int (f a1.toNatClampNeg)]) ⟨hx, hb, hml, hown, hts⟩ (c_F_bitsRightOf l a2) (va_cwS 1 hts (gS tw_48 tw_49 tw_1 tw_50) rfl rfl rfl (by decide +kernel) ⟨Nat.le_of_ble_eq_true rfl, Nat.le_of_ble_eq_true rfl⟩) ⟨fun _ _ _ _ q => q, fun _ _ _ => ⟨rfl, trivial⟩⟩ rfl rfl hl.1 rfl (lv_room (Nat.le_of_ble_eq_true rfl)) dF_byteOf_44 ⟨Nat.le_of_ble_eq_true rfl, Nat.le_of_ble_eq_true rfl⟩) hS hP (fun H locs hS hP => ?_)
          refine lv_ishr hx hb dF_byteOf_47 ?_
          refine lv_bipush (v := (63 : Int32)) hx hb dF_byteOf_48 (by decide) ?_
          refine lv_iand hx hb dF_byteOf_50 ?_
          exact W.iret (v := (((f a1.toNatClampNeg) >>> ((f_F_bitsRightOf a2) &&& 31)) &&& (63 : Int32))) hx hb hr (fun tt ht hW => ⟨⟨(((f a1.toNatClampNeg) >>> ((f_F_bitsRightOf a2) &&& 31)) &&& (63 : Int32)), (), rfl, (by unfold f_F_byteOf; rw [if_neg c_1, if_neg c_2, if_pos c_3, if_neg c_4]), trivial⟩, hS.F ht⟩) hS.2.2 dF_byteOf_51
        · refine lv_iload_n hx hb dF_byteOf_29 rfl (lv_at hl 0 rfl) ?_
          refine kk_callP (va_runS (As := [.int (f a1.toNatClampNeg)]) (rest := []) ⟨hx, hb, hml, hown, hts⟩ (c_F_isMinus l (f a1.toNatClampNeg)) (va_cwS 1 hts (gS tw_41 tw_42 tw_1 tw_43) rfl rfl rfl (by decide +kernel) ⟨Nat.le_of_ble_eq_true rfl, Nat.le_of_ble_eq_true rfl⟩) ⟨fun _ _ _ _ q => q, fun _ _ _ => ⟨rfl, trivial⟩⟩ rfl rfl hl.1 rfl (lv_room (Nat.le_of_ble_eq_true rfl)) dF_byteOf_30 ⟨Nat.le_of_ble_eq_true rfl, Nat.le_of_ble_eq_true rfl⟩) hS hP (fun H locs hS hP => ?_)
          refine lv_if_eq (tgt := 40) hx hb dF_byteOf_33 (by decide) (fun c_5 => ?_) (fun c_5 => ?_)
          · refine lv_iconst (v := (0 : Int32)) hx hb dF_byteOf_40 (by decide) ?_
            exact W.iret (v := (0 : Int32)) hx hb hr (fun tt ht hW => ⟨⟨(0 : Int32), (), rfl, (by unfold f_F_byteOf; rw [if_neg c_1, if_neg c_2, if_pos c_3, if_pos c_4, if_pos c_5]), trivial⟩, hS.F ht⟩) hS.2.2 dF_byteOf_41
          · refine lv_iconst (v := (1 : Int32)) hx hb dF_byteOf_36 (by decide) ?_
            refine lv_goto (tgt := 41) hx hb dF_byteOf_37 (by decide) ?_
            exact W.iret (v := (1 : Int32)) hx hb hr (fun tt ht hW => ⟨⟨(1 : Int32), (), rfl, (by unfold f_F_byteOf; rw [if_neg c_1, if_neg c_2, if_pos c_3, if_pos c_4, if_neg c_5]), trivial⟩, hS.F ht⟩) hS.2.2 dF_byteOf_41
      · refine lv_iconst (v := (-1 : Int32)) hx hb dF_byteOf_16 (by decide) ?_
        exact W.iret (v := (-1 : Int32)) hx hb hr (fun tt ht hW => ⟨⟨(-1 : Int32), (), rfl, (by unfold f_F_byteOf; rw [if_neg c_1, if_neg c_2, if_neg c_3]), trivial⟩, hS.F ht⟩) hS.2.2 dF_byteOf_17

set_option maxHeartbeats 4000000 in
set_option maxRecDepth 100000 in
theorem c_F_compare (l : Launch) (dC : Nat → ClassId) (dI : Nat → Nat → Nat) (h0 q1 : Nat) (k1 : ClassId) (f : Nat → Int32) (a1 a2 a3 : Int32) : Met l yF_compare wsF_compare ({ frames := 3, cells := 0, slots := 0, locals := 63 }) (va_Pc [.ref h0, .int a1, .int a2, .int a3] (fun U => va_P (dC, dI) vwCl (wsF h0 q1 k1 f) U.heap ∧ va_K (dC, dI) vwCl [(k1, .int)] U)) (va_Qi (fun (r : Int32) (_ : Unit) => r = f_F_compare f a1 a2 a3) (fun _ _ => True) (fun _ => False)) 0 0 (fun _ => False) := by
  refine Met.ofW (cc := prog_1_method_8_code) (maxL := 6) (ret := (some .int)) (by decide) rfl ?_
  intro p e s m args below meth c s₁ B hml hv
  obtain ⟨rfl, hP, hK⟩ := hv
  have hx := B.exec
  have hb := B.bytes
  have hr := B.returns
  have hts := fun (w : Cond) (h : w ∈ gw) => atoms_spec (ws := wsF_compare) B.pre w (List.mem_cons_of_mem _ h)
  have hown : s.vm.findClass RF = some m.cls := findClass_of_methodNamed B.named
  have hlocks := B.notSynchronized
  have hS : va_S (fun _ => False) s.heap s.heap [] := va_S.rf
  have hl := lv_entry ([.ref h0, .int a1, .int a2, .int a3]) (n := 6) (Nat.le_of_ble_eq_true rfl)
  rw [lg_entry_eq]
  generalize (lg_sl ([.ref h0, .int a1, .int a2, .int a3]) ++ List.replicate (6 - (lg_sl ([.ref h0, .int a1, .int a2, .int a3])).length) Slot.unset).toArray = ls at hl ⊢
  have hl : lv_has ls 6 [(0, .ref h0), (1, .int a1), (2, .int a2), (3, .int a3)] := hl
  refine lv_iload_n hx hb dF_compare_0 rfl (lv_at hl 1 rfl) ?_
  refine kk_callP (va_runS (As := [.int a1]) (rest := []) ⟨hx, hb, hml, hown, hts⟩ (c_F_isRegister l a1) (va_cwS 1 hts (gS tw_26 tw_27 tw_1 tw_28) rfl rfl rfl (by decide +kernel) ⟨Nat.le_of_ble_eq_true rfl, Nat.le_of_ble_eq_true rfl⟩) ⟨fun _ _ _ _ q => q, fun _ _ _ => ⟨rfl, trivial⟩⟩ rfl rfl hl.1 rfl (lv_room (Nat.le_of_ble_eq_true rfl)) dF_compare_1 ⟨Nat.le_of_ble_eq_true rfl, Nat.le_of_ble_eq_true rfl⟩) hS hP (fun H locs hS hP => ?_)
  refine lv_if_eq (tgt := 22) hx hb dF_compare_4 (by decide) (fun c_1 => ?_) (fun c_1 => ?_)
  · refine lv_bipush (v := (-2 : Int32)) hx hb dF_compare_22 (by decide) ?_
    exact W.iret (v := (-2 : Int32)) hx hb hr (fun tt ht hW => ⟨⟨(-2 : Int32), (), rfl, (by unfold f_F_compare; rw [if_pos c_1]), trivial⟩, hS.F ht⟩) hS.2.2 dF_compare_24
  · refine lv_iload_n hx hb dF_compare_7 rfl (lv_at hl 2 rfl) ?_
    refine kk_callP (va_runS (As := [.int a2]) (rest := []) ⟨hx, hb, hml, hown, hts⟩ (c_F_isRegister l a2) (va_cwS 1 hts (gS tw_26 tw_27 tw_1 tw_28) rfl rfl rfl (by decide +kernel) ⟨Nat.le_of_ble_eq_true rfl, Nat.le_of_ble_eq_true rfl⟩) ⟨fun _ _ _ _ q => q, fun _ _ _ => ⟨rfl, trivial⟩⟩ rfl rfl hl.1 rfl (lv_room (Nat.le_of_ble_eq_true rfl)) dF_compare_8 ⟨Nat.le_of_ble_eq_true rfl, Nat.le_of_ble_eq_true rfl⟩) hS hP (fun H locs hS hP => ?_)
    refine lv_if_eq (tgt := 22) hx hb dF_compare_11 (by decide) (fun c_2 => ?_) (fun c_2 => ?_)
    · refine lv_bipush (v := (-2 : Int32)) hx hb dF_compare_22 (by decide) ?_
      exact W.iret (v := (-2 : Int32)) hx hb hr (fun tt ht hW => ⟨⟨(-2 : Int32), (), rfl, (by unfold f_F_compare; rw [if_neg c_1, if_pos c_2]), trivial⟩, hS.F ht⟩) hS.2.2 dF_compare_24
    · refine lv_aload_n hx hb dF_compare_14 rfl (lv_at hl 0 rfl) ?_
      refine lv_iload_n hx hb dF_compare_15 rfl (lv_at hl 3 rfl) ?_
      refine kk_callP (va_runV (As := [.int a3]) (rest := []) ⟨hx, hb, hml, hown, hts⟩ (c_F_isField l h0 a3) (cwV 1 hts (gV tw_55 tw_56 tw_57 tw_1 tw_58) rfl rfl rfl (by decide +kernel) ⟨Nat.le_of_ble_eq_true rfl, Nat.le_of_ble_eq_true rfl⟩) ⟨fun _ _ _ _ q => q, va_recv hK hP (ci := 0) (q0 := 0) rfl rfl, fun _ _ _ => ⟨rfl, trivial⟩⟩ rfl rfl hl.1 rfl (lv_room (Nat.le_of_ble_eq_true rfl)) dF_compare_16 ⟨Nat.le_of_ble_eq_true rfl, Nat.le_of_ble_eq_true rfl⟩) hS hP (fun H locs hS hP => ?_)
      refine lv_if_ne (tgt := 25) hx hb dF_compare_19 (by decide) (fun c_3 => ?_) (fun c_3 => ?_)
      · refine lv_aload_n hx hb dF_compare_25 rfl (lv_at hl 0 rfl) ?_
        refine va_get (D := (dC, dI)) (ci := 0) (v := .ref q1) (C := RF) (T := TF) (N := 1) hx hb hts iF hown hK hP 0 rfl rfl 0 (by decide) (hts _ tw_17) (fun _ h9 => h9) rfl dF_compare_26 ?_
        refine lv_iload_n hx hb dF_compare_29 rfl (lv_at hl 1 rfl) ?_
        refine va_iald hx hb hK hP 1 0 rfl rfl (in_F c_1) dF_compare_30 ?_
        refine lv_iload_n hx hb dF_compare_31 rfl (lv_at hl 3 rfl) ?_
        refine kk_callP (va_runS (As := [.int (f a1.toNatClampNeg), .int a3]) (rest := []) ⟨hx, hb, hml, hown, hts⟩ (c_F_fieldOf l (f a1.toNatClampNeg) a3) (va_cwS 2 hts (gS tw_65 tw_66 tw_1 tw_67) rfl rfl rfl (by decide +kernel) ⟨Nat.le_of_ble_eq_true rfl, Nat.le_of_ble_eq_true rfl⟩) ⟨fun _ _ _ _ q => q, fun _ _ _ => ⟨rfl, trivial⟩⟩ rfl rfl hl.1 rfl (lv_room (Nat.le_of_ble_eq_true rfl)) dF_compare_32 ⟨Nat.le_of_ble_eq_true rfl, Nat.le_of_ble_eq_true rfl⟩) hS hP (fun H locs hS hP => ?_)
        refine kk_callP (va_runS (As := [.int (f_F_fieldOf (f a1.toNatClampNeg) a3)]) (rest := []) ⟨hx, hb, hml, hown, hts⟩ (c_F_number l (f_F_fieldOf (f a1.toNatClampNeg) a3)) (va_cwS 1 hts (gS tw_38 tw_39 tw_1 tw_40) rfl rfl rfl (by decide +kernel) ⟨Nat.le_of_ble_eq_true rfl, Nat.le_of_ble_eq_true rfl⟩) ⟨fun _ _ _ _ q => q, fun _ _ _ => ⟨rfl, trivial⟩⟩ rfl rfl hl.1 rfl (lv_room (Nat.le_of_ble_eq_true rfl)) dF_compare_35 ⟨Nat.le_of_ble_eq_true rfl, Nat.le_of_ble_eq_true rfl⟩) hS hP (fun H locs hS hP => ?_)
        refine lv_topi (fun x_4 ex_4 => ?_)
        refine lv_istore (lv' := [(4, .int x_4), (0, .ref h0), (1, .int a1), (2, .int a2), (3, .int a3)]) hx hb dF_compare_38 hl (by decide) rfl (fun ls hl => ?_)
        refine lv_aload_n hx hb dF_compare_40 rfl (lv_at hl 1 rfl) ?_
        refine va_get (D := (dC, dI)) (ci := 0) (v := .ref q1) (C := RF) (T := TF) (N := 1) hx hb hts iF hown hK hP 0 rfl rfl 0 (by decide) (hts _ tw_17) (fun _ h9 => h9) rfl dF_compare_41 ?_
        refine lv_iload_n hx hb dF_compare_44 rfl (lv_at hl 3 rfl) ?_
        refine va_iald hx hb hK hP 1 0 rfl rfl (in_F c_2) dF_compare_45 ?_
        refine lv_iload_n hx hb dF_compare_46 rfl (lv_at hl 4 rfl) ?_
        refine kk_callP (va_runS (As := [.int (f a2.toNatClampNeg), .int a3]) (rest := []) ⟨hx, hb, hml, hown, hts⟩ (c_F_fieldOf l (f a2.toNatClampNeg) a3) (va_cwS 2 hts (gS tw_65 tw_66 tw_1 tw_67) rfl rfl rfl (by decide +kernel) ⟨Nat.le_of_ble_eq_true rfl, Nat.le_of_ble_eq_true rfl⟩) ⟨fun _ _ _ _ q => q, fun _ _ _ => ⟨rfl, trivial⟩⟩ rfl rfl hl.1 rfl (lv_room (Nat.le_of_ble_eq_true rfl)) dF_compare_47 ⟨Nat.le_of_ble_eq_true rfl, Nat.le_of_ble_eq_true rfl⟩) hS hP (fun H locs hS hP => ?_)
        refine kk_callP (va_runS (As := [.int (f_F_fieldOf (f a2.toNatClampNeg) a3)]) (rest := []) ⟨hx, hb, hml, hown, hts⟩ (c_F_number l (f_F_fieldOf (f a2.toNatClampNeg) a3)) (va_cwS 1 hts (gS tw_38 tw_39 tw_1 tw_40) rfl rfl rfl (by decide +kernel) ⟨Nat.le_of_ble_eq_true rfl, Nat.le_of_ble_eq_true rfl⟩) ⟨fun _ _ _ _ q => q, fun _ _ _ => ⟨rfl, trivial⟩⟩ rfl rfl hl.1 rfl (lv_room (Nat.le_of_ble_eq_true rfl)) dF_compare_50 ⟨Nat.le_of_ble_eq_true rfl, Nat.le_of_ble_eq_true rfl⟩) hS hP (fun H locs hS hP => ?_)
        refine lv_topi (fun x_5 ex_5 => ?_)
        refine lv_istore (lv' := [(5, .int x_5), (4, .int x_4), (0, .ref h0), (1, .int a1), (2, .int a2), (3, .int a3)]) hx hb dF_compare_53 hl (by decide) rfl (fun ls hl => ?_)
        refine lv_iload hx hb dF_compare_55 (lv_at hl 1 rfl) ?_
        refine lv_iload hx hb dF_compare_57 (lv_at hl 0 rfl) ?_
        refine lv_icmp_ge (tgt := 66) hx hb dF_compare_59 (by decide) (fun c_6 => ?_) (fun c_6 => ?_)
        · refine lv_iload hx hb dF_compare_66 (lv_at hl 1 rfl) ?_
          refine lv_iload hx hb dF_compare_68 (lv_at hl 0 rfl) ?_
          refine lv_icmp_le (tgt := 77) hx hb dF_compare_70 (by decide) (fun c_7 => ?_) (fun c_7 => ?_)
          · refine lv_iconst (v := (0 : Int32)) hx hb dF_compare_77 (by decide) ?_
            exact W.iret (v := (0 : Int32)) hx hb hr (fun tt ht hW => ⟨⟨(0 : Int32), (), rfl, (by subst ex_4; subst ex_5; unfold f_F_compare; rw [if_neg c_1, if_neg c_2, if_neg c_3, if_pos c_6, if_pos c_7]), trivial⟩, hS.F ht⟩) hS.2.2 dF_compare_78
          · refine lv_iconst (v := (1 : Int32)) hx hb dF_compare_73 (by decide) ?_
            refine lv_goto (tgt := 78) hx hb dF_compare_74 (by decide) ?_
            exact W.iret (v := (1 : Int32)) hx hb hr (fun tt ht hW => ⟨⟨(1 : Int32), (), rfl, (by subst ex_4; subst ex_5; unfold f_F_compare; rw [if_neg c_1, if_neg c_2, if_neg c_3, if_pos c_6, if_neg c_7]), trivial⟩, hS.F ht⟩) hS.2.2 dF_compare_78
        · refine lv_iconst (v := (-1 : Int32)) hx hb dF_compare_62 (by decide) ?_
          refine lv_goto (tgt := 78) hx hb dF_compare_63 (by decide) ?_
          exact W.iret (v := (-1 : Int32)) hx hb hr (fun tt ht hW => ⟨⟨(-1 : Int32), (), rfl, (by subst ex_4; subst ex_5; unfold f_F_compare; rw [if_neg c_1, if_neg c_2, if_neg c_3, if_neg c_6]), trivial⟩, hS.F ht⟩) hS.2.2 dF_compare_78
      · refine lv_bipush (v := (-2 : Int32)) hx hb dF_compare_22 (by decide) ?_
        exact W.iret (v := (-2 : Int32)) hx hb hr (fun tt ht hW => ⟨⟨(-2 : Int32), (), rfl, (by unfold f_F_compare; rw [if_neg c_1, if_neg c_2, if_pos c_3]), trivial⟩, hS.F ht⟩) hS.2.2 dF_compare_24

set_option maxHeartbeats 4000000 in
set_option maxRecDepth 100000 in
theorem c_F_set (l : Launch) (dC : Nat → ClassId) (dI : Nat → Nat → Nat) (h0 q1 : Nat) (k1 : ClassId) (sz : Nat) (f : Nat → Int32) (a1 a2 a3 : Int32) : Met l yF_set wsF_set ({ frames := 1, cells := 0, slots := 0, locals := 20 }) (va_Pc [.ref h0, .int a1, .int a2, .int a3] (fun U => U.heap.size = sz ∧ va_P (dC, dI) vwCl (wsF h0 q1 k1 f) U.heap ∧ va_K (dC, dI) vwCl [(k1, .int)] U ∧ va_D (fun _ => True) (wsF h0 q1 k1 f))) (va_Qi (fun (r : Int32) (_ : Unit) => r = f_F_set f a1 a2 a3) (fun _ tt => va_P (dC, dI) vwCl (wsF h0 q1 k1 ((u_F_set_f f a1 a2 a3))) tt.heap ∧ va_D (va_A (wsF h0 q1 k1 f) sz) (wsF h0 q1 k1 ((u_F_set_f f a1 a2 a3)))) (va_A (wsF h0 q1 k1 f) sz)) 0 0 (va_A (wsF h0 q1 k1 f) sz) := by
  refine Met.ofW (cc := prog_1_method_2_code) (maxL := 5) (ret := (some .boolean)) (by decide) rfl ?_
  intro p e s m args below meth c s₁ B hml hv
  obtain ⟨rfl, hsz, hP, hK, hD0⟩ := hv
  have hx := B.exec
  have hb := B.bytes
  have hr := B.returns
  have hts := fun (w : Cond) (h : w ∈ gw) => atoms_spec (ws := wsF_set) B.pre w (List.mem_cons_of_mem _ h)
  have hown : s.vm.findClass RF = some m.cls := findClass_of_methodNamed B.named
  have hlocks := B.notSynchronized
  subst hsz
  have hD := hD0.self (sz := s.heap.size)
  generalize hAe : va_A (wsF h0 q1 k1 f) s.heap.size = A at hD ⊢
  have hS : va_S A s.heap s.heap [] := va_S.rf
  have hl := lv_entry ([.ref h0, .int a1, .int a2, .int a3]) (n := 5) (Nat.le_of_ble_eq_true rfl)
  rw [lg_entry_eq]
  generalize (lg_sl ([.ref h0, .int a1, .int a2, .int a3]) ++ List.replicate (5 - (lg_sl ([.ref h0, .int a1, .int a2, .int a3])).length) Slot.unset).toArray = ls at hl ⊢
  have hl : lv_has ls 5 [(0, .ref h0), (1, .int a1), (2, .int a2), (3, .int a3)] := hl
  refine lv_iload_n hx hb dF_set_0 rfl (lv_at hl 1 rfl) ?_
  refine kk_callP (va_runS (As := [.int a1]) (rest := []) ⟨hx, hb, hml, hown, hts⟩ (c_F_isRegister l a1) (va_cwS 1 hts (gS tw_26 tw_27 tw_1 tw_28) rfl rfl rfl (by decide +kernel) ⟨Nat.le_of_ble_eq_true rfl, Nat.le_of_ble_eq_true rfl⟩) ⟨fun _ _ _ _ q => q, fun _ _ _ => ⟨rfl, trivial⟩⟩ rfl rfl hl.1 rfl (lv_room (Nat.le_of_ble_eq_true rfl)) dF_set_1 ⟨Nat.le_of_ble_eq_true rfl, Nat.le_of_ble_eq_true rfl⟩) hS hP (fun H locs hS hP => ?_)
  refine lv_if_eq (tgt := 19) hx hb dF_set_4 (by decide) (fun c_1 => ?_) (fun c_1 => ?_)
  · refine lv_iconst (v := (0 : Int32)) hx hb dF_set_19 (by decide) ?_
    have eu_f : f = (u_F_set_f f a1 a2 a3) := (by unfold u_F_set_f; rw [if_pos c_1])
    have hP9 : va_P (dC, dI) vwCl (wsF h0 q1 k1 ((u_F_set_f f a1 a2 a3))) H := by rw [← eu_f]; exact hP
    have hD9 : va_D A (wsF h0 q1 k1 ((u_F_set_f f a1 a2 a3))) := by rw [← eu_f]; exact hD
    exact W.zret (v := (0 : Int32)) hx hb hr (by decide) (fun tt ht hW => ⟨⟨(0 : Int32), (), rfl, (by unfold f_F_set; rw [if_pos c_1]), by rw [ht]; exact hP9, hD9⟩, hS.F ht⟩) hS.2.2 dF_set_20
  · refine lv_iload_n hx hb dF_set_7 rfl (lv_at hl 2 rfl) ?_
    refine lv_ldc (v := (1073741823 : Int32)) hx hb hown (hts _ tw_29) dF_set_8 ?_
    refine lv_icmp_gt (tgt := 19) hx hb dF_set_10 (by decide) (fun c_2 => ?_) (fun c_2 => ?_)
    · refine lv_iconst (v := (0 : Int32)) hx hb dF_set_19 (by decide) ?_
      have eu_f : f = (u_F_set_f f a1 a2 a3) := (by unfold u_F_set_f; rw [if_neg c_1, if_pos c_2])
      have hP9 : va_P (dC, dI) vwCl (wsF h0 q1 k1 ((u_F_set_f f a1 a2 a3))) H := by rw [← eu_f]; exact hP
      have hD9 : va_D A (wsF h0 q1 k1 ((u_F_set_f f a1 a2 a3))) := by rw [← eu_f]; exact hD
      exact W.zret (v := (0 : Int32)) hx hb hr (by decide) (fun tt ht hW => ⟨⟨(0 : Int32), (), rfl, (by unfold f_F_set; rw [if_neg c_1, if_pos c_2]), by rw [ht]; exact hP9, hD9⟩, hS.F ht⟩) hS.2.2 dF_set_20
    · refine lv_iload_n hx hb dF_set_13 rfl (lv_at hl 2 rfl) ?_
      refine lv_ldc (v := (-1073741823 : Int32)) hx hb hown (hts _ tw_30) dF_set_14 ?_
      refine lv_icmp_ge (tgt := 21) hx hb dF_set_16 (by decide) (fun c_3 => ?_) (fun c_3 => ?_)
      · refine kk_mrg (pc' := 38) (ls' := ls) (rest' := []) (x := (if a2 < 0 then (1 : Int32) else (if a2 = 0 then (if a3 = 0 then (0 : Int32) else (1 : Int32)) else (0 : Int32)))) (fun hk_4 => ?_) (fun v_8 ev_8 => ?_)
        · refine lv_iload_n hx hb dF_set_21 rfl (lv_at hl 2 rfl) ?_
          refine lv_if_lt (tgt := 33) hx hb dF_set_22 (by decide) (fun c_5 => ?_) (fun c_5 => ?_)
          · refine lv_iconst (v := (1 : Int32)) hx hb dF_set_33 (by decide) ?_
            refine lv_goto (tgt := 38) hx hb dF_set_34 (by decide) ?_
            exact hk_4 _ (by rw [if_pos c_5])
          · refine lv_iload_n hx hb dF_set_25 rfl (lv_at hl 2 rfl) ?_
            refine lv_if_ne (tgt := 37) hx hb dF_set_26 (by decide) (fun c_6 => ?_) (fun c_6 => ?_)
            · refine lv_iconst (v := (0 : Int32)) hx hb dF_set_37 (by decide) ?_
              exact hk_4 _ (by rw [if_neg c_5, if_neg c_6])
            · refine lv_iload_n hx hb dF_set_29 rfl (lv_at hl 3 rfl) ?_
              refine lv_if_eq (tgt := 37) hx hb dF_set_30 (by decide) (fun c_7 => ?_) (fun c_7 => ?_)
              · refine lv_iconst (v := (0 : Int32)) hx hb dF_set_37 (by decide) ?_
                exact hk_4 _ (by rw [if_neg c_5, if_pos c_6, if_pos c_7])
              · refine lv_iconst (v := (1 : Int32)) hx hb dF_set_33 (by decide) ?_
                refine lv_goto (tgt := 38) hx hb dF_set_34 (by decide) ?_
                exact hk_4 _ (by rw [if_neg c_5, if_pos c_6, if_neg c_7])
        refine lv_istore (lv' := [(4, .int v_8), (0, .ref h0), (1, .int a1), (2, .int a2), (3, .int a3)]) hx hb dF_set_38 hl (by decide) rfl (fun ls hl => ?_)
        refine lv_aload_n hx hb dF_set_40 rfl (lv_at hl 1 rfl) ?_
        refine va_get (D := (dC, dI)) (ci := 0) (v := .ref q1) (C := RF) (T := TF) (N := 1) hx hb hts iF hown hK hP 0 rfl rfl 0 (by decide) (hts _ tw_17) (fun _ h9 => h9) rfl dF_set_41 ?_
        refine lv_iload_n hx hb dF_set_44 rfl (lv_at hl 2 rfl) ?_
        refine kk_mrg (pc' := 55) (ls' := ls) (rest' := [.int a1, .ref q1]) (x := (if 0 ≤ a2 then a2 else (-a2))) (fun hk_9 => ?_) (fun v_11 ev_11 => ?_)
        · refine lv_iload_n hx hb dF_set_45 rfl (lv_at hl 3 rfl) ?_
          refine lv_if_ge (tgt := 54) hx hb dF_set_46 (by decide) (fun c_10 => ?_) (fun c_10 => ?_)
          · refine lv_iload_n hx hb dF_set_54 rfl (lv_at hl 3 rfl) ?_
            exact hk_9 _ (by rw [if_pos c_10])
          · refine lv_iload_n hx hb dF_set_49 rfl (lv_at hl 3 rfl) ?_
            refine lv_ineg hx hb dF_set_50 ?_
            refine lv_goto (tgt := 55) hx hb dF_set_51 (by decide) ?_
            exact hk_9 _ (by rw [if_neg c_10])
        refine kk_mrg (pc' := 66) (ls' := ls) (rest' := [.int v_11, .int a1, .ref q1]) (x := (if v_8 = 0 then (0 : Int32) else (1073741824 : Int32))) (fun hk_12 => ?_) (fun v_14 ev_14 => ?_)
        · refine lv_iload hx hb dF_set_55 (lv_at hl 0 rfl) ?_
          refine lv_if_eq (tgt := 65) hx hb dF_set_57 (by decide) (fun c_13 => ?_) (fun c_13 => ?_)
          · refine lv_iconst (v := (0 : Int32)) hx hb dF_set_65 (by decide) ?_
            exact hk_12 _ (by rw [if_pos c_13])
          · refine lv_ldc (v := (1073741824 : Int32)) hx hb hown (hts _ tw_31) dF_set_60 ?_
            refine lv_goto (tgt := 66) hx hb dF_set_62 (by decide) ?_
            exact hk_12 _ (by rw [if_neg c_13])
        refine lv_ior hx hb dF_set_66 ?_
        refine va_iast hx hb hK hP hD hS 1 0 rfl rfl (in_F c_1) dF_set_67 (fun H locs hP hD hS => ?_)
        have hP : va_P (dC, dI) vwCl (wsF h0 q1 k1 (upd f a1.toNatClampNeg (v_11 ||| v_14))) H := hP
        have hD : va_D A (wsF h0 q1 k1 (upd f a1.toNatClampNeg (v_11 ||| v_14))) := hD
        refine lv_iconst (v := (1 : Int32)) hx hb dF_set_68 (by decide) ?_
        have eu_f : upd f a1.toNatClampNeg (v_11 ||| v_14) = (u_F_set_f f a1 a2 a3) := (by subst ev_8; subst ev_11; subst ev_14; unfold u_F_set_f; rw [if_neg c_1, if_neg c_2, if_pos c_3])
        have hP9 : va_P (dC, dI) vwCl (wsF h0 q1 k1 ((u_F_set_f f a1 a2 a3))) H := by rw [← eu_f]; exact hP
        have hD9 : va_D A (wsF h0 q1 k1 ((u_F_set_f f a1 a2 a3))) := by rw [← eu_f]; exact hD
        exact W.zret (v := (1 : Int32)) hx hb hr (by decide) (fun tt ht hW => ⟨⟨(1 : Int32), (), rfl, (by subst ev_8; subst ev_11; subst ev_14; unfold f_F_set; rw [if_neg c_1, if_neg c_2, if_pos c_3]), by rw [ht]; exact hP9, hD9⟩, hS.F ht⟩) hS.2.2 dF_set_69
      · refine lv_iconst (v := (0 : Int32)) hx hb dF_set_19 (by decide) ?_
        have eu_f : f = (u_F_set_f f a1 a2 a3) := (by unfold u_F_set_f; rw [if_neg c_1, if_neg c_2, if_neg c_3])
        have hP9 : va_P (dC, dI) vwCl (wsF h0 q1 k1 ((u_F_set_f f a1 a2 a3))) H := by rw [← eu_f]; exact hP
        have hD9 : va_D A (wsF h0 q1 k1 ((u_F_set_f f a1 a2 a3))) := by rw [← eu_f]; exact hD
        exact W.zret (v := (0 : Int32)) hx hb hr (by decide) (fun tt ht hW => ⟨⟨(0 : Int32), (), rfl, (by unfold f_F_set; rw [if_neg c_1, if_neg c_2, if_neg c_3]), by rw [ht]; exact hP9, hD9⟩, hS.F ht⟩) hS.2.2 dF_set_20

set_option maxHeartbeats 4000000 in
set_option maxRecDepth 100000 in
theorem c_F_load (l : Launch) (dC : Nat → ClassId) (dI : Nat → Nat → Nat) (h0 q1 : Nat) (k1 : ClassId) (sz : Nat) (f : Nat → Int32) (a1 a2 a3 : Int32) : Met l yF_load wsF_load ({ frames := 3, cells := 0, slots := 0, locals := 63 }) (va_Pc [.ref h0, .int a1, .int a2, .int a3] (fun U => U.heap.size = sz ∧ va_P (dC, dI) vwCl (wsF h0 q1 k1 f) U.heap ∧ va_K (dC, dI) vwCl [(k1, .int)] U ∧ va_D (fun _ => True) (wsF h0 q1 k1 f))) (va_Qi (fun (r : Int32) (_ : Unit) => r = f_F_load f a1 a2 a3) (fun _ tt => va_P (dC, dI) vwCl (wsF h0 q1 k1 ((u_F_load_f f a1 a2 a3))) tt.heap ∧ va_D (va_A (wsF h0 q1 k1 f) sz) (wsF h0 q1 k1 ((u_F_load_f f a1 a2 a3)))) (va_A (wsF h0 q1 k1 f) sz)) 0 0 (va_A (wsF h0 q1 k1 f) sz) := by
  refine Met.ofW (cc := prog_1_method_5_code) (maxL := 4) (ret := (some .boolean)) (by decide) rfl ?_
  intro p e s m args below meth c s₁ B hml hv
  obtain ⟨rfl, hsz, hP, hK, hD0⟩ := hv
  have hx := B.exec
  have hb := B.bytes
  have hr := B.returns
  have hts := fun (w : Cond) (h : w ∈ gw) => atoms_spec (ws := wsF_load) B.pre w (List.mem_cons_of_mem _ h)
  have hown : s.vm.findClass RF = some m.cls := findClass_of_methodNamed B.named
  have hlocks := B.notSynchronized
  subst hsz
  have hD := hD0.self (sz := s.heap.size)
  generalize hAe : va_A (wsF h0 q1 k1 f) s.heap.size = A at hD ⊢
  have hS : va_S A s.heap s.heap [] := va_S.rf
  have hl := lv_entry ([.ref h0, .int a1, .int a2, .int a3]) (n := 4) (Nat.le_of_ble_eq_true rfl)
  rw [lg_entry_eq]
  generalize (lg_sl ([.ref h0, .int a1, .int a2, .int a3]) ++ List.replicate (4 - (lg_sl ([.ref h0, .int a1, .int a2, .int a3])).length) Slot.unset).toArray = ls at hl ⊢
  have hl : lv_has ls 4 [(0, .ref h0), (1, .int a1), (2, .int a2), (3, .int a3)] := hl
  refine lv_iload_n hx hb dF_load_0 rfl (lv_at hl 1 rfl) ?_
  refine kk_callP (va_runS (As := [.int a1]) (rest := []) ⟨hx, hb, hml, hown, hts⟩ (c_F_isRegister l a1) (va_cwS 1 hts (gS tw_26 tw_27 tw_1 tw_28) rfl rfl rfl (by decide +kernel) ⟨Nat.le_of_ble_eq_true rfl, Nat.le_of_ble_eq_true rfl⟩) ⟨fun _ _ _ _ q => q, fun _ _ _ => ⟨rfl, trivial⟩⟩ rfl rfl hl.1 rfl (lv_room (Nat.le_of_ble_eq_true rfl)) dF_load_1 ⟨Nat.le_of_ble_eq_true rfl, Nat.le_of_ble_eq_true rfl⟩) hS hP (fun H locs hS hP => ?_)
  refine lv_if_eq (tgt := 22) hx hb dF_load_4 (by decide) (fun c_1 => ?_) (fun c_1 => ?_)
  · refine lv_iconst (v := (0 : Int32)) hx hb dF_load_22 (by decide) ?_
    have eu_f : f = (u_F_load_f f a1 a2 a3) := (by unfold u_F_load_f; rw [if_pos c_1])
    have hP9 : va_P (dC, dI) vwCl (wsF h0 q1 k1 ((u_F_load_f f a1 a2 a3))) H := by rw [← eu_f]; exact hP
    have hD9 : va_D A (wsF h0 q1 k1 ((u_F_load_f f a1 a2 a3))) := by rw [← eu_f]; exact hD
    exact W.zret (v := (0 : Int32)) hx hb hr (by decide) (fun tt ht hW => ⟨⟨(0 : Int32), (), rfl, (by unfold f_F_load; rw [if_pos c_1]), by rw [ht]; exact hP9, hD9⟩, hS.F ht⟩) hS.2.2 dF_load_23
  · refine lv_iload_n hx hb dF_load_7 rfl (lv_at hl 2 rfl) ?_
    refine kk_callP (va_runS (As := [.int a2]) (rest := []) ⟨hx, hb, hml, hown, hts⟩ (c_F_isRegister l a2) (va_cwS 1 hts (gS tw_26 tw_27 tw_1 tw_28) rfl rfl rfl (by decide +kernel) ⟨Nat.le_of_ble_eq_true rfl, Nat.le_of_ble_eq_true rfl⟩) ⟨fun _ _ _ _ q => q, fun _ _ _ => ⟨rfl, trivial⟩⟩ rfl rfl hl.1 rfl (lv_room (Nat.le_of_ble_eq_true rfl)) dF_load_8 ⟨Nat.le_of_ble_eq_true rfl, Nat.le_of_ble_eq_true rfl⟩) hS hP (fun H locs hS hP => ?_)
    refine lv_if_eq (tgt := 22) hx hb dF_load_11 (by decide) (fun c_2 => ?_) (fun c_2 => ?_)
    · refine lv_iconst (v := (0 : Int32)) hx hb dF_load_22 (by decide) ?_
      have eu_f : f = (u_F_load_f f a1 a2 a3) := (by unfold u_F_load_f; rw [if_neg c_1, if_pos c_2])
      have hP9 : va_P (dC, dI) vwCl (wsF h0 q1 k1 ((u_F_load_f f a1 a2 a3))) H := by rw [← eu_f]; exact hP
      have hD9 : va_D A (wsF h0 q1 k1 ((u_F_load_f f a1 a2 a3))) := by rw [← eu_f]; exact hD
      exact W.zret (v := (0 : Int32)) hx hb hr (by decide) (fun tt ht hW => ⟨⟨(0 : Int32), (), rfl, (by unfold f_F_load; rw [if_neg c_1, if_pos c_2]), by rw [ht]; exact hP9, hD9⟩, hS.F ht⟩) hS.2.2 dF_load_23
    · refine lv_aload_n hx hb dF_load_14 rfl (lv_at hl 0 rfl) ?_
      refine lv_iload_n hx hb dF_load_15 rfl (lv_at hl 3 rfl) ?_
      refine kk_callP (va_runV (As := [.int a3]) (rest := []) ⟨hx, hb, hml, hown, hts⟩ (c_F_isField l h0 a3) (cwV 1 hts (gV tw_55 tw_56 tw_57 tw_1 tw_58) rfl rfl rfl (by decide +kernel) ⟨Nat.le_of_ble_eq_true rfl, Nat.le_of_ble_eq_true rfl⟩) ⟨fun _ _ _ _ q => q, va_recv hK hP (ci := 0) (q0 := 0) rfl rfl, fun _ _ _ => ⟨rfl, trivial⟩⟩ rfl rfl hl.1 rfl (lv_room (Nat.le_of_ble_eq_true rfl)) dF_load_16 ⟨Nat.le_of_ble_eq_true rfl, Nat.le_of_ble_eq_true rfl⟩) hS hP (fun H locs hS hP => ?_)
      refine lv_if_ne (tgt := 24) hx hb dF_load_19 (by decide) (fun c_3 => ?_) (fun c_3 => ?_)
      · refine lv_aload_n hx hb dF_load_24 rfl (lv_at hl 0 rfl) ?_
        refine va_get (D := (dC, dI)) (ci := 0) (v := .ref q1) (C := RF) (T := TF) (N := 1) hx hb hts iF hown hK hP 0 rfl rfl 0 (by decide) (hts _ tw_17) (fun _ h9 => h9) rfl dF_load_25 ?_
        refine lv_iload_n hx hb dF_load_28 rfl (lv_at hl 1 rfl) ?_
        refine lv_aload_n hx hb dF_load_29 rfl (lv_at hl 0 rfl) ?_
        refine va_get (D := (dC, dI)) (ci := 0) (v := .ref q1) (C := RF) (T := TF) (N := 1) hx hb hts iF hown hK hP 0 rfl rfl 0 (by decide) (hts _ tw_17) (fun _ h9 => h9) rfl dF_load_30 ?_
        refine lv_iload_n hx hb dF_load_33 rfl (lv_at hl 2 rfl) ?_
        refine va_iald hx hb hK hP 1 0 rfl rfl (in_F c_2) dF_load_34 ?_
        refine lv_iload_n hx hb dF_load_35 rfl (lv_at hl 3 rfl) ?_
        refine kk_callP (va_runS (As := [.int (f a2.toNatClampNeg), .int a3]) (rest := [.int a1, .ref q1]) ⟨hx, hb, hml, hown, hts⟩ (c_F_fieldOf l (f a2.toNatClampNeg) a3) (va_cwS 2 hts (gS tw_65 tw_66 tw_1 tw_67) rfl rfl rfl (by decide +kernel) ⟨Nat.le_of_ble_eq_true rfl, Nat.le_of_ble_eq_true rfl⟩) ⟨fun _ _ _ _ q => q, fun _ _ _ => ⟨rfl, trivial⟩⟩ rfl rfl hl.1 rfl (lv_room (Nat.le_of_ble_eq_true rfl)) dF_load_36 ⟨Nat.le_of_ble_eq_true rfl, Nat.le_of_ble_eq_true rfl⟩) hS hP (fun H locs hS hP => ?_)
        refine va_iast hx hb hK hP hD hS 1 0 rfl rfl (in_F c_1) dF_load_39 (fun H locs hP hD hS => ?_)
        have hP : va_P (dC, dI) vwCl (wsF h0 q1 k1 (upd f a1.toNatClampNeg (f_F_fieldOf (f a2.toNatClampNeg) a3))) H := hP
        have hD : va_D A (wsF h0 q1 k1 (upd f a1.toNatClampNeg (f_F_fieldOf (f a2.toNatClampNeg) a3))) := hD
        refine lv_iconst (v := (1 : Int32)) hx hb dF_load_40 (by decide) ?_
        have eu_f : upd f a1.toNatClampNeg (f_F_fieldOf (f a2.toNatClampNeg) a3) = (u_F_load_f f a1 a2 a3) := (by unfold u_F_load_f; rw [if_neg c_1, if_neg c_2, if_neg c_3])
        have hP9 : va_P (dC, dI) vwCl (wsF h0 q1 k1 ((u_F_load_f f a1 a2 a3))) H := by rw [← eu_f]; exact hP
        have hD9 : va_D A (wsF h0 q1 k1 ((u_F_load_f f a1 a2 a3))) := by rw [← eu_f]; exact hD
        exact W.zret (v := (1 : Int32)) hx hb hr (by decide) (fun tt ht hW => ⟨⟨(1 : Int32), (), rfl, (by unfold f_F_load; rw [if_neg c_1, if_neg c_2, if_neg c_3]), by rw [ht]; exact hP9, hD9⟩, hS.F ht⟩) hS.2.2 dF_load_41
      · refine lv_iconst (v := (0 : Int32)) hx hb dF_load_22 (by decide) ?_
        have eu_f : f = (u_F_load_f f a1 a2 a3) := (by unfold u_F_load_f; rw [if_neg c_1, if_neg c_2, if_pos c_3])
        have hP9 : va_P (dC, dI) vwCl (wsF h0 q1 k1 ((u_F_load_f f a1 a2 a3))) H := by rw [← eu_f]; exact hP
        have hD9 : va_D A (wsF h0 q1 k1 ((u_F_load_f f a1 a2 a3))) := by rw [← eu_f]; exact hD
        exact W.zret (v := (0 : Int32)) hx hb hr (by decide) (fun tt ht hW => ⟨⟨(0 : Int32), (), rfl, (by unfold f_F_load; rw [if_neg c_1, if_neg c_2, if_pos c_3]), by rw [ht]; exact hP9, hD9⟩, hS.F ht⟩) hS.2.2 dF_load_23

set_option maxHeartbeats 4000000 in
set_option maxRecDepth 100000 in
theorem c_F_store (l : Launch) (dC : Nat → ClassId) (dI : Nat → Nat → Nat) (h0 q1 : Nat) (k1 : ClassId) (sz : Nat) (f : Nat → Int32) (a1 a2 a3 : Int32) : Met l yF_store wsF_store ({ frames := 2, cells := 0, slots := 0, locals := 41 }) (va_Pc [.ref h0, .int a1, .int a2, .int a3] (fun U => U.heap.size = sz ∧ va_P (dC, dI) vwCl (wsF h0 q1 k1 f) U.heap ∧ va_K (dC, dI) vwCl [(k1, .int)] U ∧ va_D (fun _ => True) (wsF h0 q1 k1 f))) (va_Qi (fun (r : Int32) (_ : Unit) => r = f_F_store f a1 a2 a3) (fun _ tt => va_P (dC, dI) vwCl (wsF h0 q1 k1 ((u_F_store_f f a1 a2 a3))) tt.heap ∧ va_D (va_A (wsF h0 q1 k1 f) sz) (wsF h0 q1 k1 ((u_F_store_f f a1 a2 a3)))) (va_A (wsF h0 q1 k1 f) sz)) 0 0 (va_A (wsF h0 q1 k1 f) sz) := by
  refine Met.ofW (cc := prog_1_method_6_code) (maxL := 7) (ret := (some .boolean)) (by decide) rfl ?_
  intro p e s m args below meth c s₁ B hml hv
  obtain ⟨rfl, hsz, hP, hK, hD0⟩ := hv
  have hx := B.exec
  have hb := B.bytes
  have hr := B.returns
  have hts := fun (w : Cond) (h : w ∈ gw) => atoms_spec (ws := wsF_store) B.pre w (List.mem_cons_of_mem _ h)
  have hown : s.vm.findClass RF = some m.cls := findClass_of_methodNamed B.named
  have hlocks := B.notSynchronized
  subst hsz
  have hD := hD0.self (sz := s.heap.size)
  generalize hAe : va_A (wsF h0 q1 k1 f) s.heap.size = A at hD ⊢
  have hS : va_S A s.heap s.heap [] := va_S.rf
  have hl := lv_entry ([.ref h0, .int a1, .int a2, .int a3]) (n := 7) (Nat.le_of_ble_eq_true rfl)
  rw [lg_entry_eq]
  generalize (lg_sl ([.ref h0, .int a1, .int a2, .int a3]) ++ List.replicate (7 - (lg_sl ([.ref h0, .int a1, .int a2, .int a3])).length) Slot.unset).toArray = ls at hl ⊢
  have hl : lv_has ls 7 [(0, .ref h0), (1, .int a1), (2, .int a2), (3, .int a3)] := hl
  refine lv_iload_n hx hb dF_store_0 rfl (lv_at hl 1 rfl) ?_
  refine kk_callP (va_runS (As := [.int a1]) (rest := []) ⟨hx, hb, hml, hown, hts⟩ (c_F_isRegister l a1) (va_cwS 1 hts (gS tw_26 tw_27 tw_1 tw_28) rfl rfl rfl (by decide +kernel) ⟨Nat.le_of_ble_eq_true rfl, Nat.le_of_ble_eq_true rfl⟩) ⟨fun _ _ _ _ q => q, fun _ _ _ => ⟨rfl, trivial⟩⟩ rfl rfl hl.1 rfl (lv_room (Nat.le_of_ble_eq_true rfl)) dF_store_1 ⟨Nat.le_of_ble_eq_true rfl, Nat.le_of_ble_eq_true rfl⟩) hS hP (fun H locs hS hP => ?_)
  refine lv_if_eq (tgt := 22) hx hb dF_store_4 (by decide) (fun c_1 => ?_) (fun c_1 => ?_)
  · refine lv_iconst (v := (0 : Int32)) hx hb dF_store_22 (by decide) ?_
    have eu_f : f = (u_F_store_f f a1 a2 a3) := (by unfold u_F_store_f; rw [if_pos c_1])
    have hP9 : va_P (dC, dI) vwCl (wsF h0 q1 k1 ((u_F_store_f f a1 a2 a3))) H := by rw [← eu_f]; exact hP
    have hD9 : va_D A (wsF h0 q1 k1 ((u_F_store_f f a1 a2 a3))) := by rw [← eu_f]; exact hD
    exact W.zret (v := (0 : Int32)) hx hb hr (by decide) (fun tt ht hW => ⟨⟨(0 : Int32), (), rfl, (by unfold f_F_store; rw [if_pos c_1]), by rw [ht]; exact hP9, hD9⟩, hS.F ht⟩) hS.2.2 dF_store_23
  · refine lv_iload_n hx hb dF_store_7 rfl (lv_at hl 2 rfl) ?_
    refine kk_callP (va_runS (As := [.int a2]) (rest := []) ⟨hx, hb, hml, hown, hts⟩ (c_F_isRegister l a2) (va_cwS 1 hts (gS tw_26 tw_27 tw_1 tw_28) rfl rfl rfl (by decide +kernel) ⟨Nat.le_of_ble_eq_true rfl, Nat.le_of_ble_eq_true rfl⟩) ⟨fun _ _ _ _ q => q, fun _ _ _ => ⟨rfl, trivial⟩⟩ rfl rfl hl.1 rfl (lv_room (Nat.le_of_ble_eq_true rfl)) dF_store_8 ⟨Nat.le_of_ble_eq_true rfl, Nat.le_of_ble_eq_true rfl⟩) hS hP (fun H locs hS hP => ?_)
    refine lv_if_eq (tgt := 22) hx hb dF_store_11 (by decide) (fun c_2 => ?_) (fun c_2 => ?_)
    · refine lv_iconst (v := (0 : Int32)) hx hb dF_store_22 (by decide) ?_
      have eu_f : f = (u_F_store_f f a1 a2 a3) := (by unfold u_F_store_f; rw [if_neg c_1, if_pos c_2])
      have hP9 : va_P (dC, dI) vwCl (wsF h0 q1 k1 ((u_F_store_f f a1 a2 a3))) H := by rw [← eu_f]; exact hP
      have hD9 : va_D A (wsF h0 q1 k1 ((u_F_store_f f a1 a2 a3))) := by rw [← eu_f]; exact hD
      exact W.zret (v := (0 : Int32)) hx hb hr (by decide) (fun tt ht hW => ⟨⟨(0 : Int32), (), rfl, (by unfold f_F_store; rw [if_neg c_1, if_pos c_2]), by rw [ht]; exact hP9, hD9⟩, hS.F ht⟩) hS.2.2 dF_store_23
    · refine lv_aload_n hx hb dF_store_14 rfl (lv_at hl 0 rfl) ?_
      refine lv_iload_n hx hb dF_store_15 rfl (lv_at hl 3 rfl) ?_
      refine kk_callP (va_runV (As := [.int a3]) (rest := []) ⟨hx, hb, hml, hown, hts⟩ (c_F_isField l h0 a3) (cwV 1 hts (gV tw_55 tw_56 tw_57 tw_1 tw_58) rfl rfl rfl (by decide +kernel) ⟨Nat.le_of_ble_eq_true rfl, Nat.le_of_ble_eq_true rfl⟩) ⟨fun _ _ _ _ q => q, va_recv hK hP (ci := 0) (q0 := 0) rfl rfl, fun _ _ _ => ⟨rfl, trivial⟩⟩ rfl rfl hl.1 rfl (lv_room (Nat.le_of_ble_eq_true rfl)) dF_store_16 ⟨Nat.le_of_ble_eq_true rfl, Nat.le_of_ble_eq_true rfl⟩) hS hP (fun H locs hS hP => ?_)
      refine lv_if_ne (tgt := 24) hx hb dF_store_19 (by decide) (fun c_3 => ?_) (fun c_3 => ?_)
      · refine lv_aload_n hx hb dF_store_24 rfl (lv_at hl 0 rfl) ?_
        refine va_get (D := (dC, dI)) (ci := 0) (v := .ref q1) (C := RF) (T := TF) (N := 1) hx hb hts iF hown hK hP 0 rfl rfl 0 (by decide) (hts _ tw_17) (fun _ h9 => h9) rfl dF_store_25 ?_
        refine lv_iload_n hx hb dF_store_28 rfl (lv_at hl 2 rfl) ?_
        refine va_iald hx hb hK hP 1 0 rfl rfl (in_F c_2) dF_store_29 ?_
        refine lv_istore (lv' := [(4, .int (f a2.toNatClampNeg)), (0, .ref h0), (1, .int a1), (2, .int a2), (3, .int a3)]) hx hb dF_store_30 hl (by decide) rfl (fun ls hl => ?_)
        refine lv_iload hx hb dF_store_32 (lv_at hl 0 rfl) ?_
        refine lv_iload_n hx hb dF_store_34 rfl (lv_at hl 4 rfl) ?_
        refine kk_callP (va_runS (As := [.int a3]) (rest := [.int (f a2.toNatClampNeg)]) ⟨hx, hb, hml, hown, hts⟩ (c_F_rightMask l a3) (va_cwS 1 hts (gS tw_68 tw_69 tw_1 tw_70) rfl rfl rfl (by decide +kernel) ⟨Nat.le_of_ble_eq_true rfl, Nat.le_of_ble_eq_true rfl⟩) ⟨fun _ _ _ _ q => q, fun _ _ _ => ⟨rfl, trivial⟩⟩ rfl rfl hl.1 rfl (lv_room (Nat.le_of_ble_eq_true rfl)) dF_store_35 ⟨Nat.le_of_ble_eq_true rfl, Nat.le_of_ble_eq_true rfl⟩) hS hP (fun H locs hS hP => ?_)
        refine lv_iand hx hb dF_store_38 ?_
        refine lv_iload_n hx hb dF_store_39 rfl (lv_at hl 4 rfl) ?_
        refine kk_callP (va_runS (As := [.int a3]) (rest := [.int ((f a2.toNatClampNeg) &&& (f_F_rightMask a3))]) ⟨hx, hb, hml, hown, hts⟩ (c_F_lastByte l a3) (va_cwS 1 hts (gS tw_62 tw_63 tw_1 tw_64) rfl rfl rfl (by decide +kernel) ⟨Nat.le_of_ble_eq_true rfl, Nat.le_of_ble_eq_true rfl⟩) ⟨fun _ _ _ _ q => q, fun _ _ _ => ⟨rfl, trivial⟩⟩ rfl rfl hl.1 rfl (lv_room (Nat.le_of_ble_eq_true rfl)) dF_store_40 ⟨Nat.le_of_ble_eq_true rfl, Nat.le_of_ble_eq_true rfl⟩) hS hP (fun H locs hS hP => ?_)
        refine kk_callP (va_runS (As := [.int (f_F_lastByte a3)]) (rest := [.int ((f a2.toNatClampNeg) &&& (f_F_rightMask a3))]) ⟨hx, hb, hml, hown, hts⟩ (c_F_bitsRightOf l (f_F_lastByte a3)) (va_cwS 1 hts (gS tw_48 tw_49 tw_1 tw_50) rfl rfl rfl (by decide +kernel) ⟨Nat.le_of_ble_eq_true rfl, Nat.le_of_ble_eq_true rfl⟩) ⟨fun _ _ _ _ q => q, fun _ _ _ => ⟨rfl, trivial⟩⟩ rfl rfl hl.1 rfl (lv_room (Nat.le_of_ble_eq_true rfl)) dF_store_43 ⟨Nat.le_of_ble_eq_true rfl, Nat.le_of_ble_eq_true rfl⟩) hS hP (fun H locs hS hP => ?_)
        refine lv_ishl hx hb dF_store_46 ?_
        refine lv_topi (fun x_4 ex_4 => ?_)
        refine lv_istore (lv' := [(5, .int x_4), (4, .int (f a2.toNatClampNeg)), (0, .ref h0), (1, .int a1), (2, .int a2), (3, .int a3)]) hx hb dF_store_47 hl (by decide) rfl (fun ls hl => ?_)
        refine lv_iload_n hx hb dF_store_49 rfl (lv_at hl 5 rfl) ?_
        refine kk_callP (va_runS (As := [.int a3]) (rest := []) ⟨hx, hb, hml, hown, hts⟩ (c_F_rightMask l a3) (va_cwS 1 hts (gS tw_68 tw_69 tw_1 tw_70) rfl rfl rfl (by decide +kernel) ⟨Nat.le_of_ble_eq_true rfl, Nat.le_of_ble_eq_true rfl⟩) ⟨fun _ _ _ _ q => q, fun _ _ _ => ⟨rfl, trivial⟩⟩ rfl rfl hl.1 rfl (lv_room (Nat.le_of_ble_eq_true rfl)) dF_store_50 ⟨Nat.le_of_ble_eq_true rfl, Nat.le_of_ble_eq_true rfl⟩) hS hP (fun H locs hS hP => ?_)
        refine lv_iload_n hx hb dF_store_53 rfl (lv_at hl 5 rfl) ?_
        refine kk_callP (va_runS (As := [.int a3]) (rest := [.int (f_F_rightMask a3)]) ⟨hx, hb, hml, hown, hts⟩ (c_F_lastByte l a3) (va_cwS 1 hts (gS tw_62 tw_63 tw_1 tw_64) rfl rfl rfl (by decide +kernel) ⟨Nat.le_of_ble_eq_true rfl, Nat.le_of_ble_eq_true rfl⟩) ⟨fun _ _ _ _ q => q, fun _ _ _ => ⟨rfl, trivial⟩⟩ rfl rfl hl.1 rfl (lv_room (Nat.le_of_ble_eq_true rfl)) dF_store_54 ⟨Nat.le_of_ble_eq_true rfl, Nat.le_of_ble_eq_true rfl⟩) hS hP (fun H locs hS hP => ?_)
        refine kk_callP (va_runS (As := [.int (f_F_lastByte a3)]) (rest := [.int (f_F_rightMask a3)]) ⟨hx, hb, hml, hown, hts⟩ (c_F_bitsRightOf l (f_F_lastByte a3)) (va_cwS 1 hts (gS tw_48 tw_49 tw_1 tw_50) rfl rfl rfl (by decide +kernel) ⟨Nat.le_of_ble_eq_true rfl, Nat.le_of_ble_eq_true rfl⟩) ⟨fun _ _ _ _ q => q, fun _ _ _ => ⟨rfl, trivial⟩⟩ rfl rfl hl.1 rfl (lv_room (Nat.le_of_ble_eq_true rfl)) dF_store_57 ⟨Nat.le_of_ble_eq_true rfl, Nat.le_of_ble_eq_true rfl⟩) hS hP (fun H locs hS hP => ?_)
        refine lv_ishl hx hb dF_store_60 ?_
        refine lv_iload_n hx hb dF_store_61 rfl (lv_at hl 5 rfl) ?_
        refine kk_callP (va_runS (As := [.int a3]) (rest := [.int ((f_F_rightMask a3) <<< ((f_F_bitsRightOf (f_F_lastByte a3)) &&& 31))]) ⟨hx, hb, hml, hown, hts⟩ (c_F_signMask l a3) (va_cwS 1 hts (gS tw_74 tw_75 tw_1 tw_76) rfl rfl rfl (by decide +kernel) ⟨Nat.le_of_ble_eq_true rfl, Nat.le_of_ble_eq_true rfl⟩) ⟨fun _ _ _ _ q => q, fun _ _ _ => ⟨rfl, trivial⟩⟩ rfl rfl hl.1 rfl (lv_room (Nat.le_of_ble_eq_true rfl)) dF_store_62 ⟨Nat.le_of_ble_eq_true rfl, Nat.le_of_ble_eq_true rfl⟩) hS hP (fun H locs hS hP => ?_)
        refine lv_ior hx hb dF_store_65 ?_
        refine lv_topi (fun x_5 ex_5 => ?_)
        refine lv_istore (lv' := [(6, .int x_5), (5, .int x_4), (4, .int (f a2.toNatClampNeg)), (0, .ref h0), (1, .int a1), (2, .int a2), (3, .int a3)]) hx hb dF_store_66 hl (by decide) rfl (fun ls hl => ?_)
        refine lv_aload_n hx hb dF_store_68 rfl (lv_at hl 3 rfl) ?_
        refine va_get (D := (dC, dI)) (ci := 0) (v := .ref q1) (C := RF) (T := TF) (N := 1) hx hb hts iF hown hK hP 0 rfl rfl 0 (by decide) (hts _ tw_17) (fun _ h9 => h9) rfl dF_store_69 ?_
        refine lv_iload_n hx hb dF_store_72 rfl (lv_at hl 4 rfl) ?_
        refine lv_aload_n hx hb dF_store_73 rfl (lv_at hl 3 rfl) ?_
        refine va_get (D := (dC, dI)) (ci := 0) (v := .ref q1) (C := RF) (T := TF) (N := 1) hx hb hts iF hown hK hP 0 rfl rfl 0 (by decide) (hts _ tw_17) (fun _ h9 => h9) rfl dF_store_74 ?_
        refine lv_iload_n hx hb dF_store_77 rfl (lv_at hl 4 rfl) ?_
        refine va_iald hx hb hK hP 1 0 rfl rfl (in_F c_1) dF_store_78 ?_
        refine lv_iload hx hb dF_store_79 (lv_at hl 0 rfl) ?_
        refine lv_iconst (v := (-1 : Int32)) hx hb dF_store_81 (by decide) ?_
        refine lv_ixor hx hb dF_store_82 ?_
        refine lv_iand hx hb dF_store_83 ?_
        refine lv_iload hx hb dF_store_84 (lv_at hl 1 rfl) ?_
        refine lv_ior hx hb dF_store_86 ?_
        refine lv_iload hx hb dF_store_87 (lv_at hl 2 rfl) ?_
        refine lv_iload_n hx hb dF_store_89 rfl (lv_at hl 6 rfl) ?_
        refine kk_callP (va_runS (As := [.int a3]) (rest := [.int (f a2.toNatClampNeg), .int (((f a1.toNatClampNeg) &&& (x_5 ^^^ (-1 : Int32))) ||| x_4), .int a1, .ref q1]) ⟨hx, hb, hml, hown, hts⟩ (c_F_signMask l a3) (va_cwS 1 hts (gS tw_74 tw_75 tw_1 tw_76) rfl rfl rfl (by decide +kernel) ⟨Nat.le_of_ble_eq_true rfl, Nat.le_of_ble_eq_true rfl⟩) ⟨fun _ _ _ _ q => q, fun _ _ _ => ⟨rfl, trivial⟩⟩ rfl rfl hl.1 rfl (lv_room (Nat.le_of_ble_eq_true rfl)) dF_store_90 ⟨Nat.le_of_ble_eq_true rfl, Nat.le_of_ble_eq_true rfl⟩) hS hP (fun H locs hS hP => ?_)
        refine lv_iand hx hb dF_store_93 ?_
        refine lv_ior hx hb dF_store_94 ?_
        refine va_iast hx hb hK hP hD hS 1 0 rfl rfl (in_F c_1) dF_store_95 (fun H locs hP hD hS => ?_)
        have hP : va_P (dC, dI) vwCl (wsF h0 q1 k1 (upd f a1.toNatClampNeg ((((f a1.toNatClampNeg) &&& (x_5 ^^^ (-1 : Int32))) ||| x_4) ||| ((f a2.toNatClampNeg) &&& (f_F_signMask a3))))) H := hP
        have hD : va_D A (wsF h0 q1 k1 (upd f a1.toNatClampNeg ((((f a1.toNatClampNeg) &&& (x_5 ^^^ (-1 : Int32))) ||| x_4) ||| ((f a2.toNatClampNeg) &&& (f_F_signMask a3))))) := hD
        refine lv_iconst (v := (1 : Int32)) hx hb dF_store_96 (by decide) ?_
        have eu_f : upd f a1.toNatClampNeg ((((f a1.toNatClampNeg) &&& (x_5 ^^^ (-1 : Int32))) ||| x_4) ||| ((f a2.toNatClampNeg) &&& (f_F_signMask a3))) = (u_F_store_f f a1 a2 a3) := (by subst ex_4; subst ex_5; unfold u_F_store_f; rw [if_neg c_1, if_neg c_2, if_neg c_3])
        have hP9 : va_P (dC, dI) vwCl (wsF h0 q1 k1 ((u_F_store_f f a1 a2 a3))) H := by rw [← eu_f]; exact hP
        have hD9 : va_D A (wsF h0 q1 k1 ((u_F_store_f f a1 a2 a3))) := by rw [← eu_f]; exact hD
        exact W.zret (v := (1 : Int32)) hx hb hr (by decide) (fun tt ht hW => ⟨⟨(1 : Int32), (), rfl, (by subst ex_4; subst ex_5; unfold f_F_store; rw [if_neg c_1, if_neg c_2, if_neg c_3]), by rw [ht]; exact hP9, hD9⟩, hS.F ht⟩) hS.2.2 dF_store_97
      · refine lv_iconst (v := (0 : Int32)) hx hb dF_store_22 (by decide) ?_
        have eu_f : f = (u_F_store_f f a1 a2 a3) := (by unfold u_F_store_f; rw [if_neg c_1, if_neg c_2, if_pos c_3])
        have hP9 : va_P (dC, dI) vwCl (wsF h0 q1 k1 ((u_F_store_f f a1 a2 a3))) H := by rw [← eu_f]; exact hP
        have hD9 : va_D A (wsF h0 q1 k1 ((u_F_store_f f a1 a2 a3))) := by rw [← eu_f]; exact hD
        exact W.zret (v := (0 : Int32)) hx hb hr (by decide) (fun tt ht hW => ⟨⟨(0 : Int32), (), rfl, (by unfold f_F_store; rw [if_neg c_1, if_neg c_2, if_pos c_3]), by rw [ht]; exact hP9, hD9⟩, hS.F ht⟩) hS.2.2 dF_store_23

set_option maxHeartbeats 4000000 in
set_option maxRecDepth 100000 in
theorem c_F_turn (l : Launch) (dC : Nat → ClassId) (dI : Nat → Nat → Nat) (h0 q1 : Nat) (k1 : ClassId) (sz : Nat) (f : Nat → Int32) (a1 : Int32) : Met l yF_turn wsF_turn ({ frames := 1, cells := 0, slots := 0, locals := 20 }) (va_Pc [.ref h0, .int a1] (fun U => U.heap.size = sz ∧ va_P (dC, dI) vwCl (wsF h0 q1 k1 f) U.heap ∧ va_K (dC, dI) vwCl [(k1, .int)] U ∧ va_D (fun _ => True) (wsF h0 q1 k1 f))) (va_Qi (fun (r : Int32) (_ : Unit) => r = f_F_turn f a1) (fun _ tt => va_P (dC, dI) vwCl (wsF h0 q1 k1 ((u_F_turn_f f a1))) tt.heap ∧ va_D (va_A (wsF h0 q1 k1 f) sz) (wsF h0 q1 k1 ((u_F_turn_f f a1)))) (va_A (wsF h0 q1 k1 f) sz)) 0 0 (va_A (wsF h0 q1 k1 f) sz) := by
  refine Met.ofW (cc := prog_1_method_7_code) (maxL := 2) (ret := (some .boolean)) (by decide) rfl ?_
  intro p e s m args below meth c s₁ B hml hv
  obtain ⟨rfl, hsz, hP, hK, hD0⟩ := hv
  have hx := B.exec
  have hb := B.bytes
  have hr := B.returns
  have hts := fun (w : Cond) (h : w ∈ gw) => atoms_spec (ws := wsF_turn) B.pre w (List.mem_cons_of_mem _ h)
  have hown : s.vm.findClass RF = some m.cls := findClass_of_methodNamed B.named
  have hlocks := B.notSynchronized
  subst hsz
  have hD := hD0.self (sz := s.heap.size)
  generalize hAe : va_A (wsF h0 q1 k1 f) s.heap.size = A at hD ⊢
  have hS : va_S A s.heap s.heap [] := va_S.rf
  have hl := lv_entry ([.ref h0, .int a1]) (n := 2) (Nat.le_of_ble_eq_true rfl)
  rw [lg_entry_eq]
  generalize (lg_sl ([.ref h0, .int a1]) ++ List.replicate (2 - (lg_sl ([.ref h0, .int a1])).length) Slot.unset).toArray = ls at hl ⊢
  have hl : lv_has ls 2 [(0, .ref h0), (1, .int a1)] := hl
  refine lv_iload_n hx hb dF_turn_0 rfl (lv_at hl 1 rfl) ?_
  refine kk_callP (va_runS (As := [.int a1]) (rest := []) ⟨hx, hb, hml, hown, hts⟩ (c_F_isRegister l a1) (va_cwS 1 hts (gS tw_26 tw_27 tw_1 tw_28) rfl rfl rfl (by decide +kernel) ⟨Nat.le_of_ble_eq_true rfl, Nat.le_of_ble_eq_true rfl⟩) ⟨fun _ _ _ _ q => q, fun _ _ _ => ⟨rfl, trivial⟩⟩ rfl rfl hl.1 rfl (lv_room (Nat.le_of_ble_eq_true rfl)) dF_turn_1 ⟨Nat.le_of_ble_eq_true rfl, Nat.le_of_ble_eq_true rfl⟩) hS hP (fun H locs hS hP => ?_)
  refine lv_if_ne (tgt := 9) hx hb dF_turn_4 (by decide) (fun c_1 => ?_) (fun c_1 => ?_)
  · refine lv_aload_n hx hb dF_turn_9 rfl (lv_at hl 0 rfl) ?_
    refine va_get (D := (dC, dI)) (ci := 0) (v := .ref q1) (C := RF) (T := TF) (N := 1) hx hb hts iF hown hK hP 0 rfl rfl 0 (by decide) (hts _ tw_17) (fun _ h9 => h9) rfl dF_turn_10 ?_
    refine lv_iload_n hx hb dF_turn_13 rfl (lv_at hl 1 rfl) ?_
    refine lv_dup2_11 hx hb dF_turn_14 rfl rfl ?_
    refine va_iald hx hb hK hP 1 0 rfl rfl (in_F c_1) dF_turn_15 ?_
    refine lv_ldc (v := (1073741824 : Int32)) hx hb hown (hts _ tw_31) dF_turn_16 ?_
    refine lv_ixor hx hb dF_turn_18 ?_
    refine va_iast hx hb hK hP hD hS 1 0 rfl rfl (in_F c_1) dF_turn_19 (fun H locs hP hD hS => ?_)
    have hP : va_P (dC, dI) vwCl (wsF h0 q1 k1 (upd f a1.toNatClampNeg ((f a1.toNatClampNeg) ^^^ (1073741824 : Int32)))) H := hP
    have hD : va_D A (wsF h0 q1 k1 (upd f a1.toNatClampNeg ((f a1.toNatClampNeg) ^^^ (1073741824 : Int32)))) := hD
    refine lv_iconst (v := (1 : Int32)) hx hb dF_turn_20 (by decide) ?_
    have eu_f : upd f a1.toNatClampNeg ((f a1.toNatClampNeg) ^^^ (1073741824 : Int32)) = (u_F_turn_f f a1) := (by unfold u_F_turn_f; rw [if_neg c_1])
    have hP9 : va_P (dC, dI) vwCl (wsF h0 q1 k1 ((u_F_turn_f f a1))) H := by rw [← eu_f]; exact hP
    have hD9 : va_D A (wsF h0 q1 k1 ((u_F_turn_f f a1))) := by rw [← eu_f]; exact hD
    exact W.zret (v := (1 : Int32)) hx hb hr (by decide) (fun tt ht hW => ⟨⟨(1 : Int32), (), rfl, (by unfold f_F_turn; rw [if_neg c_1]), by rw [ht]; exact hP9, hD9⟩, hS.F ht⟩) hS.2.2 dF_turn_21
  · refine lv_iconst (v := (0 : Int32)) hx hb dF_turn_7 (by decide) ?_
    have eu_f : f = (u_F_turn_f f a1) := (by unfold u_F_turn_f; rw [if_pos c_1])
    have hP9 : va_P (dC, dI) vwCl (wsF h0 q1 k1 ((u_F_turn_f f a1))) H := by rw [← eu_f]; exact hP
    have hD9 : va_D A (wsF h0 q1 k1 ((u_F_turn_f f a1))) := by rw [← eu_f]; exact hD
    exact W.zret (v := (0 : Int32)) hx hb hr (by decide) (fun tt ht hW => ⟨⟨(0 : Int32), (), rfl, (by unfold f_F_turn; rw [if_pos c_1]), by rw [ht]; exact hP9, hD9⟩, hS.F ht⟩) hS.2.2 dF_turn_8
end
section
set_option maxHeartbeats 4000000 in
set_option maxRecDepth 100000 in
theorem c_M_isRegister (l : Launch) (a1 : Int32) : Met l yM_isRegister wsM_isRegister ({ frames := 0, cells := 0, slots := 0, locals := 0 }) (va_Pc [.int a1] (fun _ => True)) (va_Qi (fun (r : Int32) (_ : Unit) => r = f_M_isRegister a1) (fun _ _ => True) (fun _ => False)) 0 0 (fun _ => False) := by
  refine Met.ofW (cc := prog_3_method_3_code) (maxL := 1) (ret := (some .boolean)) (by decide) rfl ?_
  intro p e s m args below meth c s₁ B hml hv
  obtain ⟨rfl, -⟩ := hv
  have hx := B.exec
  have hb := B.bytes
  have hr := B.returns
  have hts := fun (w : Cond) (h : w ∈ gw) => atoms_spec (ws := wsM_isRegister) B.pre w (List.mem_cons_of_mem _ h)
  have hown : s.vm.findClass RM = some m.cls := findClass_of_methodNamed B.named
  have hlocks := B.notSynchronized
  have hS : va_S (fun _ => False) s.heap s.heap [] := va_S.rf
  have hl := lv_entry ([.int a1]) (n := 1) (Nat.le_of_ble_eq_true rfl)
  rw [lg_entry_eq]
  generalize (lg_sl ([.int a1]) ++ List.replicate (1 - (lg_sl ([.int a1])).length) Slot.unset).toArray = ls at hl ⊢
  have hl : lv_has ls 1 [(0, .int a1)] := hl
  refine lv_iload_n hx hb dM_isRegister_0 rfl (lv_at hl 0 rfl) ?_
  refine lv_if_lt (tgt := 14) hx hb dM_isRegister_1 (by decide) (fun c_1 => ?_) (fun c_1 => ?_)
  · refine lv_iconst (v := (0 : Int32)) hx hb dM_isRegister_14 (by decide) ?_
    exact W.zret (v := (0 : Int32)) hx hb hr (by decide) (fun tt ht hW => ⟨⟨(0 : Int32), (), rfl, (by unfold f_M_isRegister; rw [if_pos c_1]), trivial⟩, hS.F ht⟩) hS.2.2 dM_isRegister_15
  · refine lv_iload_n hx hb dM_isRegister_4 rfl (lv_at hl 0 rfl) ?_
    refine lv_bipush (v := (16 : Int32)) hx hb dM_isRegister_5 (by decide) ?_
    refine lv_icmp_ge (tgt := 14) hx hb dM_isRegister_7 (by decide) (fun c_2 => ?_) (fun c_2 => ?_)
    · refine lv_iconst (v := (0 : Int32)) hx hb dM_isRegister_14 (by decide) ?_
      exact W.zret (v := (0 : Int32)) hx hb hr (by decide) (fun tt ht hW => ⟨⟨(0 : Int32), (), rfl, (by unfold f_M_isRegister; rw [if_neg c_1, if_pos c_2]), trivial⟩, hS.F ht⟩) hS.2.2 dM_isRegister_15
    · refine lv_iconst (v := (1 : Int32)) hx hb dM_isRegister_10 (by decide) ?_
      refine lv_goto (tgt := 15) hx hb dM_isRegister_11 (by decide) ?_
      exact W.zret (v := (1 : Int32)) hx hb hr (by decide) (fun tt ht hW => ⟨⟨(1 : Int32), (), rfl, (by unfold f_M_isRegister; rw [if_neg c_1, if_neg c_2]), trivial⟩, hS.F ht⟩) hS.2.2 dM_isRegister_15

set_option maxHeartbeats 4000000 in
set_option maxRecDepth 100000 in
theorem c_M_is (l : Launch) (a1 : Int32) : Met l yM_is wsM_is ({ frames := 0, cells := 0, slots := 0, locals := 0 }) (va_Pc [.int a1] (fun _ => True)) (va_Qi (fun (r : Int32) (_ : Unit) => r = f_M_is a1) (fun _ _ => True) (fun _ => False)) 0 0 (fun _ => False) := by
  refine Met.ofW (cc := prog_3_method_4_code) (maxL := 1) (ret := (some .boolean)) (by decide) rfl ?_
  intro p e s m args below meth c s₁ B hml hv
  obtain ⟨rfl, -⟩ := hv
  have hx := B.exec
  have hb := B.bytes
  have hr := B.returns
  have hts := fun (w : Cond) (h : w ∈ gw) => atoms_spec (ws := wsM_is) B.pre w (List.mem_cons_of_mem _ h)
  have hown : s.vm.findClass RM = some m.cls := findClass_of_methodNamed B.named
  have hlocks := B.notSynchronized
  have hS : va_S (fun _ => False) s.heap s.heap [] := va_S.rf
  have hl := lv_entry ([.int a1]) (n := 1) (Nat.le_of_ble_eq_true rfl)
  rw [lg_entry_eq]
  generalize (lg_sl ([.int a1]) ++ List.replicate (1 - (lg_sl ([.int a1])).length) Slot.unset).toArray = ls at hl ⊢
  have hl : lv_has ls 1 [(0, .int a1)] := hl
  refine lv_iload_n hx hb dM_is_0 rfl (lv_at hl 0 rfl) ?_
  refine lv_if_lt (tgt := 34) hx hb dM_is_1 (by decide) (fun c_1 => ?_) (fun c_1 => ?_)
  · refine lv_iconst (v := (0 : Int32)) hx hb dM_is_34 (by decide) ?_
    exact W.zret (v := (0 : Int32)) hx hb hr (by decide) (fun tt ht hW => ⟨⟨(0 : Int32), (), rfl, (by unfold f_M_is; rw [if_pos c_1]), trivial⟩, hS.F ht⟩) hS.2.2 dM_is_35
  · refine lv_iload_n hx hb dM_is_4 rfl (lv_at hl 0 rfl) ?_
    refine lv_bipush (v := (48 : Int32)) hx hb dM_is_5 (by decide) ?_
    refine lv_icmp_ge (tgt := 34) hx hb dM_is_7 (by decide) (fun c_2 => ?_) (fun c_2 => ?_)
    · refine lv_iconst (v := (0 : Int32)) hx hb dM_is_34 (by decide) ?_
      exact W.zret (v := (0 : Int32)) hx hb hr (by decide) (fun tt ht hW => ⟨⟨(0 : Int32), (), rfl, (by unfold f_M_is; rw [if_neg c_1, if_pos c_2]), trivial⟩, hS.F ht⟩) hS.2.2 dM_is_35
    · refine lv_iload_n hx hb dM_is_10 rfl (lv_at hl 0 rfl) ?_
      refine lv_bipush (v := (8 : Int32)) hx hb dM_is_11 (by decide) ?_
      refine lv_irem hx hb dM_is_13 (by decide) ?_
      refine lv_bipush (v := (6 : Int32)) hx hb dM_is_14 (by decide) ?_
      refine lv_icmp_ge (tgt := 34) hx hb dM_is_16 (by decide) (fun c_3 => ?_) (fun c_3 => ?_)
      · refine lv_iconst (v := (0 : Int32)) hx hb dM_is_34 (by decide) ?_
        exact W.zret (v := (0 : Int32)) hx hb hr (by decide) (fun tt ht hW => ⟨⟨(0 : Int32), (), rfl, (by unfold f_M_is; rw [if_neg c_1, if_neg c_2, if_pos c_3]), trivial⟩, hS.F ht⟩) hS.2.2 dM_is_35
      · refine lv_iload_n hx hb dM_is_19 rfl (lv_at hl 0 rfl) ?_
        refine lv_bipush (v := (8 : Int32)) hx hb dM_is_20 (by decide) ?_
        refine lv_idiv hx hb dM_is_22 (by decide) ?_
        refine lv_iload_n hx hb dM_is_23 rfl (lv_at hl 0 rfl) ?_
        refine lv_bipush (v := (8 : Int32)) hx hb dM_is_24 (by decide) ?_
        refine lv_irem hx hb dM_is_26 (by decide) ?_
        refine lv_icmp_gt (tgt := 34) hx hb dM_is_27 (by decide) (fun c_4 => ?_) (fun c_4 => ?_)
        · refine lv_iconst (v := (0 : Int32)) hx hb dM_is_34 (by decide) ?_
          exact W.zret (v := (0 : Int32)) hx hb hr (by decide) (fun tt ht hW => ⟨⟨(0 : Int32), (), rfl, (by unfold f_M_is; rw [if_neg c_1, if_neg c_2, if_neg c_3, if_pos c_4]), trivial⟩, hS.F ht⟩) hS.2.2 dM_is_35
        · refine lv_iconst (v := (1 : Int32)) hx hb dM_is_30 (by decide) ?_
          refine lv_goto (tgt := 35) hx hb dM_is_31 (by decide) ?_
          exact W.zret (v := (1 : Int32)) hx hb hr (by decide) (fun tt ht hW => ⟨⟨(1 : Int32), (), rfl, (by unfold f_M_is; rw [if_neg c_1, if_neg c_2, if_neg c_3, if_neg c_4]), trivial⟩, hS.F ht⟩) hS.2.2 dM_is_35

set_option maxHeartbeats 4000000 in
set_option maxRecDepth 100000 in
theorem c_M_first (l : Launch) (a1 : Int32) : Met l yM_first wsM_first ({ frames := 0, cells := 0, slots := 0, locals := 0 }) (va_Pc [.int a1] (fun _ => True)) (va_Qi (fun (r : Int32) (_ : Unit) => r = f_M_first a1) (fun _ _ => True) (fun _ => False)) 0 0 (fun _ => False) := by
  refine Met.ofW (cc := prog_3_method_5_code) (maxL := 1) (ret := (some .int)) (by decide) rfl ?_
  intro p e s m args below meth c s₁ B hml hv
  obtain ⟨rfl, -⟩ := hv
  have hx := B.exec
  have hb := B.bytes
  have hr := B.returns
  have hts := fun (w : Cond) (h : w ∈ gw) => atoms_spec (ws := wsM_first) B.pre w (List.mem_cons_of_mem _ h)
  have hown : s.vm.findClass RM = some m.cls := findClass_of_methodNamed B.named
  have hlocks := B.notSynchronized
  have hS : va_S (fun _ => False) s.heap s.heap [] := va_S.rf
  have hl := lv_entry ([.int a1]) (n := 1) (Nat.le_of_ble_eq_true rfl)
  rw [lg_entry_eq]
  generalize (lg_sl ([.int a1]) ++ List.replicate (1 - (lg_sl ([.int a1])).length) Slot.unset).toArray = ls at hl ⊢
  have hl : lv_has ls 1 [(0, .int a1)] := hl
  refine lv_iload_n hx hb dM_first_0 rfl (lv_at hl 0 rfl) ?_
  refine lv_bipush (v := (8 : Int32)) hx hb dM_first_1 (by decide) ?_
  refine lv_icmp_ge (tgt := 10) hx hb dM_first_3 (by decide) (fun c_1 => ?_) (fun c_1 => ?_)
  · refine lv_iload_n hx hb dM_first_10 rfl (lv_at hl 0 rfl) ?_
    refine lv_bipush (v := (8 : Int32)) hx hb dM_first_11 (by decide) ?_
    refine lv_idiv hx hb dM_first_13 (by decide) ?_
    exact W.iret (v := (a1 / (8 : Int32))) hx hb hr (fun tt ht hW => ⟨⟨(a1 / (8 : Int32)), (), rfl, (by unfold f_M_first; rw [if_pos c_1]), trivial⟩, hS.F ht⟩) hS.2.2 dM_first_14
  · refine lv_iconst (v := (1 : Int32)) hx hb dM_first_6 (by decide) ?_
    refine lv_goto (tgt := 14) hx hb dM_first_7 (by decide) ?_
    exact W.iret (v := (1 : Int32)) hx hb hr (fun tt ht hW => ⟨⟨(1 : Int32), (), rfl, (by unfold f_M_first; rw [if_neg c_1]), trivial⟩, hS.F ht⟩) hS.2.2 dM_first_14

set_option maxHeartbeats 4000000 in
set_option maxRecDepth 100000 in
theorem c_M_may (l : Launch) (h0 : Nat) (a1 a2 a3 : Int32) : Met l yM_may wsM_may ({ frames := 1, cells := 0, slots := 0, locals := 20 }) (va_Pc [.ref h0, .int a1, .int a2, .int a3] (fun _ => True)) (va_Qi (fun (r : Int32) (_ : Unit) => r = f_M_may a1 a2 a3) (fun _ _ => True) (fun _ => False)) 0 0 (fun _ => False) := by
  refine Met.ofW (cc := prog_3_method_10_code) (maxL := 4) (ret := (some .boolean)) (by decide) rfl ?_
  intro p e s m args below meth c s₁ B hml hv
  obtain ⟨rfl, -⟩ := hv
  have hx := B.exec
  have hb := B.bytes
  have hr := B.returns
  have hts := fun (w : Cond) (h : w ∈ gw) => atoms_spec (ws := wsM_may) B.pre w (List.mem_cons_of_mem _ h)
  have hown : s.vm.findClass RM = some m.cls := findClass_of_methodNamed B.named
  have hlocks := B.notSynchronized
  have hS : va_S (fun _ => False) s.heap s.heap [] := va_S.rf
  have hl := lv_entry ([.ref h0, .int a1, .int a2, .int a3]) (n := 4) (Nat.le_of_ble_eq_true rfl)
  rw [lg_entry_eq]
  generalize (lg_sl ([.ref h0, .int a1, .int a2, .int a3]) ++ List.replicate (4 - (lg_sl ([.ref h0, .int a1, .int a2, .int a3])).length) Slot.unset).toArray = ls at hl ⊢
  have hl : lv_has ls 4 [(0, .ref h0), (1, .int a1), (2, .int a2), (3, .int a3)] := hl
  refine lv_iload_n hx hb dM_may_0 rfl (lv_at hl 1 rfl) ?_
  refine kk_call0 (va_runS (As := [.int a1]) (rest := []) ⟨hx, hb, hml, hown, hts⟩ (c_M_isRegister l a1) (va_cwS 1 hts (gS tw_233 tw_234 tw_2 tw_235) rfl rfl rfl (by decide +kernel) ⟨Nat.le_of_ble_eq_true rfl, Nat.le_of_ble_eq_true rfl⟩) ⟨fun _ _ _ _ q => q, fun _ _ _ => ⟨rfl, trivial⟩⟩ rfl rfl hl.1 rfl (lv_room (Nat.le_of_ble_eq_true rfl)) dM_may_1 ⟨Nat.le_of_ble_eq_true rfl, Nat.le_of_ble_eq_true rfl⟩) hS (fun H locs hS => ?_)
  refine lv_if_eq (tgt := 25) hx hb dM_may_4 (by decide) (fun c_1 => ?_) (fun c_1 => ?_)
  · refine lv_iconst (v := (0 : Int32)) hx hb dM_may_25 (by decide) ?_
    exact W.zret (v := (0 : Int32)) hx hb hr (by decide) (fun tt ht hW => ⟨⟨(0 : Int32), (), rfl, (by unfold f_M_may; rw [if_pos c_1]), trivial⟩, hS.F ht⟩) hS.2.2 dM_may_26
  · refine lv_iload_n hx hb dM_may_7 rfl (lv_at hl 2 rfl) ?_
    refine kk_call0 (va_runS (As := [.int a2]) (rest := []) ⟨hx, hb, hml, hown, hts⟩ (c_M_isRegister l a2) (va_cwS 1 hts (gS tw_233 tw_234 tw_2 tw_235) rfl rfl rfl (by decide +kernel) ⟨Nat.le_of_ble_eq_true rfl, Nat.le_of_ble_eq_true rfl⟩) ⟨fun _ _ _ _ q => q, fun _ _ _ => ⟨rfl, trivial⟩⟩ rfl rfl hl.1 rfl (lv_room (Nat.le_of_ble_eq_true rfl)) dM_may_8 ⟨Nat.le_of_ble_eq_true rfl, Nat.le_of_ble_eq_true rfl⟩) hS (fun H locs hS => ?_)
    refine lv_if_eq (tgt := 25) hx hb dM_may_11 (by decide) (fun c_2 => ?_) (fun c_2 => ?_)
    · refine lv_iconst (v := (0 : Int32)) hx hb dM_may_25 (by decide) ?_
      exact W.zret (v := (0 : Int32)) hx hb hr (by decide) (fun tt ht hW => ⟨⟨(0 : Int32), (), rfl, (by unfold f_M_may; rw [if_neg c_1, if_pos c_2]), trivial⟩, hS.F ht⟩) hS.2.2 dM_may_26
    · refine lv_iload_n hx hb dM_may_14 rfl (lv_at hl 3 rfl) ?_
      refine kk_call0 (va_runS (As := [.int a3]) (rest := []) ⟨hx, hb, hml, hown, hts⟩ (c_M_is l a3) (va_cwS 1 hts (gS tw_259 tw_260 tw_2 tw_261) rfl rfl rfl (by decide +kernel) ⟨Nat.le_of_ble_eq_true rfl, Nat.le_of_ble_eq_true rfl⟩) ⟨fun _ _ _ _ q => q, fun _ _ _ => ⟨rfl, trivial⟩⟩ rfl rfl hl.1 rfl (lv_room (Nat.le_of_ble_eq_true rfl)) dM_may_15 ⟨Nat.le_of_ble_eq_true rfl, Nat.le_of_ble_eq_true rfl⟩) hS (fun H locs hS => ?_)
      refine lv_if_eq (tgt := 25) hx hb dM_may_18 (by decide) (fun c_3 => ?_) (fun c_3 => ?_)
      · refine lv_iconst (v := (0 : Int32)) hx hb dM_may_25 (by decide) ?_
        exact W.zret (v := (0 : Int32)) hx hb hr (by decide) (fun tt ht hW => ⟨⟨(0 : Int32), (), rfl, (by unfold f_M_may; rw [if_neg c_1, if_neg c_2, if_pos c_3]), trivial⟩, hS.F ht⟩) hS.2.2 dM_may_26
      · refine lv_iconst (v := (1 : Int32)) hx hb dM_may_21 (by decide) ?_
        refine lv_goto (tgt := 26) hx hb dM_may_22 (by decide) ?_
        exact W.zret (v := (1 : Int32)) hx hb hr (by decide) (fun tt ht hW => ⟨⟨(1 : Int32), (), rfl, (by unfold f_M_may; rw [if_neg c_1, if_neg c_2, if_neg c_3]), trivial⟩, hS.F ht⟩) hS.2.2 dM_may_26

set_option maxHeartbeats 4000000 in
set_option maxRecDepth 100000 in
theorem c_M_isField (l : Launch) (h0 : Nat) (a1 : Int32) : Met l yM_isField wsM_isField ({ frames := 1, cells := 0, slots := 0, locals := 20 }) (va_Pc [.ref h0, .int a1] (fun _ => True)) (va_Qi (fun (r : Int32) (_ : Unit) => r = f_M_isField a1) (fun _ _ => True) (fun _ => False)) 0 0 (fun _ => False) := by
  refine Met.ofW (cc := prog_3_method_15_code) (maxL := 2) (ret := (some .boolean)) (by decide) rfl ?_
  intro p e s m args below meth c s₁ B hml hv
  obtain ⟨rfl, -⟩ := hv
  have hx := B.exec
  have hb := B.bytes
  have hr := B.returns
  have hts := fun (w : Cond) (h : w ∈ gw) => atoms_spec (ws := wsM_isField) B.pre w (List.mem_cons_of_mem _ h)
  have hown : s.vm.findClass RM = some m.cls := findClass_of_methodNamed B.named
  have hlocks := B.notSynchronized
  have hS : va_S (fun _ => False) s.heap s.heap [] := va_S.rf
  have hl := lv_entry ([.ref h0, .int a1]) (n := 2) (Nat.le_of_ble_eq_true rfl)
  rw [lg_entry_eq]
  generalize (lg_sl ([.ref h0, .int a1]) ++ List.replicate (2 - (lg_sl ([.ref h0, .int a1])).length) Slot.unset).toArray = ls at hl ⊢
  have hl : lv_has ls 2 [(0, .ref h0), (1, .int a1)] := hl
  refine lv_iload_n hx hb dM_isField_0 rfl (lv_at hl 1 rfl) ?_
  refine kk_call0 (va_runS (As := [.int a1]) (rest := []) ⟨hx, hb, hml, hown, hts⟩ (c_M_is l a1) (va_cwS 1 hts (gS tw_259 tw_260 tw_2 tw_261) rfl rfl rfl (by decide +kernel) ⟨Nat.le_of_ble_eq_true rfl, Nat.le_of_ble_eq_true rfl⟩) ⟨fun _ _ _ _ q => q, fun _ _ _ => ⟨rfl, trivial⟩⟩ rfl rfl hl.1 rfl (lv_room (Nat.le_of_ble_eq_true rfl)) dM_isField_1 ⟨Nat.le_of_ble_eq_true rfl, Nat.le_of_ble_eq_true rfl⟩) hS (fun H locs hS => ?_)
  exact W.zret (v := (f_M_is a1)) hx hb hr (nar_is _) (fun tt ht hW => ⟨⟨(f_M_is a1), (), rfl, (by rfl), trivial⟩, hS.F ht⟩) hS.2.2 dM_isField_4
end
section
set_option maxHeartbeats 4000000 in
set_option maxRecDepth 100000 in
theorem c_M_number (l : Launch) (dC : Nat → ClassId) (dI : Nat → Nat → Nat) (h0 q1 q2 q3 q4 : Nat) (k1 k2 k3 k4 : ClassId) (g b t w : Nat → Int32) (a1 a2 a3 : Int32) (h1 : ¬ f_M_isRegister a1 = 0) (h2 : ¬ a2 < 1) (h3 : ¬ (5 : Int32) < a3) : Met l yM_number wsM_number ({ frames := 0, cells := 0, slots := 0, locals := 0 }) (va_Pc [.ref h0, .int a1, .int a2, .int a3] (fun U => va_P (dC, dI) vwCl (wsM h0 q1 q2 q3 q4 k1 k2 k3 k4 g b t w) U.heap ∧ va_K (dC, dI) vwCl [(k1, .boolean), (k2, .int), (k3, .int), (k4, .int)] U)) (va_Qi (fun (r : Int32) (_ : Unit) => r = f_M_number g b t w a1 a2 a3) (fun _ _ => True) (fun _ => False)) 0 0 (fun _ => False) := by
  refine Met.ofW (cc := prog_3_method_7_code) (maxL := 6) (ret := (some .int)) (by decide) rfl ?_
  intro p e s m args below meth c s₁ B hml hv
  obtain ⟨rfl, hP, hK⟩ := hv
  have hx := B.exec
  have hb := B.bytes
  have hr := B.returns
  have hts := fun (w : Cond) (h : w ∈ gw) => atoms_spec (ws := wsM_number) B.pre w (List.mem_cons_of_mem _ h)
  have hown : s.vm.findClass RM = some m.cls := findClass_of_methodNamed B.named
  have hlocks := B.notSynchronized
  have hS : va_S (fun _ => False) s.heap s.heap [] := va_S.rf
  have hl := lv_entry ([.ref h0, .int a1, .int a2, .int a3]) (n := 6) (Nat.le_of_ble_eq_true rfl)
  rw [lg_entry_eq]
  generalize (lg_sl ([.ref h0, .int a1, .int a2, .int a3]) ++ List.replicate (6 - (lg_sl ([.ref h0, .int a1, .int a2, .int a3])).length) Slot.unset).toArray = ls at hl ⊢
  have hl : lv_has ls 6 [(0, .ref h0), (1, .int a1), (2, .int a2), (3, .int a3)] := hl
  refine lv_iconst (v := (0 : Int32)) hx hb dM_number_0 (by decide) ?_
  refine lv_istore (lv' := [(4, .int (0 : Int32)), (0, .ref h0), (1, .int a1), (2, .int a2), (3, .int a3)]) hx hb dM_number_1 hl (by decide) rfl (fun ls hl => ?_)
  refine lv_iload_n hx hb dM_number_3 rfl (lv_at hl 3 rfl) ?_
  refine lv_istore (lv' := [(5, .int a2), (4, .int (0 : Int32)), (0, .ref h0), (1, .int a1), (2, .int a2), (3, .int a3)]) hx hb dM_number_4 hl (by decide) rfl (fun ls hl => ?_)
  refine lv_iload hx hb dM_number_6 (lv_at hl 0 rfl) ?_
  refine lv_iload_n hx hb dM_number_8 rfl (lv_at hl 5 rfl) ?_
  refine lv_icmp_gt (tgt := 38) hx hb dM_number_9 (by decide) (fun c_1 => ?_) (fun c_1 => ?_)
  · refine lv_iload hx hb dM_number_38 (lv_at hl 1 rfl) ?_
    exact W.iret (v := (0 : Int32)) hx hb hr (fun tt ht hW => ⟨⟨(0 : Int32), (), rfl, (by unfold f_M_number; rw [if_pos c_1]), trivial⟩, hS.F ht⟩) hS.2.2 dM_number_40
  · refine lv_bipush (v := (64 : Int32)) hx hb dM_number_12 (by decide) ?_
    refine lv_iload hx hb dM_number_14 (lv_at hl 1 rfl) ?_
    refine lv_imul hx hb dM_number_16 ?_
    refine lv_aload_n hx hb dM_number_17 rfl (lv_at hl 2 rfl) ?_
    refine va_get (D := (dC, dI)) (ci := 1) (v := .ref q2) (C := RM) (T := TM) (N := 4) hx hb hts iM hown hK hP 0 rfl rfl 1 (by decide) (hts _ tw_215) (fun _ h9 => h9) rfl dM_number_18 ?_
    refine lv_bipush (v := (6 : Int32)) hx hb dM_number_21 (by decide) ?_
    refine lv_iload_n hx hb dM_number_23 rfl (lv_at hl 3 rfl) ?_
    refine lv_imul hx hb dM_number_24 ?_
    refine lv_iload hx hb dM_number_25 (lv_at hl 0 rfl) ?_
    refine lv_iadd hx hb dM_number_27 ?_
    refine va_iald hx hb hK hP 2 1 rfl rfl (in_96 h1 (n_in (n_1 h2) c_1 h3)) dM_number_28 ?_
    refine lv_iadd hx hb dM_number_29 ?_
    refine lv_topi (fun x_2 ex_2 => ?_)
    refine lv_istore (lv' := [(4, .int x_2), (5, .int a2), (0, .ref h0), (1, .int a1), (2, .int a2), (3, .int a3)]) hx hb dM_number_30 hl (by decide) rfl (fun ls hl => ?_)
    obtain ⟨x_3, ex_3⟩ : ∃ y : Int32, y = (a2 + (1 : Int32)) := ⟨_, rfl⟩
    refine lv_iinc (v := x_3) (lv' := [(5, .int x_3), (4, .int x_2), (0, .ref h0), (1, .int a1), (2, .int a2), (3, .int a3)]) hx hb dM_number_32 hl (k := 1) rfl (by rw [ex_3]; rfl) (by decide) rfl (fun ls hl => ?_)
    refine lv_goto (tgt := 6) hx hb dM_number_35 (by decide) ?_
    refine lv_iload hx hb dM_number_6 (lv_at hl 0 rfl) ?_
    refine lv_iload_n hx hb dM_number_8 rfl (lv_at hl 5 rfl) ?_
    refine lv_icmp_gt (tgt := 38) hx hb dM_number_9 (by decide) (fun c_4 => ?_) (fun c_4 => ?_)
    · refine lv_iload hx hb dM_number_38 (lv_at hl 1 rfl) ?_
      exact W.iret (v := x_2) hx hb hr (fun tt ht hW => ⟨⟨x_2, (), rfl, (by subst ex_2; subst ex_3; unfold f_M_number; rw [if_neg c_1, if_pos c_4]), trivial⟩, hS.F ht⟩) hS.2.2 dM_number_40
    · refine lv_bipush (v := (64 : Int32)) hx hb dM_number_12 (by decide) ?_
      refine lv_iload hx hb dM_number_14 (lv_at hl 1 rfl) ?_
      refine lv_imul hx hb dM_number_16 ?_
      refine lv_aload_n hx hb dM_number_17 rfl (lv_at hl 2 rfl) ?_
      refine va_get (D := (dC, dI)) (ci := 1) (v := .ref q2) (C := RM) (T := TM) (N := 4) hx hb hts iM hown hK hP 0 rfl rfl 1 (by decide) (hts _ tw_215) (fun _ h9 => h9) rfl dM_number_18 ?_
      refine lv_bipush (v := (6 : Int32)) hx hb dM_number_21 (by decide) ?_
      refine lv_iload_n hx hb dM_number_23 rfl (lv_at hl 3 rfl) ?_
      refine lv_imul hx hb dM_number_24 ?_
      refine lv_iload hx hb dM_number_25 (lv_at hl 0 rfl) ?_
      refine lv_iadd hx hb dM_number_27 ?_
      refine va_iald hx hb hK hP 2 1 rfl rfl (in_96 h1 (n_in (n_s (n_1 h2) c_1 h3 ex_3) c_4 h3)) dM_number_28 ?_
      refine lv_iadd hx hb dM_number_29 ?_
      refine lv_topi (fun x_5 ex_5 => ?_)
      refine lv_istore (lv' := [(4, .int x_5), (5, .int x_3), (0, .ref h0), (1, .int a1), (2, .int a2), (3, .int a3)]) hx hb dM_number_30 hl (by decide) rfl (fun ls hl => ?_)
      obtain ⟨x_6, ex_6⟩ : ∃ y : Int32, y = (x_3 + (1 : Int32)) := ⟨_, rfl⟩
      refine lv_iinc (v := x_6) (lv' := [(5, .int x_6), (4, .int x_5), (0, .ref h0), (1, .int a1), (2, .int a2), (3, .int a3)]) hx hb dM_number_32 hl (k := 1) rfl (by rw [ex_6]; rfl) (by decide) rfl (fun ls hl => ?_)
      refine lv_goto (tgt := 6) hx hb dM_number_35 (by decide) ?_
      refine lv_iload hx hb dM_number_6 (lv_at hl 0 rfl) ?_
      refine lv_iload_n hx hb dM_number_8 rfl (lv_at hl 5 rfl) ?_
      refine lv_icmp_gt (tgt := 38) hx hb dM_number_9 (by decide) (fun c_7 => ?_) (fun c_7 => ?_)
      · refine lv_iload hx hb dM_number_38 (lv_at hl 1 rfl) ?_
        exact W.iret (v := x_5) hx hb hr (fun tt ht hW => ⟨⟨x_5, (), rfl, (by subst ex_2; subst ex_3; subst ex_5; subst ex_6; unfold f_M_number; rw [if_neg c_1, if_neg c_4, if_pos c_7]), trivial⟩, hS.F ht⟩) hS.2.2 dM_number_40
      · refine lv_bipush (v := (64 : Int32)) hx hb dM_number_12 (by decide) ?_
        refine lv_iload hx hb dM_number_14 (lv_at hl 1 rfl) ?_
        refine lv_imul hx hb dM_number_16 ?_
        refine lv_aload_n hx hb dM_number_17 rfl (lv_at hl 2 rfl) ?_
        refine va_get (D := (dC, dI)) (ci := 1) (v := .ref q2) (C := RM) (T := TM) (N := 4) hx hb hts iM hown hK hP 0 rfl rfl 1 (by decide) (hts _ tw_215) (fun _ h9 => h9) rfl dM_number_18 ?_
        refine lv_bipush (v := (6 : Int32)) hx hb dM_number_21 (by decide) ?_
        refine lv_iload_n hx hb dM_number_23 rfl (lv_at hl 3 rfl) ?_
        refine lv_imul hx hb dM_number_24 ?_
        refine lv_iload hx hb dM_number_25 (lv_at hl 0 rfl) ?_
        refine lv_iadd hx hb dM_number_27 ?_
        refine va_iald hx hb hK hP 2 1 rfl rfl (in_96 h1 (n_in (n_s (n_s (n_1 h2) c_1 h3 ex_3) c_4 h3 ex_6) c_7 h3)) dM_number_28 ?_
        refine lv_iadd hx hb dM_number_29 ?_
        refine lv_topi (fun x_8 ex_8 => ?_)
        refine lv_istore (lv' := [(4, .int x_8), (5, .int x_6), (0, .ref h0), (1, .int a1), (2, .int a2), (3, .int a3)]) hx hb dM_number_30 hl (by decide) rfl (fun ls hl => ?_)
        obtain ⟨x_9, ex_9⟩ : ∃ y : Int32, y = (x_6 + (1 : Int32)) := ⟨_, rfl⟩
        refine lv_iinc (v := x_9) (lv' := [(5, .int x_9), (4, .int x_8), (0, .ref h0), (1, .int a1), (2, .int a2), (3, .int a3)]) hx hb dM_number_32 hl (k := 1) rfl (by rw [ex_9]; rfl) (by decide) rfl (fun ls hl => ?_)
        refine lv_goto (tgt := 6) hx hb dM_number_35 (by decide) ?_
        refine lv_iload hx hb dM_number_6 (lv_at hl 0 rfl) ?_
        refine lv_iload_n hx hb dM_number_8 rfl (lv_at hl 5 rfl) ?_
        refine lv_icmp_gt (tgt := 38) hx hb dM_number_9 (by decide) (fun c_10 => ?_) (fun c_10 => ?_)
        · refine lv_iload hx hb dM_number_38 (lv_at hl 1 rfl) ?_
          exact W.iret (v := x_8) hx hb hr (fun tt ht hW => ⟨⟨x_8, (), rfl, (by subst ex_2; subst ex_3; subst ex_5; subst ex_6; subst ex_8; subst ex_9; unfold f_M_number; rw [if_neg c_1, if_neg c_4, if_neg c_7, if_pos c_10]), trivial⟩, hS.F ht⟩) hS.2.2 dM_number_40
        · refine lv_bipush (v := (64 : Int32)) hx hb dM_number_12 (by decide) ?_
          refine lv_iload hx hb dM_number_14 (lv_at hl 1 rfl) ?_
          refine lv_imul hx hb dM_number_16 ?_
          refine lv_aload_n hx hb dM_number_17 rfl (lv_at hl 2 rfl) ?_
          refine va_get (D := (dC, dI)) (ci := 1) (v := .ref q2) (C := RM) (T := TM) (N := 4) hx hb hts iM hown hK hP 0 rfl rfl 1 (by decide) (hts _ tw_215) (fun _ h9 => h9) rfl dM_number_18 ?_
          refine lv_bipush (v := (6 : Int32)) hx hb dM_number_21 (by decide) ?_
          refine lv_iload_n hx hb dM_number_23 rfl (lv_at hl 3 rfl) ?_
          refine lv_imul hx hb dM_number_24 ?_
          refine lv_iload hx hb dM_number_25 (lv_at hl 0 rfl) ?_
          refine lv_iadd hx hb dM_number_27 ?_
          refine va_iald hx hb hK hP 2 1 rfl rfl (in_96 h1 (n_in (n_s (n_s (n_s (n_1 h2) c_1 h3 ex_3) c_4 h3 ex_6) c_7 h3 ex_9) c_10 h3)) dM_number_28 ?_
          refine lv_iadd hx hb dM_number_29 ?_
          refine lv_topi (fun x_11 ex_11 => ?_)
          refine lv_istore (lv' := [(4, .int x_11), (5, .int x_9), (0, .ref h0), (1, .int a1), (2, .int a2), (3, .int a3)]) hx hb dM_number_30 hl (by decide) rfl (fun ls hl => ?_)
          obtain ⟨x_12, ex_12⟩ : ∃ y : Int32, y = (x_9 + (1 : Int32)) := ⟨_, rfl⟩
          refine lv_iinc (v := x_12) (lv' := [(5, .int x_12), (4, .int x_11), (0, .ref h0), (1, .int a1), (2, .int a2), (3, .int a3)]) hx hb dM_number_32 hl (k := 1) rfl (by rw [ex_12]; rfl) (by decide) rfl (fun ls hl => ?_)
          refine lv_goto (tgt := 6) hx hb dM_number_35 (by decide) ?_
          refine lv_iload hx hb dM_number_6 (lv_at hl 0 rfl) ?_
          refine lv_iload_n hx hb dM_number_8 rfl (lv_at hl 5 rfl) ?_
          refine lv_icmp_gt (tgt := 38) hx hb dM_number_9 (by decide) (fun c_13 => ?_) (fun c_13 => ?_)
          · refine lv_iload hx hb dM_number_38 (lv_at hl 1 rfl) ?_
            exact W.iret (v := x_11) hx hb hr (fun tt ht hW => ⟨⟨x_11, (), rfl, (by subst ex_2; subst ex_3; subst ex_5; subst ex_6; subst ex_8; subst ex_9; subst ex_11; subst ex_12; unfold f_M_number; rw [if_neg c_1, if_neg c_4, if_neg c_7, if_neg c_10, if_pos c_13]), trivial⟩, hS.F ht⟩) hS.2.2 dM_number_40
          · refine lv_bipush (v := (64 : Int32)) hx hb dM_number_12 (by decide) ?_
            refine lv_iload hx hb dM_number_14 (lv_at hl 1 rfl) ?_
            refine lv_imul hx hb dM_number_16 ?_
            refine lv_aload_n hx hb dM_number_17 rfl (lv_at hl 2 rfl) ?_
            refine va_get (D := (dC, dI)) (ci := 1) (v := .ref q2) (C := RM) (T := TM) (N := 4) hx hb hts iM hown hK hP 0 rfl rfl 1 (by decide) (hts _ tw_215) (fun _ h9 => h9) rfl dM_number_18 ?_
            refine lv_bipush (v := (6 : Int32)) hx hb dM_number_21 (by decide) ?_
            refine lv_iload_n hx hb dM_number_23 rfl (lv_at hl 3 rfl) ?_
            refine lv_imul hx hb dM_number_24 ?_
            refine lv_iload hx hb dM_number_25 (lv_at hl 0 rfl) ?_
            refine lv_iadd hx hb dM_number_27 ?_
            refine va_iald hx hb hK hP 2 1 rfl rfl (in_96 h1 (n_in (n_s (n_s (n_s (n_s (n_1 h2) c_1 h3 ex_3) c_4 h3 ex_6) c_7 h3 ex_9) c_10 h3 ex_12) c_13 h3)) dM_number_28 ?_
            refine lv_iadd hx hb dM_number_29 ?_
            refine lv_topi (fun x_14 ex_14 => ?_)
            refine lv_istore (lv' := [(4, .int x_14), (5, .int x_12), (0, .ref h0), (1, .int a1), (2, .int a2), (3, .int a3)]) hx hb dM_number_30 hl (by decide) rfl (fun ls hl => ?_)
            obtain ⟨x_15, ex_15⟩ : ∃ y : Int32, y = (x_12 + (1 : Int32)) := ⟨_, rfl⟩
            refine lv_iinc (v := x_15) (lv' := [(5, .int x_15), (4, .int x_14), (0, .ref h0), (1, .int a1), (2, .int a2), (3, .int a3)]) hx hb dM_number_32 hl (k := 1) rfl (by rw [ex_15]; rfl) (by decide) rfl (fun ls hl => ?_)
            refine lv_goto (tgt := 6) hx hb dM_number_35 (by decide) ?_
            refine lv_iload hx hb dM_number_6 (lv_at hl 0 rfl) ?_
            refine lv_iload_n hx hb dM_number_8 rfl (lv_at hl 5 rfl) ?_
            refine lv_icmp_gt (tgt := 38) hx hb dM_number_9 (by decide) (fun _ => ?_) (fun c0 => absurd (n_e (n_s (n_s (n_s (n_s (n_s (n_1 h2) c_1 h3 ex_3) c_4 h3 ex_6) c_7 h3 ex_9) c_10 h3 ex_12) c_13 h3 ex_15) h3) c0)
            refine lv_iload hx hb dM_number_38 (lv_at hl 1 rfl) ?_
            exact W.iret (v := x_14) hx hb hr (fun tt ht hW => ⟨⟨x_14, (), rfl, (by subst ex_2; subst ex_3; subst ex_5; subst ex_6; subst ex_8; subst ex_9; subst ex_11; subst ex_12; subst ex_14; subst ex_15; unfold f_M_number; rw [if_neg c_1, if_neg c_4, if_neg c_7, if_neg c_10, if_neg c_13]), trivial⟩, hS.F ht⟩) hS.2.2 dM_number_40

set_option maxHeartbeats 4000000 in
set_option maxRecDepth 100000 in
theorem c_M_value (l : Launch) (dC : Nat → ClassId) (dI : Nat → Nat → Nat) (h0 q1 q2 q3 q4 : Nat) (k1 k2 k3 k4 : ClassId) (g b t w : Nat → Int32) (a1 : Int32) : Met l yM_value wsM_value ({ frames := 1, cells := 0, slots := 0, locals := 25 }) (va_Pc [.ref h0, .int a1] (fun U => va_P (dC, dI) vwCl (wsM h0 q1 q2 q3 q4 k1 k2 k3 k4 g b t w) U.heap ∧ va_K (dC, dI) vwCl [(k1, .boolean), (k2, .int), (k3, .int), (k4, .int)] U)) (va_Qi (fun (r : Int32) (_ : Unit) => r = f_M_value g b t w a1) (fun _ _ => True) (fun _ => False)) 0 0 (fun _ => False) := by
  refine Met.ofW (cc := prog_3_method_8_code) (maxL := 3) (ret := (some .int)) (by decide) rfl ?_
  intro p e s m args below meth c s₁ B hml hv
  obtain ⟨rfl, hP, hK⟩ := hv
  have hx := B.exec
  have hb := B.bytes
  have hr := B.returns
  have hts := fun (w : Cond) (h : w ∈ gw) => atoms_spec (ws := wsM_value) B.pre w (List.mem_cons_of_mem _ h)
  have hown : s.vm.findClass RM = some m.cls := findClass_of_methodNamed B.named
  have hlocks := B.notSynchronized
  have hS : va_S (fun _ => False) s.heap s.heap [] := va_S.rf
  have hl := lv_entry ([.ref h0, .int a1]) (n := 3) (Nat.le_of_ble_eq_true rfl)
  rw [lg_entry_eq]
  generalize (lg_sl ([.ref h0, .int a1]) ++ List.replicate (3 - (lg_sl ([.ref h0, .int a1])).length) Slot.unset).toArray = ls at hl ⊢
  have hl : lv_has ls 3 [(0, .ref h0), (1, .int a1)] := hl
  refine lv_iload_n hx hb dM_value_0 rfl (lv_at hl 1 rfl) ?_
  refine kk_callP (va_runS (As := [.int a1]) (rest := []) ⟨hx, hb, hml, hown, hts⟩ (c_M_isRegister l a1) (va_cwS 1 hts (gS tw_233 tw_234 tw_2 tw_235) rfl rfl rfl (by decide +kernel) ⟨Nat.le_of_ble_eq_true rfl, Nat.le_of_ble_eq_true rfl⟩) ⟨fun _ _ _ _ q => q, fun _ _ _ => ⟨rfl, trivial⟩⟩ rfl rfl hl.1 rfl (lv_room (Nat.le_of_ble_eq_true rfl)) dM_value_1 ⟨Nat.le_of_ble_eq_true rfl, Nat.le_of_ble_eq_true rfl⟩) hS hP (fun H locs hS hP => ?_)
  refine lv_if_ne (tgt := 10) hx hb dM_value_4 (by decide) (fun c_1 => ?_) (fun c_1 => ?_)
  · refine lv_aload_n hx hb dM_value_10 rfl (lv_at hl 0 rfl) ?_
    refine lv_iload_n hx hb dM_value_11 rfl (lv_at hl 1 rfl) ?_
    refine lv_iconst (v := (1 : Int32)) hx hb dM_value_12 (by decide) ?_
    refine lv_iconst (v := (5 : Int32)) hx hb dM_value_13 (by decide) ?_
    refine kk_callP (va_runV (As := [.int a1, .int (1 : Int32), .int (5 : Int32)]) (rest := []) ⟨hx, hb, hml, hown, hts⟩ (c_M_number l dC dI h0 q1 q2 q3 q4 k1 k2 k3 k4 g b t w a1 (1 : Int32) (5 : Int32) c_1 (by decide) (by decide)) (cwV 3 hts (gV tw_242 tw_244 tw_p0 tw_2 tw_245) rfl rfl rfl (by decide +kernel) ⟨Nat.le_of_ble_eq_true rfl, Nat.le_of_ble_eq_true rfl⟩) ⟨fun a U g mk q => ⟨q.1, q.2.1, va_K.moved (u := U) (U := U.calling g mk a) (Vm.Alike.refl U.vm) q.2.2⟩, va_recv hK hP (ci := 1) (q0 := 0) rfl rfl, fun U hU hW => ⟨rfl, by rw [hU]; exact hP, va_K.moved hW.alike hK⟩⟩ rfl rfl hl.1 rfl (lv_room (Nat.le_of_ble_eq_true rfl)) dM_value_14 ⟨Nat.le_of_ble_eq_true rfl, Nat.le_of_ble_eq_true rfl⟩) hS hP (fun H locs hS hP => ?_)
    refine lv_topi (fun x_2 ex_2 => ?_)
    refine lv_istore_n (lv' := [(2, .int x_2), (0, .ref h0), (1, .int a1)]) hx hb dM_value_17 rfl hl (by decide) rfl (fun ls hl => ?_)
    refine lv_aload_n hx hb dM_value_18 rfl (lv_at hl 1 rfl) ?_
    refine va_get (D := (dC, dI)) (ci := 1) (v := .ref q1) (C := RM) (T := TM) (N := 4) hx hb hts iM hown hK hP 0 rfl rfl 0 (by decide) (hts _ tw_214) (fun _ h9 => h9) rfl dM_value_19 ?_
    refine lv_iload_n hx hb dM_value_22 rfl (lv_at hl 2 rfl) ?_
    refine va_zald hx hb hK hP 1 0 rfl rfl (in_M c_1) dM_value_23 ?_
    refine lv_if_ne (tgt := 31) hx hb dM_value_24 (by decide) (fun c_3 => ?_) (fun c_3 => ?_)
    · refine lv_iload_n hx hb dM_value_31 rfl (lv_at hl 0 rfl) ?_
      refine lv_if_ne (tgt := 40) hx hb dM_value_32 (by decide) (fun c_4 => ?_) (fun c_4 => ?_)
      · refine lv_iload_n hx hb dM_value_40 rfl (lv_at hl 0 rfl) ?_
        refine lv_ineg hx hb dM_value_41 ?_
        exact W.iret (v := (-x_2)) hx hb hr (fun tt ht hW => ⟨⟨(-x_2), (), rfl, (by subst ex_2; unfold f_M_value; rw [if_neg c_1, if_neg c_3, if_neg c_4]), trivial⟩, hS.F ht⟩) hS.2.2 dM_value_42
      · refine lv_ldc (v := (-2147483648 : Int32)) hx hb hown (hts _ tw_246) dM_value_35 ?_
        refine lv_goto (tgt := 42) hx hb dM_value_37 (by decide) ?_
        exact W.iret (v := (-2147483648 : Int32)) hx hb hr (fun tt ht hW => ⟨⟨(-2147483648 : Int32), (), rfl, (by subst ex_2; unfold f_M_value; rw [if_neg c_1, if_neg c_3, if_pos c_4]), trivial⟩, hS.F ht⟩) hS.2.2 dM_value_42
    · refine lv_iload_n hx hb dM_value_27 rfl (lv_at hl 0 rfl) ?_
      refine lv_goto (tgt := 42) hx hb dM_value_28 (by decide) ?_
      exact W.iret (v := x_2) hx hb hr (fun tt ht hW => ⟨⟨x_2, (), rfl, (by subst ex_2; unfold f_M_value; rw [if_neg c_1, if_pos c_3]), trivial⟩, hS.F ht⟩) hS.2.2 dM_value_42
  · refine lv_ldc (v := (2147483647 : Int32)) hx hb hown (hts _ tw_241) dM_value_7 ?_
    exact W.iret (v := (2147483647 : Int32)) hx hb hr (fun tt ht hW => ⟨⟨(2147483647 : Int32), (), rfl, (by unfold f_M_value; rw [if_pos c_1]), trivial⟩, hS.F ht⟩) hS.2.2 dM_value_9

set_option maxHeartbeats 4000000 in
set_option maxRecDepth 100000 in
theorem c_M_byteOf (l : Launch) (dC : Nat → ClassId) (dI : Nat → Nat → Nat) (h0 q1 q2 q3 q4 : Nat) (k1 k2 k3 k4 : ClassId) (g b t w : Nat → Int32) (a1 a2 : Int32) : Met l yM_byteOf wsM_byteOf ({ frames := 1, cells := 0, slots := 0, locals := 20 }) (va_Pc [.ref h0, .int a1, .int a2] (fun U => va_P (dC, dI) vwCl (wsM h0 q1 q2 q3 q4 k1 k2 k3 k4 g b t w) U.heap ∧ va_K (dC, dI) vwCl [(k1, .boolean), (k2, .int), (k3, .int), (k4, .int)] U)) (va_Qi (fun (r : Int32) (_ : Unit) => r = f_M_byteOf g b t w a1 a2) (fun _ _ => True) (fun _ => False)) 0 0 (fun _ => False) := by
  refine Met.ofW (cc := prog_3_method_9_code) (maxL := 3) (ret := (some .int)) (by decide) rfl ?_
  intro p e s m args below meth c s₁ B hml hv
  obtain ⟨rfl, hP, hK⟩ := hv
  have hx := B.exec
  have hb := B.bytes
  have hr := B.returns
  have hts := fun (w : Cond) (h : w ∈ gw) => atoms_spec (ws := wsM_byteOf) B.pre w (List.mem_cons_of_mem _ h)
  have hown : s.vm.findClass RM = some m.cls := findClass_of_methodNamed B.named
  have hlocks := B.notSynchronized
  have hS : va_S (fun _ => False) s.heap s.heap [] := va_S.rf
  have hl := lv_entry ([.ref h0, .int a1, .int a2]) (n := 3) (Nat.le_of_ble_eq_true rfl)
  rw [lg_entry_eq]
  generalize (lg_sl ([.ref h0, .int a1, .int a2]) ++ List.replicate (3 - (lg_sl ([.ref h0, .int a1, .int a2])).length) Slot.unset).toArray = ls at hl ⊢
  have hl : lv_has ls 3 [(0, .ref h0), (1, .int a1), (2, .int a2)] := hl
  refine lv_iload_n hx hb dM_byteOf_0 rfl (lv_at hl 1 rfl) ?_
  refine kk_callP (va_runS (As := [.int a1]) (rest := []) ⟨hx, hb, hml, hown, hts⟩ (c_M_isRegister l a1) (va_cwS 1 hts (gS tw_233 tw_234 tw_2 tw_235) rfl rfl rfl (by decide +kernel) ⟨Nat.le_of_ble_eq_true rfl, Nat.le_of_ble_eq_true rfl⟩) ⟨fun _ _ _ _ q => q, fun _ _ _ => ⟨rfl, trivial⟩⟩ rfl rfl hl.1 rfl (lv_room (Nat.le_of_ble_eq_true rfl)) dM_byteOf_1 ⟨Nat.le_of_ble_eq_true rfl, Nat.le_of_ble_eq_true rfl⟩) hS hP (fun H locs hS hP => ?_)
  refine lv_if_eq (tgt := 16) hx hb dM_byteOf_4 (by decide) (fun c_1 => ?_) (fun c_1 => ?_)
  · refine lv_iconst (v := (-1 : Int32)) hx hb dM_byteOf_16 (by decide) ?_
    exact W.iret (v := (-1 : Int32)) hx hb hr (fun tt ht hW => ⟨⟨(-1 : Int32), (), rfl, (by unfold f_M_byteOf; rw [if_pos c_1]), trivial⟩, hS.F ht⟩) hS.2.2 dM_byteOf_17
  · refine lv_iload_n hx hb dM_byteOf_7 rfl (lv_at hl 2 rfl) ?_
    refine lv_if_lt (tgt := 16) hx hb dM_byteOf_8 (by decide) (fun c_2 => ?_) (fun c_2 => ?_)
    · refine lv_iconst (v := (-1 : Int32)) hx hb dM_byteOf_16 (by decide) ?_
      exact W.iret (v := (-1 : Int32)) hx hb hr (fun tt ht hW => ⟨⟨(-1 : Int32), (), rfl, (by unfold f_M_byteOf; rw [if_neg c_1, if_pos c_2]), trivial⟩, hS.F ht⟩) hS.2.2 dM_byteOf_17
    · refine lv_iload_n hx hb dM_byteOf_11 rfl (lv_at hl 2 rfl) ?_
      refine lv_iconst (v := (5 : Int32)) hx hb dM_byteOf_12 (by decide) ?_
      refine lv_icmp_le (tgt := 18) hx hb dM_byteOf_13 (by decide) (fun c_3 => ?_) (fun c_3 => ?_)
      · refine lv_iload_n hx hb dM_byteOf_18 rfl (lv_at hl 2 rfl) ?_
        refine lv_if_le (tgt := 36) hx hb dM_byteOf_19 (by decide) (fun c_4 => ?_) (fun c_4 => ?_)
        · refine lv_aload_n hx hb dM_byteOf_36 rfl (lv_at hl 0 rfl) ?_
          refine va_get (D := (dC, dI)) (ci := 1) (v := .ref q1) (C := RM) (T := TM) (N := 4) hx hb hts iM hown hK hP 0 rfl rfl 0 (by decide) (hts _ tw_214) (fun _ h9 => h9) rfl dM_byteOf_37 ?_
          refine lv_iload_n hx hb dM_byteOf_40 rfl (lv_at hl 1 rfl) ?_
          refine va_zald hx hb hK hP 1 0 rfl rfl (in_M c_1) dM_byteOf_41 ?_
          refine lv_if_eq (tgt := 49) hx hb dM_byteOf_42 (by decide) (fun c_5 => ?_) (fun c_5 => ?_)
          · refine lv_iconst (v := (0 : Int32)) hx hb dM_byteOf_49 (by decide) ?_
            exact W.iret (v := (0 : Int32)) hx hb hr (fun tt ht hW => ⟨⟨(0 : Int32), (), rfl, (by unfold f_M_byteOf; rw [if_neg c_1, if_neg c_2, if_pos c_3, if_pos c_4, if_pos c_5]), trivial⟩, hS.F ht⟩) hS.2.2 dM_byteOf_50
          · refine lv_iconst (v := (1 : Int32)) hx hb dM_byteOf_45 (by decide) ?_
            refine lv_goto (tgt := 50) hx hb dM_byteOf_46 (by decide) ?_
            exact W.iret (v := (1 : Int32)) hx hb hr (fun tt ht hW => ⟨⟨(1 : Int32), (), rfl, (by unfold f_M_byteOf; rw [if_neg c_1, if_neg c_2, if_pos c_3, if_pos c_4, if_neg c_5]), trivial⟩, hS.F ht⟩) hS.2.2 dM_byteOf_50
        · refine lv_aload_n hx hb dM_byteOf_22 rfl (lv_at hl 0 rfl) ?_
          refine va_get (D := (dC, dI)) (ci := 1) (v := .ref q2) (C := RM) (T := TM) (N := 4) hx hb hts iM hown hK hP 0 rfl rfl 1 (by decide) (hts _ tw_215) (fun _ h9 => h9) rfl dM_byteOf_23 ?_
          refine lv_bipush (v := (6 : Int32)) hx hb dM_byteOf_26 (by decide) ?_
          refine lv_iload_n hx hb dM_byteOf_28 rfl (lv_at hl 1 rfl) ?_
          refine lv_imul hx hb dM_byteOf_29 ?_
          refine lv_iload_n hx hb dM_byteOf_30 rfl (lv_at hl 2 rfl) ?_
          refine lv_iadd hx hb dM_byteOf_31 ?_
          refine va_iald hx hb hK hP 2 1 rfl rfl (in_96 c_1 (in_6 c_2 c_3)) dM_byteOf_32 ?_
          refine lv_goto (tgt := 50) hx hb dM_byteOf_33 (by decide) ?_
          exact W.iret (v := (b (((6 : Int32) * a1) + a2).toNatClampNeg)) hx hb hr (fun tt ht hW => ⟨⟨(b (((6 : Int32) * a1) + a2).toNatClampNeg), (), rfl, (by unfold f_M_byteOf; rw [if_neg c_1, if_neg c_2, if_pos c_3, if_neg c_4]), trivial⟩, hS.F ht⟩) hS.2.2 dM_byteOf_50
      · refine lv_iconst (v := (-1 : Int32)) hx hb dM_byteOf_16 (by decide) ?_
        exact W.iret (v := (-1 : Int32)) hx hb hr (fun tt ht hW => ⟨⟨(-1 : Int32), (), rfl, (by unfold f_M_byteOf; rw [if_neg c_1, if_neg c_2, if_neg c_3]), trivial⟩, hS.F ht⟩) hS.2.2 dM_byteOf_17

set_option maxHeartbeats 4000000 in
set_option maxRecDepth 100000 in
theorem c_M_compare (l : Launch) (dC : Nat → ClassId) (dI : Nat → Nat → Nat) (h0 q1 q2 q3 q4 : Nat) (k1 k2 k3 k4 : ClassId) (g b t w : Nat → Int32) (a1 a2 a3 : Int32) : Met l yM_compare wsM_compare ({ frames := 2, cells := 0, slots := 0, locals := 43 }) (va_Pc [.ref h0, .int a1, .int a2, .int a3] (fun U => va_P (dC, dI) vwCl (wsM h0 q1 q2 q3 q4 k1 k2 k3 k4 g b t w) U.heap ∧ va_K (dC, dI) vwCl [(k1, .boolean), (k2, .int), (k3, .int), (k4, .int)] U)) (va_Qi (fun (r : Int32) (_ : Unit) => r = f_M_compare g b t w a1 a2 a3) (fun _ _ => True) (fun _ => False)) 0 0 (fun _ => False) := by
  refine Met.ofW (cc := prog_3_method_14_code) (maxL := 6) (ret := (some .int)) (by decide) rfl ?_
  intro p e s m args below meth c s₁ B hml hv
  obtain ⟨rfl, hP, hK⟩ := hv
  have hx := B.exec
  have hb := B.bytes
  have hr := B.returns
  have hts := fun (w : Cond) (h : w ∈ gw) => atoms_spec (ws := wsM_compare) B.pre w (List.mem_cons_of_mem _ h)
  have hown : s.vm.findClass RM = some m.cls := findClass_of_methodNamed B.named
  have hlocks := B.notSynchronized
  have hS : va_S (fun _ => False) s.heap s.heap [] := va_S.rf
  have hl := lv_entry ([.ref h0, .int a1, .int a2, .int a3]) (n := 6) (Nat.le_of_ble_eq_true rfl)
  rw [lg_entry_eq]
  generalize (lg_sl ([.ref h0, .int a1, .int a2, .int a3]) ++ List.replicate (6 - (lg_sl ([.ref h0, .int a1, .int a2, .int a3])).length) Slot.unset).toArray = ls at hl ⊢
  have hl : lv_has ls 6 [(0, .ref h0), (1, .int a1), (2, .int a2), (3, .int a3)] := hl
  refine lv_aload_n hx hb dM_compare_0 rfl (lv_at hl 0 rfl) ?_
  refine lv_iload_n hx hb dM_compare_1 rfl (lv_at hl 1 rfl) ?_
  refine lv_iload_n hx hb dM_compare_2 rfl (lv_at hl 2 rfl) ?_
  refine lv_iload_n hx hb dM_compare_3 rfl (lv_at hl 3 rfl) ?_
  refine kk_callP (va_runV (As := [.int a1, .int a2, .int a3]) (rest := []) ⟨hx, hb, hml, hown, hts⟩ (c_M_may l h0 a1 a2 a3) (cwV 3 hts (gV tw_255 tw_257 tw_p1 tw_2 tw_258) rfl rfl rfl (by decide +kernel) ⟨Nat.le_of_ble_eq_true rfl, Nat.le_of_ble_eq_true rfl⟩) ⟨fun _ _ _ _ q => q, va_recv hK hP (ci := 1) (q0 := 0) rfl rfl, fun _ _ _ => ⟨rfl, trivial⟩⟩ rfl rfl hl.1 rfl (lv_room (Nat.le_of_ble_eq_true rfl)) dM_compare_4 ⟨Nat.le_of_ble_eq_true rfl, Nat.le_of_ble_eq_true rfl⟩) hS hP (fun H locs hS hP => ?_)
  refine lv_if_ne (tgt := 13) hx hb dM_compare_7 (by decide) (fun c_1 => ?_) (fun c_1 => ?_)
  · refine lv_aload_n hx hb dM_compare_13 rfl (lv_at hl 0 rfl) ?_
    refine lv_iload_n hx hb dM_compare_14 rfl (lv_at hl 1 rfl) ?_
    refine lv_iload_n hx hb dM_compare_15 rfl (lv_at hl 3 rfl) ?_
    refine kk_callP (va_runS (As := [.int a3]) (rest := [.int a1, .ref h0]) ⟨hx, hb, hml, hown, hts⟩ (c_M_first l a3) (va_cwS 1 hts (gS tw_262 tw_263 tw_2 tw_264) rfl rfl rfl (by decide +kernel) ⟨Nat.le_of_ble_eq_true rfl, Nat.le_of_ble_eq_true rfl⟩) ⟨fun _ _ _ _ q => q, fun _ _ _ => ⟨rfl, trivial⟩⟩ rfl rfl hl.1 rfl (lv_room (Nat.le_of_ble_eq_true rfl)) dM_compare_16 ⟨Nat.le_of_ble_eq_true rfl, Nat.le_of_ble_eq_true rfl⟩) hS hP (fun H locs hS hP => ?_)
    refine lv_iload_n hx hb dM_compare_19 rfl (lv_at hl 3 rfl) ?_
    refine lv_bipush (v := (8 : Int32)) hx hb dM_compare_20 (by decide) ?_
    refine lv_irem hx hb dM_compare_22 (by decide) ?_
    refine kk_callP (va_runV (As := [.int a1, .int (f_M_first a3), .int (a3 - a3 / (8 : Int32) * (8 : Int32))]) (rest := []) ⟨hx, hb, hml, hown, hts⟩ (c_M_number l dC dI h0 q1 q2 q3 q4 k1 k2 k3 k4 g b t w a1 (f_M_first a3) (a3 - a3 / (8 : Int32) * (8 : Int32)) (may_1 c_1) (may_f c_1) (may_l c_1)) (cwV 3 hts (gV tw_242 tw_244 tw_p0 tw_2 tw_245) rfl rfl rfl (by decide +kernel) ⟨Nat.le_of_ble_eq_true rfl, Nat.le_of_ble_eq_true rfl⟩) ⟨fun a U g mk q => ⟨q.1, q.2.1, va_K.moved (u := U) (U := U.calling g mk a) (Vm.Alike.refl U.vm) q.2.2⟩, va_recv hK hP (ci := 1) (q0 := 0) rfl rfl, fun U hU hW => ⟨rfl, by rw [hU]; exact hP, va_K.moved hW.alike hK⟩⟩ rfl rfl hl.1 rfl (lv_room (Nat.le_of_ble_eq_true rfl)) dM_compare_23 ⟨Nat.le_of_ble_eq_true rfl, Nat.le_of_ble_eq_true rfl⟩) hS hP (fun H locs hS hP => ?_)
    refine lv_topi (fun x_2 ex_2 => ?_)
    refine lv_istore (lv' := [(4, .int x_2), (0, .ref h0), (1, .int a1), (2, .int a2), (3, .int a3)]) hx hb dM_compare_26 hl (by decide) rfl (fun ls hl => ?_)
    refine lv_aload_n hx hb dM_compare_28 rfl (lv_at hl 1 rfl) ?_
    refine lv_iload_n hx hb dM_compare_29 rfl (lv_at hl 3 rfl) ?_
    refine lv_iload_n hx hb dM_compare_30 rfl (lv_at hl 4 rfl) ?_
    refine kk_callP (va_runS (As := [.int a3]) (rest := [.int a2, .ref h0]) ⟨hx, hb, hml, hown, hts⟩ (c_M_first l a3) (va_cwS 1 hts (gS tw_262 tw_263 tw_2 tw_264) rfl rfl rfl (by decide +kernel) ⟨Nat.le_of_ble_eq_true rfl, Nat.le_of_ble_eq_true rfl⟩) ⟨fun _ _ _ _ q => q, fun _ _ _ => ⟨rfl, trivial⟩⟩ rfl rfl hl.1 rfl (lv_room (Nat.le_of_ble_eq_true rfl)) dM_compare_31 ⟨Nat.le_of_ble_eq_true rfl, Nat.le_of_ble_eq_true rfl⟩) hS hP (fun H locs hS hP => ?_)
    refine lv_iload_n hx hb dM_compare_34 rfl (lv_at hl 4 rfl) ?_
    refine lv_bipush (v := (8 : Int32)) hx hb dM_compare_35 (by decide) ?_
    refine lv_irem hx hb dM_compare_37 (by decide) ?_
    refine kk_callP (va_runV (As := [.int a2, .int (f_M_first a3), .int (a3 - a3 / (8 : Int32) * (8 : Int32))]) (rest := []) ⟨hx, hb, hml, hown, hts⟩ (c_M_number l dC dI h0 q1 q2 q3 q4 k1 k2 k3 k4 g b t w a2 (f_M_first a3) (a3 - a3 / (8 : Int32) * (8 : Int32)) (may_2 c_1) (may_f c_1) (may_l c_1)) (cwV 3 hts (gV tw_242 tw_244 tw_p0 tw_2 tw_245) rfl rfl rfl (by decide +kernel) ⟨Nat.le_of_ble_eq_true rfl, Nat.le_of_ble_eq_true rfl⟩) ⟨fun a U g mk q => ⟨q.1, q.2.1, va_K.moved (u := U) (U := U.calling g mk a) (Vm.Alike.refl U.vm) q.2.2⟩, va_recv hK hP (ci := 1) (q0 := 0) rfl rfl, fun U hU hW => ⟨rfl, by rw [hU]; exact hP, va_K.moved hW.alike hK⟩⟩ rfl rfl hl.1 rfl (lv_room (Nat.le_of_ble_eq_true rfl)) dM_compare_38 ⟨Nat.le_of_ble_eq_true rfl, Nat.le_of_ble_eq_true rfl⟩) hS hP (fun H locs hS hP => ?_)
    refine lv_topi (fun x_3 ex_3 => ?_)
    refine lv_istore (lv' := [(5, .int x_3), (4, .int x_2), (0, .ref h0), (1, .int a1), (2, .int a2), (3, .int a3)]) hx hb dM_compare_41 hl (by decide) rfl (fun ls hl => ?_)
    refine kk_mrg (pc' := 66) (ls' := ls) (rest' := []) (x := (if (8 : Int32) ≤ a3 then x_2 else (if (g a1.toNatClampNeg) = 0 then x_2 else (-x_2)))) (fun hk_4 => ?_) (fun v_7 ev_7 => ?_)
    · refine lv_iload_n hx hb dM_compare_43 rfl (lv_at hl 5 rfl) ?_
      refine lv_bipush (v := (8 : Int32)) hx hb dM_compare_44 (by decide) ?_
      refine lv_icmp_ge (tgt := 64) hx hb dM_compare_46 (by decide) (fun c_5 => ?_) (fun c_5 => ?_)
      · refine lv_iload hx hb dM_compare_64 (lv_at hl 1 rfl) ?_
        exact hk_4 _ (by rw [if_pos c_5])
      · refine lv_aload_n hx hb dM_compare_49 rfl (lv_at hl 2 rfl) ?_
        refine va_get (D := (dC, dI)) (ci := 1) (v := .ref q1) (C := RM) (T := TM) (N := 4) hx hb hts iM hown hK hP 0 rfl rfl 0 (by decide) (hts _ tw_214) (fun _ h9 => h9) rfl dM_compare_50 ?_
        refine lv_iload_n hx hb dM_compare_53 rfl (lv_at hl 3 rfl) ?_
        refine va_zald hx hb hK hP 1 0 rfl rfl (in_M (may_1 c_1)) dM_compare_54 ?_
        refine lv_if_eq (tgt := 64) hx hb dM_compare_55 (by decide) (fun c_6 => ?_) (fun c_6 => ?_)
        · refine lv_iload hx hb dM_compare_64 (lv_at hl 1 rfl) ?_
          exact hk_4 _ (by rw [if_neg c_5, if_pos c_6])
        · refine lv_iload hx hb dM_compare_58 (lv_at hl 1 rfl) ?_
          refine lv_ineg hx hb dM_compare_60 ?_
          refine lv_goto (tgt := 66) hx hb dM_compare_61 (by decide) ?_
          exact hk_4 _ (by rw [if_neg c_5, if_neg c_6])
    refine lv_istore (lv' := [(4, .int v_7), (5, .int x_3), (0, .ref h0), (1, .int a1), (2, .int a2), (3, .int a3)]) hx hb dM_compare_66 hl (by decide) rfl (fun ls hl => ?_)
    refine kk_mrg (pc' := 91) (ls' := ls) (rest' := []) (x := (if (8 : Int32) ≤ a3 then x_3 else (if (g a2.toNatClampNeg) = 0 then x_3 else (-x_3)))) (fun hk_8 => ?_) (fun v_11 ev_11 => ?_)
    · refine lv_iload_n hx hb dM_compare_68 rfl (lv_at hl 5 rfl) ?_
      refine lv_bipush (v := (8 : Int32)) hx hb dM_compare_69 (by decide) ?_
      refine lv_icmp_ge (tgt := 89) hx hb dM_compare_71 (by decide) (fun c_9 => ?_) (fun c_9 => ?_)
      · refine lv_iload hx hb dM_compare_89 (lv_at hl 1 rfl) ?_
        exact hk_8 _ (by rw [if_pos c_9])
      · refine lv_aload_n hx hb dM_compare_74 rfl (lv_at hl 2 rfl) ?_
        refine va_get (D := (dC, dI)) (ci := 1) (v := .ref q1) (C := RM) (T := TM) (N := 4) hx hb hts iM hown hK hP 0 rfl rfl 0 (by decide) (hts _ tw_214) (fun _ h9 => h9) rfl dM_compare_75 ?_
        refine lv_iload_n hx hb dM_compare_78 rfl (lv_at hl 4 rfl) ?_
        refine va_zald hx hb hK hP 1 0 rfl rfl (in_M (may_2 c_1)) dM_compare_79 ?_
        refine lv_if_eq (tgt := 89) hx hb dM_compare_80 (by decide) (fun c_10 => ?_) (fun c_10 => ?_)
        · refine lv_iload hx hb dM_compare_89 (lv_at hl 1 rfl) ?_
          exact hk_8 _ (by rw [if_neg c_9, if_pos c_10])
        · refine lv_iload hx hb dM_compare_83 (lv_at hl 1 rfl) ?_
          refine lv_ineg hx hb dM_compare_85 ?_
          refine lv_goto (tgt := 91) hx hb dM_compare_86 (by decide) ?_
          exact hk_8 _ (by rw [if_neg c_9, if_neg c_10])
    refine lv_istore (lv' := [(5, .int v_11), (4, .int v_7), (0, .ref h0), (1, .int a1), (2, .int a2), (3, .int a3)]) hx hb dM_compare_91 hl (by decide) rfl (fun ls hl => ?_)
    refine lv_iload hx hb dM_compare_93 (lv_at hl 1 rfl) ?_
    refine lv_iload hx hb dM_compare_95 (lv_at hl 0 rfl) ?_
    refine lv_icmp_ge (tgt := 104) hx hb dM_compare_97 (by decide) (fun c_12 => ?_) (fun c_12 => ?_)
    · refine lv_iload hx hb dM_compare_104 (lv_at hl 1 rfl) ?_
      refine lv_iload hx hb dM_compare_106 (lv_at hl 0 rfl) ?_
      refine lv_icmp_le (tgt := 115) hx hb dM_compare_108 (by decide) (fun c_13 => ?_) (fun c_13 => ?_)
      · refine lv_iconst (v := (0 : Int32)) hx hb dM_compare_115 (by decide) ?_
        exact W.iret (v := (0 : Int32)) hx hb hr (fun tt ht hW => ⟨⟨(0 : Int32), (), rfl, (by subst ex_2; subst ex_3; subst ev_7; subst ev_11; unfold f_M_compare; rw [if_neg c_1, if_pos c_12, if_pos c_13]), trivial⟩, hS.F ht⟩) hS.2.2 dM_compare_116
      · refine lv_iconst (v := (1 : Int32)) hx hb dM_compare_111 (by decide) ?_
        refine lv_goto (tgt := 116) hx hb dM_compare_112 (by decide) ?_
        exact W.iret (v := (1 : Int32)) hx hb hr (fun tt ht hW => ⟨⟨(1 : Int32), (), rfl, (by subst ex_2; subst ex_3; subst ev_7; subst ev_11; unfold f_M_compare; rw [if_neg c_1, if_pos c_12, if_neg c_13]), trivial⟩, hS.F ht⟩) hS.2.2 dM_compare_116
    · refine lv_iconst (v := (-1 : Int32)) hx hb dM_compare_100 (by decide) ?_
      refine lv_goto (tgt := 116) hx hb dM_compare_101 (by decide) ?_
      exact W.iret (v := (-1 : Int32)) hx hb hr (fun tt ht hW => ⟨⟨(-1 : Int32), (), rfl, (by subst ex_2; subst ex_3; subst ev_7; subst ev_11; unfold f_M_compare; rw [if_neg c_1, if_neg c_12]), trivial⟩, hS.F ht⟩) hS.2.2 dM_compare_116
  · refine lv_bipush (v := (-2 : Int32)) hx hb dM_compare_10 (by decide) ?_
    exact W.iret (v := (-2 : Int32)) hx hb hr (fun tt ht hW => ⟨⟨(-2 : Int32), (), rfl, (by unfold f_M_compare; rw [if_pos c_1]), trivial⟩, hS.F ht⟩) hS.2.2 dM_compare_12

set_option maxHeartbeats 4000000 in
set_option maxRecDepth 100000 in
theorem c_M_letter (l : Launch) (dC : Nat → ClassId) (dI : Nat → Nat → Nat) (h0 q1 q2 q3 q4 : Nat) (k1 k2 k3 k4 : ClassId) (g b t w : Nat → Int32) (a1 : Int32) : Met l yM_letter wsM_letter ({ frames := 0, cells := 0, slots := 0, locals := 0 }) (va_Pc [.ref h0, .int a1] (fun U => va_P (dC, dI) vwCl (wsM h0 q1 q2 q3 q4 k1 k2 k3 k4 g b t w) U.heap ∧ va_K (dC, dI) vwCl [(k1, .boolean), (k2, .int), (k3, .int), (k4, .int)] U)) (va_Qi (fun (r : Int32) (_ : Unit) => r = f_M_letter g b t w a1) (fun _ _ => True) (fun _ => False)) 0 0 (fun _ => False) := by
  refine Met.ofW (cc := prog_3_method_16_code) (maxL := 2) (ret := (some .int)) (by decide) rfl ?_
  intro p e s m args below meth c s₁ B hml hv
  obtain ⟨rfl, hP, hK⟩ := hv
  have hx := B.exec
  have hb := B.bytes
  have hr := B.returns
  have hts := fun (w : Cond) (h : w ∈ gw) => atoms_spec (ws := wsM_letter) B.pre w (List.mem_cons_of_mem _ h)
  have hown : s.vm.findClass RM = some m.cls := findClass_of_methodNamed B.named
  have hlocks := B.notSynchronized
  have hS : va_S (fun _ => False) s.heap s.heap [] := va_S.rf
  have hl := lv_entry ([.ref h0, .int a1]) (n := 2) (Nat.le_of_ble_eq_true rfl)
  rw [lg_entry_eq]
  generalize (lg_sl ([.ref h0, .int a1]) ++ List.replicate (2 - (lg_sl ([.ref h0, .int a1])).length) Slot.unset).toArray = ls at hl ⊢
  have hl : lv_has ls 2 [(0, .ref h0), (1, .int a1)] := hl
  refine lv_iload_n hx hb dM_letter_0 rfl (lv_at hl 1 rfl) ?_
  refine lv_if_lt (tgt := 10) hx hb dM_letter_1 (by decide) (fun c_1 => ?_) (fun c_1 => ?_)
  · refine lv_iconst (v := (-1 : Int32)) hx hb dM_letter_10 (by decide) ?_
    refine lv_goto (tgt := 31) hx hb dM_letter_11 (by decide) ?_
    exact W.iret (v := (-1 : Int32)) hx hb hr (fun tt ht hW => ⟨⟨(-1 : Int32), (), rfl, (by unfold f_M_letter; rw [if_pos c_1]), trivial⟩, hS.F ht⟩) hS.2.2 dM_letter_31
  · refine lv_iload_n hx hb dM_letter_4 rfl (lv_at hl 1 rfl) ?_
    refine lv_bipush (v := (63 : Int32)) hx hb dM_letter_5 (by decide) ?_
    refine lv_icmp_le (tgt := 14) hx hb dM_letter_7 (by decide) (fun c_2 => ?_) (fun c_2 => ?_)
    · refine lv_iload_n hx hb dM_letter_14 rfl (lv_at hl 1 rfl) ?_
      refine lv_bipush (v := (56 : Int32)) hx hb dM_letter_15 (by decide) ?_
      refine lv_icmp_ge (tgt := 29) hx hb dM_letter_17 (by decide) (fun c_3 => ?_) (fun c_3 => ?_)
      · refine lv_bipush (v := (63 : Int32)) hx hb dM_letter_29 (by decide) ?_
        exact W.iret (v := (63 : Int32)) hx hb hr (fun tt ht hW => ⟨⟨(63 : Int32), (), rfl, (by unfold f_M_letter; rw [if_neg c_1, if_pos c_2, if_pos c_3]), trivial⟩, hS.F ht⟩) hS.2.2 dM_letter_31
      · refine lv_aload_n hx hb dM_letter_20 rfl (lv_at hl 0 rfl) ?_
        refine va_get (D := (dC, dI)) (ci := 1) (v := .ref q3) (C := RM) (T := TM) (N := 4) hx hb hts iM hown hK hP 0 rfl rfl 2 (by decide) (hts _ tw_216) (fun _ h9 => h9) rfl dM_letter_21 ?_
        refine lv_iload_n hx hb dM_letter_24 rfl (lv_at hl 1 rfl) ?_
        refine va_iald hx hb hK hP 3 2 rfl rfl (in_56 c_1 c_3) dM_letter_25 ?_
        refine lv_goto (tgt := 31) hx hb dM_letter_26 (by decide) ?_
        exact W.iret (v := (t a1.toNatClampNeg)) hx hb hr (fun tt ht hW => ⟨⟨(t a1.toNatClampNeg), (), rfl, (by unfold f_M_letter; rw [if_neg c_1, if_pos c_2, if_neg c_3]), trivial⟩, hS.F ht⟩) hS.2.2 dM_letter_31
    · refine lv_iconst (v := (-1 : Int32)) hx hb dM_letter_10 (by decide) ?_
      refine lv_goto (tgt := 31) hx hb dM_letter_11 (by decide) ?_
      exact W.iret (v := (-1 : Int32)) hx hb hr (fun tt ht hW => ⟨⟨(-1 : Int32), (), rfl, (by unfold f_M_letter; rw [if_neg c_1, if_neg c_2]), trivial⟩, hS.F ht⟩) hS.2.2 dM_letter_31
end
section
set_option maxHeartbeats 4000000 in
set_option maxRecDepth 100000 in
theorem c_M_turn (l : Launch) (dC : Nat → ClassId) (dI : Nat → Nat → Nat) (h0 q1 q2 q3 q4 : Nat) (k1 k2 k3 k4 : ClassId) (sz : Nat) (g b t w : Nat → Int32) (a1 : Int32) : Met l yM_turn wsM_turn ({ frames := 1, cells := 0, slots := 0, locals := 20 }) (va_Pc [.ref h0, .int a1] (fun U => U.heap.size = sz ∧ va_P (dC, dI) vwCl (wsM h0 q1 q2 q3 q4 k1 k2 k3 k4 g b t w) U.heap ∧ va_K (dC, dI) vwCl [(k1, .boolean), (k2, .int), (k3, .int), (k4, .int)] U ∧ va_D (fun _ => True) (wsM h0 q1 q2 q3 q4 k1 k2 k3 k4 g b t w))) (va_Qi (fun (r : Int32) (_ : Unit) => r = f_M_turn g b t w a1) (fun _ tt => va_P (dC, dI) vwCl (wsM h0 q1 q2 q3 q4 k1 k2 k3 k4 ((u_M_turn_g g b t w a1)) b t w) tt.heap ∧ va_D (va_A (wsM h0 q1 q2 q3 q4 k1 k2 k3 k4 g b t w) sz) (wsM h0 q1 q2 q3 q4 k1 k2 k3 k4 ((u_M_turn_g g b t w a1)) b t w)) (va_A (wsM h0 q1 q2 q3 q4 k1 k2 k3 k4 g b t w) sz)) 0 0 (va_A (wsM h0 q1 q2 q3 q4 k1 k2 k3 k4 g b t w) sz) := by
  refine Met.ofW (cc := prog_3_method_13_code) (maxL := 2) (ret := (some .boolean)) (by decide) rfl ?_
  intro p e s m args below meth c s₁ B hml hv
  obtain ⟨rfl, hsz, hP, hK, hD0⟩ := hv
  have hx := B.exec
  have hb := B.bytes
  have hr := B.returns
  have hts := fun (w : Cond) (h : w ∈ gw) => atoms_spec (ws := wsM_turn) B.pre w (List.mem_cons_of_mem _ h)
  have hown : s.vm.findClass RM = some m.cls := findClass_of_methodNamed B.named
  have hlocks := B.notSynchronized
  subst hsz
  have hD := hD0.self (sz := s.heap.size)
  generalize hAe : va_A (wsM h0 q1 q2 q3 q4 k1 k2 k3 k4 g b t w) s.heap.size = A at hD ⊢
  have hS : va_S A s.heap s.heap [] := va_S.rf
  have hl := lv_entry ([.ref h0, .int a1]) (n := 2) (Nat.le_of_ble_eq_true rfl)
  rw [lg_entry_eq]
  generalize (lg_sl ([.ref h0, .int a1]) ++ List.replicate (2 - (lg_sl ([.ref h0, .int a1])).length) Slot.unset).toArray = ls at hl ⊢
  have hl : lv_has ls 2 [(0, .ref h0), (1, .int a1)] := hl
  refine lv_iload_n hx hb dM_turn_0 rfl (lv_at hl 1 rfl) ?_
  refine kk_callP (va_runS (As := [.int a1]) (rest := []) ⟨hx, hb, hml, hown, hts⟩ (c_M_isRegister l a1) (va_cwS 1 hts (gS tw_233 tw_234 tw_2 tw_235) rfl rfl rfl (by decide +kernel) ⟨Nat.le_of_ble_eq_true rfl, Nat.le_of_ble_eq_true rfl⟩) ⟨fun _ _ _ _ q => q, fun _ _ _ => ⟨rfl, trivial⟩⟩ rfl rfl hl.1 rfl (lv_room (Nat.le_of_ble_eq_true rfl)) dM_turn_1 ⟨Nat.le_of_ble_eq_true rfl, Nat.le_of_ble_eq_true rfl⟩) hS hP (fun H locs hS hP => ?_)
  refine lv_if_ne (tgt := 9) hx hb dM_turn_4 (by decide) (fun c_1 => ?_) (fun c_1 => ?_)
  · refine lv_aload_n hx hb dM_turn_9 rfl (lv_at hl 0 rfl) ?_
    refine va_get (D := (dC, dI)) (ci := 1) (v := .ref q1) (C := RM) (T := TM) (N := 4) hx hb hts iM hown hK hP 0 rfl rfl 0 (by decide) (hts _ tw_214) (fun _ h9 => h9) rfl dM_turn_10 ?_
    refine lv_iload_n hx hb dM_turn_13 rfl (lv_at hl 1 rfl) ?_
    refine kk_mrg (pc' := 28) (ls' := ls) (rest' := [.int a1, .ref q1]) (x := (if (g a1.toNatClampNeg) = 0 then (1 : Int32) else (0 : Int32))) (fun hk_2 => ?_) (fun v_4 ev_4 => ?_)
    · refine lv_aload_n hx hb dM_turn_14 rfl (lv_at hl 0 rfl) ?_
      refine va_get (D := (dC, dI)) (ci := 1) (v := .ref q1) (C := RM) (T := TM) (N := 4) hx hb hts iM hown hK hP 0 rfl rfl 0 (by decide) (hts _ tw_214) (fun _ h9 => h9) rfl dM_turn_15 ?_
      refine lv_iload_n hx hb dM_turn_18 rfl (lv_at hl 1 rfl) ?_
      refine va_zald hx hb hK hP 1 0 rfl rfl (in_M c_1) dM_turn_19 ?_
      refine lv_if_ne (tgt := 27) hx hb dM_turn_20 (by decide) (fun c_3 => ?_) (fun c_3 => ?_)
      · refine lv_iconst (v := (0 : Int32)) hx hb dM_turn_27 (by decide) ?_
        exact hk_2 _ (by rw [if_neg c_3])
      · refine lv_iconst (v := (1 : Int32)) hx hb dM_turn_23 (by decide) ?_
        refine lv_goto (tgt := 28) hx hb dM_turn_24 (by decide) ?_
        exact hk_2 _ (by rw [if_pos c_3])
    refine va_zast hx hb hK hP hD hS 1 0 rfl rfl (in_M c_1) dM_turn_28 (fun H locs hP hD hS => ?_)
    have hP : va_P (dC, dI) vwCl (wsM h0 q1 q2 q3 q4 k1 k2 k3 k4 (upd g a1.toNatClampNeg (vp_nar .boolean v_4)) b t w) H := hP
    have hD : va_D A (wsM h0 q1 q2 q3 q4 k1 k2 k3 k4 (upd g a1.toNatClampNeg (vp_nar .boolean v_4)) b t w) := hD
    refine lv_iconst (v := (1 : Int32)) hx hb dM_turn_29 (by decide) ?_
    have eu_g : upd g a1.toNatClampNeg (vp_nar .boolean v_4) = (u_M_turn_g g b t w a1) := (by subst ev_4; unfold u_M_turn_g; rw [if_neg c_1])
    have hP9 : va_P (dC, dI) vwCl (wsM h0 q1 q2 q3 q4 k1 k2 k3 k4 ((u_M_turn_g g b t w a1)) b t w) H := by rw [← eu_g]; exact hP
    have hD9 : va_D A (wsM h0 q1 q2 q3 q4 k1 k2 k3 k4 ((u_M_turn_g g b t w a1)) b t w) := by rw [← eu_g]; exact hD
    exact W.zret (v := (1 : Int32)) hx hb hr (by decide) (fun tt ht hW => ⟨⟨(1 : Int32), (), rfl, (by subst ev_4; unfold f_M_turn; rw [if_neg c_1]), by rw [ht]; exact hP9, hD9⟩, hS.F ht⟩) hS.2.2 dM_turn_30
  · refine lv_iconst (v := (0 : Int32)) hx hb dM_turn_7 (by decide) ?_
    have eu_g : g = (u_M_turn_g g b t w a1) := (by unfold u_M_turn_g; rw [if_pos c_1])
    have hP9 : va_P (dC, dI) vwCl (wsM h0 q1 q2 q3 q4 k1 k2 k3 k4 ((u_M_turn_g g b t w a1)) b t w) H := by rw [← eu_g]; exact hP
    have hD9 : va_D A (wsM h0 q1 q2 q3 q4 k1 k2 k3 k4 ((u_M_turn_g g b t w a1)) b t w) := by rw [← eu_g]; exact hD
    exact W.zret (v := (0 : Int32)) hx hb hr (by decide) (fun tt ht hW => ⟨⟨(0 : Int32), (), rfl, (by unfold f_M_turn; rw [if_pos c_1]), by rw [ht]; exact hP9, hD9⟩, hS.F ht⟩) hS.2.2 dM_turn_8

set_option maxHeartbeats 4000000 in
set_option maxRecDepth 100000 in
theorem c_M_set (l : Launch) (dC : Nat → ClassId) (dI : Nat → Nat → Nat) (h0 q1 q2 q3 q4 : Nat) (k1 k2 k3 k4 : ClassId) (sz : Nat) (g b t w : Nat → Int32) (a1 a2 a3 : Int32) : Met l yM_set wsM_set ({ frames := 1, cells := 0, slots := 0, locals := 20 }) (va_Pc [.ref h0, .int a1, .int a2, .int a3] (fun U => U.heap.size = sz ∧ va_P (dC, dI) vwCl (wsM h0 q1 q2 q3 q4 k1 k2 k3 k4 g b t w) U.heap ∧ va_K (dC, dI) vwCl [(k1, .boolean), (k2, .int), (k3, .int), (k4, .int)] U ∧ va_D (fun _ => True) (wsM h0 q1 q2 q3 q4 k1 k2 k3 k4 g b t w))) (va_Qi (fun (r : Int32) (_ : Unit) => r = f_M_set g b t w a1 a2 a3) (fun _ tt => va_P (dC, dI) vwCl (wsM h0 q1 q2 q3 q4 k1 k2 k3 k4 ((u_M_set_g g b t w a1 a2 a3)) ((u_M_set_b g b t w a1 a2 a3)) t w) tt.heap ∧ va_D (va_A (wsM h0 q1 q2 q3 q4 k1 k2 k3 k4 g b t w) sz) (wsM h0 q1 q2 q3 q4 k1 k2 k3 k4 ((u_M_set_g g b t w a1 a2 a3)) ((u_M_set_b g b t w a1 a2 a3)) t w)) (va_A (wsM h0 q1 q2 q3 q4 k1 k2 k3 k4 g b t w) sz)) 0 0 (va_A (wsM h0 q1 q2 q3 q4 k1 k2 k3 k4 g b t w) sz) := by
  refine Met.ofW (cc := prog_3_method_6_code) (maxL := 7) (ret := (some .boolean)) (by decide) rfl ?_
  intro p e s m args below meth c s₁ B hml hv
  obtain ⟨rfl, hsz, hP, hK, hD0⟩ := hv
  have hx := B.exec
  have hb := B.bytes
  have hr := B.returns
  have hts := fun (w : Cond) (h : w ∈ gw) => atoms_spec (ws := wsM_set) B.pre w (List.mem_cons_of_mem _ h)
  have hown : s.vm.findClass RM = some m.cls := findClass_of_methodNamed B.named
  have hlocks := B.notSynchronized
  subst hsz
  have hD := hD0.self (sz := s.heap.size)
  generalize hAe : va_A (wsM h0 q1 q2 q3 q4 k1 k2 k3 k4 g b t w) s.heap.size = A at hD ⊢
  have hS : va_S A s.heap s.heap [] := va_S.rf
  have hl := lv_entry ([.ref h0, .int a1, .int a2, .int a3]) (n := 7) (Nat.le_of_ble_eq_true rfl)
  rw [lg_entry_eq]
  generalize (lg_sl ([.ref h0, .int a1, .int a2, .int a3]) ++ List.replicate (7 - (lg_sl ([.ref h0, .int a1, .int a2, .int a3])).length) Slot.unset).toArray = ls at hl ⊢
  have hl : lv_has ls 7 [(0, .ref h0), (1, .int a1), (2, .int a2), (3, .int a3)] := hl
  refine lv_ldc (v := (-1073741824 : Int32)) hx hb hown (hts _ tw_232) dM_set_0 ?_
  refine lv_istore (lv' := [(4, .int (-1073741824 : Int32)), (0, .ref h0), (1, .int a1), (2, .int a2), (3, .int a3)]) hx hb dM_set_2 hl (by decide) rfl (fun ls hl => ?_)
  refine lv_iload_n hx hb dM_set_4 rfl (lv_at hl 2 rfl) ?_
  refine kk_callP (va_runS (As := [.int a1]) (rest := []) ⟨hx, hb, hml, hown, hts⟩ (c_M_isRegister l a1) (va_cwS 1 hts (gS tw_233 tw_234 tw_2 tw_235) rfl rfl rfl (by decide +kernel) ⟨Nat.le_of_ble_eq_true rfl, Nat.le_of_ble_eq_true rfl⟩) ⟨fun _ _ _ _ q => q, fun _ _ _ => ⟨rfl, trivial⟩⟩ rfl rfl hl.1 rfl (lv_room (Nat.le_of_ble_eq_true rfl)) dM_set_5 ⟨Nat.le_of_ble_eq_true rfl, Nat.le_of_ble_eq_true rfl⟩) hS hP (fun H locs hS hP => ?_)
  refine lv_if_eq (tgt := 23) hx hb dM_set_8 (by decide) (fun c_1 => ?_) (fun c_1 => ?_)
  · refine lv_iconst (v := (0 : Int32)) hx hb dM_set_23 (by decide) ?_
    have eu_g : g = (u_M_set_g g b t w a1 a2 a3) := (by unfold u_M_set_g; rw [if_pos c_1])
    have eu_b : b = (u_M_set_b g b t w a1 a2 a3) := (by unfold u_M_set_b; rw [if_pos c_1])
    have hP9 : va_P (dC, dI) vwCl (wsM h0 q1 q2 q3 q4 k1 k2 k3 k4 ((u_M_set_g g b t w a1 a2 a3)) ((u_M_set_b g b t w a1 a2 a3)) t w) H := by rw [← eu_g, ← eu_b]; exact hP
    have hD9 : va_D A (wsM h0 q1 q2 q3 q4 k1 k2 k3 k4 ((u_M_set_g g b t w a1 a2 a3)) ((u_M_set_b g b t w a1 a2 a3)) t w) := by rw [← eu_g, ← eu_b]; exact hD
    exact W.zret (v := (0 : Int32)) hx hb hr (by decide) (fun tt ht hW => ⟨⟨(0 : Int32), (), rfl, (by unfold f_M_set; rw [if_pos c_1]), by rw [ht]; exact hP9, hD9⟩, hS.F ht⟩) hS.2.2 dM_set_24
  · refine lv_iload_n hx hb dM_set_11 rfl (lv_at hl 3 rfl) ?_
    refine lv_iload hx hb dM_set_12 (lv_at hl 0 rfl) ?_
    refine lv_icmp_le (tgt := 23) hx hb dM_set_14 (by decide) (fun c_2 => ?_) (fun c_2 => ?_)
    · refine lv_iconst (v := (0 : Int32)) hx hb dM_set_23 (by decide) ?_
      have eu_g : g = (u_M_set_g g b t w a1 a2 a3) := (by unfold u_M_set_g; rw [if_neg c_1, if_pos c_2])
      have eu_b : b = (u_M_set_b g b t w a1 a2 a3) := (by unfold u_M_set_b; rw [if_neg c_1, if_pos c_2])
      have hP9 : va_P (dC, dI) vwCl (wsM h0 q1 q2 q3 q4 k1 k2 k3 k4 ((u_M_set_g g b t w a1 a2 a3)) ((u_M_set_b g b t w a1 a2 a3)) t w) H := by rw [← eu_g, ← eu_b]; exact hP
      have hD9 : va_D A (wsM h0 q1 q2 q3 q4 k1 k2 k3 k4 ((u_M_set_g g b t w a1 a2 a3)) ((u_M_set_b g b t w a1 a2 a3)) t w) := by rw [← eu_g, ← eu_b]; exact hD
      exact W.zret (v := (0 : Int32)) hx hb hr (by decide) (fun tt ht hW => ⟨⟨(0 : Int32), (), rfl, (by unfold f_M_set; rw [if_neg c_1, if_pos c_2]), by rw [ht]; exact hP9, hD9⟩, hS.F ht⟩) hS.2.2 dM_set_24
    · refine lv_iload_n hx hb dM_set_17 rfl (lv_at hl 3 rfl) ?_
      refine lv_ldc (v := (1073741824 : Int32)) hx hb hown (hts _ tw_236) dM_set_18 ?_
      refine lv_icmp_lt (tgt := 25) hx hb dM_set_20 (by decide) (fun c_3 => ?_) (fun c_3 => ?_)
      · refine lv_aload_n hx hb dM_set_25 rfl (lv_at hl 1 rfl) ?_
        refine va_get (D := (dC, dI)) (ci := 1) (v := .ref q1) (C := RM) (T := TM) (N := 4) hx hb hts iM hown hK hP 0 rfl rfl 0 (by decide) (hts _ tw_214) (fun _ h9 => h9) rfl dM_set_26 ?_
        refine lv_iload_n hx hb dM_set_29 rfl (lv_at hl 2 rfl) ?_
        refine kk_mrg (pc' := 47) (ls' := ls) (rest' := [.int a1, .ref q1]) (x := (if a2 < 0 then (1 : Int32) else (if a2 = 0 then (if a3 = 0 then (0 : Int32) else (1 : Int32)) else (0 : Int32)))) (fun hk_4 => ?_) (fun v_8 ev_8 => ?_)
        · refine lv_iload_n hx hb dM_set_30 rfl (lv_at hl 3 rfl) ?_
          refine lv_if_lt (tgt := 42) hx hb dM_set_31 (by decide) (fun c_5 => ?_) (fun c_5 => ?_)
          · refine lv_iconst (v := (1 : Int32)) hx hb dM_set_42 (by decide) ?_
            refine lv_goto (tgt := 47) hx hb dM_set_43 (by decide) ?_
            exact hk_4 _ (by rw [if_pos c_5])
          · refine lv_iload_n hx hb dM_set_34 rfl (lv_at hl 3 rfl) ?_
            refine lv_if_ne (tgt := 46) hx hb dM_set_35 (by decide) (fun c_6 => ?_) (fun c_6 => ?_)
            · refine lv_iconst (v := (0 : Int32)) hx hb dM_set_46 (by decide) ?_
              exact hk_4 _ (by rw [if_neg c_5, if_neg c_6])
            · refine lv_iload_n hx hb dM_set_38 rfl (lv_at hl 4 rfl) ?_
              refine lv_if_eq (tgt := 46) hx hb dM_set_39 (by decide) (fun c_7 => ?_) (fun c_7 => ?_)
              · refine lv_iconst (v := (0 : Int32)) hx hb dM_set_46 (by decide) ?_
                exact hk_4 _ (by rw [if_neg c_5, if_pos c_6, if_pos c_7])
              · refine lv_iconst (v := (1 : Int32)) hx hb dM_set_42 (by decide) ?_
                refine lv_goto (tgt := 47) hx hb dM_set_43 (by decide) ?_
                exact hk_4 _ (by rw [if_neg c_5, if_pos c_6, if_neg c_7])
        refine va_zast hx hb hK hP hD hS 1 0 rfl rfl (in_M c_1) dM_set_47 (fun H locs hP hD hS => ?_)
        have hP : va_P (dC, dI) vwCl (wsM h0 q1 q2 q3 q4 k1 k2 k3 k4 (upd g a1.toNatClampNeg (vp_nar .boolean v_8)) b t w) H := hP
        have hD : va_D A (wsM h0 q1 q2 q3 q4 k1 k2 k3 k4 (upd g a1.toNatClampNeg (vp_nar .boolean v_8)) b t w) := hD
        refine kk_mrg (pc' := 58) (ls' := ls) (rest' := []) (x := (if 0 ≤ a2 then a2 else (-a2))) (fun hk_9 => ?_) (fun v_11 ev_11 => ?_)
        · refine lv_iload_n hx hb dM_set_48 rfl (lv_at hl 3 rfl) ?_
          refine lv_if_ge (tgt := 57) hx hb dM_set_49 (by decide) (fun c_10 => ?_) (fun c_10 => ?_)
          · refine lv_iload_n hx hb dM_set_57 rfl (lv_at hl 3 rfl) ?_
            exact hk_9 _ (by rw [if_pos c_10])
          · refine lv_iload_n hx hb dM_set_52 rfl (lv_at hl 3 rfl) ?_
            refine lv_ineg hx hb dM_set_53 ?_
            refine lv_goto (tgt := 58) hx hb dM_set_54 (by decide) ?_
            exact hk_9 _ (by rw [if_neg c_10])
        refine lv_istore (lv' := [(5, .int v_11), (4, .int (-1073741824 : Int32)), (0, .ref h0), (1, .int a1), (2, .int a2), (3, .int a3)]) hx hb dM_set_58 hl (by decide) rfl (fun ls hl => ?_)
        refine lv_iconst (v := (5 : Int32)) hx hb dM_set_60 (by decide) ?_
        refine lv_istore (lv' := [(6, .int (5 : Int32)), (5, .int v_11), (4, .int (-1073741824 : Int32)), (0, .ref h0), (1, .int a1), (2, .int a2), (3, .int a3)]) hx hb dM_set_61 hl (by decide) rfl (fun ls hl => ?_)
        refine lv_iload hx hb dM_set_63 (lv_at hl 0 rfl) ?_
        refine lv_if_le (tgt := 98) hx hb dM_set_65 (by decide) (fun c0 => absurd c0 (by decide)) (fun _ => ?_)
        refine lv_aload_n hx hb dM_set_68 rfl (lv_at hl 3 rfl) ?_
        refine va_get (D := (dC, dI)) (ci := 1) (v := .ref q2) (C := RM) (T := TM) (N := 4) hx hb hts iM hown hK hP 0 rfl rfl 1 (by decide) (hts _ tw_215) (fun _ h9 => h9) rfl dM_set_69 ?_
        refine lv_bipush (v := (6 : Int32)) hx hb dM_set_72 (by decide) ?_
        refine lv_iload_n hx hb dM_set_74 rfl (lv_at hl 4 rfl) ?_
        refine lv_imul hx hb dM_set_75 ?_
        refine lv_iload hx hb dM_set_76 (lv_at hl 0 rfl) ?_
        refine lv_iadd hx hb dM_set_78 ?_
        refine lv_iload hx hb dM_set_79 (lv_at hl 1 rfl) ?_
        refine lv_bipush (v := (64 : Int32)) hx hb dM_set_81 (by decide) ?_
        refine lv_irem hx hb dM_set_83 (by decide) ?_
        refine va_iast hx hb hK hP hD hS 2 1 rfl rfl (in_96 c_1 (by unfold vp_in; decide)) dM_set_84 (fun H locs hP hD hS => ?_)
        have hP : va_P (dC, dI) vwCl (wsM h0 q1 q2 q3 q4 k1 k2 k3 k4 (upd g a1.toNatClampNeg (vp_nar .boolean v_8)) (upd b (((6 : Int32) * a1) + (5 : Int32)).toNatClampNeg (v_11 - v_11 / (64 : Int32) * (64 : Int32))) t w) H := hP
        have hD : va_D A (wsM h0 q1 q2 q3 q4 k1 k2 k3 k4 (upd g a1.toNatClampNeg (vp_nar .boolean v_8)) (upd b (((6 : Int32) * a1) + (5 : Int32)).toNatClampNeg (v_11 - v_11 / (64 : Int32) * (64 : Int32))) t w) := hD
        refine lv_iload hx hb dM_set_85 (lv_at hl 1 rfl) ?_
        refine lv_bipush (v := (64 : Int32)) hx hb dM_set_87 (by decide) ?_
        refine lv_idiv hx hb dM_set_89 (by decide) ?_
        refine lv_istore (lv' := [(5, .int (v_11 / (64 : Int32))), (6, .int (5 : Int32)), (4, .int (-1073741824 : Int32)), (0, .ref h0), (1, .int a1), (2, .int a2), (3, .int a3)]) hx hb dM_set_90 hl (by decide) rfl (fun ls hl => ?_)
        refine lv_iinc (v := (4 : Int32)) (lv' := [(6, .int (4 : Int32)), (5, .int (v_11 / (64 : Int32))), (4, .int (-1073741824 : Int32)), (0, .ref h0), (1, .int a1), (2, .int a2), (3, .int a3)]) hx hb dM_set_92 hl (k := 1) rfl (by decide) (by decide) rfl (fun ls hl => ?_)
        refine lv_goto (tgt := 63) hx hb dM_set_95 (by decide) ?_
        refine lv_iload hx hb dM_set_63 (lv_at hl 0 rfl) ?_
        refine lv_if_le (tgt := 98) hx hb dM_set_65 (by decide) (fun c0 => absurd c0 (by decide)) (fun _ => ?_)
        refine lv_aload_n hx hb dM_set_68 rfl (lv_at hl 3 rfl) ?_
        refine va_get (D := (dC, dI)) (ci := 1) (v := .ref q2) (C := RM) (T := TM) (N := 4) hx hb hts iM hown hK hP 0 rfl rfl 1 (by decide) (hts _ tw_215) (fun _ h9 => h9) rfl dM_set_69 ?_
        refine lv_bipush (v := (6 : Int32)) hx hb dM_set_72 (by decide) ?_
        refine lv_iload_n hx hb dM_set_74 rfl (lv_at hl 4 rfl) ?_
        refine lv_imul hx hb dM_set_75 ?_
        refine lv_iload hx hb dM_set_76 (lv_at hl 0 rfl) ?_
        refine lv_iadd hx hb dM_set_78 ?_
        refine lv_iload hx hb dM_set_79 (lv_at hl 1 rfl) ?_
        refine lv_bipush (v := (64 : Int32)) hx hb dM_set_81 (by decide) ?_
        refine lv_irem hx hb dM_set_83 (by decide) ?_
        refine va_iast hx hb hK hP hD hS 2 1 rfl rfl (in_96 c_1 (by unfold vp_in; decide)) dM_set_84 (fun H locs hP hD hS => ?_)
        have hP : va_P (dC, dI) vwCl (wsM h0 q1 q2 q3 q4 k1 k2 k3 k4 (upd g a1.toNatClampNeg (vp_nar .boolean v_8)) (upd (upd b (((6 : Int32) * a1) + (5 : Int32)).toNatClampNeg (v_11 - v_11 / (64 : Int32) * (64 : Int32))) (((6 : Int32) * a1) + (4 : Int32)).toNatClampNeg ((v_11 / (64 : Int32)) - (v_11 / (64 : Int32)) / (64 : Int32) * (64 : Int32))) t w) H := hP
        have hD : va_D A (wsM h0 q1 q2 q3 q4 k1 k2 k3 k4 (upd g a1.toNatClampNeg (vp_nar .boolean v_8)) (upd (upd b (((6 : Int32) * a1) + (5 : Int32)).toNatClampNeg (v_11 - v_11 / (64 : Int32) * (64 : Int32))) (((6 : Int32) * a1) + (4 : Int32)).toNatClampNeg ((v_11 / (64 : Int32)) - (v_11 / (64 : Int32)) / (64 : Int32) * (64 : Int32))) t w) := hD
        refine lv_iload hx hb dM_set_85 (lv_at hl 1 rfl) ?_
        refine lv_bipush (v := (64 : Int32)) hx hb dM_set_87 (by decide) ?_
        refine lv_idiv hx hb dM_set_89 (by decide) ?_
        refine lv_topi (fun x_12 ex_12 => ?_)
        refine lv_istore (lv' := [(5, .int x_12), (6, .int (4 : Int32)), (4, .int (-1073741824 : Int32)), (0, .ref h0), (1, .int a1), (2, .int a2), (3, .int a3)]) hx hb dM_set_90 hl (by decide) rfl (fun ls hl => ?_)
        refine lv_iinc (v := (3 : Int32)) (lv' := [(6, .int (3 : Int32)), (5, .int x_12), (4, .int (-1073741824 : Int32)), (0, .ref h0), (1, .int a1), (2, .int a2), (3, .int a3)]) hx hb dM_set_92 hl (k := 1) rfl (by decide) (by decide) rfl (fun ls hl => ?_)
        refine lv_goto (tgt := 63) hx hb dM_set_95 (by decide) ?_
        refine lv_iload hx hb dM_set_63 (lv_at hl 0 rfl) ?_
        refine lv_if_le (tgt := 98) hx hb dM_set_65 (by decide) (fun c0 => absurd c0 (by decide)) (fun _ => ?_)
        refine lv_aload_n hx hb dM_set_68 rfl (lv_at hl 3 rfl) ?_
        refine va_get (D := (dC, dI)) (ci := 1) (v := .ref q2) (C := RM) (T := TM) (N := 4) hx hb hts iM hown hK hP 0 rfl rfl 1 (by decide) (hts _ tw_215) (fun _ h9 => h9) rfl dM_set_69 ?_
        refine lv_bipush (v := (6 : Int32)) hx hb dM_set_72 (by decide) ?_
        refine lv_iload_n hx hb dM_set_74 rfl (lv_at hl 4 rfl) ?_
        refine lv_imul hx hb dM_set_75 ?_
        refine lv_iload hx hb dM_set_76 (lv_at hl 0 rfl) ?_
        refine lv_iadd hx hb dM_set_78 ?_
        refine lv_iload hx hb dM_set_79 (lv_at hl 1 rfl) ?_
        refine lv_bipush (v := (64 : Int32)) hx hb dM_set_81 (by decide) ?_
        refine lv_irem hx hb dM_set_83 (by decide) ?_
        refine va_iast hx hb hK hP hD hS 2 1 rfl rfl (in_96 c_1 (by unfold vp_in; decide)) dM_set_84 (fun H locs hP hD hS => ?_)
        have hP : va_P (dC, dI) vwCl (wsM h0 q1 q2 q3 q4 k1 k2 k3 k4 (upd g a1.toNatClampNeg (vp_nar .boolean v_8)) (upd (upd (upd b (((6 : Int32) * a1) + (5 : Int32)).toNatClampNeg (v_11 - v_11 / (64 : Int32) * (64 : Int32))) (((6 : Int32) * a1) + (4 : Int32)).toNatClampNeg ((v_11 / (64 : Int32)) - (v_11 / (64 : Int32)) / (64 : Int32) * (64 : Int32))) (((6 : Int32) * a1) + (3 : Int32)).toNatClampNeg (x_12 - x_12 / (64 : Int32) * (64 : Int32))) t w) H := hP
        have hD : va_D A (wsM h0 q1 q2 q3 q4 k1 k2 k3 k4 (upd g a1.toNatClampNeg (vp_nar .boolean v_8)) (upd (upd (upd b (((6 : Int32) * a1) + (5 : Int32)).toNatClampNeg (v_11 - v_11 / (64 : Int32) * (64 : Int32))) (((6 : Int32) * a1) + (4 : Int32)).toNatClampNeg ((v_11 / (64 : Int32)) - (v_11 / (64 : Int32)) / (64 : Int32) * (64 : Int32))) (((6 : Int32) * a1) + (3 : Int32)).toNatClampNeg (x_12 - x_12 / (64 : Int32) * (64 : Int32))) t w) := hD
        refine lv_iload hx hb dM_set_85 (lv_at hl 1 rfl) ?_
        refine lv_bipush (v := (64 : Int32)) hx hb dM_set_87 (by decide) ?_
        refine lv_idiv hx hb dM_set_89 (by decide) ?_
        refine lv_istore (lv' := [(5, .int (x_12 / (64 : Int32))), (6, .int (3 : Int32)), (4, .int (-1073741824 : Int32)), (0, .ref h0), (1, .int a1), (2, .int a2), (3, .int a3)]) hx hb dM_set_90 hl (by decide) rfl (fun ls hl => ?_)
        refine lv_iinc (v := (2 : Int32)) (lv' := [(6, .int (2 : Int32)), (5, .int (x_12 / (64 : Int32))), (4, .int (-1073741824 : Int32)), (0, .ref h0), (1, .int a1), (2, .int a2), (3, .int a3)]) hx hb dM_set_92 hl (k := 1) rfl (by decide) (by decide) rfl (fun ls hl => ?_)
        refine lv_goto (tgt := 63) hx hb dM_set_95 (by decide) ?_
        refine lv_iload hx hb dM_set_63 (lv_at hl 0 rfl) ?_
        refine lv_if_le (tgt := 98) hx hb dM_set_65 (by decide) (fun c0 => absurd c0 (by decide)) (fun _ => ?_)
        refine lv_aload_n hx hb dM_set_68 rfl (lv_at hl 3 rfl) ?_
        refine va_get (D := (dC, dI)) (ci := 1) (v := .ref q2) (C := RM) (T := TM) (N := 4) hx hb hts iM hown hK hP 0 rfl rfl 1 (by decide) (hts _ tw_215) (fun _ h9 => h9) rfl dM_set_69 ?_
        refine lv_bipush (v := (6 : Int32)) hx hb dM_set_72 (by decide) ?_
        refine lv_iload_n hx hb dM_set_74 rfl (lv_at hl 4 rfl) ?_
        refine lv_imul hx hb dM_set_75 ?_
        refine lv_iload hx hb dM_set_76 (lv_at hl 0 rfl) ?_
        refine lv_iadd hx hb dM_set_78 ?_
        refine lv_iload hx hb dM_set_79 (lv_at hl 1 rfl) ?_
        refine lv_bipush (v := (64 : Int32)) hx hb dM_set_81 (by decide) ?_
        refine lv_irem hx hb dM_set_83 (by decide) ?_
        refine va_iast hx hb hK hP hD hS 2 1 rfl rfl (in_96 c_1 (by unfold vp_in; decide)) dM_set_84 (fun H locs hP hD hS => ?_)
        have hP : va_P (dC, dI) vwCl (wsM h0 q1 q2 q3 q4 k1 k2 k3 k4 (upd g a1.toNatClampNeg (vp_nar .boolean v_8)) (upd (upd (upd (upd b (((6 : Int32) * a1) + (5 : Int32)).toNatClampNeg (v_11 - v_11 / (64 : Int32) * (64 : Int32))) (((6 : Int32) * a1) + (4 : Int32)).toNatClampNeg ((v_11 / (64 : Int32)) - (v_11 / (64 : Int32)) / (64 : Int32) * (64 : Int32))) (((6 : Int32) * a1) + (3 : Int32)).toNatClampNeg (x_12 - x_12 / (64 : Int32) * (64 : Int32))) (((6 : Int32) * a1) + (2 : Int32)).toNatClampNeg ((x_12 / (64 : Int32)) - (x_12 / (64 : Int32)) / (64 : Int32) * (64 : Int32))) t w) H := hP
        have hD : va_D A (wsM h0 q1 q2 q3 q4 k1 k2 k3 k4 (upd g a1.toNatClampNeg (vp_nar .boolean v_8)) (upd (upd (upd (upd b (((6 : Int32) * a1) + (5 : Int32)).toNatClampNeg (v_11 - v_11 / (64 : Int32) * (64 : Int32))) (((6 : Int32) * a1) + (4 : Int32)).toNatClampNeg ((v_11 / (64 : Int32)) - (v_11 / (64 : Int32)) / (64 : Int32) * (64 : Int32))) (((6 : Int32) * a1) + (3 : Int32)).toNatClampNeg (x_12 - x_12 / (64 : Int32) * (64 : Int32))) (((6 : Int32) * a1) + (2 : Int32)).toNatClampNeg ((x_12 / (64 : Int32)) - (x_12 / (64 : Int32)) / (64 : Int32) * (64 : Int32))) t w) := hD
        refine lv_iload hx hb dM_set_85 (lv_at hl 1 rfl) ?_
        refine lv_bipush (v := (64 : Int32)) hx hb dM_set_87 (by decide) ?_
        refine lv_idiv hx hb dM_set_89 (by decide) ?_
        refine lv_topi (fun x_13 ex_13 => ?_)
        refine lv_istore (lv' := [(5, .int x_13), (6, .int (2 : Int32)), (4, .int (-1073741824 : Int32)), (0, .ref h0), (1, .int a1), (2, .int a2), (3, .int a3)]) hx hb dM_set_90 hl (by decide) rfl (fun ls hl => ?_)
        refine lv_iinc (v := (1 : Int32)) (lv' := [(6, .int (1 : Int32)), (5, .int x_13), (4, .int (-1073741824 : Int32)), (0, .ref h0), (1, .int a1), (2, .int a2), (3, .int a3)]) hx hb dM_set_92 hl (k := 1) rfl (by decide) (by decide) rfl (fun ls hl => ?_)
        refine lv_goto (tgt := 63) hx hb dM_set_95 (by decide) ?_
        refine lv_iload hx hb dM_set_63 (lv_at hl 0 rfl) ?_
        refine lv_if_le (tgt := 98) hx hb dM_set_65 (by decide) (fun c0 => absurd c0 (by decide)) (fun _ => ?_)
        refine lv_aload_n hx hb dM_set_68 rfl (lv_at hl 3 rfl) ?_
        refine va_get (D := (dC, dI)) (ci := 1) (v := .ref q2) (C := RM) (T := TM) (N := 4) hx hb hts iM hown hK hP 0 rfl rfl 1 (by decide) (hts _ tw_215) (fun _ h9 => h9) rfl dM_set_69 ?_
        refine lv_bipush (v := (6 : Int32)) hx hb dM_set_72 (by decide) ?_
        refine lv_iload_n hx hb dM_set_74 rfl (lv_at hl 4 rfl) ?_
        refine lv_imul hx hb dM_set_75 ?_
        refine lv_iload hx hb dM_set_76 (lv_at hl 0 rfl) ?_
        refine lv_iadd hx hb dM_set_78 ?_
        refine lv_iload hx hb dM_set_79 (lv_at hl 1 rfl) ?_
        refine lv_bipush (v := (64 : Int32)) hx hb dM_set_81 (by decide) ?_
        refine lv_irem hx hb dM_set_83 (by decide) ?_
        refine va_iast hx hb hK hP hD hS 2 1 rfl rfl (in_96 c_1 (by unfold vp_in; decide)) dM_set_84 (fun H locs hP hD hS => ?_)
        have hP : va_P (dC, dI) vwCl (wsM h0 q1 q2 q3 q4 k1 k2 k3 k4 (upd g a1.toNatClampNeg (vp_nar .boolean v_8)) (upd (upd (upd (upd (upd b (((6 : Int32) * a1) + (5 : Int32)).toNatClampNeg (v_11 - v_11 / (64 : Int32) * (64 : Int32))) (((6 : Int32) * a1) + (4 : Int32)).toNatClampNeg ((v_11 / (64 : Int32)) - (v_11 / (64 : Int32)) / (64 : Int32) * (64 : Int32))) (((6 : Int32) * a1) + (3 : Int32)).toNatClampNeg (x_12 - x_12 / (64 : Int32) * (64 : Int32))) (((6 : Int32) * a1) + (2 : Int32)).toNatClampNeg ((x_12 / (64 : Int32)) - (x_12 / (64 : Int32)) / (64 : Int32) * (64 : Int32))) (((6 : Int32) * a1) + (1 : Int32)).toNatClampNeg (x_13 - x_13 / (64 : Int32) * (64 : Int32))) t w) H := hP
        have hD : va_D A (wsM h0 q1 q2 q3 q4 k1 k2 k3 k4 (upd g a1.toNatClampNeg (vp_nar .boolean v_8)) (upd (upd (upd (upd (upd b (((6 : Int32) * a1) + (5 : Int32)).toNatClampNeg (v_11 - v_11 / (64 : Int32) * (64 : Int32))) (((6 : Int32) * a1) + (4 : Int32)).toNatClampNeg ((v_11 / (64 : Int32)) - (v_11 / (64 : Int32)) / (64 : Int32) * (64 : Int32))) (((6 : Int32) * a1) + (3 : Int32)).toNatClampNeg (x_12 - x_12 / (64 : Int32) * (64 : Int32))) (((6 : Int32) * a1) + (2 : Int32)).toNatClampNeg ((x_12 / (64 : Int32)) - (x_12 / (64 : Int32)) / (64 : Int32) * (64 : Int32))) (((6 : Int32) * a1) + (1 : Int32)).toNatClampNeg (x_13 - x_13 / (64 : Int32) * (64 : Int32))) t w) := hD
        refine lv_iload hx hb dM_set_85 (lv_at hl 1 rfl) ?_
        refine lv_bipush (v := (64 : Int32)) hx hb dM_set_87 (by decide) ?_
        refine lv_idiv hx hb dM_set_89 (by decide) ?_
        refine lv_istore (lv' := [(5, .int (x_13 / (64 : Int32))), (6, .int (1 : Int32)), (4, .int (-1073741824 : Int32)), (0, .ref h0), (1, .int a1), (2, .int a2), (3, .int a3)]) hx hb dM_set_90 hl (by decide) rfl (fun ls hl => ?_)
        refine lv_iinc (v := (0 : Int32)) (lv' := [(6, .int (0 : Int32)), (5, .int (x_13 / (64 : Int32))), (4, .int (-1073741824 : Int32)), (0, .ref h0), (1, .int a1), (2, .int a2), (3, .int a3)]) hx hb dM_set_92 hl (k := 1) rfl (by decide) (by decide) rfl (fun ls hl => ?_)
        refine lv_goto (tgt := 63) hx hb dM_set_95 (by decide) ?_
        refine lv_iload hx hb dM_set_63 (lv_at hl 0 rfl) ?_
        refine lv_if_le (tgt := 98) hx hb dM_set_65 (by decide) (fun _ => ?_) (fun c0 => absurd (by decide) c0)
        refine lv_iconst (v := (1 : Int32)) hx hb dM_set_98 (by decide) ?_
        have eu_g : upd g a1.toNatClampNeg (vp_nar .boolean v_8) = (u_M_set_g g b t w a1 a2 a3) := (by subst ev_8; subst ev_11; subst ex_12; subst ex_13; unfold u_M_set_g; rw [if_neg c_1, if_neg c_2, if_pos c_3])
        have eu_b : upd (upd (upd (upd (upd b (((6 : Int32) * a1) + (5 : Int32)).toNatClampNeg (v_11 - v_11 / (64 : Int32) * (64 : Int32))) (((6 : Int32) * a1) + (4 : Int32)).toNatClampNeg ((v_11 / (64 : Int32)) - (v_11 / (64 : Int32)) / (64 : Int32) * (64 : Int32))) (((6 : Int32) * a1) + (3 : Int32)).toNatClampNeg (x_12 - x_12 / (64 : Int32) * (64 : Int32))) (((6 : Int32) * a1) + (2 : Int32)).toNatClampNeg ((x_12 / (64 : Int32)) - (x_12 / (64 : Int32)) / (64 : Int32) * (64 : Int32))) (((6 : Int32) * a1) + (1 : Int32)).toNatClampNeg (x_13 - x_13 / (64 : Int32) * (64 : Int32)) = (u_M_set_b g b t w a1 a2 a3) := (by subst ev_8; subst ev_11; subst ex_12; subst ex_13; unfold u_M_set_b; rw [if_neg c_1, if_neg c_2, if_pos c_3])
        have hP9 : va_P (dC, dI) vwCl (wsM h0 q1 q2 q3 q4 k1 k2 k3 k4 ((u_M_set_g g b t w a1 a2 a3)) ((u_M_set_b g b t w a1 a2 a3)) t w) H := by rw [← eu_g, ← eu_b]; exact hP
        have hD9 : va_D A (wsM h0 q1 q2 q3 q4 k1 k2 k3 k4 ((u_M_set_g g b t w a1 a2 a3)) ((u_M_set_b g b t w a1 a2 a3)) t w) := by rw [← eu_g, ← eu_b]; exact hD
        exact W.zret (v := (1 : Int32)) hx hb hr (by decide) (fun tt ht hW => ⟨⟨(1 : Int32), (), rfl, (by subst ev_8; subst ev_11; subst ex_12; subst ex_13; unfold f_M_set; rw [if_neg c_1, if_neg c_2, if_pos c_3]), by rw [ht]; exact hP9, hD9⟩, hS.F ht⟩) hS.2.2 dM_set_99
      · refine lv_iconst (v := (0 : Int32)) hx hb dM_set_23 (by decide) ?_
        have eu_g : g = (u_M_set_g g b t w a1 a2 a3) := (by unfold u_M_set_g; rw [if_neg c_1, if_neg c_2, if_neg c_3])
        have eu_b : b = (u_M_set_b g b t w a1 a2 a3) := (by unfold u_M_set_b; rw [if_neg c_1, if_neg c_2, if_neg c_3])
        have hP9 : va_P (dC, dI) vwCl (wsM h0 q1 q2 q3 q4 k1 k2 k3 k4 ((u_M_set_g g b t w a1 a2 a3)) ((u_M_set_b g b t w a1 a2 a3)) t w) H := by rw [← eu_g, ← eu_b]; exact hP
        have hD9 : va_D A (wsM h0 q1 q2 q3 q4 k1 k2 k3 k4 ((u_M_set_g g b t w a1 a2 a3)) ((u_M_set_b g b t w a1 a2 a3)) t w) := by rw [← eu_g, ← eu_b]; exact hD
        exact W.zret (v := (0 : Int32)) hx hb hr (by decide) (fun tt ht hW => ⟨⟨(0 : Int32), (), rfl, (by unfold f_M_set; rw [if_neg c_1, if_neg c_2, if_neg c_3]), by rw [ht]; exact hP9, hD9⟩, hS.F ht⟩) hS.2.2 dM_set_24
end
section
set_option maxHeartbeats 4000000 in
set_option maxRecDepth 100000 in
theorem c_M_load (l : Launch) (dC : Nat → ClassId) (dI : Nat → Nat → Nat) (h0 q1 q2 q3 q4 : Nat) (k1 k2 k3 k4 : ClassId) (sz : Nat) (g b t w : Nat → Int32) (a1 a2 a3 : Int32) : Met l yM_load wsM_load ({ frames := 2, cells := 0, slots := 0, locals := 43 }) (va_Pc [.ref h0, .int a1, .int a2, .int a3] (fun U => U.heap.size = sz ∧ va_P (dC, dI) vwCl (wsM h0 q1 q2 q3 q4 k1 k2 k3 k4 g b t w) U.heap ∧ va_K (dC, dI) vwCl [(k1, .boolean), (k2, .int), (k3, .int), (k4, .int)] U ∧ va_D (fun _ => True) (wsM h0 q1 q2 q3 q4 k1 k2 k3 k4 g b t w))) (va_Qi (fun (r : Int32) (_ : Unit) => r = f_M_load g b t w a1 a2 a3) (fun _ tt => va_P (dC, dI) vwCl (wsM h0 q1 q2 q3 q4 k1 k2 k3 k4 ((u_M_load_g g b t w a1 a2 a3)) ((u_M_load_b g b t w a1 a2 a3)) t ((u_M_load_w g b t w a1 a2 a3))) tt.heap ∧ va_D (va_A (wsM h0 q1 q2 q3 q4 k1 k2 k3 k4 g b t w) sz) (wsM h0 q1 q2 q3 q4 k1 k2 k3 k4 ((u_M_load_g g b t w a1 a2 a3)) ((u_M_load_b g b t w a1 a2 a3)) t ((u_M_load_w g b t w a1 a2 a3)))) (va_A (wsM h0 q1 q2 q3 q4 k1 k2 k3 k4 g b t w) sz)) 0 0 (va_A (wsM h0 q1 q2 q3 q4 k1 k2 k3 k4 g b t w) sz) := by
  refine Met.ofW (cc := prog_3_method_11_code) (maxL := 6) (ret := (some .boolean)) (by decide) rfl ?_
  intro p e s m args below meth c s₁ B hml hv
  obtain ⟨rfl, hsz, hP, hK, hD0⟩ := hv
  have hx := B.exec
  have hb := B.bytes
  have hr := B.returns
  have hts := fun (w : Cond) (h : w ∈ gw) => atoms_spec (ws := wsM_load) B.pre w (List.mem_cons_of_mem _ h)
  have hown : s.vm.findClass RM = some m.cls := findClass_of_methodNamed B.named
  have hlocks := B.notSynchronized
  subst hsz
  have hD := hD0.self (sz := s.heap.size)
  generalize hAe : va_A (wsM h0 q1 q2 q3 q4 k1 k2 k3 k4 g b t w) s.heap.size = A at hD ⊢
  have hS : va_S A s.heap s.heap [] := va_S.rf
  have hl := lv_entry ([.ref h0, .int a1, .int a2, .int a3]) (n := 6) (Nat.le_of_ble_eq_true rfl)
  rw [lg_entry_eq]
  generalize (lg_sl ([.ref h0, .int a1, .int a2, .int a3]) ++ List.replicate (6 - (lg_sl ([.ref h0, .int a1, .int a2, .int a3])).length) Slot.unset).toArray = ls at hl ⊢
  have hl : lv_has ls 6 [(0, .ref h0), (1, .int a1), (2, .int a2), (3, .int a3)] := hl
  refine lv_aload_n hx hb dM_load_0 rfl (lv_at hl 0 rfl) ?_
  refine lv_iload_n hx hb dM_load_1 rfl (lv_at hl 1 rfl) ?_
  refine lv_iload_n hx hb dM_load_2 rfl (lv_at hl 2 rfl) ?_
  refine lv_iload_n hx hb dM_load_3 rfl (lv_at hl 3 rfl) ?_
  refine kk_callP (va_runV (As := [.int a1, .int a2, .int a3]) (rest := []) ⟨hx, hb, hml, hown, hts⟩ (c_M_may l h0 a1 a2 a3) (cwV 3 hts (gV tw_255 tw_257 tw_p1 tw_2 tw_258) rfl rfl rfl (by decide +kernel) ⟨Nat.le_of_ble_eq_true rfl, Nat.le_of_ble_eq_true rfl⟩) ⟨fun _ _ _ _ q => q, va_recv hK hP (ci := 1) (q0 := 0) rfl rfl, fun _ _ _ => ⟨rfl, trivial⟩⟩ rfl rfl hl.1 rfl (lv_room (Nat.le_of_ble_eq_true rfl)) dM_load_4 ⟨Nat.le_of_ble_eq_true rfl, Nat.le_of_ble_eq_true rfl⟩) hS hP (fun H locs hS hP => ?_)
  refine lv_if_ne (tgt := 12) hx hb dM_load_7 (by decide) (fun c_1 => ?_) (fun c_1 => ?_)
  · refine lv_iconst (v := (1 : Int32)) hx hb dM_load_12 (by decide) ?_
    refine lv_istore (lv' := [(4, .int (1 : Int32)), (0, .ref h0), (1, .int a1), (2, .int a2), (3, .int a3)]) hx hb dM_load_13 hl (by decide) rfl (fun ls hl => ?_)
    refine lv_iload hx hb dM_load_15 (lv_at hl 0 rfl) ?_
    refine lv_bipush (v := (6 : Int32)) hx hb dM_load_17 (by decide) ?_
    refine lv_icmp_ge (tgt := 71) hx hb dM_load_19 (by decide) (fun c0 => absurd c0 (by decide)) (fun _ => ?_)
    refine lv_iload hx hb dM_load_22 (lv_at hl 0 rfl) ?_
    refine lv_iconst (v := (5 : Int32)) hx hb dM_load_24 (by decide) ?_
    refine lv_isub hx hb dM_load_25 ?_
    refine lv_iload_n hx hb dM_load_26 rfl (lv_at hl 4 rfl) ?_
    refine lv_bipush (v := (8 : Int32)) hx hb dM_load_27 (by decide) ?_
    refine lv_irem hx hb dM_load_29 (by decide) ?_
    refine lv_iadd hx hb dM_load_30 ?_
    refine lv_topi (fun x_2 ex_2 => ?_)
    refine lv_istore (lv' := [(5, .int x_2), (4, .int (1 : Int32)), (0, .ref h0), (1, .int a1), (2, .int a2), (3, .int a3)]) hx hb dM_load_31 hl (by decide) rfl (fun ls hl => ?_)
    refine lv_aload_n hx hb dM_load_33 rfl (lv_at hl 2 rfl) ?_
    refine va_get (D := (dC, dI)) (ci := 1) (v := .ref q4) (C := RM) (T := TM) (N := 4) hx hb hts iM hown hK hP 0 rfl rfl 3 (by decide) (hts _ tw_217) (fun _ h9 => h9) rfl dM_load_34 ?_
    refine lv_iload hx hb dM_load_37 (lv_at hl 1 rfl) ?_
    refine lv_iload hx hb dM_load_39 (lv_at hl 0 rfl) ?_
    refine lv_iload_n hx hb dM_load_41 rfl (lv_at hl 5 rfl) ?_
    refine kk_callP (va_runS (As := [.int a3]) (rest := [.int x_2, .int (1 : Int32), .ref q4]) ⟨hx, hb, hml, hown, hts⟩ (c_M_first l a3) (va_cwS 1 hts (gS tw_262 tw_263 tw_2 tw_264) rfl rfl rfl (by decide +kernel) ⟨Nat.le_of_ble_eq_true rfl, Nat.le_of_ble_eq_true rfl⟩) ⟨fun _ _ _ _ q => q, fun _ _ _ => ⟨rfl, trivial⟩⟩ rfl rfl hl.1 rfl (lv_room (Nat.le_of_ble_eq_true rfl)) dM_load_42 ⟨Nat.le_of_ble_eq_true rfl, Nat.le_of_ble_eq_true rfl⟩) hS hP (fun H locs hS hP => ?_)
    refine kk_mrg (pc' := 64) (ls' := ls) (rest' := [.int (1 : Int32), .ref q4]) (x := (if x_2 < (f_M_first a3) then (0 : Int32) else (b (((6 : Int32) * a2) + x_2).toNatClampNeg))) (fun hk_3 => ?_) (fun v_5 ev_5 => ?_)
    · refine lv_icmp_lt (tgt := 63) hx hb dM_load_45 (by decide) (fun c_4 => ?_) (fun c_4 => ?_)
      · refine lv_iconst (v := (0 : Int32)) hx hb dM_load_63 (by decide) ?_
        exact hk_3 _ (by rw [if_pos c_4])
      · refine lv_aload_n hx hb dM_load_48 rfl (lv_at hl 2 rfl) ?_
        refine va_get (D := (dC, dI)) (ci := 1) (v := .ref q2) (C := RM) (T := TM) (N := 4) hx hb hts iM hown hK hP 0 rfl rfl 1 (by decide) (hts _ tw_215) (fun _ h9 => h9) rfl dM_load_49 ?_
        refine lv_bipush (v := (6 : Int32)) hx hb dM_load_52 (by decide) ?_
        refine lv_iload_n hx hb dM_load_54 rfl (lv_at hl 4 rfl) ?_
        refine lv_imul hx hb dM_load_55 ?_
        refine lv_iload hx hb dM_load_56 (lv_at hl 0 rfl) ?_
        refine lv_iadd hx hb dM_load_58 ?_
        refine va_iald hx hb hK hP 2 1 rfl rfl (in_96L c_1 (by unfold vp_in; decide) ex_2 c_4) dM_load_59 ?_
        refine lv_goto (tgt := 64) hx hb dM_load_60 (by decide) ?_
        exact hk_3 _ (by rw [if_neg c_4])
    refine va_iast hx hb hK hP hD hS 4 3 rfl rfl (by unfold vp_in; decide) dM_load_64 (fun H locs hP hD hS => ?_)
    have hP : va_P (dC, dI) vwCl (wsM h0 q1 q2 q3 q4 k1 k2 k3 k4 g b t (upd w 1 v_5)) H := hP
    have hD : va_D A (wsM h0 q1 q2 q3 q4 k1 k2 k3 k4 g b t (upd w 1 v_5)) := hD
    refine lv_iinc (v := (2 : Int32)) (lv' := [(4, .int (2 : Int32)), (5, .int x_2), (0, .ref h0), (1, .int a1), (2, .int a2), (3, .int a3)]) hx hb dM_load_65 hl (k := 1) rfl (by decide) (by decide) rfl (fun ls hl => ?_)
    refine lv_goto (tgt := 15) hx hb dM_load_68 (by decide) ?_
    refine lv_iload hx hb dM_load_15 (lv_at hl 0 rfl) ?_
    refine lv_bipush (v := (6 : Int32)) hx hb dM_load_17 (by decide) ?_
    refine lv_icmp_ge (tgt := 71) hx hb dM_load_19 (by decide) (fun c0 => absurd c0 (by decide)) (fun _ => ?_)
    refine lv_iload hx hb dM_load_22 (lv_at hl 0 rfl) ?_
    refine lv_iconst (v := (5 : Int32)) hx hb dM_load_24 (by decide) ?_
    refine lv_isub hx hb dM_load_25 ?_
    refine lv_iload_n hx hb dM_load_26 rfl (lv_at hl 5 rfl) ?_
    refine lv_bipush (v := (8 : Int32)) hx hb dM_load_27 (by decide) ?_
    refine lv_irem hx hb dM_load_29 (by decide) ?_
    refine lv_iadd hx hb dM_load_30 ?_
    refine lv_topi (fun x_6 ex_6 => ?_)
    refine lv_istore (lv' := [(5, .int x_6), (4, .int (2 : Int32)), (0, .ref h0), (1, .int a1), (2, .int a2), (3, .int a3)]) hx hb dM_load_31 hl (by decide) rfl (fun ls hl => ?_)
    refine lv_aload_n hx hb dM_load_33 rfl (lv_at hl 2 rfl) ?_
    refine va_get (D := (dC, dI)) (ci := 1) (v := .ref q4) (C := RM) (T := TM) (N := 4) hx hb hts iM hown hK hP 0 rfl rfl 3 (by decide) (hts _ tw_217) (fun _ h9 => h9) rfl dM_load_34 ?_
    refine lv_iload hx hb dM_load_37 (lv_at hl 1 rfl) ?_
    refine lv_iload hx hb dM_load_39 (lv_at hl 0 rfl) ?_
    refine lv_iload_n hx hb dM_load_41 rfl (lv_at hl 5 rfl) ?_
    refine kk_callP (va_runS (As := [.int a3]) (rest := [.int x_6, .int (2 : Int32), .ref q4]) ⟨hx, hb, hml, hown, hts⟩ (c_M_first l a3) (va_cwS 1 hts (gS tw_262 tw_263 tw_2 tw_264) rfl rfl rfl (by decide +kernel) ⟨Nat.le_of_ble_eq_true rfl, Nat.le_of_ble_eq_true rfl⟩) ⟨fun _ _ _ _ q => q, fun _ _ _ => ⟨rfl, trivial⟩⟩ rfl rfl hl.1 rfl (lv_room (Nat.le_of_ble_eq_true rfl)) dM_load_42 ⟨Nat.le_of_ble_eq_true rfl, Nat.le_of_ble_eq_true rfl⟩) hS hP (fun H locs hS hP => ?_)
    refine kk_mrg (pc' := 64) (ls' := ls) (rest' := [.int (2 : Int32), .ref q4]) (x := (if x_6 < (f_M_first a3) then (0 : Int32) else (b (((6 : Int32) * a2) + x_6).toNatClampNeg))) (fun hk_7 => ?_) (fun v_9 ev_9 => ?_)
    · refine lv_icmp_lt (tgt := 63) hx hb dM_load_45 (by decide) (fun c_8 => ?_) (fun c_8 => ?_)
      · refine lv_iconst (v := (0 : Int32)) hx hb dM_load_63 (by decide) ?_
        exact hk_7 _ (by rw [if_pos c_8])
      · refine lv_aload_n hx hb dM_load_48 rfl (lv_at hl 2 rfl) ?_
        refine va_get (D := (dC, dI)) (ci := 1) (v := .ref q2) (C := RM) (T := TM) (N := 4) hx hb hts iM hown hK hP 0 rfl rfl 1 (by decide) (hts _ tw_215) (fun _ h9 => h9) rfl dM_load_49 ?_
        refine lv_bipush (v := (6 : Int32)) hx hb dM_load_52 (by decide) ?_
        refine lv_iload_n hx hb dM_load_54 rfl (lv_at hl 4 rfl) ?_
        refine lv_imul hx hb dM_load_55 ?_
        refine lv_iload hx hb dM_load_56 (lv_at hl 0 rfl) ?_
        refine lv_iadd hx hb dM_load_58 ?_
        refine va_iald hx hb hK hP 2 1 rfl rfl (in_96L c_1 (by unfold vp_in; decide) ex_6 c_8) dM_load_59 ?_
        refine lv_goto (tgt := 64) hx hb dM_load_60 (by decide) ?_
        exact hk_7 _ (by rw [if_neg c_8])
    refine va_iast hx hb hK hP hD hS 4 3 rfl rfl (by unfold vp_in; decide) dM_load_64 (fun H locs hP hD hS => ?_)
    have hP : va_P (dC, dI) vwCl (wsM h0 q1 q2 q3 q4 k1 k2 k3 k4 g b t (upd (upd w 1 v_5) 2 v_9)) H := hP
    have hD : va_D A (wsM h0 q1 q2 q3 q4 k1 k2 k3 k4 g b t (upd (upd w 1 v_5) 2 v_9)) := hD
    refine lv_iinc (v := (3 : Int32)) (lv' := [(4, .int (3 : Int32)), (5, .int x_6), (0, .ref h0), (1, .int a1), (2, .int a2), (3, .int a3)]) hx hb dM_load_65 hl (k := 1) rfl (by decide) (by decide) rfl (fun ls hl => ?_)
    refine lv_goto (tgt := 15) hx hb dM_load_68 (by decide) ?_
    refine lv_iload hx hb dM_load_15 (lv_at hl 0 rfl) ?_
    refine lv_bipush (v := (6 : Int32)) hx hb dM_load_17 (by decide) ?_
    refine lv_icmp_ge (tgt := 71) hx hb dM_load_19 (by decide) (fun c0 => absurd c0 (by decide)) (fun _ => ?_)
    refine lv_iload hx hb dM_load_22 (lv_at hl 0 rfl) ?_
    refine lv_iconst (v := (5 : Int32)) hx hb dM_load_24 (by decide) ?_
    refine lv_isub hx hb dM_load_25 ?_
    refine lv_iload_n hx hb dM_load_26 rfl (lv_at hl 5 rfl) ?_
    refine lv_bipush (v := (8 : Int32)) hx hb dM_load_27 (by decide) ?_
    refine lv_irem hx hb dM_load_29 (by decide) ?_
    refine lv_iadd hx hb dM_load_30 ?_
    refine lv_topi (fun x_10 ex_10 => ?_)
    refine lv_istore (lv' := [(5, .int x_10), (4, .int (3 : Int32)), (0, .ref h0), (1, .int a1), (2, .int a2), (3, .int a3)]) hx hb dM_load_31 hl (by decide) rfl (fun ls hl => ?_)
    refine lv_aload_n hx hb dM_load_33 rfl (lv_at hl 2 rfl) ?_
    refine va_get (D := (dC, dI)) (ci := 1) (v := .ref q4) (C := RM) (T := TM) (N := 4) hx hb hts iM hown hK hP 0 rfl rfl 3 (by decide) (hts _ tw_217) (fun _ h9 => h9) rfl dM_load_34 ?_
    refine lv_iload hx hb dM_load_37 (lv_at hl 1 rfl) ?_
    refine lv_iload hx hb dM_load_39 (lv_at hl 0 rfl) ?_
    refine lv_iload_n hx hb dM_load_41 rfl (lv_at hl 5 rfl) ?_
    refine kk_callP (va_runS (As := [.int a3]) (rest := [.int x_10, .int (3 : Int32), .ref q4]) ⟨hx, hb, hml, hown, hts⟩ (c_M_first l a3) (va_cwS 1 hts (gS tw_262 tw_263 tw_2 tw_264) rfl rfl rfl (by decide +kernel) ⟨Nat.le_of_ble_eq_true rfl, Nat.le_of_ble_eq_true rfl⟩) ⟨fun _ _ _ _ q => q, fun _ _ _ => ⟨rfl, trivial⟩⟩ rfl rfl hl.1 rfl (lv_room (Nat.le_of_ble_eq_true rfl)) dM_load_42 ⟨Nat.le_of_ble_eq_true rfl, Nat.le_of_ble_eq_true rfl⟩) hS hP (fun H locs hS hP => ?_)
    refine kk_mrg (pc' := 64) (ls' := ls) (rest' := [.int (3 : Int32), .ref q4]) (x := (if x_10 < (f_M_first a3) then (0 : Int32) else (b (((6 : Int32) * a2) + x_10).toNatClampNeg))) (fun hk_11 => ?_) (fun v_13 ev_13 => ?_)
    · refine lv_icmp_lt (tgt := 63) hx hb dM_load_45 (by decide) (fun c_12 => ?_) (fun c_12 => ?_)
      · refine lv_iconst (v := (0 : Int32)) hx hb dM_load_63 (by decide) ?_
        exact hk_11 _ (by rw [if_pos c_12])
      · refine lv_aload_n hx hb dM_load_48 rfl (lv_at hl 2 rfl) ?_
        refine va_get (D := (dC, dI)) (ci := 1) (v := .ref q2) (C := RM) (T := TM) (N := 4) hx hb hts iM hown hK hP 0 rfl rfl 1 (by decide) (hts _ tw_215) (fun _ h9 => h9) rfl dM_load_49 ?_
        refine lv_bipush (v := (6 : Int32)) hx hb dM_load_52 (by decide) ?_
        refine lv_iload_n hx hb dM_load_54 rfl (lv_at hl 4 rfl) ?_
        refine lv_imul hx hb dM_load_55 ?_
        refine lv_iload hx hb dM_load_56 (lv_at hl 0 rfl) ?_
        refine lv_iadd hx hb dM_load_58 ?_
        refine va_iald hx hb hK hP 2 1 rfl rfl (in_96L c_1 (by unfold vp_in; decide) ex_10 c_12) dM_load_59 ?_
        refine lv_goto (tgt := 64) hx hb dM_load_60 (by decide) ?_
        exact hk_11 _ (by rw [if_neg c_12])
    refine va_iast hx hb hK hP hD hS 4 3 rfl rfl (by unfold vp_in; decide) dM_load_64 (fun H locs hP hD hS => ?_)
    have hP : va_P (dC, dI) vwCl (wsM h0 q1 q2 q3 q4 k1 k2 k3 k4 g b t (upd (upd (upd w 1 v_5) 2 v_9) 3 v_13)) H := hP
    have hD : va_D A (wsM h0 q1 q2 q3 q4 k1 k2 k3 k4 g b t (upd (upd (upd w 1 v_5) 2 v_9) 3 v_13)) := hD
    refine lv_iinc (v := (4 : Int32)) (lv' := [(4, .int (4 : Int32)), (5, .int x_10), (0, .ref h0), (1, .int a1), (2, .int a2), (3, .int a3)]) hx hb dM_load_65 hl (k := 1) rfl (by decide) (by decide) rfl (fun ls hl => ?_)
    refine lv_goto (tgt := 15) hx hb dM_load_68 (by decide) ?_
    refine lv_iload hx hb dM_load_15 (lv_at hl 0 rfl) ?_
    refine lv_bipush (v := (6 : Int32)) hx hb dM_load_17 (by decide) ?_
    refine lv_icmp_ge (tgt := 71) hx hb dM_load_19 (by decide) (fun c0 => absurd c0 (by decide)) (fun _ => ?_)
    refine lv_iload hx hb dM_load_22 (lv_at hl 0 rfl) ?_
    refine lv_iconst (v := (5 : Int32)) hx hb dM_load_24 (by decide) ?_
    refine lv_isub hx hb dM_load_25 ?_
    refine lv_iload_n hx hb dM_load_26 rfl (lv_at hl 5 rfl) ?_
    refine lv_bipush (v := (8 : Int32)) hx hb dM_load_27 (by decide) ?_
    refine lv_irem hx hb dM_load_29 (by decide) ?_
    refine lv_iadd hx hb dM_load_30 ?_
    refine lv_topi (fun x_14 ex_14 => ?_)
    refine lv_istore (lv' := [(5, .int x_14), (4, .int (4 : Int32)), (0, .ref h0), (1, .int a1), (2, .int a2), (3, .int a3)]) hx hb dM_load_31 hl (by decide) rfl (fun ls hl => ?_)
    refine lv_aload_n hx hb dM_load_33 rfl (lv_at hl 2 rfl) ?_
    refine va_get (D := (dC, dI)) (ci := 1) (v := .ref q4) (C := RM) (T := TM) (N := 4) hx hb hts iM hown hK hP 0 rfl rfl 3 (by decide) (hts _ tw_217) (fun _ h9 => h9) rfl dM_load_34 ?_
    refine lv_iload hx hb dM_load_37 (lv_at hl 1 rfl) ?_
    refine lv_iload hx hb dM_load_39 (lv_at hl 0 rfl) ?_
    refine lv_iload_n hx hb dM_load_41 rfl (lv_at hl 5 rfl) ?_
    refine kk_callP (va_runS (As := [.int a3]) (rest := [.int x_14, .int (4 : Int32), .ref q4]) ⟨hx, hb, hml, hown, hts⟩ (c_M_first l a3) (va_cwS 1 hts (gS tw_262 tw_263 tw_2 tw_264) rfl rfl rfl (by decide +kernel) ⟨Nat.le_of_ble_eq_true rfl, Nat.le_of_ble_eq_true rfl⟩) ⟨fun _ _ _ _ q => q, fun _ _ _ => ⟨rfl, trivial⟩⟩ rfl rfl hl.1 rfl (lv_room (Nat.le_of_ble_eq_true rfl)) dM_load_42 ⟨Nat.le_of_ble_eq_true rfl, Nat.le_of_ble_eq_true rfl⟩) hS hP (fun H locs hS hP => ?_)
    refine kk_mrg (pc' := 64) (ls' := ls) (rest' := [.int (4 : Int32), .ref q4]) (x := (if x_14 < (f_M_first a3) then (0 : Int32) else (b (((6 : Int32) * a2) + x_14).toNatClampNeg))) (fun hk_15 => ?_) (fun v_17 ev_17 => ?_)
    · refine lv_icmp_lt (tgt := 63) hx hb dM_load_45 (by decide) (fun c_16 => ?_) (fun c_16 => ?_)
      · refine lv_iconst (v := (0 : Int32)) hx hb dM_load_63 (by decide) ?_
        exact hk_15 _ (by rw [if_pos c_16])
      · refine lv_aload_n hx hb dM_load_48 rfl (lv_at hl 2 rfl) ?_
        refine va_get (D := (dC, dI)) (ci := 1) (v := .ref q2) (C := RM) (T := TM) (N := 4) hx hb hts iM hown hK hP 0 rfl rfl 1 (by decide) (hts _ tw_215) (fun _ h9 => h9) rfl dM_load_49 ?_
        refine lv_bipush (v := (6 : Int32)) hx hb dM_load_52 (by decide) ?_
        refine lv_iload_n hx hb dM_load_54 rfl (lv_at hl 4 rfl) ?_
        refine lv_imul hx hb dM_load_55 ?_
        refine lv_iload hx hb dM_load_56 (lv_at hl 0 rfl) ?_
        refine lv_iadd hx hb dM_load_58 ?_
        refine va_iald hx hb hK hP 2 1 rfl rfl (in_96L c_1 (by unfold vp_in; decide) ex_14 c_16) dM_load_59 ?_
        refine lv_goto (tgt := 64) hx hb dM_load_60 (by decide) ?_
        exact hk_15 _ (by rw [if_neg c_16])
    refine va_iast hx hb hK hP hD hS 4 3 rfl rfl (by unfold vp_in; decide) dM_load_64 (fun H locs hP hD hS => ?_)
    have hP : va_P (dC, dI) vwCl (wsM h0 q1 q2 q3 q4 k1 k2 k3 k4 g b t (upd (upd (upd (upd w 1 v_5) 2 v_9) 3 v_13) 4 v_17)) H := hP
    have hD : va_D A (wsM h0 q1 q2 q3 q4 k1 k2 k3 k4 g b t (upd (upd (upd (upd w 1 v_5) 2 v_9) 3 v_13) 4 v_17)) := hD
    refine lv_iinc (v := (5 : Int32)) (lv' := [(4, .int (5 : Int32)), (5, .int x_14), (0, .ref h0), (1, .int a1), (2, .int a2), (3, .int a3)]) hx hb dM_load_65 hl (k := 1) rfl (by decide) (by decide) rfl (fun ls hl => ?_)
    refine lv_goto (tgt := 15) hx hb dM_load_68 (by decide) ?_
    refine lv_iload hx hb dM_load_15 (lv_at hl 0 rfl) ?_
    refine lv_bipush (v := (6 : Int32)) hx hb dM_load_17 (by decide) ?_
    refine lv_icmp_ge (tgt := 71) hx hb dM_load_19 (by decide) (fun c0 => absurd c0 (by decide)) (fun _ => ?_)
    refine lv_iload hx hb dM_load_22 (lv_at hl 0 rfl) ?_
    refine lv_iconst (v := (5 : Int32)) hx hb dM_load_24 (by decide) ?_
    refine lv_isub hx hb dM_load_25 ?_
    refine lv_iload_n hx hb dM_load_26 rfl (lv_at hl 5 rfl) ?_
    refine lv_bipush (v := (8 : Int32)) hx hb dM_load_27 (by decide) ?_
    refine lv_irem hx hb dM_load_29 (by decide) ?_
    refine lv_iadd hx hb dM_load_30 ?_
    refine lv_topi (fun x_18 ex_18 => ?_)
    refine lv_istore (lv' := [(5, .int x_18), (4, .int (5 : Int32)), (0, .ref h0), (1, .int a1), (2, .int a2), (3, .int a3)]) hx hb dM_load_31 hl (by decide) rfl (fun ls hl => ?_)
    refine lv_aload_n hx hb dM_load_33 rfl (lv_at hl 2 rfl) ?_
    refine va_get (D := (dC, dI)) (ci := 1) (v := .ref q4) (C := RM) (T := TM) (N := 4) hx hb hts iM hown hK hP 0 rfl rfl 3 (by decide) (hts _ tw_217) (fun _ h9 => h9) rfl dM_load_34 ?_
    refine lv_iload hx hb dM_load_37 (lv_at hl 1 rfl) ?_
    refine lv_iload hx hb dM_load_39 (lv_at hl 0 rfl) ?_
    refine lv_iload_n hx hb dM_load_41 rfl (lv_at hl 5 rfl) ?_
    refine kk_callP (va_runS (As := [.int a3]) (rest := [.int x_18, .int (5 : Int32), .ref q4]) ⟨hx, hb, hml, hown, hts⟩ (c_M_first l a3) (va_cwS 1 hts (gS tw_262 tw_263 tw_2 tw_264) rfl rfl rfl (by decide +kernel) ⟨Nat.le_of_ble_eq_true rfl, Nat.le_of_ble_eq_true rfl⟩) ⟨fun _ _ _ _ q => q, fun _ _ _ => ⟨rfl, trivial⟩⟩ rfl rfl hl.1 rfl (lv_room (Nat.le_of_ble_eq_true rfl)) dM_load_42 ⟨Nat.le_of_ble_eq_true rfl, Nat.le_of_ble_eq_true rfl⟩) hS hP (fun H locs hS hP => ?_)
    refine kk_mrg (pc' := 64) (ls' := ls) (rest' := [.int (5 : Int32), .ref q4]) (x := (if x_18 < (f_M_first a3) then (0 : Int32) else (b (((6 : Int32) * a2) + x_18).toNatClampNeg))) (fun hk_19 => ?_) (fun v_21 ev_21 => ?_)
    · refine lv_icmp_lt (tgt := 63) hx hb dM_load_45 (by decide) (fun c_20 => ?_) (fun c_20 => ?_)
      · refine lv_iconst (v := (0 : Int32)) hx hb dM_load_63 (by decide) ?_
        exact hk_19 _ (by rw [if_pos c_20])
      · refine lv_aload_n hx hb dM_load_48 rfl (lv_at hl 2 rfl) ?_
        refine va_get (D := (dC, dI)) (ci := 1) (v := .ref q2) (C := RM) (T := TM) (N := 4) hx hb hts iM hown hK hP 0 rfl rfl 1 (by decide) (hts _ tw_215) (fun _ h9 => h9) rfl dM_load_49 ?_
        refine lv_bipush (v := (6 : Int32)) hx hb dM_load_52 (by decide) ?_
        refine lv_iload_n hx hb dM_load_54 rfl (lv_at hl 4 rfl) ?_
        refine lv_imul hx hb dM_load_55 ?_
        refine lv_iload hx hb dM_load_56 (lv_at hl 0 rfl) ?_
        refine lv_iadd hx hb dM_load_58 ?_
        refine va_iald hx hb hK hP 2 1 rfl rfl (in_96L c_1 (by unfold vp_in; decide) ex_18 c_20) dM_load_59 ?_
        refine lv_goto (tgt := 64) hx hb dM_load_60 (by decide) ?_
        exact hk_19 _ (by rw [if_neg c_20])
    refine va_iast hx hb hK hP hD hS 4 3 rfl rfl (by unfold vp_in; decide) dM_load_64 (fun H locs hP hD hS => ?_)
    have hP : va_P (dC, dI) vwCl (wsM h0 q1 q2 q3 q4 k1 k2 k3 k4 g b t (upd (upd (upd (upd (upd w 1 v_5) 2 v_9) 3 v_13) 4 v_17) 5 v_21)) H := hP
    have hD : va_D A (wsM h0 q1 q2 q3 q4 k1 k2 k3 k4 g b t (upd (upd (upd (upd (upd w 1 v_5) 2 v_9) 3 v_13) 4 v_17) 5 v_21)) := hD
    refine lv_iinc (v := (6 : Int32)) (lv' := [(4, .int (6 : Int32)), (5, .int x_18), (0, .ref h0), (1, .int a1), (2, .int a2), (3, .int a3)]) hx hb dM_load_65 hl (k := 1) rfl (by decide) (by decide) rfl (fun ls hl => ?_)
    refine lv_goto (tgt := 15) hx hb dM_load_68 (by decide) ?_
    refine lv_iload hx hb dM_load_15 (lv_at hl 0 rfl) ?_
    refine lv_bipush (v := (6 : Int32)) hx hb dM_load_17 (by decide) ?_
    refine lv_icmp_ge (tgt := 71) hx hb dM_load_19 (by decide) (fun _ => ?_) (fun c0 => absurd (by decide) c0)
    refine lv_iconst (v := (1 : Int32)) hx hb dM_load_71 (by decide) ?_
    refine lv_istore (lv' := [(4, .int (1 : Int32)), (5, .int x_18), (0, .ref h0), (1, .int a1), (2, .int a2), (3, .int a3)]) hx hb dM_load_72 hl (by decide) rfl (fun ls hl => ?_)
    refine lv_iload hx hb dM_load_74 (lv_at hl 0 rfl) ?_
    refine lv_bipush (v := (6 : Int32)) hx hb dM_load_76 (by decide) ?_
    refine lv_icmp_ge (tgt := 106) hx hb dM_load_78 (by decide) (fun c0 => absurd c0 (by decide)) (fun _ => ?_)
    refine lv_aload_n hx hb dM_load_81 rfl (lv_at hl 2 rfl) ?_
    refine va_get (D := (dC, dI)) (ci := 1) (v := .ref q2) (C := RM) (T := TM) (N := 4) hx hb hts iM hown hK hP 0 rfl rfl 1 (by decide) (hts _ tw_215) (fun _ h9 => h9) rfl dM_load_82 ?_
    refine lv_bipush (v := (6 : Int32)) hx hb dM_load_85 (by decide) ?_
    refine lv_iload_n hx hb dM_load_87 rfl (lv_at hl 3 rfl) ?_
    refine lv_imul hx hb dM_load_88 ?_
    refine lv_iload hx hb dM_load_89 (lv_at hl 0 rfl) ?_
    refine lv_iadd hx hb dM_load_91 ?_
    refine lv_aload_n hx hb dM_load_92 rfl (lv_at hl 2 rfl) ?_
    refine va_get (D := (dC, dI)) (ci := 1) (v := .ref q4) (C := RM) (T := TM) (N := 4) hx hb hts iM hown hK hP 0 rfl rfl 3 (by decide) (hts _ tw_217) (fun _ h9 => h9) rfl dM_load_93 ?_
    refine lv_iload hx hb dM_load_96 (lv_at hl 0 rfl) ?_
    refine va_iald hx hb hK hP 4 3 rfl rfl (by unfold vp_in; decide) dM_load_98 ?_
    refine kk_top (y := v_5) (by first | rfl | (simp [upd]; done)) ?_
    refine va_iast hx hb hK hP hD hS 2 1 rfl rfl (in_96 (may_1 c_1) (by unfold vp_in; decide)) dM_load_99 (fun H locs hP hD hS => ?_)
    have hP : va_P (dC, dI) vwCl (wsM h0 q1 q2 q3 q4 k1 k2 k3 k4 g (upd b (((6 : Int32) * a1) + (1 : Int32)).toNatClampNeg v_5) t (upd (upd (upd (upd (upd w 1 v_5) 2 v_9) 3 v_13) 4 v_17) 5 v_21)) H := hP
    have hD : va_D A (wsM h0 q1 q2 q3 q4 k1 k2 k3 k4 g (upd b (((6 : Int32) * a1) + (1 : Int32)).toNatClampNeg v_5) t (upd (upd (upd (upd (upd w 1 v_5) 2 v_9) 3 v_13) 4 v_17) 5 v_21)) := hD
    refine lv_iinc (v := (2 : Int32)) (lv' := [(4, .int (2 : Int32)), (5, .int x_18), (0, .ref h0), (1, .int a1), (2, .int a2), (3, .int a3)]) hx hb dM_load_100 hl (k := 0) rfl (by decide) (by decide) rfl (fun ls hl => ?_)
    refine lv_goto (tgt := 74) hx hb dM_load_103 (by decide) ?_
    refine lv_iload hx hb dM_load_74 (lv_at hl 0 rfl) ?_
    refine lv_bipush (v := (6 : Int32)) hx hb dM_load_76 (by decide) ?_
    refine lv_icmp_ge (tgt := 106) hx hb dM_load_78 (by decide) (fun c0 => absurd c0 (by decide)) (fun _ => ?_)
    refine lv_aload_n hx hb dM_load_81 rfl (lv_at hl 2 rfl) ?_
    refine va_get (D := (dC, dI)) (ci := 1) (v := .ref q2) (C := RM) (T := TM) (N := 4) hx hb hts iM hown hK hP 0 rfl rfl 1 (by decide) (hts _ tw_215) (fun _ h9 => h9) rfl dM_load_82 ?_
    refine lv_bipush (v := (6 : Int32)) hx hb dM_load_85 (by decide) ?_
    refine lv_iload_n hx hb dM_load_87 rfl (lv_at hl 3 rfl) ?_
    refine lv_imul hx hb dM_load_88 ?_
    refine lv_iload hx hb dM_load_89 (lv_at hl 0 rfl) ?_
    refine lv_iadd hx hb dM_load_91 ?_
    refine lv_aload_n hx hb dM_load_92 rfl (lv_at hl 2 rfl) ?_
    refine va_get (D := (dC, dI)) (ci := 1) (v := .ref q4) (C := RM) (T := TM) (N := 4) hx hb hts iM hown hK hP 0 rfl rfl 3 (by decide) (hts _ tw_217) (fun _ h9 => h9) rfl dM_load_93 ?_
    refine lv_iload hx hb dM_load_96 (lv_at hl 0 rfl) ?_
    refine va_iald hx hb hK hP 4 3 rfl rfl (by unfold vp_in; decide) dM_load_98 ?_
    refine kk_top (y := v_9) (by first | rfl | (simp [upd]; done)) ?_
    refine va_iast hx hb hK hP hD hS 2 1 rfl rfl (in_96 (may_1 c_1) (by unfold vp_in; decide)) dM_load_99 (fun H locs hP hD hS => ?_)
    have hP : va_P (dC, dI) vwCl (wsM h0 q1 q2 q3 q4 k1 k2 k3 k4 g (upd (upd b (((6 : Int32) * a1) + (1 : Int32)).toNatClampNeg v_5) (((6 : Int32) * a1) + (2 : Int32)).toNatClampNeg v_9) t (upd (upd (upd (upd (upd w 1 v_5) 2 v_9) 3 v_13) 4 v_17) 5 v_21)) H := hP
    have hD : va_D A (wsM h0 q1 q2 q3 q4 k1 k2 k3 k4 g (upd (upd b (((6 : Int32) * a1) + (1 : Int32)).toNatClampNeg v_5) (((6 : Int32) * a1) + (2 : Int32)).toNatClampNeg v_9) t (upd (upd (upd (upd (upd w 1 v_5) 2 v_9) 3 v_13) 4 v_17) 5 v_21)) := hD
    refine lv_iinc (v := (3 : Int32)) (lv' := [(4, .int (3 : Int32)), (5, .int x_18), (0, .ref h0), (1, .int a1), (2, .int a2), (3, .int a3)]) hx hb dM_load_100 hl (k := 0) rfl (by decide) (by decide) rfl (fun ls hl => ?_)
    refine lv_goto (tgt := 74) hx hb dM_load_103 (by decide) ?_
    refine lv_iload hx hb dM_load_74 (lv_at hl 0 rfl) ?_
    refine lv_bipush (v := (6 : Int32)) hx hb dM_load_76 (by decide) ?_
    refine lv_icmp_ge (tgt := 106) hx hb dM_load_78 (by decide) (fun c0 => absurd c0 (by decide)) (fun _ => ?_)
    refine lv_aload_n hx hb dM_load_81 rfl (lv_at hl 2 rfl) ?_
    refine va_get (D := (dC, dI)) (ci := 1) (v := .ref q2) (C := RM) (T := TM) (N := 4) hx hb hts iM hown hK hP 0 rfl rfl 1 (by decide) (hts _ tw_215) (fun _ h9 => h9) rfl dM_load_82 ?_
    refine lv_bipush (v := (6 : Int32)) hx hb dM_load_85 (by decide) ?_
    refine lv_iload_n hx hb dM_load_87 rfl (lv_at hl 3 rfl) ?_
    refine lv_imul hx hb dM_load_88 ?_
    refine lv_iload hx hb dM_load_89 (lv_at hl 0 rfl) ?_
    refine lv_iadd hx hb dM_load_91 ?_
    refine lv_aload_n hx hb dM_load_92 rfl (lv_at hl 2 rfl) ?_
    refine va_get (D := (dC, dI)) (ci := 1) (v := .ref q4) (C := RM) (T := TM) (N := 4) hx hb hts iM hown hK hP 0 rfl rfl 3 (by decide) (hts _ tw_217) (fun _ h9 => h9) rfl dM_load_93 ?_
    refine lv_iload hx hb dM_load_96 (lv_at hl 0 rfl) ?_
    refine va_iald hx hb hK hP 4 3 rfl rfl (by unfold vp_in; decide) dM_load_98 ?_
    refine kk_top (y := v_13) (by first | rfl | (simp [upd]; done)) ?_
    refine va_iast hx hb hK hP hD hS 2 1 rfl rfl (in_96 (may_1 c_1) (by unfold vp_in; decide)) dM_load_99 (fun H locs hP hD hS => ?_)
    have hP : va_P (dC, dI) vwCl (wsM h0 q1 q2 q3 q4 k1 k2 k3 k4 g (upd (upd (upd b (((6 : Int32) * a1) + (1 : Int32)).toNatClampNeg v_5) (((6 : Int32) * a1) + (2 : Int32)).toNatClampNeg v_9) (((6 : Int32) * a1) + (3 : Int32)).toNatClampNeg v_13) t (upd (upd (upd (upd (upd w 1 v_5) 2 v_9) 3 v_13) 4 v_17) 5 v_21)) H := hP
    have hD : va_D A (wsM h0 q1 q2 q3 q4 k1 k2 k3 k4 g (upd (upd (upd b (((6 : Int32) * a1) + (1 : Int32)).toNatClampNeg v_5) (((6 : Int32) * a1) + (2 : Int32)).toNatClampNeg v_9) (((6 : Int32) * a1) + (3 : Int32)).toNatClampNeg v_13) t (upd (upd (upd (upd (upd w 1 v_5) 2 v_9) 3 v_13) 4 v_17) 5 v_21)) := hD
    refine lv_iinc (v := (4 : Int32)) (lv' := [(4, .int (4 : Int32)), (5, .int x_18), (0, .ref h0), (1, .int a1), (2, .int a2), (3, .int a3)]) hx hb dM_load_100 hl (k := 0) rfl (by decide) (by decide) rfl (fun ls hl => ?_)
    refine lv_goto (tgt := 74) hx hb dM_load_103 (by decide) ?_
    refine lv_iload hx hb dM_load_74 (lv_at hl 0 rfl) ?_
    refine lv_bipush (v := (6 : Int32)) hx hb dM_load_76 (by decide) ?_
    refine lv_icmp_ge (tgt := 106) hx hb dM_load_78 (by decide) (fun c0 => absurd c0 (by decide)) (fun _ => ?_)
    refine lv_aload_n hx hb dM_load_81 rfl (lv_at hl 2 rfl) ?_
    refine va_get (D := (dC, dI)) (ci := 1) (v := .ref q2) (C := RM) (T := TM) (N := 4) hx hb hts iM hown hK hP 0 rfl rfl 1 (by decide) (hts _ tw_215) (fun _ h9 => h9) rfl dM_load_82 ?_
    refine lv_bipush (v := (6 : Int32)) hx hb dM_load_85 (by decide) ?_
    refine lv_iload_n hx hb dM_load_87 rfl (lv_at hl 3 rfl) ?_
    refine lv_imul hx hb dM_load_88 ?_
    refine lv_iload hx hb dM_load_89 (lv_at hl 0 rfl) ?_
    refine lv_iadd hx hb dM_load_91 ?_
    refine lv_aload_n hx hb dM_load_92 rfl (lv_at hl 2 rfl) ?_
    refine va_get (D := (dC, dI)) (ci := 1) (v := .ref q4) (C := RM) (T := TM) (N := 4) hx hb hts iM hown hK hP 0 rfl rfl 3 (by decide) (hts _ tw_217) (fun _ h9 => h9) rfl dM_load_93 ?_
    refine lv_iload hx hb dM_load_96 (lv_at hl 0 rfl) ?_
    refine va_iald hx hb hK hP 4 3 rfl rfl (by unfold vp_in; decide) dM_load_98 ?_
    refine kk_top (y := v_17) (by first | rfl | (simp [upd]; done)) ?_
    refine va_iast hx hb hK hP hD hS 2 1 rfl rfl (in_96 (may_1 c_1) (by unfold vp_in; decide)) dM_load_99 (fun H locs hP hD hS => ?_)
    have hP : va_P (dC, dI) vwCl (wsM h0 q1 q2 q3 q4 k1 k2 k3 k4 g (upd (upd (upd (upd b (((6 : Int32) * a1) + (1 : Int32)).toNatClampNeg v_5) (((6 : Int32) * a1) + (2 : Int32)).toNatClampNeg v_9) (((6 : Int32) * a1) + (3 : Int32)).toNatClampNeg v_13) (((6 : Int32) * a1) + (4 : Int32)).toNatClampNeg v_17) t (upd (upd (upd (upd (upd w 1 v_5) 2 v_9) 3 v_13) 4 v_17) 5 v_21)) H := hP
    have hD : va_D A (wsM h0 q1 q2 q3 q4 k1 k2 k3 k4 g (upd (upd (upd (upd b (((6 : Int32) * a1) + (1 : Int32)).toNatClampNeg v_5) (((6 : Int32) * a1) + (2 : Int32)).toNatClampNeg v_9) (((6 : Int32) * a1) + (3 : Int32)).toNatClampNeg v_13) (((6 : Int32) * a1) + (4 : Int32)).toNatClampNeg v_17) t (upd (upd (upd (upd (upd w 1 v_5) 2 v_9) 3 v_13) 4 v_17) 5 v_21)) := hD
    refine lv_iinc (v := (5 : Int32)) (lv' := [(4, .int (5 : Int32)), (5, .int x_18), (0, .ref h0), (1, .int a1), (2, .int a2), (3, .int a3)]) hx hb dM_load_100 hl (k := 0) rfl (by decide) (by decide) rfl (fun ls hl => ?_)
    refine lv_goto (tgt := 74) hx hb dM_load_103 (by decide) ?_
    refine lv_iload hx hb dM_load_74 (lv_at hl 0 rfl) ?_
    refine lv_bipush (v := (6 : Int32)) hx hb dM_load_76 (by decide) ?_
    refine lv_icmp_ge (tgt := 106) hx hb dM_load_78 (by decide) (fun c0 => absurd c0 (by decide)) (fun _ => ?_)
    refine lv_aload_n hx hb dM_load_81 rfl (lv_at hl 2 rfl) ?_
    refine va_get (D := (dC, dI)) (ci := 1) (v := .ref q2) (C := RM) (T := TM) (N := 4) hx hb hts iM hown hK hP 0 rfl rfl 1 (by decide) (hts _ tw_215) (fun _ h9 => h9) rfl dM_load_82 ?_
    refine lv_bipush (v := (6 : Int32)) hx hb dM_load_85 (by decide) ?_
    refine lv_iload_n hx hb dM_load_87 rfl (lv_at hl 3 rfl) ?_
    refine lv_imul hx hb dM_load_88 ?_
    refine lv_iload hx hb dM_load_89 (lv_at hl 0 rfl) ?_
    refine lv_iadd hx hb dM_load_91 ?_
    refine lv_aload_n hx hb dM_load_92 rfl (lv_at hl 2 rfl) ?_
    refine va_get (D := (dC, dI)) (ci := 1) (v := .ref q4) (C := RM) (T := TM) (N := 4) hx hb hts iM hown hK hP 0 rfl rfl 3 (by decide) (hts _ tw_217) (fun _ h9 => h9) rfl dM_load_93 ?_
    refine lv_iload hx hb dM_load_96 (lv_at hl 0 rfl) ?_
    refine va_iald hx hb hK hP 4 3 rfl rfl (by unfold vp_in; decide) dM_load_98 ?_
    refine kk_top (y := v_21) (by first | rfl | (simp [upd]; done)) ?_
    refine va_iast hx hb hK hP hD hS 2 1 rfl rfl (in_96 (may_1 c_1) (by unfold vp_in; decide)) dM_load_99 (fun H locs hP hD hS => ?_)
    have hP : va_P (dC, dI) vwCl (wsM h0 q1 q2 q3 q4 k1 k2 k3 k4 g (upd (upd (upd (upd (upd b (((6 : Int32) * a1) + (1 : Int32)).toNatClampNeg v_5) (((6 : Int32) * a1) + (2 : Int32)).toNatClampNeg v_9) (((6 : Int32) * a1) + (3 : Int32)).toNatClampNeg v_13) (((6 : Int32) * a1) + (4 : Int32)).toNatClampNeg v_17) (((6 : Int32) * a1) + (5 : Int32)).toNatClampNeg v_21) t (upd (upd (upd (upd (upd w 1 v_5) 2 v_9) 3 v_13) 4 v_17) 5 v_21)) H := hP
    have hD : va_D A (wsM h0 q1 q2 q3 q4 k1 k2 k3 k4 g (upd (upd (upd (upd (upd b (((6 : Int32) * a1) + (1 : Int32)).toNatClampNeg v_5) (((6 : Int32) * a1) + (2 : Int32)).toNatClampNeg v_9) (((6 : Int32) * a1) + (3 : Int32)).toNatClampNeg v_13) (((6 : Int32) * a1) + (4 : Int32)).toNatClampNeg v_17) (((6 : Int32) * a1) + (5 : Int32)).toNatClampNeg v_21) t (upd (upd (upd (upd (upd w 1 v_5) 2 v_9) 3 v_13) 4 v_17) 5 v_21)) := hD
    refine lv_iinc (v := (6 : Int32)) (lv' := [(4, .int (6 : Int32)), (5, .int x_18), (0, .ref h0), (1, .int a1), (2, .int a2), (3, .int a3)]) hx hb dM_load_100 hl (k := 0) rfl (by decide) (by decide) rfl (fun ls hl => ?_)
    refine lv_goto (tgt := 74) hx hb dM_load_103 (by decide) ?_
    refine lv_iload hx hb dM_load_74 (lv_at hl 0 rfl) ?_
    refine lv_bipush (v := (6 : Int32)) hx hb dM_load_76 (by decide) ?_
    refine lv_icmp_ge (tgt := 106) hx hb dM_load_78 (by decide) (fun _ => ?_) (fun c0 => absurd (by decide) c0)
    refine lv_aload_n hx hb dM_load_106 rfl (lv_at hl 2 rfl) ?_
    refine va_get (D := (dC, dI)) (ci := 1) (v := .ref q1) (C := RM) (T := TM) (N := 4) hx hb hts iM hown hK hP 0 rfl rfl 0 (by decide) (hts _ tw_214) (fun _ h9 => h9) rfl dM_load_107 ?_
    refine lv_iload_n hx hb dM_load_110 rfl (lv_at hl 3 rfl) ?_
    refine kk_mrg (pc' := 131) (ls' := ls) (rest' := [.int a1, .ref q1]) (x := (if (8 : Int32) ≤ a3 then (0 : Int32) else (if (g a2.toNatClampNeg) = 0 then (0 : Int32) else (1 : Int32)))) (fun hk_22 => ?_) (fun v_25 ev_25 => ?_)
    · refine lv_iload_n hx hb dM_load_111 rfl (lv_at hl 5 rfl) ?_
      refine lv_bipush (v := (8 : Int32)) hx hb dM_load_112 (by decide) ?_
      refine lv_icmp_ge (tgt := 130) hx hb dM_load_114 (by decide) (fun c_23 => ?_) (fun c_23 => ?_)
      · refine lv_iconst (v := (0 : Int32)) hx hb dM_load_130 (by decide) ?_
        exact hk_22 _ (by rw [if_pos c_23])
      · refine lv_aload_n hx hb dM_load_117 rfl (lv_at hl 2 rfl) ?_
        refine va_get (D := (dC, dI)) (ci := 1) (v := .ref q1) (C := RM) (T := TM) (N := 4) hx hb hts iM hown hK hP 0 rfl rfl 0 (by decide) (hts _ tw_214) (fun _ h9 => h9) rfl dM_load_118 ?_
        refine lv_iload_n hx hb dM_load_121 rfl (lv_at hl 4 rfl) ?_
        refine va_zald hx hb hK hP 1 0 rfl rfl (in_M (may_2 c_1)) dM_load_122 ?_
        refine lv_if_eq (tgt := 130) hx hb dM_load_123 (by decide) (fun c_24 => ?_) (fun c_24 => ?_)
        · refine lv_iconst (v := (0 : Int32)) hx hb dM_load_130 (by decide) ?_
          exact hk_22 _ (by rw [if_neg c_23, if_pos c_24])
        · refine lv_iconst (v := (1 : Int32)) hx hb dM_load_126 (by decide) ?_
          refine lv_goto (tgt := 131) hx hb dM_load_127 (by decide) ?_
          exact hk_22 _ (by rw [if_neg c_23, if_neg c_24])
    refine va_zast hx hb hK hP hD hS 1 0 rfl rfl (in_M (may_1 c_1)) dM_load_131 (fun H locs hP hD hS => ?_)
    have hP : va_P (dC, dI) vwCl (wsM h0 q1 q2 q3 q4 k1 k2 k3 k4 (upd g a1.toNatClampNeg (vp_nar .boolean v_25)) (upd (upd (upd (upd (upd b (((6 : Int32) * a1) + (1 : Int32)).toNatClampNeg v_5) (((6 : Int32) * a1) + (2 : Int32)).toNatClampNeg v_9) (((6 : Int32) * a1) + (3 : Int32)).toNatClampNeg v_13) (((6 : Int32) * a1) + (4 : Int32)).toNatClampNeg v_17) (((6 : Int32) * a1) + (5 : Int32)).toNatClampNeg v_21) t (upd (upd (upd (upd (upd w 1 v_5) 2 v_9) 3 v_13) 4 v_17) 5 v_21)) H := hP
    have hD : va_D A (wsM h0 q1 q2 q3 q4 k1 k2 k3 k4 (upd g a1.toNatClampNeg (vp_nar .boolean v_25)) (upd (upd (upd (upd (upd b (((6 : Int32) * a1) + (1 : Int32)).toNatClampNeg v_5) (((6 : Int32) * a1) + (2 : Int32)).toNatClampNeg v_9) (((6 : Int32) * a1) + (3 : Int32)).toNatClampNeg v_13) (((6 : Int32) * a1) + (4 : Int32)).toNatClampNeg v_17) (((6 : Int32) * a1) + (5 : Int32)).toNatClampNeg v_21) t (upd (upd (upd (upd (upd w 1 v_5) 2 v_9) 3 v_13) 4 v_17) 5 v_21)) := hD
    refine lv_iconst (v := (1 : Int32)) hx hb dM_load_132 (by decide) ?_
    have eu_g : upd g a1.toNatClampNeg (vp_nar .boolean v_25) = (u_M_load_g g b t w a1 a2 a3) := (by subst ex_2; subst ev_5; subst ex_6; subst ev_9; subst ex_10; subst ev_13; subst ex_14; subst ev_17; subst ex_18; subst ev_21; subst ev_25; unfold u_M_load_g; rw [if_neg c_1])
    have eu_b : upd (upd (upd (upd (upd b (((6 : Int32) * a1) + (1 : Int32)).toNatClampNeg v_5) (((6 : Int32) * a1) + (2 : Int32)).toNatClampNeg v_9) (((6 : Int32) * a1) + (3 : Int32)).toNatClampNeg v_13) (((6 : Int32) * a1) + (4 : Int32)).toNatClampNeg v_17) (((6 : Int32) * a1) + (5 : Int32)).toNatClampNeg v_21 = (u_M_load_b g b t w a1 a2 a3) := (by subst ex_2; subst ev_5; subst ex_6; subst ev_9; subst ex_10; subst ev_13; subst ex_14; subst ev_17; subst ex_18; subst ev_21; subst ev_25; unfold u_M_load_b; rw [if_neg c_1])
    have eu_w : upd (upd (upd (upd (upd w 1 v_5) 2 v_9) 3 v_13) 4 v_17) 5 v_21 = (u_M_load_w g b t w a1 a2 a3) := (by subst ex_2; subst ev_5; subst ex_6; subst ev_9; subst ex_10; subst ev_13; subst ex_14; subst ev_17; subst ex_18; subst ev_21; subst ev_25; unfold u_M_load_w; rw [if_neg c_1])
    have hP9 : va_P (dC, dI) vwCl (wsM h0 q1 q2 q3 q4 k1 k2 k3 k4 ((u_M_load_g g b t w a1 a2 a3)) ((u_M_load_b g b t w a1 a2 a3)) t ((u_M_load_w g b t w a1 a2 a3))) H := by rw [← eu_g, ← eu_b, ← eu_w]; exact hP
    have hD9 : va_D A (wsM h0 q1 q2 q3 q4 k1 k2 k3 k4 ((u_M_load_g g b t w a1 a2 a3)) ((u_M_load_b g b t w a1 a2 a3)) t ((u_M_load_w g b t w a1 a2 a3))) := by rw [← eu_g, ← eu_b, ← eu_w]; exact hD
    exact W.zret (v := (1 : Int32)) hx hb hr (by decide) (fun tt ht hW => ⟨⟨(1 : Int32), (), rfl, (by subst ex_2; subst ev_5; subst ex_6; subst ev_9; subst ex_10; subst ev_13; subst ex_14; subst ev_17; subst ex_18; subst ev_21; subst ev_25; unfold f_M_load; rw [if_neg c_1]), by rw [ht]; exact hP9, hD9⟩, hS.F ht⟩) hS.2.2 dM_load_133
  · refine lv_iconst (v := (0 : Int32)) hx hb dM_load_10 (by decide) ?_
    have eu_g : g = (u_M_load_g g b t w a1 a2 a3) := (by unfold u_M_load_g; rw [if_pos c_1])
    have eu_b : b = (u_M_load_b g b t w a1 a2 a3) := (by unfold u_M_load_b; rw [if_pos c_1])
    have eu_w : w = (u_M_load_w g b t w a1 a2 a3) := (by unfold u_M_load_w; rw [if_pos c_1])
    have hP9 : va_P (dC, dI) vwCl (wsM h0 q1 q2 q3 q4 k1 k2 k3 k4 ((u_M_load_g g b t w a1 a2 a3)) ((u_M_load_b g b t w a1 a2 a3)) t ((u_M_load_w g b t w a1 a2 a3))) H := by rw [← eu_g, ← eu_b, ← eu_w]; exact hP
    have hD9 : va_D A (wsM h0 q1 q2 q3 q4 k1 k2 k3 k4 ((u_M_load_g g b t w a1 a2 a3)) ((u_M_load_b g b t w a1 a2 a3)) t ((u_M_load_w g b t w a1 a2 a3))) := by rw [← eu_g, ← eu_b, ← eu_w]; exact hD
    exact W.zret (v := (0 : Int32)) hx hb hr (by decide) (fun tt ht hW => ⟨⟨(0 : Int32), (), rfl, (by unfold f_M_load; rw [if_pos c_1]), by rw [ht]; exact hP9, hD9⟩, hS.F ht⟩) hS.2.2 dM_load_11
end
section
set_option maxHeartbeats 4000000 in
set_option maxRecDepth 100000 in
theorem c_M_store (l : Launch) (dC : Nat → ClassId) (dI : Nat → Nat → Nat) (h0 q1 q2 q3 q4 : Nat) (k1 k2 k3 k4 : ClassId) (sz : Nat) (g b t w : Nat → Int32) (a1 a2 a3 : Int32) : Met l yM_store wsM_store ({ frames := 2, cells := 0, slots := 0, locals := 43 }) (va_Pc [.ref h0, .int a1, .int a2, .int a3] (fun U => U.heap.size = sz ∧ va_P (dC, dI) vwCl (wsM h0 q1 q2 q3 q4 k1 k2 k3 k4 g b t w) U.heap ∧ va_K (dC, dI) vwCl [(k1, .boolean), (k2, .int), (k3, .int), (k4, .int)] U ∧ va_D (fun _ => True) (wsM h0 q1 q2 q3 q4 k1 k2 k3 k4 g b t w))) (va_Qi (fun (r : Int32) (_ : Unit) => r = f_M_store g b t w a1 a2 a3) (fun _ tt => va_P (dC, dI) vwCl (wsM h0 q1 q2 q3 q4 k1 k2 k3 k4 ((u_M_store_g g b t w a1 a2 a3)) ((u_M_store_b g b t w a1 a2 a3)) t ((u_M_store_w g b t w a1 a2 a3))) tt.heap ∧ va_D (va_A (wsM h0 q1 q2 q3 q4 k1 k2 k3 k4 g b t w) sz) (wsM h0 q1 q2 q3 q4 k1 k2 k3 k4 ((u_M_store_g g b t w a1 a2 a3)) ((u_M_store_b g b t w a1 a2 a3)) t ((u_M_store_w g b t w a1 a2 a3)))) (va_A (wsM h0 q1 q2 q3 q4 k1 k2 k3 k4 g b t w) sz)) 0 0 (va_A (wsM h0 q1 q2 q3 q4 k1 k2 k3 k4 g b t w) sz) := by
  refine Met.ofW (cc := prog_3_method_12_code) (maxL := 6) (ret := (some .boolean)) (by decide) rfl ?_
  intro p e s m args below meth c s₁ B hml hv
  obtain ⟨rfl, hsz, hP, hK, hD0⟩ := hv
  have hx := B.exec
  have hb := B.bytes
  have hr := B.returns
  have hts := fun (w : Cond) (h : w ∈ gw) => atoms_spec (ws := wsM_store) B.pre w (List.mem_cons_of_mem _ h)
  have hown : s.vm.findClass RM = some m.cls := findClass_of_methodNamed B.named
  have hlocks := B.notSynchronized
  subst hsz
  have hD := hD0.self (sz := s.heap.size)
  generalize hAe : va_A (wsM h0 q1 q2 q3 q4 k1 k2 k3 k4 g b t w) s.heap.size = A at hD ⊢
  have hS : va_S A s.heap s.heap [] := va_S.rf
  have hl := lv_entry ([.ref h0, .int a1, .int a2, .int a3]) (n := 6) (Nat.le_of_ble_eq_true rfl)
  rw [lg_entry_eq]
  generalize (lg_sl ([.ref h0, .int a1, .int a2, .int a3]) ++ List.replicate (6 - (lg_sl ([.ref h0, .int a1, .int a2, .int a3])).length) Slot.unset).toArray = ls at hl ⊢
  have hl : lv_has ls 6 [(0, .ref h0), (1, .int a1), (2, .int a2), (3, .int a3)] := hl
  refine lv_aload_n hx hb dM_store_0 rfl (lv_at hl 0 rfl) ?_
  refine lv_iload_n hx hb dM_store_1 rfl (lv_at hl 1 rfl) ?_
  refine lv_iload_n hx hb dM_store_2 rfl (lv_at hl 2 rfl) ?_
  refine lv_iload_n hx hb dM_store_3 rfl (lv_at hl 3 rfl) ?_
  refine kk_callP (va_runV (As := [.int a1, .int a2, .int a3]) (rest := []) ⟨hx, hb, hml, hown, hts⟩ (c_M_may l h0 a1 a2 a3) (cwV 3 hts (gV tw_255 tw_257 tw_p1 tw_2 tw_258) rfl rfl rfl (by decide +kernel) ⟨Nat.le_of_ble_eq_true rfl, Nat.le_of_ble_eq_true rfl⟩) ⟨fun _ _ _ _ q => q, va_recv hK hP (ci := 1) (q0 := 0) rfl rfl, fun _ _ _ => ⟨rfl, trivial⟩⟩ rfl rfl hl.1 rfl (lv_room (Nat.le_of_ble_eq_true rfl)) dM_store_4 ⟨Nat.le_of_ble_eq_true rfl, Nat.le_of_ble_eq_true rfl⟩) hS hP (fun H locs hS hP => ?_)
  refine lv_if_ne (tgt := 12) hx hb dM_store_7 (by decide) (fun c_1 => ?_) (fun c_1 => ?_)
  · refine lv_iconst (v := (1 : Int32)) hx hb dM_store_12 (by decide) ?_
    refine lv_istore (lv' := [(4, .int (1 : Int32)), (0, .ref h0), (1, .int a1), (2, .int a2), (3, .int a3)]) hx hb dM_store_13 hl (by decide) rfl (fun ls hl => ?_)
    refine lv_iload hx hb dM_store_15 (lv_at hl 0 rfl) ?_
    refine lv_bipush (v := (6 : Int32)) hx hb dM_store_17 (by decide) ?_
    refine lv_icmp_ge (tgt := 99) hx hb dM_store_19 (by decide) (fun c0 => absurd c0 (by decide)) (fun _ => ?_)
    refine lv_iload hx hb dM_store_22 (lv_at hl 0 rfl) ?_
    refine lv_iload_n hx hb dM_store_24 rfl (lv_at hl 4 rfl) ?_
    refine kk_callP (va_runS (As := [.int a3]) (rest := [.int (1 : Int32)]) ⟨hx, hb, hml, hown, hts⟩ (c_M_first l a3) (va_cwS 1 hts (gS tw_262 tw_263 tw_2 tw_264) rfl rfl rfl (by decide +kernel) ⟨Nat.le_of_ble_eq_true rfl, Nat.le_of_ble_eq_true rfl⟩) ⟨fun _ _ _ _ q => q, fun _ _ _ => ⟨rfl, trivial⟩⟩ rfl rfl hl.1 rfl (lv_room (Nat.le_of_ble_eq_true rfl)) dM_store_25 ⟨Nat.le_of_ble_eq_true rfl, Nat.le_of_ble_eq_true rfl⟩) hS hP (fun H locs hS hP => ?_)
    refine kk_mrg (pc' := 45) (ls' := ls) (rest' := []) (x := (if (1 : Int32) < (f_M_first a3) then (0 : Int32) else (if (a3 - a3 / (8 : Int32) * (8 : Int32)) < (1 : Int32) then (0 : Int32) else (1 : Int32)))) (fun hk_2 => ?_) (fun v_5 ev_5 => ?_)
    · refine lv_icmp_lt (tgt := 44) hx hb dM_store_28 (by decide) (fun c_3 => ?_) (fun c_3 => ?_)
      · refine lv_iconst (v := (0 : Int32)) hx hb dM_store_44 (by decide) ?_
        exact hk_2 _ (by rw [if_pos c_3])
      · refine lv_iload hx hb dM_store_31 (lv_at hl 0 rfl) ?_
        refine lv_iload_n hx hb dM_store_33 rfl (lv_at hl 4 rfl) ?_
        refine lv_bipush (v := (8 : Int32)) hx hb dM_store_34 (by decide) ?_
        refine lv_irem hx hb dM_store_36 (by decide) ?_
        refine lv_icmp_gt (tgt := 44) hx hb dM_store_37 (by decide) (fun c_4 => ?_) (fun c_4 => ?_)
        · refine lv_iconst (v := (0 : Int32)) hx hb dM_store_44 (by decide) ?_
          exact hk_2 _ (by rw [if_neg c_3, if_pos c_4])
        · refine lv_iconst (v := (1 : Int32)) hx hb dM_store_40 (by decide) ?_
          refine lv_goto (tgt := 45) hx hb dM_store_41 (by decide) ?_
          exact hk_2 _ (by rw [if_neg c_3, if_neg c_4])
    refine lv_istore (lv' := [(5, .int v_5), (4, .int (1 : Int32)), (0, .ref h0), (1, .int a1), (2, .int a2), (3, .int a3)]) hx hb dM_store_45 hl (by decide) rfl (fun ls hl => ?_)
    refine lv_aload_n hx hb dM_store_47 rfl (lv_at hl 2 rfl) ?_
    refine va_get (D := (dC, dI)) (ci := 1) (v := .ref q4) (C := RM) (T := TM) (N := 4) hx hb hts iM hown hK hP 0 rfl rfl 3 (by decide) (hts _ tw_217) (fun _ h9 => h9) rfl dM_store_48 ?_
    refine lv_iload hx hb dM_store_51 (lv_at hl 1 rfl) ?_
    refine kk_mrg (pc' := 92) (ls' := ls) (rest' := [.int (1 : Int32), .ref q4]) (x := (if v_5 = 0 then (b (((6 : Int32) * a1) + (1 : Int32)).toNatClampNeg) else (b (((((6 : Int32) * a2) + (1 : Int32)) + (5 : Int32)) - (a3 - a3 / (8 : Int32) * (8 : Int32))).toNatClampNeg))) (fun hk_6 => ?_) (fun v_8 ev_8 => ?_)
    · refine lv_iload hx hb dM_store_53 (lv_at hl 0 rfl) ?_
      refine lv_if_eq (tgt := 80) hx hb dM_store_55 (by decide) (fun c_7 => ?_) (fun c_7 => ?_)
      · refine lv_aload_n hx hb dM_store_80 rfl (lv_at hl 2 rfl) ?_
        refine va_get (D := (dC, dI)) (ci := 1) (v := .ref q2) (C := RM) (T := TM) (N := 4) hx hb hts iM hown hK hP 0 rfl rfl 1 (by decide) (hts _ tw_215) (fun _ h9 => h9) rfl dM_store_81 ?_
        refine lv_bipush (v := (6 : Int32)) hx hb dM_store_84 (by decide) ?_
        refine lv_iload_n hx hb dM_store_86 rfl (lv_at hl 3 rfl) ?_
        refine lv_imul hx hb dM_store_87 ?_
        refine lv_iload hx hb dM_store_88 (lv_at hl 1 rfl) ?_
        refine lv_iadd hx hb dM_store_90 ?_
        refine va_iald hx hb hK hP 2 1 rfl rfl (in_96 (may_1 c_1) (by unfold vp_in; decide)) dM_store_91 ?_
        exact hk_6 _ (by rw [if_pos c_7])
      · refine lv_aload_n hx hb dM_store_58 rfl (lv_at hl 2 rfl) ?_
        refine va_get (D := (dC, dI)) (ci := 1) (v := .ref q2) (C := RM) (T := TM) (N := 4) hx hb hts iM hown hK hP 0 rfl rfl 1 (by decide) (hts _ tw_215) (fun _ h9 => h9) rfl dM_store_59 ?_
        refine lv_bipush (v := (6 : Int32)) hx hb dM_store_62 (by decide) ?_
        refine lv_iload_n hx hb dM_store_64 rfl (lv_at hl 4 rfl) ?_
        refine lv_imul hx hb dM_store_65 ?_
        refine lv_iload hx hb dM_store_66 (lv_at hl 1 rfl) ?_
        refine lv_iadd hx hb dM_store_68 ?_
        refine lv_iconst (v := (5 : Int32)) hx hb dM_store_69 (by decide) ?_
        refine lv_iadd hx hb dM_store_70 ?_
        refine lv_iload_n hx hb dM_store_71 rfl (lv_at hl 5 rfl) ?_
        refine lv_bipush (v := (8 : Int32)) hx hb dM_store_72 (by decide) ?_
        refine lv_irem hx hb dM_store_74 (by decide) ?_
        refine lv_isub hx hb dM_store_75 ?_
        refine va_iald hx hb hK hP 2 1 rfl rfl (in_96S c_1 (by unfold vp_in; decide) ev_5 c_7) dM_store_76 ?_
        refine lv_goto (tgt := 92) hx hb dM_store_77 (by decide) ?_
        exact hk_6 _ (by rw [if_neg c_7])
    refine va_iast hx hb hK hP hD hS 4 3 rfl rfl (by unfold vp_in; decide) dM_store_92 (fun H locs hP hD hS => ?_)
    have hP : va_P (dC, dI) vwCl (wsM h0 q1 q2 q3 q4 k1 k2 k3 k4 g b t (upd w 1 v_8)) H := hP
    have hD : va_D A (wsM h0 q1 q2 q3 q4 k1 k2 k3 k4 g b t (upd w 1 v_8)) := hD
    refine lv_iinc (v := (2 : Int32)) (lv' := [(4, .int (2 : Int32)), (5, .int v_5), (0, .ref h0), (1, .int a1), (2, .int a2), (3, .int a3)]) hx hb dM_store_93 hl (k := 1) rfl (by decide) (by decide) rfl (fun ls hl => ?_)
    refine lv_goto (tgt := 15) hx hb dM_store_96 (by decide) ?_
    refine lv_iload hx hb dM_store_15 (lv_at hl 0 rfl) ?_
    refine lv_bipush (v := (6 : Int32)) hx hb dM_store_17 (by decide) ?_
    refine lv_icmp_ge (tgt := 99) hx hb dM_store_19 (by decide) (fun c0 => absurd c0 (by decide)) (fun _ => ?_)
    refine lv_iload hx hb dM_store_22 (lv_at hl 0 rfl) ?_
    refine lv_iload_n hx hb dM_store_24 rfl (lv_at hl 5 rfl) ?_
    refine kk_callP (va_runS (As := [.int a3]) (rest := [.int (2 : Int32)]) ⟨hx, hb, hml, hown, hts⟩ (c_M_first l a3) (va_cwS 1 hts (gS tw_262 tw_263 tw_2 tw_264) rfl rfl rfl (by decide +kernel) ⟨Nat.le_of_ble_eq_true rfl, Nat.le_of_ble_eq_true rfl⟩) ⟨fun _ _ _ _ q => q, fun _ _ _ => ⟨rfl, trivial⟩⟩ rfl rfl hl.1 rfl (lv_room (Nat.le_of_ble_eq_true rfl)) dM_store_25 ⟨Nat.le_of_ble_eq_true rfl, Nat.le_of_ble_eq_true rfl⟩) hS hP (fun H locs hS hP => ?_)
    refine kk_mrg (pc' := 45) (ls' := ls) (rest' := []) (x := (if (2 : Int32) < (f_M_first a3) then (0 : Int32) else (if (a3 - a3 / (8 : Int32) * (8 : Int32)) < (2 : Int32) then (0 : Int32) else (1 : Int32)))) (fun hk_9 => ?_) (fun v_12 ev_12 => ?_)
    · refine lv_icmp_lt (tgt := 44) hx hb dM_store_28 (by decide) (fun c_10 => ?_) (fun c_10 => ?_)
      · refine lv_iconst (v := (0 : Int32)) hx hb dM_store_44 (by decide) ?_
        exact hk_9 _ (by rw [if_pos c_10])
      · refine lv_iload hx hb dM_store_31 (lv_at hl 0 rfl) ?_
        refine lv_iload_n hx hb dM_store_33 rfl (lv_at hl 5 rfl) ?_
        refine lv_bipush (v := (8 : Int32)) hx hb dM_store_34 (by decide) ?_
        refine lv_irem hx hb dM_store_36 (by decide) ?_
        refine lv_icmp_gt (tgt := 44) hx hb dM_store_37 (by decide) (fun c_11 => ?_) (fun c_11 => ?_)
        · refine lv_iconst (v := (0 : Int32)) hx hb dM_store_44 (by decide) ?_
          exact hk_9 _ (by rw [if_neg c_10, if_pos c_11])
        · refine lv_iconst (v := (1 : Int32)) hx hb dM_store_40 (by decide) ?_
          refine lv_goto (tgt := 45) hx hb dM_store_41 (by decide) ?_
          exact hk_9 _ (by rw [if_neg c_10, if_neg c_11])
    refine lv_istore (lv' := [(5, .int v_12), (4, .int (2 : Int32)), (0, .ref h0), (1, .int a1), (2, .int a2), (3, .int a3)]) hx hb dM_store_45 hl (by decide) rfl (fun ls hl => ?_)
    refine lv_aload_n hx hb dM_store_47 rfl (lv_at hl 2 rfl) ?_
    refine va_get (D := (dC, dI)) (ci := 1) (v := .ref q4) (C := RM) (T := TM) (N := 4) hx hb hts iM hown hK hP 0 rfl rfl 3 (by decide) (hts _ tw_217) (fun _ h9 => h9) rfl dM_store_48 ?_
    refine lv_iload hx hb dM_store_51 (lv_at hl 1 rfl) ?_
    refine kk_mrg (pc' := 92) (ls' := ls) (rest' := [.int (2 : Int32), .ref q4]) (x := (if v_12 = 0 then (b (((6 : Int32) * a1) + (2 : Int32)).toNatClampNeg) else (b (((((6 : Int32) * a2) + (2 : Int32)) + (5 : Int32)) - (a3 - a3 / (8 : Int32) * (8 : Int32))).toNatClampNeg))) (fun hk_13 => ?_) (fun v_15 ev_15 => ?_)
    · refine lv_iload hx hb dM_store_53 (lv_at hl 0 rfl) ?_
      refine lv_if_eq (tgt := 80) hx hb dM_store_55 (by decide) (fun c_14 => ?_) (fun c_14 => ?_)
      · refine lv_aload_n hx hb dM_store_80 rfl (lv_at hl 2 rfl) ?_
        refine va_get (D := (dC, dI)) (ci := 1) (v := .ref q2) (C := RM) (T := TM) (N := 4) hx hb hts iM hown hK hP 0 rfl rfl 1 (by decide) (hts _ tw_215) (fun _ h9 => h9) rfl dM_store_81 ?_
        refine lv_bipush (v := (6 : Int32)) hx hb dM_store_84 (by decide) ?_
        refine lv_iload_n hx hb dM_store_86 rfl (lv_at hl 3 rfl) ?_
        refine lv_imul hx hb dM_store_87 ?_
        refine lv_iload hx hb dM_store_88 (lv_at hl 1 rfl) ?_
        refine lv_iadd hx hb dM_store_90 ?_
        refine va_iald hx hb hK hP 2 1 rfl rfl (in_96 (may_1 c_1) (by unfold vp_in; decide)) dM_store_91 ?_
        exact hk_13 _ (by rw [if_pos c_14])
      · refine lv_aload_n hx hb dM_store_58 rfl (lv_at hl 2 rfl) ?_
        refine va_get (D := (dC, dI)) (ci := 1) (v := .ref q2) (C := RM) (T := TM) (N := 4) hx hb hts iM hown hK hP 0 rfl rfl 1 (by decide) (hts _ tw_215) (fun _ h9 => h9) rfl dM_store_59 ?_
        refine lv_bipush (v := (6 : Int32)) hx hb dM_store_62 (by decide) ?_
        refine lv_iload_n hx hb dM_store_64 rfl (lv_at hl 4 rfl) ?_
        refine lv_imul hx hb dM_store_65 ?_
        refine lv_iload hx hb dM_store_66 (lv_at hl 1 rfl) ?_
        refine lv_iadd hx hb dM_store_68 ?_
        refine lv_iconst (v := (5 : Int32)) hx hb dM_store_69 (by decide) ?_
        refine lv_iadd hx hb dM_store_70 ?_
        refine lv_iload_n hx hb dM_store_71 rfl (lv_at hl 5 rfl) ?_
        refine lv_bipush (v := (8 : Int32)) hx hb dM_store_72 (by decide) ?_
        refine lv_irem hx hb dM_store_74 (by decide) ?_
        refine lv_isub hx hb dM_store_75 ?_
        refine va_iald hx hb hK hP 2 1 rfl rfl (in_96S c_1 (by unfold vp_in; decide) ev_12 c_14) dM_store_76 ?_
        refine lv_goto (tgt := 92) hx hb dM_store_77 (by decide) ?_
        exact hk_13 _ (by rw [if_neg c_14])
    refine va_iast hx hb hK hP hD hS 4 3 rfl rfl (by unfold vp_in; decide) dM_store_92 (fun H locs hP hD hS => ?_)
    have hP : va_P (dC, dI) vwCl (wsM h0 q1 q2 q3 q4 k1 k2 k3 k4 g b t (upd (upd w 1 v_8) 2 v_15)) H := hP
    have hD : va_D A (wsM h0 q1 q2 q3 q4 k1 k2 k3 k4 g b t (upd (upd w 1 v_8) 2 v_15)) := hD
    refine lv_iinc (v := (3 : Int32)) (lv' := [(4, .int (3 : Int32)), (5, .int v_12), (0, .ref h0), (1, .int a1), (2, .int a2), (3, .int a3)]) hx hb dM_store_93 hl (k := 1) rfl (by decide) (by decide) rfl (fun ls hl => ?_)
    refine lv_goto (tgt := 15) hx hb dM_store_96 (by decide) ?_
    refine lv_iload hx hb dM_store_15 (lv_at hl 0 rfl) ?_
    refine lv_bipush (v := (6 : Int32)) hx hb dM_store_17 (by decide) ?_
    refine lv_icmp_ge (tgt := 99) hx hb dM_store_19 (by decide) (fun c0 => absurd c0 (by decide)) (fun _ => ?_)
    refine lv_iload hx hb dM_store_22 (lv_at hl 0 rfl) ?_
    refine lv_iload_n hx hb dM_store_24 rfl (lv_at hl 5 rfl) ?_
    refine kk_callP (va_runS (As := [.int a3]) (rest := [.int (3 : Int32)]) ⟨hx, hb, hml, hown, hts⟩ (c_M_first l a3) (va_cwS 1 hts (gS tw_262 tw_263 tw_2 tw_264) rfl rfl rfl (by decide +kernel) ⟨Nat.le_of_ble_eq_true rfl, Nat.le_of_ble_eq_true rfl⟩) ⟨fun _ _ _ _ q => q, fun _ _ _ => ⟨rfl, trivial⟩⟩ rfl rfl hl.1 rfl (lv_room (Nat.le_of_ble_eq_true rfl)) dM_store_25 ⟨Nat.le_of_ble_eq_true rfl, Nat.le_of_ble_eq_true rfl⟩) hS hP (fun H locs hS hP => ?_)
    refine kk_mrg (pc' := 45) (ls' := ls) (rest' := []) (x := (if (3 : Int32) < (f_M_first a3) then (0 : Int32) else (if (a3 - a3 / (8 : Int32) * (8 : Int32)) < (3 : Int32) then (0 : Int32) else (1 : Int32)))) (fun hk_16 => ?_) (fun v_19 ev_19 => ?_)
    · refine lv_icmp_lt (tgt := 44) hx hb dM_store_28 (by decide) (fun c_17 => ?_) (fun c_17 => ?_)
      · refine lv_iconst (v := (0 : Int32)) hx hb dM_store_44 (by decide) ?_
        exact hk_16 _ (by rw [if_pos c_17])
      · refine lv_iload hx hb dM_store_31 (lv_at hl 0 rfl) ?_
        refine lv_iload_n hx hb dM_store_33 rfl (lv_at hl 5 rfl) ?_
        refine lv_bipush (v := (8 : Int32)) hx hb dM_store_34 (by decide) ?_
        refine lv_irem hx hb dM_store_36 (by decide) ?_
        refine lv_icmp_gt (tgt := 44) hx hb dM_store_37 (by decide) (fun c_18 => ?_) (fun c_18 => ?_)
        · refine lv_iconst (v := (0 : Int32)) hx hb dM_store_44 (by decide) ?_
          exact hk_16 _ (by rw [if_neg c_17, if_pos c_18])
        · refine lv_iconst (v := (1 : Int32)) hx hb dM_store_40 (by decide) ?_
          refine lv_goto (tgt := 45) hx hb dM_store_41 (by decide) ?_
          exact hk_16 _ (by rw [if_neg c_17, if_neg c_18])
    refine lv_istore (lv' := [(5, .int v_19), (4, .int (3 : Int32)), (0, .ref h0), (1, .int a1), (2, .int a2), (3, .int a3)]) hx hb dM_store_45 hl (by decide) rfl (fun ls hl => ?_)
    refine lv_aload_n hx hb dM_store_47 rfl (lv_at hl 2 rfl) ?_
    refine va_get (D := (dC, dI)) (ci := 1) (v := .ref q4) (C := RM) (T := TM) (N := 4) hx hb hts iM hown hK hP 0 rfl rfl 3 (by decide) (hts _ tw_217) (fun _ h9 => h9) rfl dM_store_48 ?_
    refine lv_iload hx hb dM_store_51 (lv_at hl 1 rfl) ?_
    refine kk_mrg (pc' := 92) (ls' := ls) (rest' := [.int (3 : Int32), .ref q4]) (x := (if v_19 = 0 then (b (((6 : Int32) * a1) + (3 : Int32)).toNatClampNeg) else (b (((((6 : Int32) * a2) + (3 : Int32)) + (5 : Int32)) - (a3 - a3 / (8 : Int32) * (8 : Int32))).toNatClampNeg))) (fun hk_20 => ?_) (fun v_22 ev_22 => ?_)
    · refine lv_iload hx hb dM_store_53 (lv_at hl 0 rfl) ?_
      refine lv_if_eq (tgt := 80) hx hb dM_store_55 (by decide) (fun c_21 => ?_) (fun c_21 => ?_)
      · refine lv_aload_n hx hb dM_store_80 rfl (lv_at hl 2 rfl) ?_
        refine va_get (D := (dC, dI)) (ci := 1) (v := .ref q2) (C := RM) (T := TM) (N := 4) hx hb hts iM hown hK hP 0 rfl rfl 1 (by decide) (hts _ tw_215) (fun _ h9 => h9) rfl dM_store_81 ?_
        refine lv_bipush (v := (6 : Int32)) hx hb dM_store_84 (by decide) ?_
        refine lv_iload_n hx hb dM_store_86 rfl (lv_at hl 3 rfl) ?_
        refine lv_imul hx hb dM_store_87 ?_
        refine lv_iload hx hb dM_store_88 (lv_at hl 1 rfl) ?_
        refine lv_iadd hx hb dM_store_90 ?_
        refine va_iald hx hb hK hP 2 1 rfl rfl (in_96 (may_1 c_1) (by unfold vp_in; decide)) dM_store_91 ?_
        exact hk_20 _ (by rw [if_pos c_21])
      · refine lv_aload_n hx hb dM_store_58 rfl (lv_at hl 2 rfl) ?_
        refine va_get (D := (dC, dI)) (ci := 1) (v := .ref q2) (C := RM) (T := TM) (N := 4) hx hb hts iM hown hK hP 0 rfl rfl 1 (by decide) (hts _ tw_215) (fun _ h9 => h9) rfl dM_store_59 ?_
        refine lv_bipush (v := (6 : Int32)) hx hb dM_store_62 (by decide) ?_
        refine lv_iload_n hx hb dM_store_64 rfl (lv_at hl 4 rfl) ?_
        refine lv_imul hx hb dM_store_65 ?_
        refine lv_iload hx hb dM_store_66 (lv_at hl 1 rfl) ?_
        refine lv_iadd hx hb dM_store_68 ?_
        refine lv_iconst (v := (5 : Int32)) hx hb dM_store_69 (by decide) ?_
        refine lv_iadd hx hb dM_store_70 ?_
        refine lv_iload_n hx hb dM_store_71 rfl (lv_at hl 5 rfl) ?_
        refine lv_bipush (v := (8 : Int32)) hx hb dM_store_72 (by decide) ?_
        refine lv_irem hx hb dM_store_74 (by decide) ?_
        refine lv_isub hx hb dM_store_75 ?_
        refine va_iald hx hb hK hP 2 1 rfl rfl (in_96S c_1 (by unfold vp_in; decide) ev_19 c_21) dM_store_76 ?_
        refine lv_goto (tgt := 92) hx hb dM_store_77 (by decide) ?_
        exact hk_20 _ (by rw [if_neg c_21])
    refine va_iast hx hb hK hP hD hS 4 3 rfl rfl (by unfold vp_in; decide) dM_store_92 (fun H locs hP hD hS => ?_)
    have hP : va_P (dC, dI) vwCl (wsM h0 q1 q2 q3 q4 k1 k2 k3 k4 g b t (upd (upd (upd w 1 v_8) 2 v_15) 3 v_22)) H := hP
    have hD : va_D A (wsM h0 q1 q2 q3 q4 k1 k2 k3 k4 g b t (upd (upd (upd w 1 v_8) 2 v_15) 3 v_22)) := hD
    refine lv_iinc (v := (4 : Int32)) (lv' := [(4, .int (4 : Int32)), (5, .int v_19), (0, .ref h0), (1, .int a1), (2, .int a2), (3, .int a3)]) hx hb dM_store_93 hl (k := 1) rfl (by decide) (by decide) rfl (fun ls hl => ?_)
    refine lv_goto (tgt := 15) hx hb dM_store_96 (by decide) ?_
    refine lv_iload hx hb dM_store_15 (lv_at hl 0 rfl) ?_
    refine lv_bipush (v := (6 : Int32)) hx hb dM_store_17 (by decide) ?_
    refine lv_icmp_ge (tgt := 99) hx hb dM_store_19 (by decide) (fun c0 => absurd c0 (by decide)) (fun _ => ?_)
    refine lv_iload hx hb dM_store_22 (lv_at hl 0 rfl) ?_
    refine lv_iload_n hx hb dM_store_24 rfl (lv_at hl 5 rfl) ?_
    refine kk_callP (va_runS (As := [.int a3]) (rest := [.int (4 : Int32)]) ⟨hx, hb, hml, hown, hts⟩ (c_M_first l a3) (va_cwS 1 hts (gS tw_262 tw_263 tw_2 tw_264) rfl rfl rfl (by decide +kernel) ⟨Nat.le_of_ble_eq_true rfl, Nat.le_of_ble_eq_true rfl⟩) ⟨fun _ _ _ _ q => q, fun _ _ _ => ⟨rfl, trivial⟩⟩ rfl rfl hl.1 rfl (lv_room (Nat.le_of_ble_eq_true rfl)) dM_store_25 ⟨Nat.le_of_ble_eq_true rfl, Nat.le_of_ble_eq_true rfl⟩) hS hP (fun H locs hS hP => ?_)
    refine kk_mrg (pc' := 45) (ls' := ls) (rest' := []) (x := (if (4 : Int32) < (f_M_first a3) then (0 : Int32) else (if (a3 - a3 / (8 : Int32) * (8 : Int32)) < (4 : Int32) then (0 : Int32) else (1 : Int32)))) (fun hk_23 => ?_) (fun v_26 ev_26 => ?_)
    · refine lv_icmp_lt (tgt := 44) hx hb dM_store_28 (by decide) (fun c_24 => ?_) (fun c_24 => ?_)
      · refine lv_iconst (v := (0 : Int32)) hx hb dM_store_44 (by decide) ?_
        exact hk_23 _ (by rw [if_pos c_24])
      · refine lv_iload hx hb dM_store_31 (lv_at hl 0 rfl) ?_
        refine lv_iload_n hx hb dM_store_33 rfl (lv_at hl 5 rfl) ?_
        refine lv_bipush (v := (8 : Int32)) hx hb dM_store_34 (by decide) ?_
        refine lv_irem hx hb dM_store_36 (by decide) ?_
        refine lv_icmp_gt (tgt := 44) hx hb dM_store_37 (by decide) (fun c_25 => ?_) (fun c_25 => ?_)
        · refine lv_iconst (v := (0 : Int32)) hx hb dM_store_44 (by decide) ?_
          exact hk_23 _ (by rw [if_neg c_24, if_pos c_25])
        · refine lv_iconst (v := (1 : Int32)) hx hb dM_store_40 (by decide) ?_
          refine lv_goto (tgt := 45) hx hb dM_store_41 (by decide) ?_
          exact hk_23 _ (by rw [if_neg c_24, if_neg c_25])
    refine lv_istore (lv' := [(5, .int v_26), (4, .int (4 : Int32)), (0, .ref h0), (1, .int a1), (2, .int a2), (3, .int a3)]) hx hb dM_store_45 hl (by decide) rfl (fun ls hl => ?_)
    refine lv_aload_n hx hb dM_store_47 rfl (lv_at hl 2 rfl) ?_
    refine va_get (D := (dC, dI)) (ci := 1) (v := .ref q4) (C := RM) (T := TM) (N := 4) hx hb hts iM hown hK hP 0 rfl rfl 3 (by decide) (hts _ tw_217) (fun _ h9 => h9) rfl dM_store_48 ?_
    refine lv_iload hx hb dM_store_51 (lv_at hl 1 rfl) ?_
    refine kk_mrg (pc' := 92) (ls' := ls) (rest' := [.int (4 : Int32), .ref q4]) (x := (if v_26 = 0 then (b (((6 : Int32) * a1) + (4 : Int32)).toNatClampNeg) else (b (((((6 : Int32) * a2) + (4 : Int32)) + (5 : Int32)) - (a3 - a3 / (8 : Int32) * (8 : Int32))).toNatClampNeg))) (fun hk_27 => ?_) (fun v_29 ev_29 => ?_)
    · refine lv_iload hx hb dM_store_53 (lv_at hl 0 rfl) ?_
      refine lv_if_eq (tgt := 80) hx hb dM_store_55 (by decide) (fun c_28 => ?_) (fun c_28 => ?_)
      · refine lv_aload_n hx hb dM_store_80 rfl (lv_at hl 2 rfl) ?_
        refine va_get (D := (dC, dI)) (ci := 1) (v := .ref q2) (C := RM) (T := TM) (N := 4) hx hb hts iM hown hK hP 0 rfl rfl 1 (by decide) (hts _ tw_215) (fun _ h9 => h9) rfl dM_store_81 ?_
        refine lv_bipush (v := (6 : Int32)) hx hb dM_store_84 (by decide) ?_
        refine lv_iload_n hx hb dM_store_86 rfl (lv_at hl 3 rfl) ?_
        refine lv_imul hx hb dM_store_87 ?_
        refine lv_iload hx hb dM_store_88 (lv_at hl 1 rfl) ?_
        refine lv_iadd hx hb dM_store_90 ?_
        refine va_iald hx hb hK hP 2 1 rfl rfl (in_96 (may_1 c_1) (by unfold vp_in; decide)) dM_store_91 ?_
        exact hk_27 _ (by rw [if_pos c_28])
      · refine lv_aload_n hx hb dM_store_58 rfl (lv_at hl 2 rfl) ?_
        refine va_get (D := (dC, dI)) (ci := 1) (v := .ref q2) (C := RM) (T := TM) (N := 4) hx hb hts iM hown hK hP 0 rfl rfl 1 (by decide) (hts _ tw_215) (fun _ h9 => h9) rfl dM_store_59 ?_
        refine lv_bipush (v := (6 : Int32)) hx hb dM_store_62 (by decide) ?_
        refine lv_iload_n hx hb dM_store_64 rfl (lv_at hl 4 rfl) ?_
        refine lv_imul hx hb dM_store_65 ?_
        refine lv_iload hx hb dM_store_66 (lv_at hl 1 rfl) ?_
        refine lv_iadd hx hb dM_store_68 ?_
        refine lv_iconst (v := (5 : Int32)) hx hb dM_store_69 (by decide) ?_
        refine lv_iadd hx hb dM_store_70 ?_
        refine lv_iload_n hx hb dM_store_71 rfl (lv_at hl 5 rfl) ?_
        refine lv_bipush (v := (8 : Int32)) hx hb dM_store_72 (by decide) ?_
        refine lv_irem hx hb dM_store_74 (by decide) ?_
        refine lv_isub hx hb dM_store_75 ?_
        refine va_iald hx hb hK hP 2 1 rfl rfl (in_96S c_1 (by unfold vp_in; decide) ev_26 c_28) dM_store_76 ?_
        refine lv_goto (tgt := 92) hx hb dM_store_77 (by decide) ?_
        exact hk_27 _ (by rw [if_neg c_28])
    refine va_iast hx hb hK hP hD hS 4 3 rfl rfl (by unfold vp_in; decide) dM_store_92 (fun H locs hP hD hS => ?_)
    have hP : va_P (dC, dI) vwCl (wsM h0 q1 q2 q3 q4 k1 k2 k3 k4 g b t (upd (upd (upd (upd w 1 v_8) 2 v_15) 3 v_22) 4 v_29)) H := hP
    have hD : va_D A (wsM h0 q1 q2 q3 q4 k1 k2 k3 k4 g b t (upd (upd (upd (upd w 1 v_8) 2 v_15) 3 v_22) 4 v_29)) := hD
    refine lv_iinc (v := (5 : Int32)) (lv' := [(4, .int (5 : Int32)), (5, .int v_26), (0, .ref h0), (1, .int a1), (2, .int a2), (3, .int a3)]) hx hb dM_store_93 hl (k := 1) rfl (by decide) (by decide) rfl (fun ls hl => ?_)
    refine lv_goto (tgt := 15) hx hb dM_store_96 (by decide) ?_
    refine lv_iload hx hb dM_store_15 (lv_at hl 0 rfl) ?_
    refine lv_bipush (v := (6 : Int32)) hx hb dM_store_17 (by decide) ?_
    refine lv_icmp_ge (tgt := 99) hx hb dM_store_19 (by decide) (fun c0 => absurd c0 (by decide)) (fun _ => ?_)
    refine lv_iload hx hb dM_store_22 (lv_at hl 0 rfl) ?_
    refine lv_iload_n hx hb dM_store_24 rfl (lv_at hl 5 rfl) ?_
    refine kk_callP (va_runS (As := [.int a3]) (rest := [.int (5 : Int32)]) ⟨hx, hb, hml, hown, hts⟩ (c_M_first l a3) (va_cwS 1 hts (gS tw_262 tw_263 tw_2 tw_264) rfl rfl rfl (by decide +kernel) ⟨Nat.le_of_ble_eq_true rfl, Nat.le_of_ble_eq_true rfl⟩) ⟨fun _ _ _ _ q => q, fun _ _ _ => ⟨rfl, trivial⟩⟩ rfl rfl hl.1 rfl (lv_room (Nat.le_of_ble_eq_true rfl)) dM_store_25 ⟨Nat.le_of_ble_eq_true rfl, Nat.le_of_ble_eq_true rfl⟩) hS hP (fun H locs hS hP => ?_)
    refine kk_mrg (pc' := 45) (ls' := ls) (rest' := []) (x := (if (5 : Int32) < (f_M_first a3) then (0 : Int32) else (if (a3 - a3 / (8 : Int32) * (8 : Int32)) < (5 : Int32) then (0 : Int32) else (1 : Int32)))) (fun hk_30 => ?_) (fun v_33 ev_33 => ?_)
    · refine lv_icmp_lt (tgt := 44) hx hb dM_store_28 (by decide) (fun c_31 => ?_) (fun c_31 => ?_)
      · refine lv_iconst (v := (0 : Int32)) hx hb dM_store_44 (by decide) ?_
        exact hk_30 _ (by rw [if_pos c_31])
      · refine lv_iload hx hb dM_store_31 (lv_at hl 0 rfl) ?_
        refine lv_iload_n hx hb dM_store_33 rfl (lv_at hl 5 rfl) ?_
        refine lv_bipush (v := (8 : Int32)) hx hb dM_store_34 (by decide) ?_
        refine lv_irem hx hb dM_store_36 (by decide) ?_
        refine lv_icmp_gt (tgt := 44) hx hb dM_store_37 (by decide) (fun c_32 => ?_) (fun c_32 => ?_)
        · refine lv_iconst (v := (0 : Int32)) hx hb dM_store_44 (by decide) ?_
          exact hk_30 _ (by rw [if_neg c_31, if_pos c_32])
        · refine lv_iconst (v := (1 : Int32)) hx hb dM_store_40 (by decide) ?_
          refine lv_goto (tgt := 45) hx hb dM_store_41 (by decide) ?_
          exact hk_30 _ (by rw [if_neg c_31, if_neg c_32])
    refine lv_istore (lv' := [(5, .int v_33), (4, .int (5 : Int32)), (0, .ref h0), (1, .int a1), (2, .int a2), (3, .int a3)]) hx hb dM_store_45 hl (by decide) rfl (fun ls hl => ?_)
    refine lv_aload_n hx hb dM_store_47 rfl (lv_at hl 2 rfl) ?_
    refine va_get (D := (dC, dI)) (ci := 1) (v := .ref q4) (C := RM) (T := TM) (N := 4) hx hb hts iM hown hK hP 0 rfl rfl 3 (by decide) (hts _ tw_217) (fun _ h9 => h9) rfl dM_store_48 ?_
    refine lv_iload hx hb dM_store_51 (lv_at hl 1 rfl) ?_
    refine kk_mrg (pc' := 92) (ls' := ls) (rest' := [.int (5 : Int32), .ref q4]) (x := (if v_33 = 0 then (b (((6 : Int32) * a1) + (5 : Int32)).toNatClampNeg) else (b (((((6 : Int32) * a2) + (5 : Int32)) + (5 : Int32)) - (a3 - a3 / (8 : Int32) * (8 : Int32))).toNatClampNeg))) (fun hk_34 => ?_) (fun v_36 ev_36 => ?_)
    · refine lv_iload hx hb dM_store_53 (lv_at hl 0 rfl) ?_
      refine lv_if_eq (tgt := 80) hx hb dM_store_55 (by decide) (fun c_35 => ?_) (fun c_35 => ?_)
      · refine lv_aload_n hx hb dM_store_80 rfl (lv_at hl 2 rfl) ?_
        refine va_get (D := (dC, dI)) (ci := 1) (v := .ref q2) (C := RM) (T := TM) (N := 4) hx hb hts iM hown hK hP 0 rfl rfl 1 (by decide) (hts _ tw_215) (fun _ h9 => h9) rfl dM_store_81 ?_
        refine lv_bipush (v := (6 : Int32)) hx hb dM_store_84 (by decide) ?_
        refine lv_iload_n hx hb dM_store_86 rfl (lv_at hl 3 rfl) ?_
        refine lv_imul hx hb dM_store_87 ?_
        refine lv_iload hx hb dM_store_88 (lv_at hl 1 rfl) ?_
        refine lv_iadd hx hb dM_store_90 ?_
        refine va_iald hx hb hK hP 2 1 rfl rfl (in_96 (may_1 c_1) (by unfold vp_in; decide)) dM_store_91 ?_
        exact hk_34 _ (by rw [if_pos c_35])
      · refine lv_aload_n hx hb dM_store_58 rfl (lv_at hl 2 rfl) ?_
        refine va_get (D := (dC, dI)) (ci := 1) (v := .ref q2) (C := RM) (T := TM) (N := 4) hx hb hts iM hown hK hP 0 rfl rfl 1 (by decide) (hts _ tw_215) (fun _ h9 => h9) rfl dM_store_59 ?_
        refine lv_bipush (v := (6 : Int32)) hx hb dM_store_62 (by decide) ?_
        refine lv_iload_n hx hb dM_store_64 rfl (lv_at hl 4 rfl) ?_
        refine lv_imul hx hb dM_store_65 ?_
        refine lv_iload hx hb dM_store_66 (lv_at hl 1 rfl) ?_
        refine lv_iadd hx hb dM_store_68 ?_
        refine lv_iconst (v := (5 : Int32)) hx hb dM_store_69 (by decide) ?_
        refine lv_iadd hx hb dM_store_70 ?_
        refine lv_iload_n hx hb dM_store_71 rfl (lv_at hl 5 rfl) ?_
        refine lv_bipush (v := (8 : Int32)) hx hb dM_store_72 (by decide) ?_
        refine lv_irem hx hb dM_store_74 (by decide) ?_
        refine lv_isub hx hb dM_store_75 ?_
        refine va_iald hx hb hK hP 2 1 rfl rfl (in_96S c_1 (by unfold vp_in; decide) ev_33 c_35) dM_store_76 ?_
        refine lv_goto (tgt := 92) hx hb dM_store_77 (by decide) ?_
        exact hk_34 _ (by rw [if_neg c_35])
    refine va_iast hx hb hK hP hD hS 4 3 rfl rfl (by unfold vp_in; decide) dM_store_92 (fun H locs hP hD hS => ?_)
    have hP : va_P (dC, dI) vwCl (wsM h0 q1 q2 q3 q4 k1 k2 k3 k4 g b t (upd (upd (upd (upd (upd w 1 v_8) 2 v_15) 3 v_22) 4 v_29) 5 v_36)) H := hP
    have hD : va_D A (wsM h0 q1 q2 q3 q4 k1 k2 k3 k4 g b t (upd (upd (upd (upd (upd w 1 v_8) 2 v_15) 3 v_22) 4 v_29) 5 v_36)) := hD
    refine lv_iinc (v := (6 : Int32)) (lv' := [(4, .int (6 : Int32)), (5, .int v_33), (0, .ref h0), (1, .int a1), (2, .int a2), (3, .int a3)]) hx hb dM_store_93 hl (k := 1) rfl (by decide) (by decide) rfl (fun ls hl => ?_)
    refine lv_goto (tgt := 15) hx hb dM_store_96 (by decide) ?_
    refine lv_iload hx hb dM_store_15 (lv_at hl 0 rfl) ?_
    refine lv_bipush (v := (6 : Int32)) hx hb dM_store_17 (by decide) ?_
    refine lv_icmp_ge (tgt := 99) hx hb dM_store_19 (by decide) (fun _ => ?_) (fun c0 => absurd (by decide) c0)
    refine lv_iconst (v := (1 : Int32)) hx hb dM_store_99 (by decide) ?_
    refine lv_istore (lv' := [(4, .int (1 : Int32)), (5, .int v_33), (0, .ref h0), (1, .int a1), (2, .int a2), (3, .int a3)]) hx hb dM_store_100 hl (by decide) rfl (fun ls hl => ?_)
    refine lv_iload hx hb dM_store_102 (lv_at hl 0 rfl) ?_
    refine lv_bipush (v := (6 : Int32)) hx hb dM_store_104 (by decide) ?_
    refine lv_icmp_ge (tgt := 134) hx hb dM_store_106 (by decide) (fun c0 => absurd c0 (by decide)) (fun _ => ?_)
    refine lv_aload_n hx hb dM_store_109 rfl (lv_at hl 2 rfl) ?_
    refine va_get (D := (dC, dI)) (ci := 1) (v := .ref q2) (C := RM) (T := TM) (N := 4) hx hb hts iM hown hK hP 0 rfl rfl 1 (by decide) (hts _ tw_215) (fun _ h9 => h9) rfl dM_store_110 ?_
    refine lv_bipush (v := (6 : Int32)) hx hb dM_store_113 (by decide) ?_
    refine lv_iload_n hx hb dM_store_115 rfl (lv_at hl 3 rfl) ?_
    refine lv_imul hx hb dM_store_116 ?_
    refine lv_iload hx hb dM_store_117 (lv_at hl 0 rfl) ?_
    refine lv_iadd hx hb dM_store_119 ?_
    refine lv_aload_n hx hb dM_store_120 rfl (lv_at hl 2 rfl) ?_
    refine va_get (D := (dC, dI)) (ci := 1) (v := .ref q4) (C := RM) (T := TM) (N := 4) hx hb hts iM hown hK hP 0 rfl rfl 3 (by decide) (hts _ tw_217) (fun _ h9 => h9) rfl dM_store_121 ?_
    refine lv_iload hx hb dM_store_124 (lv_at hl 0 rfl) ?_
    refine va_iald hx hb hK hP 4 3 rfl rfl (by unfold vp_in; decide) dM_store_126 ?_
    refine kk_top (y := v_8) (by first | rfl | (simp [upd]; done)) ?_
    refine va_iast hx hb hK hP hD hS 2 1 rfl rfl (in_96 (may_1 c_1) (by unfold vp_in; decide)) dM_store_127 (fun H locs hP hD hS => ?_)
    have hP : va_P (dC, dI) vwCl (wsM h0 q1 q2 q3 q4 k1 k2 k3 k4 g (upd b (((6 : Int32) * a1) + (1 : Int32)).toNatClampNeg v_8) t (upd (upd (upd (upd (upd w 1 v_8) 2 v_15) 3 v_22) 4 v_29) 5 v_36)) H := hP
    have hD : va_D A (wsM h0 q1 q2 q3 q4 k1 k2 k3 k4 g (upd b (((6 : Int32) * a1) + (1 : Int32)).toNatClampNeg v_8) t (upd (upd (upd (upd (upd w 1 v_8) 2 v_15) 3 v_22) 4 v_29) 5 v_36)) := hD
    refine lv_iinc (v := (2 : Int32)) (lv' := [(4, .int (2 : Int32)), (5, .int v_33), (0, .ref h0), (1, .int a1), (2, .int a2), (3, .int a3)]) hx hb dM_store_128 hl (k := 0) rfl (by decide) (by decide) rfl (fun ls hl => ?_)
    refine lv_goto (tgt := 102) hx hb dM_store_131 (by decide) ?_
    refine lv_iload hx hb dM_store_102 (lv_at hl 0 rfl) ?_
    refine lv_bipush (v := (6 : Int32)) hx hb dM_store_104 (by decide) ?_
    refine lv_icmp_ge (tgt := 134) hx hb dM_store_106 (by decide) (fun c0 => absurd c0 (by decide)) (fun _ => ?_)
    refine lv_aload_n hx hb dM_store_109 rfl (lv_at hl 2 rfl) ?_
    refine va_get (D := (dC, dI)) (ci := 1) (v := .ref q2) (C := RM) (T := TM) (N := 4) hx hb hts iM hown hK hP 0 rfl rfl 1 (by decide) (hts _ tw_215) (fun _ h9 => h9) rfl dM_store_110 ?_
    refine lv_bipush (v := (6 : Int32)) hx hb dM_store_113 (by decide) ?_
    refine lv_iload_n hx hb dM_store_115 rfl (lv_at hl 3 rfl) ?_
    refine lv_imul hx hb dM_store_116 ?_
    refine lv_iload hx hb dM_store_117 (lv_at hl 0 rfl) ?_
    refine lv_iadd hx hb dM_store_119 ?_
    refine lv_aload_n hx hb dM_store_120 rfl (lv_at hl 2 rfl) ?_
    refine va_get (D := (dC, dI)) (ci := 1) (v := .ref q4) (C := RM) (T := TM) (N := 4) hx hb hts iM hown hK hP 0 rfl rfl 3 (by decide) (hts _ tw_217) (fun _ h9 => h9) rfl dM_store_121 ?_
    refine lv_iload hx hb dM_store_124 (lv_at hl 0 rfl) ?_
    refine va_iald hx hb hK hP 4 3 rfl rfl (by unfold vp_in; decide) dM_store_126 ?_
    refine kk_top (y := v_15) (by first | rfl | (simp [upd]; done)) ?_
    refine va_iast hx hb hK hP hD hS 2 1 rfl rfl (in_96 (may_1 c_1) (by unfold vp_in; decide)) dM_store_127 (fun H locs hP hD hS => ?_)
    have hP : va_P (dC, dI) vwCl (wsM h0 q1 q2 q3 q4 k1 k2 k3 k4 g (upd (upd b (((6 : Int32) * a1) + (1 : Int32)).toNatClampNeg v_8) (((6 : Int32) * a1) + (2 : Int32)).toNatClampNeg v_15) t (upd (upd (upd (upd (upd w 1 v_8) 2 v_15) 3 v_22) 4 v_29) 5 v_36)) H := hP
    have hD : va_D A (wsM h0 q1 q2 q3 q4 k1 k2 k3 k4 g (upd (upd b (((6 : Int32) * a1) + (1 : Int32)).toNatClampNeg v_8) (((6 : Int32) * a1) + (2 : Int32)).toNatClampNeg v_15) t (upd (upd (upd (upd (upd w 1 v_8) 2 v_15) 3 v_22) 4 v_29) 5 v_36)) := hD
    refine lv_iinc (v := (3 : Int32)) (lv' := [(4, .int (3 : Int32)), (5, .int v_33), (0, .ref h0), (1, .int a1), (2, .int a2), (3, .int a3)]) hx hb dM_store_128 hl (k := 0) rfl (by decide) (by decide) rfl (fun ls hl => ?_)
    refine lv_goto (tgt := 102) hx hb dM_store_131 (by decide) ?_
    refine lv_iload hx hb dM_store_102 (lv_at hl 0 rfl) ?_
    refine lv_bipush (v := (6 : Int32)) hx hb dM_store_104 (by decide) ?_
    refine lv_icmp_ge (tgt := 134) hx hb dM_store_106 (by decide) (fun c0 => absurd c0 (by decide)) (fun _ => ?_)
    refine lv_aload_n hx hb dM_store_109 rfl (lv_at hl 2 rfl) ?_
    refine va_get (D := (dC, dI)) (ci := 1) (v := .ref q2) (C := RM) (T := TM) (N := 4) hx hb hts iM hown hK hP 0 rfl rfl 1 (by decide) (hts _ tw_215) (fun _ h9 => h9) rfl dM_store_110 ?_
    refine lv_bipush (v := (6 : Int32)) hx hb dM_store_113 (by decide) ?_
    refine lv_iload_n hx hb dM_store_115 rfl (lv_at hl 3 rfl) ?_
    refine lv_imul hx hb dM_store_116 ?_
    refine lv_iload hx hb dM_store_117 (lv_at hl 0 rfl) ?_
    refine lv_iadd hx hb dM_store_119 ?_
    refine lv_aload_n hx hb dM_store_120 rfl (lv_at hl 2 rfl) ?_
    refine va_get (D := (dC, dI)) (ci := 1) (v := .ref q4) (C := RM) (T := TM) (N := 4) hx hb hts iM hown hK hP 0 rfl rfl 3 (by decide) (hts _ tw_217) (fun _ h9 => h9) rfl dM_store_121 ?_
    refine lv_iload hx hb dM_store_124 (lv_at hl 0 rfl) ?_
    refine va_iald hx hb hK hP 4 3 rfl rfl (by unfold vp_in; decide) dM_store_126 ?_
    refine kk_top (y := v_22) (by first | rfl | (simp [upd]; done)) ?_
    refine va_iast hx hb hK hP hD hS 2 1 rfl rfl (in_96 (may_1 c_1) (by unfold vp_in; decide)) dM_store_127 (fun H locs hP hD hS => ?_)
    have hP : va_P (dC, dI) vwCl (wsM h0 q1 q2 q3 q4 k1 k2 k3 k4 g (upd (upd (upd b (((6 : Int32) * a1) + (1 : Int32)).toNatClampNeg v_8) (((6 : Int32) * a1) + (2 : Int32)).toNatClampNeg v_15) (((6 : Int32) * a1) + (3 : Int32)).toNatClampNeg v_22) t (upd (upd (upd (upd (upd w 1 v_8) 2 v_15) 3 v_22) 4 v_29) 5 v_36)) H := hP
    have hD : va_D A (wsM h0 q1 q2 q3 q4 k1 k2 k3 k4 g (upd (upd (upd b (((6 : Int32) * a1) + (1 : Int32)).toNatClampNeg v_8) (((6 : Int32) * a1) + (2 : Int32)).toNatClampNeg v_15) (((6 : Int32) * a1) + (3 : Int32)).toNatClampNeg v_22) t (upd (upd (upd (upd (upd w 1 v_8) 2 v_15) 3 v_22) 4 v_29) 5 v_36)) := hD
    refine lv_iinc (v := (4 : Int32)) (lv' := [(4, .int (4 : Int32)), (5, .int v_33), (0, .ref h0), (1, .int a1), (2, .int a2), (3, .int a3)]) hx hb dM_store_128 hl (k := 0) rfl (by decide) (by decide) rfl (fun ls hl => ?_)
    refine lv_goto (tgt := 102) hx hb dM_store_131 (by decide) ?_
    refine lv_iload hx hb dM_store_102 (lv_at hl 0 rfl) ?_
    refine lv_bipush (v := (6 : Int32)) hx hb dM_store_104 (by decide) ?_
    refine lv_icmp_ge (tgt := 134) hx hb dM_store_106 (by decide) (fun c0 => absurd c0 (by decide)) (fun _ => ?_)
    refine lv_aload_n hx hb dM_store_109 rfl (lv_at hl 2 rfl) ?_
    refine va_get (D := (dC, dI)) (ci := 1) (v := .ref q2) (C := RM) (T := TM) (N := 4) hx hb hts iM hown hK hP 0 rfl rfl 1 (by decide) (hts _ tw_215) (fun _ h9 => h9) rfl dM_store_110 ?_
    refine lv_bipush (v := (6 : Int32)) hx hb dM_store_113 (by decide) ?_
    refine lv_iload_n hx hb dM_store_115 rfl (lv_at hl 3 rfl) ?_
    refine lv_imul hx hb dM_store_116 ?_
    refine lv_iload hx hb dM_store_117 (lv_at hl 0 rfl) ?_
    refine lv_iadd hx hb dM_store_119 ?_
    refine lv_aload_n hx hb dM_store_120 rfl (lv_at hl 2 rfl) ?_
    refine va_get (D := (dC, dI)) (ci := 1) (v := .ref q4) (C := RM) (T := TM) (N := 4) hx hb hts iM hown hK hP 0 rfl rfl 3 (by decide) (hts _ tw_217) (fun _ h9 => h9) rfl dM_store_121 ?_
    refine lv_iload hx hb dM_store_124 (lv_at hl 0 rfl) ?_
    refine va_iald hx hb hK hP 4 3 rfl rfl (by unfold vp_in; decide) dM_store_126 ?_
    refine kk_top (y := v_29) (by first | rfl | (simp [upd]; done)) ?_
    refine va_iast hx hb hK hP hD hS 2 1 rfl rfl (in_96 (may_1 c_1) (by unfold vp_in; decide)) dM_store_127 (fun H locs hP hD hS => ?_)
    have hP : va_P (dC, dI) vwCl (wsM h0 q1 q2 q3 q4 k1 k2 k3 k4 g (upd (upd (upd (upd b (((6 : Int32) * a1) + (1 : Int32)).toNatClampNeg v_8) (((6 : Int32) * a1) + (2 : Int32)).toNatClampNeg v_15) (((6 : Int32) * a1) + (3 : Int32)).toNatClampNeg v_22) (((6 : Int32) * a1) + (4 : Int32)).toNatClampNeg v_29) t (upd (upd (upd (upd (upd w 1 v_8) 2 v_15) 3 v_22) 4 v_29) 5 v_36)) H := hP
    have hD : va_D A (wsM h0 q1 q2 q3 q4 k1 k2 k3 k4 g (upd (upd (upd (upd b (((6 : Int32) * a1) + (1 : Int32)).toNatClampNeg v_8) (((6 : Int32) * a1) + (2 : Int32)).toNatClampNeg v_15) (((6 : Int32) * a1) + (3 : Int32)).toNatClampNeg v_22) (((6 : Int32) * a1) + (4 : Int32)).toNatClampNeg v_29) t (upd (upd (upd (upd (upd w 1 v_8) 2 v_15) 3 v_22) 4 v_29) 5 v_36)) := hD
    refine lv_iinc (v := (5 : Int32)) (lv' := [(4, .int (5 : Int32)), (5, .int v_33), (0, .ref h0), (1, .int a1), (2, .int a2), (3, .int a3)]) hx hb dM_store_128 hl (k := 0) rfl (by decide) (by decide) rfl (fun ls hl => ?_)
    refine lv_goto (tgt := 102) hx hb dM_store_131 (by decide) ?_
    refine lv_iload hx hb dM_store_102 (lv_at hl 0 rfl) ?_
    refine lv_bipush (v := (6 : Int32)) hx hb dM_store_104 (by decide) ?_
    refine lv_icmp_ge (tgt := 134) hx hb dM_store_106 (by decide) (fun c0 => absurd c0 (by decide)) (fun _ => ?_)
    refine lv_aload_n hx hb dM_store_109 rfl (lv_at hl 2 rfl) ?_
    refine va_get (D := (dC, dI)) (ci := 1) (v := .ref q2) (C := RM) (T := TM) (N := 4) hx hb hts iM hown hK hP 0 rfl rfl 1 (by decide) (hts _ tw_215) (fun _ h9 => h9) rfl dM_store_110 ?_
    refine lv_bipush (v := (6 : Int32)) hx hb dM_store_113 (by decide) ?_
    refine lv_iload_n hx hb dM_store_115 rfl (lv_at hl 3 rfl) ?_
    refine lv_imul hx hb dM_store_116 ?_
    refine lv_iload hx hb dM_store_117 (lv_at hl 0 rfl) ?_
    refine lv_iadd hx hb dM_store_119 ?_
    refine lv_aload_n hx hb dM_store_120 rfl (lv_at hl 2 rfl) ?_
    refine va_get (D := (dC, dI)) (ci := 1) (v := .ref q4) (C := RM) (T := TM) (N := 4) hx hb hts iM hown hK hP 0 rfl rfl 3 (by decide) (hts _ tw_217) (fun _ h9 => h9) rfl dM_store_121 ?_
    refine lv_iload hx hb dM_store_124 (lv_at hl 0 rfl) ?_
    refine va_iald hx hb hK hP 4 3 rfl rfl (by unfold vp_in; decide) dM_store_126 ?_
    refine kk_top (y := v_36) (by first | rfl | (simp [upd]; done)) ?_
    refine va_iast hx hb hK hP hD hS 2 1 rfl rfl (in_96 (may_1 c_1) (by unfold vp_in; decide)) dM_store_127 (fun H locs hP hD hS => ?_)
    have hP : va_P (dC, dI) vwCl (wsM h0 q1 q2 q3 q4 k1 k2 k3 k4 g (upd (upd (upd (upd (upd b (((6 : Int32) * a1) + (1 : Int32)).toNatClampNeg v_8) (((6 : Int32) * a1) + (2 : Int32)).toNatClampNeg v_15) (((6 : Int32) * a1) + (3 : Int32)).toNatClampNeg v_22) (((6 : Int32) * a1) + (4 : Int32)).toNatClampNeg v_29) (((6 : Int32) * a1) + (5 : Int32)).toNatClampNeg v_36) t (upd (upd (upd (upd (upd w 1 v_8) 2 v_15) 3 v_22) 4 v_29) 5 v_36)) H := hP
    have hD : va_D A (wsM h0 q1 q2 q3 q4 k1 k2 k3 k4 g (upd (upd (upd (upd (upd b (((6 : Int32) * a1) + (1 : Int32)).toNatClampNeg v_8) (((6 : Int32) * a1) + (2 : Int32)).toNatClampNeg v_15) (((6 : Int32) * a1) + (3 : Int32)).toNatClampNeg v_22) (((6 : Int32) * a1) + (4 : Int32)).toNatClampNeg v_29) (((6 : Int32) * a1) + (5 : Int32)).toNatClampNeg v_36) t (upd (upd (upd (upd (upd w 1 v_8) 2 v_15) 3 v_22) 4 v_29) 5 v_36)) := hD
    refine lv_iinc (v := (6 : Int32)) (lv' := [(4, .int (6 : Int32)), (5, .int v_33), (0, .ref h0), (1, .int a1), (2, .int a2), (3, .int a3)]) hx hb dM_store_128 hl (k := 0) rfl (by decide) (by decide) rfl (fun ls hl => ?_)
    refine lv_goto (tgt := 102) hx hb dM_store_131 (by decide) ?_
    refine lv_iload hx hb dM_store_102 (lv_at hl 0 rfl) ?_
    refine lv_bipush (v := (6 : Int32)) hx hb dM_store_104 (by decide) ?_
    refine lv_icmp_ge (tgt := 134) hx hb dM_store_106 (by decide) (fun _ => ?_) (fun c0 => absurd (by decide) c0)
    refine lv_aload_n hx hb dM_store_134 rfl (lv_at hl 2 rfl) ?_
    refine va_get (D := (dC, dI)) (ci := 1) (v := .ref q1) (C := RM) (T := TM) (N := 4) hx hb hts iM hown hK hP 0 rfl rfl 0 (by decide) (hts _ tw_214) (fun _ h9 => h9) rfl dM_store_135 ?_
    refine lv_iload_n hx hb dM_store_138 rfl (lv_at hl 3 rfl) ?_
    refine kk_mrg (pc' := 160) (ls' := ls) (rest' := [.int a1, .ref q1]) (x := (if (8 : Int32) ≤ a3 then (g a1.toNatClampNeg) else (g a2.toNatClampNeg))) (fun hk_37 => ?_) (fun v_39 ev_39 => ?_)
    · refine lv_iload_n hx hb dM_store_139 rfl (lv_at hl 5 rfl) ?_
      refine lv_bipush (v := (8 : Int32)) hx hb dM_store_140 (by decide) ?_
      refine lv_icmp_ge (tgt := 154) hx hb dM_store_142 (by decide) (fun c_38 => ?_) (fun c_38 => ?_)
      · refine lv_aload_n hx hb dM_store_154 rfl (lv_at hl 2 rfl) ?_
        refine va_get (D := (dC, dI)) (ci := 1) (v := .ref q1) (C := RM) (T := TM) (N := 4) hx hb hts iM hown hK hP 0 rfl rfl 0 (by decide) (hts _ tw_214) (fun _ h9 => h9) rfl dM_store_155 ?_
        refine lv_iload_n hx hb dM_store_158 rfl (lv_at hl 3 rfl) ?_
        refine va_zald hx hb hK hP 1 0 rfl rfl (in_M (may_1 c_1)) dM_store_159 ?_
        exact hk_37 _ (by rw [if_pos c_38])
      · refine lv_aload_n hx hb dM_store_145 rfl (lv_at hl 2 rfl) ?_
        refine va_get (D := (dC, dI)) (ci := 1) (v := .ref q1) (C := RM) (T := TM) (N := 4) hx hb hts iM hown hK hP 0 rfl rfl 0 (by decide) (hts _ tw_214) (fun _ h9 => h9) rfl dM_store_146 ?_
        refine lv_iload_n hx hb dM_store_149 rfl (lv_at hl 4 rfl) ?_
        refine va_zald hx hb hK hP 1 0 rfl rfl (in_M (may_2 c_1)) dM_store_150 ?_
        refine lv_goto (tgt := 160) hx hb dM_store_151 (by decide) ?_
        exact hk_37 _ (by rw [if_neg c_38])
    refine va_zast hx hb hK hP hD hS 1 0 rfl rfl (in_M (may_1 c_1)) dM_store_160 (fun H locs hP hD hS => ?_)
    have hP : va_P (dC, dI) vwCl (wsM h0 q1 q2 q3 q4 k1 k2 k3 k4 (upd g a1.toNatClampNeg (vp_nar .boolean v_39)) (upd (upd (upd (upd (upd b (((6 : Int32) * a1) + (1 : Int32)).toNatClampNeg v_8) (((6 : Int32) * a1) + (2 : Int32)).toNatClampNeg v_15) (((6 : Int32) * a1) + (3 : Int32)).toNatClampNeg v_22) (((6 : Int32) * a1) + (4 : Int32)).toNatClampNeg v_29) (((6 : Int32) * a1) + (5 : Int32)).toNatClampNeg v_36) t (upd (upd (upd (upd (upd w 1 v_8) 2 v_15) 3 v_22) 4 v_29) 5 v_36)) H := hP
    have hD : va_D A (wsM h0 q1 q2 q3 q4 k1 k2 k3 k4 (upd g a1.toNatClampNeg (vp_nar .boolean v_39)) (upd (upd (upd (upd (upd b (((6 : Int32) * a1) + (1 : Int32)).toNatClampNeg v_8) (((6 : Int32) * a1) + (2 : Int32)).toNatClampNeg v_15) (((6 : Int32) * a1) + (3 : Int32)).toNatClampNeg v_22) (((6 : Int32) * a1) + (4 : Int32)).toNatClampNeg v_29) (((6 : Int32) * a1) + (5 : Int32)).toNatClampNeg v_36) t (upd (upd (upd (upd (upd w 1 v_8) 2 v_15) 3 v_22) 4 v_29) 5 v_36)) := hD
    refine lv_iconst (v := (1 : Int32)) hx hb dM_store_161 (by decide) ?_
    have eu_g : upd g a1.toNatClampNeg (vp_nar .boolean v_39) = (u_M_store_g g b t w a1 a2 a3) := (by subst ev_5; subst ev_8; subst ev_12; subst ev_15; subst ev_19; subst ev_22; subst ev_26; subst ev_29; subst ev_33; subst ev_36; subst ev_39; unfold u_M_store_g; rw [if_neg c_1])
    have eu_b : upd (upd (upd (upd (upd b (((6 : Int32) * a1) + (1 : Int32)).toNatClampNeg v_8) (((6 : Int32) * a1) + (2 : Int32)).toNatClampNeg v_15) (((6 : Int32) * a1) + (3 : Int32)).toNatClampNeg v_22) (((6 : Int32) * a1) + (4 : Int32)).toNatClampNeg v_29) (((6 : Int32) * a1) + (5 : Int32)).toNatClampNeg v_36 = (u_M_store_b g b t w a1 a2 a3) := (by subst ev_5; subst ev_8; subst ev_12; subst ev_15; subst ev_19; subst ev_22; subst ev_26; subst ev_29; subst ev_33; subst ev_36; subst ev_39; unfold u_M_store_b; rw [if_neg c_1])
    have eu_w : upd (upd (upd (upd (upd w 1 v_8) 2 v_15) 3 v_22) 4 v_29) 5 v_36 = (u_M_store_w g b t w a1 a2 a3) := (by subst ev_5; subst ev_8; subst ev_12; subst ev_15; subst ev_19; subst ev_22; subst ev_26; subst ev_29; subst ev_33; subst ev_36; subst ev_39; unfold u_M_store_w; rw [if_neg c_1])
    have hP9 : va_P (dC, dI) vwCl (wsM h0 q1 q2 q3 q4 k1 k2 k3 k4 ((u_M_store_g g b t w a1 a2 a3)) ((u_M_store_b g b t w a1 a2 a3)) t ((u_M_store_w g b t w a1 a2 a3))) H := by rw [← eu_g, ← eu_b, ← eu_w]; exact hP
    have hD9 : va_D A (wsM h0 q1 q2 q3 q4 k1 k2 k3 k4 ((u_M_store_g g b t w a1 a2 a3)) ((u_M_store_b g b t w a1 a2 a3)) t ((u_M_store_w g b t w a1 a2 a3))) := by rw [← eu_g, ← eu_b, ← eu_w]; exact hD
    exact W.zret (v := (1 : Int32)) hx hb hr (by decide) (fun tt ht hW => ⟨⟨(1 : Int32), (), rfl, (by subst ev_5; subst ev_8; subst ev_12; subst ev_15; subst ev_19; subst ev_22; subst ev_26; subst ev_29; subst ev_33; subst ev_36; subst ev_39; unfold f_M_store; rw [if_neg c_1]), by rw [ht]; exact hP9, hD9⟩, hS.F ht⟩) hS.2.2 dM_store_162
  · refine lv_iconst (v := (0 : Int32)) hx hb dM_store_10 (by decide) ?_
    have eu_g : g = (u_M_store_g g b t w a1 a2 a3) := (by unfold u_M_store_g; rw [if_pos c_1])
    have eu_b : b = (u_M_store_b g b t w a1 a2 a3) := (by unfold u_M_store_b; rw [if_pos c_1])
    have eu_w : w = (u_M_store_w g b t w a1 a2 a3) := (by unfold u_M_store_w; rw [if_pos c_1])
    have hP9 : va_P (dC, dI) vwCl (wsM h0 q1 q2 q3 q4 k1 k2 k3 k4 ((u_M_store_g g b t w a1 a2 a3)) ((u_M_store_b g b t w a1 a2 a3)) t ((u_M_store_w g b t w a1 a2 a3))) H := by rw [← eu_g, ← eu_b, ← eu_w]; exact hP
    have hD9 : va_D A (wsM h0 q1 q2 q3 q4 k1 k2 k3 k4 ((u_M_store_g g b t w a1 a2 a3)) ((u_M_store_b g b t w a1 a2 a3)) t ((u_M_store_w g b t w a1 a2 a3))) := by rw [← eu_g, ← eu_b, ← eu_w]; exact hD
    exact W.zret (v := (0 : Int32)) hx hb hr (by decide) (fun tt ht hW => ⟨⟨(0 : Int32), (), rfl, (by unfold f_M_store; rw [if_pos c_1]), by rw [ht]; exact hP9, hD9⟩, hS.F ht⟩) hS.2.2 dM_store_11
end
section
set_option maxHeartbeats 4000000 in
set_option maxRecDepth 100000 in
theorem c_M_code (l : Launch) (dC : Nat → ClassId) (dI : Nat → Nat → Nat) (h0 q1 q2 q3 q4 : Nat) (k1 k2 k3 k4 : ClassId) (g b t w : Nat → Int32) (a1 : Int32) : Met l yM_code wsM_code ({ frames := 0, cells := 0, slots := 0, locals := 0 }) (va_Pc [.ref h0, .int a1] (fun U => va_P (dC, dI) vwCl (wsM h0 q1 q2 q3 q4 k1 k2 k3 k4 g b t w) U.heap ∧ va_K (dC, dI) vwCl [(k1, .boolean), (k2, .int), (k3, .int), (k4, .int)] U)) (va_Qi (fun (r : Int32) (_ : Unit) => r = f_M_code g b t w a1) (fun _ _ => True) (fun _ => False)) 0 0 (fun _ => False) := by
  refine Met.ofW (cc := prog_3_method_17_code) (maxL := 5) (ret := (some .int)) (by decide) rfl ?_
  intro p e s m args below meth c s₁ B hml hv
  obtain ⟨rfl, hP, hK⟩ := hv
  have hx := B.exec
  have hb := B.bytes
  have hr := B.returns
  have hts := fun (w : Cond) (h : w ∈ gw) => atoms_spec (ws := wsM_code) B.pre w (List.mem_cons_of_mem _ h)
  have hown : s.vm.findClass RM = some m.cls := findClass_of_methodNamed B.named
  have hlocks := B.notSynchronized
  have hS : va_S (fun _ => False) s.heap s.heap [] := va_S.rf
  have hl := lv_entry ([.ref h0, .int a1]) (n := 5) (Nat.le_of_ble_eq_true rfl)
  rw [lg_entry_eq]
  generalize (lg_sl ([.ref h0, .int a1]) ++ List.replicate (5 - (lg_sl ([.ref h0, .int a1])).length) Slot.unset).toArray = ls at hl ⊢
  have hl : lv_has ls 5 [(0, .ref h0), (1, .int a1)] := hl
  refine lv_iload_n hx hb dM_code_0 rfl (lv_at hl 1 rfl) ?_
  refine lv_if_lt (tgt := 11) hx hb dM_code_1 (by decide) (fun c_1 => ?_) (fun c_1 => ?_)
  · refine lv_iconst (v := (-1 : Int32)) hx hb dM_code_11 (by decide) ?_
    exact W.iret (v := (-1 : Int32)) hx hb hr (fun tt ht hW => ⟨⟨(-1 : Int32), (), rfl, (by unfold f_M_code; rw [if_pos c_1]), trivial⟩, hS.F ht⟩) hS.2.2 dM_code_12
  · refine lv_iload_n hx hb dM_code_4 rfl (lv_at hl 1 rfl) ?_
    refine lv_sipush (v := (255 : Int32)) hx hb dM_code_5 (by decide) ?_
    refine lv_icmp_le (tgt := 13) hx hb dM_code_8 (by decide) (fun c_2 => ?_) (fun c_2 => ?_)
    · refine kk_mrg (pc' := 33) (ls' := ls) (rest' := []) (x := (if a1 < (97 : Int32) then a1 else (if (122 : Int32) < a1 then a1 else (a1 - (32 : Int32))))) (fun hk_3 => ?_) (fun v_6 ev_6 => ?_)
      · refine lv_iload_n hx hb dM_code_13 rfl (lv_at hl 1 rfl) ?_
        refine lv_bipush (v := (97 : Int32)) hx hb dM_code_14 (by decide) ?_
        refine lv_icmp_lt (tgt := 32) hx hb dM_code_16 (by decide) (fun c_4 => ?_) (fun c_4 => ?_)
        · refine lv_iload_n hx hb dM_code_32 rfl (lv_at hl 1 rfl) ?_
          exact hk_3 _ (by rw [if_pos c_4])
        · refine lv_iload_n hx hb dM_code_19 rfl (lv_at hl 1 rfl) ?_
          refine lv_bipush (v := (122 : Int32)) hx hb dM_code_20 (by decide) ?_
          refine lv_icmp_gt (tgt := 32) hx hb dM_code_22 (by decide) (fun c_5 => ?_) (fun c_5 => ?_)
          · refine lv_iload_n hx hb dM_code_32 rfl (lv_at hl 1 rfl) ?_
            exact hk_3 _ (by rw [if_neg c_4, if_pos c_5])
          · refine lv_iload_n hx hb dM_code_25 rfl (lv_at hl 1 rfl) ?_
            refine lv_bipush (v := (32 : Int32)) hx hb dM_code_26 (by decide) ?_
            refine lv_isub hx hb dM_code_28 ?_
            refine lv_goto (tgt := 33) hx hb dM_code_29 (by decide) ?_
            exact hk_3 _ (by rw [if_neg c_4, if_neg c_5])
      refine lv_istore_n (lv' := [(2, .int v_6), (0, .ref h0), (1, .int a1)]) hx hb dM_code_33 rfl hl (by decide) rfl (fun ls hl => ?_)
      refine lv_iconst (v := (0 : Int32)) hx hb dM_code_34 (by decide) ?_
      refine lv_istore_n (lv' := [(3, .int (0 : Int32)), (2, .int v_6), (0, .ref h0), (1, .int a1)]) hx hb dM_code_35 rfl hl (by decide) rfl (fun ls hl => ?_)
      refine lv_iconst (v := (0 : Int32)) hx hb dM_code_36 (by decide) ?_
      refine lv_istore (lv' := [(4, .int (0 : Int32)), (3, .int (0 : Int32)), (2, .int v_6), (0, .ref h0), (1, .int a1)]) hx hb dM_code_37 hl (by decide) rfl (fun ls hl => ?_)
      refine kk_ind (I := fun k fd ls => fd = cdS t v_6 k ∧ lv_has ls 5 [(4, .int (nI k)), (3, .int fd), (2, .int v_6), (0, .ref h0), (1, .int a1)]) 56 (fun k fd ls hk hI ih => ?_) 0 (0 : Int32) ls (by decide) ⟨rfl, hl⟩
      obtain ⟨efd, hl⟩ := hI
      refine lv_iload hx hb dM_code_39 (lv_at hl 0 rfl) ?_
      refine lv_bipush (v := (56 : Int32)) hx hb dM_code_41 (by decide) ?_
      refine lv_icmp_ge (tgt := 70) hx hb dM_code_43 (by decide) (fun c_7 => ?_) (fun c_7 => ?_)
      · refine lv_iload_n hx hb dM_code_70 rfl (lv_at hl 1 rfl) ?_
        exact W.iret (v := fd) hx hb hr (fun tt ht hW => ⟨⟨fd, (), rfl, (by rw [efd, eq_56 hk c_7, ev_6]; unfold f_M_code; rw [if_neg c_1, if_pos c_2]), trivial⟩, hS.F ht⟩) hS.2.2 dM_code_71
      · refine lv_aload_n hx hb dM_code_46 rfl (lv_at hl 3 rfl) ?_
        refine va_get (D := (dC, dI)) (ci := 1) (v := .ref q3) (C := RM) (T := TM) (N := 4) hx hb hts iM hown hK hP 0 rfl rfl 2 (by decide) (hts _ tw_216) (fun _ h9 => h9) rfl dM_code_47 ?_
        refine lv_iload hx hb dM_code_50 (lv_at hl 0 rfl) ?_
        refine va_iald hx hb hK hP 3 2 rfl rfl (vp_in_nI (lt_56 hk c_7) (by decide)) dM_code_52 ?_
        refine kk_top (y := (t k)) (by rw [nI_clamp (by omega)]) ?_
        refine lv_iload_n hx hb dM_code_53 rfl (lv_at hl 2 rfl) ?_
        refine kk_mrg (pc' := 63) (ls' := ls) (rest' := []) (x := (if (t k) = v_6 then (nI k) else fd)) (fun hk_8 => ?_) (fun v_10 ev_10 => ?_)
        · refine lv_icmp_ne (tgt := 62) hx hb dM_code_54 (by decide) (fun c_9 => ?_) (fun c_9 => ?_)
          · refine lv_iload_n hx hb dM_code_62 rfl (lv_at hl 1 rfl) ?_
            exact hk_8 _ (by rw [if_neg c_9])
          · refine lv_iload hx hb dM_code_57 (lv_at hl 0 rfl) ?_
            refine lv_goto (tgt := 63) hx hb dM_code_59 (by decide) ?_
            exact hk_8 _ (by rw [if_pos c_9])
        refine lv_istore_n (lv' := [(3, .int v_10), (4, .int (nI k)), (2, .int v_6), (0, .ref h0), (1, .int a1)]) hx hb dM_code_63 rfl hl (by decide) rfl (fun ls hl => ?_)
        refine lv_iinc (v := (nI (k + 1))) (lv' := [(4, .int (nI (k + 1))), (3, .int v_10), (2, .int v_6), (0, .ref h0), (1, .int a1)]) hx hb dM_code_64 hl (k := 1) rfl (nI_1 k) (by decide) rfl (fun ls hl => ?_)
        refine lv_goto (tgt := 39) hx hb dM_code_67 (by decide) ?_
        exact ih _ ls (lt_56 hk c_7) ⟨by rw [ev_10, efd]; rfl, lv_sub hl [0, 1, 2, 3, 4] rfl⟩
    · refine lv_iconst (v := (-1 : Int32)) hx hb dM_code_11 (by decide) ?_
      exact W.iret (v := (-1 : Int32)) hx hb hr (fun tt ht hW => ⟨⟨(-1 : Int32), (), rfl, (by unfold f_M_code; rw [if_neg c_1, if_neg c_2]), trivial⟩, hS.F ht⟩) hS.2.2 dM_code_12
end
section

set_option maxHeartbeats 4000000 in
set_option maxRecDepth 100000 in
theorem c_S_coder (l : Launch) (sK sV : Nat) : Met l yS_coder wsS_coder ({ frames := 0, cells := 0, slots := 0, locals := 0 }) (va_Pc [.ref sK] (fun U => sOK sK sV (fun _ => False) U U.heap)) (va_Qi (fun (r : Int32) (_ : Unit) => r = (0 : Int32)) (fun _ _ => True) (fun _ => False)) 0 0 (fun _ => False) := by
  refine Met.ofW (cc := prog_6_method_152_code) (maxL := 1) (ret := (some .byte)) (by decide) rfl ?_
  intro p e s m args below meth c s₁ B hml hv
  obtain ⟨rfl, hE⟩ := hv
  have hx := B.exec
  have hb := B.bytes
  have hr := B.returns
  have hts := fun (w : Cond) (h : w ∈ gw) => atoms_spec (ws := wsS_coder) B.pre w (List.mem_cons_of_mem _ h)
  have hown : s.vm.findClass RS = some m.cls := findClass_of_methodNamed B.named
  have hlocks := B.notSynchronized
  have hS : va_S (fun _ => False) s.heap s.heap [] := va_S.rf
  have hl := lv_entry ([.ref sK]) (n := 1) (Nat.le_of_ble_eq_true rfl)
  rw [lg_entry_eq]
  generalize (lg_sl ([.ref sK]) ++ List.replicate (1 - (lg_sl ([.ref sK])).length) Slot.unset).toArray = ls at hl ⊢
  have hl : lv_has ls 1 [(0, .ref sK)] := hl
  refine va_gets (v := .int 1) hx hb hE.2.2.2.2.1 hS hown (hts _ tw_103) (fun _ h9 => h9) dS_coder_0 ?_
  refine lv_if_eq (tgt := 13) hx hb dS_coder_3 (by decide) (fun c0 => absurd c0 (by decide)) (fun _ => ?_)
  refine lv_aload_n hx hb dS_coder_6 rfl (lv_at hl 0 rfl) ?_
  refine vk_getf (v := .int 0) hx hb hE.2.1 hS hown (hts _ tw_290) (fun _ h9 => h9) dS_coder_7 ?_
  refine lv_goto (tgt := 14) hx hb dS_coder_10 (by decide) ?_
  exact W.zret (v := (0 : Int32)) hx hb hr (by decide) (fun tt ht hW => ⟨⟨(0 : Int32), (), rfl, (by decide), trivial⟩, hS.F ht⟩) hS.2.2 dS_coder_14


set_option maxHeartbeats 4000000 in
set_option maxRecDepth 100000 in
theorem c_S_isLatin1 (l : Launch) (sK sV : Nat) : Met l yS_isLatin1 wsS_isLatin1 ({ frames := 0, cells := 0, slots := 0, locals := 0 }) (va_Pc [.ref sK] (fun U => sOK sK sV (fun _ => False) U U.heap)) (va_Qi (fun (r : Int32) (_ : Unit) => r = (1 : Int32)) (fun _ _ => True) (fun _ => False)) 0 0 (fun _ => False) := by
  refine Met.ofW (cc := prog_6_method_154_code) (maxL := 1) (ret := (some .boolean)) (by decide) rfl ?_
  intro p e s m args below meth c s₁ B hml hv
  obtain ⟨rfl, hE⟩ := hv
  have hx := B.exec
  have hb := B.bytes
  have hr := B.returns
  have hts := fun (w : Cond) (h : w ∈ gw) => atoms_spec (ws := wsS_isLatin1) B.pre w (List.mem_cons_of_mem _ h)
  have hown : s.vm.findClass RS = some m.cls := findClass_of_methodNamed B.named
  have hlocks := B.notSynchronized
  have hS : va_S (fun _ => False) s.heap s.heap [] := va_S.rf
  have hl := lv_entry ([.ref sK]) (n := 1) (Nat.le_of_ble_eq_true rfl)
  rw [lg_entry_eq]
  generalize (lg_sl ([.ref sK]) ++ List.replicate (1 - (lg_sl ([.ref sK])).length) Slot.unset).toArray = ls at hl ⊢
  have hl : lv_has ls 1 [(0, .ref sK)] := hl
  refine va_gets (v := .int 1) hx hb hE.2.2.2.2.1 hS hown (hts _ tw_103) (fun _ h9 => h9) dS_isLatin1_0 ?_
  refine lv_if_eq (tgt := 17) hx hb dS_isLatin1_3 (by decide) (fun c0 => absurd c0 (by decide)) (fun _ => ?_)
  refine lv_aload_n hx hb dS_isLatin1_6 rfl (lv_at hl 0 rfl) ?_
  refine vk_getf (v := .int 0) hx hb hE.2.1 hS hown (hts _ tw_290) (fun _ h9 => h9) dS_isLatin1_7 ?_
  refine lv_if_ne (tgt := 17) hx hb dS_isLatin1_10 (by decide) (fun c0 => absurd (by decide) c0) (fun _ => ?_)
  refine lv_iconst (v := (1 : Int32)) hx hb dS_isLatin1_13 (by decide) ?_
  refine lv_goto (tgt := 18) hx hb dS_isLatin1_14 (by decide) ?_
  exact W.zret (v := (1 : Int32)) hx hb hr (by decide) (fun tt ht hW => ⟨⟨(1 : Int32), (), rfl, (by decide), trivial⟩, hS.F ht⟩) hS.2.2 dS_isLatin1_18


set_option maxHeartbeats 4000000 in
set_option maxRecDepth 100000 in
theorem c_S_length (l : Launch) (sK sV : Nat) : Met l yS_length wsS_length ({ frames := 1, cells := 0, slots := 0, locals := 20 }) (va_Pc [.ref sK] (fun U => sOK sK sV (fun _ => False) U U.heap)) (va_Qi (fun (r : Int32) (_ : Unit) => r = (56 : Int32)) (fun _ _ => True) (fun _ => False)) 0 0 (fun _ => False) := by
  refine Met.ofW (cc := prog_6_method_54_code) (maxL := 1) (ret := (some .int)) (by decide) rfl ?_
  intro p e s m args below meth c s₁ B hml hv
  obtain ⟨rfl, hE⟩ := hv
  have hx := B.exec
  have hb := B.bytes
  have hr := B.returns
  have hts := fun (w : Cond) (h : w ∈ gw) => atoms_spec (ws := wsS_length) B.pre w (List.mem_cons_of_mem _ h)
  have hown : s.vm.findClass RS = some m.cls := findClass_of_methodNamed B.named
  have hlocks := B.notSynchronized
  have hS : va_S (fun _ => False) s.heap s.heap [] := va_S.rf
  have hl := lv_entry ([.ref sK]) (n := 1) (Nat.le_of_ble_eq_true rfl)
  rw [lg_entry_eq]
  generalize (lg_sl ([.ref sK]) ++ List.replicate (1 - (lg_sl ([.ref sK])).length) Slot.unset).toArray = ls at hl ⊢
  have hl : lv_has ls 1 [(0, .ref sK)] := hl
  refine lv_aload_n hx hb dS_length_0 rfl (lv_at hl 0 rfl) ?_
  refine vk_getf (v := .ref sV) hx hb hE.2.2.1 hS hown (hts _ tw_289) (fun _ h9 => h9) dS_length_1 ?_
  refine va_tlen (v := (56 : Int32)) hx hb hE.2.2.2.1 hS rfl dS_length_4 ?_
  refine lv_aload_n hx hb dS_length_5 rfl (lv_at hl 0 rfl) ?_
  refine kk_call0 (va_runV (As := []) (rest := [.int (56 : Int32)]) ⟨hx, hb, hml, hown, hts⟩ (c_S_coder l sK sV ) (cwV 0 hts (gV tw_99 tw_100 tw_101 tw_4 tw_102) rfl rfl rfl (by decide +kernel) ⟨Nat.le_of_ble_eq_true rfl, Nat.le_of_ble_eq_true rfl⟩) ⟨fun _ _ _ _ q => ⟨q.1, q.2.bl⟩, (hE.rc hS), fun U hU hW => ⟨rfl, hE.go hS hU hW⟩⟩ rfl rfl hl.1 rfl (lv_room (Nat.le_of_ble_eq_true rfl)) dS_length_6 ⟨Nat.le_of_ble_eq_true rfl, Nat.le_of_ble_eq_true rfl⟩) hS (fun H locs hS => ?_)
  refine lv_ishr hx hb dS_length_9 ?_
  exact W.iret (v := ((56 : Int32) >>> ((0 : Int32) &&& 31))) hx hb hr (fun tt ht hW => ⟨⟨((56 : Int32) >>> ((0 : Int32) &&& 31)), (), rfl, (by decide), trivial⟩, hS.F ht⟩) hS.2.2 dS_length_10

set_option maxHeartbeats 4000000 in
set_option maxRecDepth 100000 in
theorem c_Q_checkIndex (l : Launch) (a1 : Int32) (h1 : vp_in a1 56) : Met l yQ_checkIndex wsQ_checkIndex ({ frames := 0, cells := 0, slots := 0, locals := 0 }) (va_Pc [.int a1, .int (56 : Int32), .null] (fun _ => True)) (va_Qi (fun (r : Int32) (_ : Unit) => r = f_Q_checkIndex a1) (fun _ _ => True) (fun _ => False)) 0 0 (fun _ => False) := by
  refine Met.ofW (cc := prog_9_method_11_code) (maxL := 3) (ret := (some .int)) (by decide) rfl ?_
  intro p e s m args below meth c s₁ B hml hv
  obtain ⟨rfl, -⟩ := hv
  have hx := B.exec
  have hb := B.bytes
  have hr := B.returns
  have hts := fun (w : Cond) (h : w ∈ gw) => atoms_spec (ws := wsQ_checkIndex) B.pre w (List.mem_cons_of_mem _ h)
  have hown : s.vm.findClass RQ = some m.cls := findClass_of_methodNamed B.named
  have hlocks := B.notSynchronized
  have hS : va_S (fun _ => False) s.heap s.heap [] := va_S.rf
  have hl := lv_entry ([.int a1, .int (56 : Int32), .null]) (n := 3) (Nat.le_of_ble_eq_true rfl)
  rw [lg_entry_eq]
  generalize (lg_sl ([.int a1, .int (56 : Int32), .null]) ++ List.replicate (3 - (lg_sl ([.int a1, .int (56 : Int32), .null])).length) Slot.unset).toArray = ls at hl ⊢
  have hl : lv_has ls 3 [(0, .int a1), (1, .int (56 : Int32)), (2, .null)] := hl
  refine lv_iload_n hx hb dQ_checkIndex_0 rfl (lv_at hl 0 rfl) ?_
  refine lv_if_lt (tgt := 9) hx hb dQ_checkIndex_1 (by decide) (fun c0 => absurd c0 (in_n0 h1)) (fun _ => ?_)
  refine lv_iload_n hx hb dQ_checkIndex_4 rfl (lv_at hl 0 rfl) ?_
  refine lv_iload_n hx hb dQ_checkIndex_5 rfl (lv_at hl 1 rfl) ?_
  refine lv_icmp_lt (tgt := 16) hx hb dQ_checkIndex_6 (by decide) (fun _ => ?_) (fun c0 => absurd (in_n56 h1) c0)
  refine lv_iload_n hx hb dQ_checkIndex_16 rfl (lv_at hl 0 rfl) ?_
  exact W.iret (v := a1) hx hb hr (fun tt ht hW => ⟨⟨a1, (), rfl, (by rfl), trivial⟩, hS.F ht⟩) hS.2.2 dQ_checkIndex_17

set_option maxHeartbeats 4000000 in
set_option maxRecDepth 100000 in
theorem c_Q_checkIndexR (l : Launch) (a1 : Int32) (t9 : Nat) (h1 : vp_in a1 56) : Met l yQ_checkIndex wsQ_checkIndex ({ frames := 0, cells := 0, slots := 0, locals := 0 }) (va_Pc [.int a1, .int (56 : Int32), .ref t9] (fun _ => True)) (va_Qi (fun (r : Int32) (_ : Unit) => r = f_Q_checkIndexR a1) (fun _ _ => True) (fun _ => False)) 0 0 (fun _ => False) := by
  refine Met.ofW (cc := prog_9_method_11_code) (maxL := 3) (ret := (some .int)) (by decide) rfl ?_
  intro p e s m args below meth c s₁ B hml hv
  obtain ⟨rfl, -⟩ := hv
  have hx := B.exec
  have hb := B.bytes
  have hr := B.returns
  have hts := fun (w : Cond) (h : w ∈ gw) => atoms_spec (ws := wsQ_checkIndex) B.pre w (List.mem_cons_of_mem _ h)
  have hown : s.vm.findClass RQ = some m.cls := findClass_of_methodNamed B.named
  have hlocks := B.notSynchronized
  have hS : va_S (fun _ => False) s.heap s.heap [] := va_S.rf
  have hl := lv_entry ([.int a1, .int (56 : Int32), .ref t9]) (n := 3) (Nat.le_of_ble_eq_true rfl)
  rw [lg_entry_eq]
  generalize (lg_sl ([.int a1, .int (56 : Int32), .ref t9]) ++ List.replicate (3 - (lg_sl ([.int a1, .int (56 : Int32), .ref t9])).length) Slot.unset).toArray = ls at hl ⊢
  have hl : lv_has ls 3 [(0, .int a1), (1, .int (56 : Int32)), (2, .ref t9)] := hl
  refine lv_iload_n hx hb dQ_checkIndex_0 rfl (lv_at hl 0 rfl) ?_
  refine lv_if_lt (tgt := 9) hx hb dQ_checkIndex_1 (by decide) (fun c0 => absurd c0 (in_n0 h1)) (fun _ => ?_)
  refine lv_iload_n hx hb dQ_checkIndex_4 rfl (lv_at hl 0 rfl) ?_
  refine lv_iload_n hx hb dQ_checkIndex_5 rfl (lv_at hl 1 rfl) ?_
  refine lv_icmp_lt (tgt := 16) hx hb dQ_checkIndex_6 (by decide) (fun _ => ?_) (fun c0 => absurd (in_n56 h1) c0)
  refine lv_iload_n hx hb dQ_checkIndex_16 rfl (lv_at hl 0 rfl) ?_
  exact W.iret (v := a1) hx hb hr (fun tt ht hW => ⟨⟨a1, (), rfl, (by rfl), trivial⟩, hS.F ht⟩) hS.2.2 dQ_checkIndex_17

set_option maxHeartbeats 4000000 in
set_option maxRecDepth 100000 in
theorem c_S_checkIndex (l : Launch) (sK sV : Nat) (a1 : Int32) (h1 : vp_in a1 56) : Met l yS_checkIndex wsS_checkIndex ({ frames := 1, cells := 0, slots := 0, locals := 22 }) (va_Pc [.int a1, .int (56 : Int32)] (fun U => sOK sK sV (fun _ => False) U U.heap)) (va_Qv (fun _ : Unit => True) (fun _ _ => True) (fun _ => False)) 0 0 (fun _ => False) := by
  refine Met.ofW (cc := prog_6_method_155_code) (maxL := 2) (ret := none) (by decide) rfl ?_
  intro p e s m args below meth c s₁ B hml hv
  obtain ⟨rfl, hE⟩ := hv
  have hx := B.exec
  have hb := B.bytes
  have hr := B.returns
  have hts := fun (w : Cond) (h : w ∈ gw) => atoms_spec (ws := wsS_checkIndex) B.pre w (List.mem_cons_of_mem _ h)
  have hown : s.vm.findClass RS = some m.cls := findClass_of_methodNamed B.named
  have hlocks := B.notSynchronized
  have hS : va_S (fun _ => False) s.heap s.heap [] := va_S.rf
  have hl := lv_entry ([.int a1, .int (56 : Int32)]) (n := 2) (Nat.le_of_ble_eq_true rfl)
  rw [lg_entry_eq]
  generalize (lg_sl ([.int a1, .int (56 : Int32)]) ++ List.replicate (2 - (lg_sl ([.int a1, .int (56 : Int32)])).length) Slot.unset).toArray = ls at hl ⊢
  have hl : lv_has ls 2 [(0, .int a1), (1, .int (56 : Int32))] := hl
  refine lv_iload_n hx hb dS_checkIndex_0 rfl (lv_at hl 0 rfl) ?_
  refine lv_iload_n hx hb dS_checkIndex_1 rfl (lv_at hl 1 rfl) ?_
  rcases hE.zq with hz | ⟨t9, hz⟩
  ·
    refine va_gets (v := .null) hx hb hz hS hown (hts _ tw_119) (fun _ h9 => h9) dS_checkIndex_2 ?_
    refine kk_call0 (va_runS (As := [.int a1, .int (56 : Int32), .null]) (rest := []) ⟨hx, hb, hml, hown, hts⟩ (c_Q_checkIndex l a1 h1) (va_cwS 3 hts (gS tw_121 tw_122 tw_6 tw_123) rfl rfl rfl (by decide +kernel) ⟨Nat.le_of_ble_eq_true rfl, Nat.le_of_ble_eq_true rfl⟩) ⟨fun _ _ _ _ q => q, fun _ _ _ => ⟨rfl, trivial⟩⟩ rfl rfl hl.1 rfl (lv_room (Nat.le_of_ble_eq_true rfl)) dS_checkIndex_5 ⟨Nat.le_of_ble_eq_true rfl, Nat.le_of_ble_eq_true rfl⟩) hS (fun H locs hS => ?_)
    refine lv_pop hx hb dS_checkIndex_8 rfl ?_
    exact W.vret hx hb hr (fun tt ht hW => ⟨⟨(), rfl, trivial, trivial⟩, hS.F ht⟩) hS.2.2 dS_checkIndex_9
  ·
    refine va_gets (v := .ref t9) hx hb hz hS hown (hts _ tw_119) (fun _ h9 => h9) dS_checkIndex_2 ?_
    refine kk_call0 (va_runS (As := [.int a1, .int (56 : Int32), .ref t9]) (rest := []) ⟨hx, hb, hml, hown, hts⟩ (c_Q_checkIndexR l a1 t9 h1) (va_cwS 3 hts (gS tw_121 tw_122 tw_6 tw_123) rfl rfl rfl (by decide +kernel) ⟨Nat.le_of_ble_eq_true rfl, Nat.le_of_ble_eq_true rfl⟩) ⟨fun _ _ _ _ q => q, fun _ _ _ => ⟨rfl, trivial⟩⟩ rfl rfl hl.1 rfl (lv_room (Nat.le_of_ble_eq_true rfl)) dS_checkIndex_5 ⟨Nat.le_of_ble_eq_true rfl, Nat.le_of_ble_eq_true rfl⟩) hS (fun H locs hS => ?_)
    refine lv_pop hx hb dS_checkIndex_8 rfl ?_
    exact W.vret hx hb hr (fun tt ht hW => ⟨⟨(), rfl, trivial, trivial⟩, hS.F ht⟩) hS.2.2 dS_checkIndex_9

set_option maxHeartbeats 4000000 in
set_option maxRecDepth 100000 in
theorem c_Z_charAt (l : Launch) (sK sV : Nat) (a1 : Int32) (h1 : vp_in a1 56) : Met l yZ_charAt wsZ_charAt ({ frames := 2, cells := 0, slots := 0, locals := 43 }) (va_Pc [.ref sV, .int a1] (fun U => sOK sK sV (fun _ => False) U U.heap)) (va_Qi (fun (r : Int32) (_ : Unit) => r = f_Z_charAt a1) (fun _ _ => True) (fun _ => False)) 0 0 (fun _ => False) := by
  refine Met.ofW (cc := prog_7_method_2_code) (maxL := 2) (ret := (some .char)) (by decide) rfl ?_
  intro p e s m args below meth c s₁ B hml hv
  obtain ⟨rfl, hE⟩ := hv
  have hx := B.exec
  have hb := B.bytes
  have hr := B.returns
  have hts := fun (w : Cond) (h : w ∈ gw) => atoms_spec (ws := wsZ_charAt) B.pre w (List.mem_cons_of_mem _ h)
  have hown : s.vm.findClass RZ = some m.cls := findClass_of_methodNamed B.named
  have hlocks := B.notSynchronized
  have hS : va_S (fun _ => False) s.heap s.heap [] := va_S.rf
  have hl := lv_entry ([.ref sV, .int a1]) (n := 2) (Nat.le_of_ble_eq_true rfl)
  rw [lg_entry_eq]
  generalize (lg_sl ([.ref sV, .int a1]) ++ List.replicate (2 - (lg_sl ([.ref sV, .int a1])).length) Slot.unset).toArray = ls at hl ⊢
  have hl : lv_has ls 2 [(0, .ref sV), (1, .int a1)] := hl
  refine lv_iload_n hx hb dZ_charAt_0 rfl (lv_at hl 1 rfl) ?_
  refine lv_aload_n hx hb dZ_charAt_1 rfl (lv_at hl 0 rfl) ?_
  refine va_tlen (v := (56 : Int32)) hx hb hE.2.2.2.1 hS rfl dZ_charAt_2 ?_
  refine kk_callv0 (va_runS (As := [.int a1, .int (56 : Int32)]) (rest := []) ⟨hx, hb, hml, hown, hts⟩ (c_S_checkIndex l sK sV a1 h1) (va_cwS 2 hts (gS tw_116 tw_117 tw_4 tw_118) rfl rfl rfl (by decide +kernel) ⟨Nat.le_of_ble_eq_true rfl, Nat.le_of_ble_eq_true rfl⟩) ⟨fun _ _ _ _ q => ⟨q.1, q.2.bl⟩, fun U hU hW => ⟨rfl, hE.go hS hU hW⟩⟩ rfl rfl hl.1 rfl (lv_room (Nat.le_of_ble_eq_true rfl)) dZ_charAt_3 ⟨Nat.le_of_ble_eq_true rfl, Nat.le_of_ble_eq_true rfl⟩) hS (fun H locs hS => ?_)
  refine lv_aload_n hx hb dZ_charAt_6 rfl (lv_at hl 0 rfl) ?_
  refine lv_iload_n hx hb dZ_charAt_7 rfl (lv_at hl 1 rfl) ?_
  refine va_tb (v := .int (sby a1.toNatClampNeg)) hx hb hE.2.2.2.1 hS (h1) rfl dZ_charAt_8 ?_
  refine lv_sipush (v := (255 : Int32)) hx hb dZ_charAt_9 (by decide) ?_
  refine lv_iand hx hb dZ_charAt_12 ?_
  refine lv_i2c hx hb dZ_charAt_13 rfl ?_
  exact W.zret (v := (((sby a1.toNatClampNeg) &&& (255 : Int32)).toUInt32 % 65536).toInt32) hx hb hr (pk_nc _) (fun tt ht hW => ⟨⟨(((sby a1.toNatClampNeg) &&& (255 : Int32)).toUInt32 % 65536).toInt32, (), rfl, (by rfl), trivial⟩, hS.F ht⟩) hS.2.2 dZ_charAt_14

theorem nar_ch (x : Int32) : narrow .char (.int (f_Z_charAt x)) = .int (f_Z_charAt x) := pk_nc _

set_option maxHeartbeats 4000000 in
set_option maxRecDepth 100000 in
theorem c_S_charAt (l : Launch) (sK sV : Nat) (a1 : Int32) (h1 : vp_in a1 56) : Met l yS_charAt wsS_charAt ({ frames := 3, cells := 0, slots := 0, locals := 64 }) (va_Pc [.ref sK, .int a1] (fun U => sOK sK sV (fun _ => False) U U.heap)) (va_Qi (fun (r : Int32) (_ : Unit) => r = f_S_charAt a1) (fun _ _ => True) (fun _ => False)) 0 0 (fun _ => False) := by
  refine Met.ofW (cc := prog_6_method_56_code) (maxL := 2) (ret := (some .char)) (by decide) rfl ?_
  intro p e s m args below meth c s₁ B hml hv
  obtain ⟨rfl, hE⟩ := hv
  have hx := B.exec
  have hb := B.bytes
  have hr := B.returns
  have hts := fun (w : Cond) (h : w ∈ gw) => atoms_spec (ws := wsS_charAt) B.pre w (List.mem_cons_of_mem _ h)
  have hown : s.vm.findClass RS = some m.cls := findClass_of_methodNamed B.named
  have hlocks := B.notSynchronized
  have hS : va_S (fun _ => False) s.heap s.heap [] := va_S.rf
  have hl := lv_entry ([.ref sK, .int a1]) (n := 2) (Nat.le_of_ble_eq_true rfl)
  rw [lg_entry_eq]
  generalize (lg_sl ([.ref sK, .int a1]) ++ List.replicate (2 - (lg_sl ([.ref sK, .int a1])).length) Slot.unset).toArray = ls at hl ⊢
  have hl : lv_has ls 2 [(0, .ref sK), (1, .int a1)] := hl
  refine lv_aload_n hx hb dS_charAt_0 rfl (lv_at hl 0 rfl) ?_
  refine kk_call0 (va_runV (As := []) (rest := []) ⟨hx, hb, hml, hown, hts⟩ (c_S_isLatin1 l sK sV ) (cwV 0 hts (gV tw_109 tw_110 tw_111 tw_4 tw_112) rfl rfl rfl (by decide +kernel) ⟨Nat.le_of_ble_eq_true rfl, Nat.le_of_ble_eq_true rfl⟩) ⟨fun _ _ _ _ q => ⟨q.1, q.2.bl⟩, (hE.rc hS), fun U hU hW => ⟨rfl, hE.go hS hU hW⟩⟩ rfl rfl hl.1 rfl (lv_room (Nat.le_of_ble_eq_true rfl)) dS_charAt_1 ⟨Nat.le_of_ble_eq_true rfl, Nat.le_of_ble_eq_true rfl⟩) hS (fun H locs hS => ?_)
  refine lv_if_eq (tgt := 16) hx hb dS_charAt_4 (by decide) (fun c0 => absurd c0 (by decide)) (fun _ => ?_)
  refine lv_aload_n hx hb dS_charAt_7 rfl (lv_at hl 0 rfl) ?_
  refine vk_getf (v := .ref sV) hx hb hE.2.2.1 hS hown (hts _ tw_289) (fun _ h9 => h9) dS_charAt_8 ?_
  refine lv_iload_n hx hb dS_charAt_11 rfl (lv_at hl 1 rfl) ?_
  refine kk_call0 (va_runS (As := [.ref sV, .int a1]) (rest := []) ⟨hx, hb, hml, hown, hts⟩ (c_Z_charAt l sK sV a1 h1) (va_cwS 2 hts (gS tw_113 tw_114 tw_5 tw_115) rfl rfl rfl (by decide +kernel) ⟨Nat.le_of_ble_eq_true rfl, Nat.le_of_ble_eq_true rfl⟩) ⟨fun _ _ _ _ q => ⟨q.1, q.2.bl⟩, fun U hU hW => ⟨rfl, hE.go hS hU hW⟩⟩ rfl rfl hl.1 rfl (lv_room (Nat.le_of_ble_eq_true rfl)) dS_charAt_12 ⟨Nat.le_of_ble_eq_true rfl, Nat.le_of_ble_eq_true rfl⟩) hS (fun H locs hS => ?_)
  exact W.zret (v := (f_Z_charAt a1)) hx hb hr (nar_ch _) (fun tt ht hW => ⟨⟨(f_Z_charAt a1), (), rfl, (by rfl), trivial⟩, hS.F ht⟩) hS.2.2 dS_charAt_15

set_option maxHeartbeats 4000000 in
set_option maxRecDepth 100000 in
theorem c_Z_canEncode (l : Launch) (a1 : Int32) : Met l yZ_canEncode wsZ_canEncode ({ frames := 0, cells := 0, slots := 0, locals := 0 }) (va_Pc [.int a1] (fun _ => True)) (va_Qi (fun (r : Int32) (_ : Unit) => r = f_Z_canEncode a1) (fun _ _ => True) (fun _ => False)) 0 0 (fun _ => False) := by
  refine Met.ofW (cc := prog_7_method_4_code) (maxL := 1) (ret := (some .boolean)) (by decide) rfl ?_
  intro p e s m args below meth c s₁ B hml hv
  obtain ⟨rfl, -⟩ := hv
  have hx := B.exec
  have hb := B.bytes
  have hr := B.returns
  have hts := fun (w : Cond) (h : w ∈ gw) => atoms_spec (ws := wsZ_canEncode) B.pre w (List.mem_cons_of_mem _ h)
  have hown : s.vm.findClass RZ = some m.cls := findClass_of_methodNamed B.named
  have hlocks := B.notSynchronized
  have hS : va_S (fun _ => False) s.heap s.heap [] := va_S.rf
  have hl := lv_entry ([.int a1]) (n := 1) (Nat.le_of_ble_eq_true rfl)
  rw [lg_entry_eq]
  generalize (lg_sl ([.int a1]) ++ List.replicate (1 - (lg_sl ([.int a1])).length) Slot.unset).toArray = ls at hl ⊢
  have hl : lv_has ls 1 [(0, .int a1)] := hl
  refine lv_iload_n hx hb dZ_canEncode_0 rfl (lv_at hl 0 rfl) ?_
  refine lv_if_lt (tgt := 15) hx hb dZ_canEncode_1 (by decide) (fun c_1 => ?_) (fun c_1 => ?_)
  · refine lv_iconst (v := (0 : Int32)) hx hb dZ_canEncode_15 (by decide) ?_
    exact W.zret (v := (0 : Int32)) hx hb hr (by decide) (fun tt ht hW => ⟨⟨(0 : Int32), (), rfl, (by unfold f_Z_canEncode; rw [if_pos c_1]), trivial⟩, hS.F ht⟩) hS.2.2 dZ_canEncode_16
  · refine lv_iload_n hx hb dZ_canEncode_4 rfl (lv_at hl 0 rfl) ?_
    refine lv_sipush (v := (255 : Int32)) hx hb dZ_canEncode_5 (by decide) ?_
    refine lv_icmp_gt (tgt := 15) hx hb dZ_canEncode_8 (by decide) (fun c_2 => ?_) (fun c_2 => ?_)
    · refine lv_iconst (v := (0 : Int32)) hx hb dZ_canEncode_15 (by decide) ?_
      exact W.zret (v := (0 : Int32)) hx hb hr (by decide) (fun tt ht hW => ⟨⟨(0 : Int32), (), rfl, (by unfold f_Z_canEncode; rw [if_neg c_1, if_pos c_2]), trivial⟩, hS.F ht⟩) hS.2.2 dZ_canEncode_16
    · refine lv_iconst (v := (1 : Int32)) hx hb dZ_canEncode_11 (by decide) ?_
      refine lv_goto (tgt := 16) hx hb dZ_canEncode_12 (by decide) ?_
      exact W.zret (v := (1 : Int32)) hx hb hr (by decide) (fun tt ht hW => ⟨⟨(1 : Int32), (), rfl, (by unfold f_Z_canEncode; rw [if_neg c_1, if_neg c_2]), trivial⟩, hS.F ht⟩) hS.2.2 dZ_canEncode_16

set_option maxHeartbeats 4000000 in
set_option maxRecDepth 100000 in
theorem c_Z_indexOfChar (l : Launch) (sK sV : Nat) (a1 : Int32) : Met l yZ_indexOfChar wsZ_indexOfChar ({ frames := 0, cells := 0, slots := 0, locals := 0 }) (va_Pc [.ref sV, .int a1, .int (0 : Int32), .int (56 : Int32)] (fun U => sOK sK sV (fun _ => False) U U.heap)) (va_Qi (fun (r : Int32) (_ : Unit) => r = f_Z_indexOfChar a1) (fun _ _ => True) (fun _ => False)) 0 0 (fun _ => False) := by
  refine Met.ofW (cc := prog_7_method_23_code) (maxL := 6) (ret := (some .int)) (by decide) rfl ?_
  intro p e s m args below meth c s₁ B hml hv
  obtain ⟨rfl, hE⟩ := hv
  have hx := B.exec
  have hb := B.bytes
  have hr := B.returns
  have hts := fun (w : Cond) (h : w ∈ gw) => atoms_spec (ws := wsZ_indexOfChar) B.pre w (List.mem_cons_of_mem _ h)
  have hown : s.vm.findClass RZ = some m.cls := findClass_of_methodNamed B.named
  have hlocks := B.notSynchronized
  have hS : va_S (fun _ => False) s.heap s.heap [] := va_S.rf
  have hl := lv_entry ([.ref sV, .int a1, .int (0 : Int32), .int (56 : Int32)]) (n := 6) (Nat.le_of_ble_eq_true rfl)
  rw [lg_entry_eq]
  generalize (lg_sl ([.ref sV, .int a1, .int (0 : Int32), .int (56 : Int32)]) ++ List.replicate (6 - (lg_sl ([.ref sV, .int a1, .int (0 : Int32), .int (56 : Int32)])).length) Slot.unset).toArray = ls at hl ⊢
  have hl : lv_has ls 6 [(0, .ref sV), (1, .int a1), (2, .int (0 : Int32)), (3, .int (56 : Int32))] := hl
  refine lv_iload_n hx hb dZ_indexOfChar_0 rfl (lv_at hl 1 rfl) ?_
  refine lv_i2b hx hb dZ_indexOfChar_1 rfl ?_
  refine lv_istore (lv' := [(4, .int a1.toInt8.toInt32), (0, .ref sV), (1, .int a1), (2, .int (0 : Int32)), (3, .int (56 : Int32))]) hx hb dZ_indexOfChar_2 hl (by decide) rfl (fun ls hl => ?_)
  refine lv_iload_n hx hb dZ_indexOfChar_4 rfl (lv_at hl 3 rfl) ?_
  refine lv_istore (lv' := [(5, .int (0 : Int32)), (4, .int a1.toInt8.toInt32), (0, .ref sV), (1, .int a1), (2, .int (0 : Int32)), (3, .int (56 : Int32))]) hx hb dZ_indexOfChar_5 hl (by decide) rfl (fun ls hl => ?_)
  refine kk_ind (I := fun k fd ls => fd = 0 ∧ ixF a1.toInt8.toInt32 56 0 = ixF a1.toInt8.toInt32 (56 - k) k ∧ lv_has ls 6 [(5, .int (nI k)), (4, .int a1.toInt8.toInt32), (0, .ref sV), (1, .int a1), (2, .int (0 : Int32)), (3, .int (56 : Int32))]) 56 (fun k fd ls hk hI ih => ?_) 0 (0 : Int32) ls (by decide) ⟨rfl, rfl, hl⟩
  obtain ⟨efd, eix, hl⟩ := hI
  refine lv_iload hx hb dZ_indexOfChar_7 (lv_at hl 0 rfl) ?_
  refine lv_iload_n hx hb dZ_indexOfChar_9 rfl (lv_at hl 5 rfl) ?_
  refine lv_icmp_ge (tgt := 31) hx hb dZ_indexOfChar_10 (by decide) (fun c_1 => ?_) (fun c_1 => ?_)
  · refine lv_iconst (v := (-1 : Int32)) hx hb dZ_indexOfChar_31 (by decide) ?_
    exact W.iret (v := (-1 : Int32)) hx hb hr (fun tt ht hW => ⟨⟨(-1 : Int32), (), rfl, (by unfold f_Z_indexOfChar; rw [eix]; exact (ixF_e hk c_1).symm), trivial⟩, hS.F ht⟩) hS.2.2 dZ_indexOfChar_32
  · refine lv_aload_n hx hb dZ_indexOfChar_13 rfl (lv_at hl 2 rfl) ?_
    refine lv_iload hx hb dZ_indexOfChar_14 (lv_at hl 0 rfl) ?_
    refine va_tb (v := .int (sby k)) hx hb hE.2.2.2.1 hS (vp_in_nI (lt_56 hk c_1) (by decide)) (by rw [nI_clamp (by omega)]) dZ_indexOfChar_16 ?_
    refine lv_iload hx hb dZ_indexOfChar_17 (lv_at hl 1 rfl) ?_
    refine lv_icmp_ne (tgt := 25) hx hb dZ_indexOfChar_19 (by decide) (fun c_2 => ?_) (fun c_2 => ?_)
    · refine lv_iinc (v := (nI (k + 1))) (lv' := [(5, .int (nI (k + 1))), (4, .int a1.toInt8.toInt32), (0, .ref sV), (1, .int a1), (2, .int (0 : Int32)), (3, .int (56 : Int32))]) hx hb dZ_indexOfChar_25 hl (k := 0) rfl (nI_1 k) (by decide) rfl (fun ls hl => ?_)
      refine lv_goto (tgt := 7) hx hb dZ_indexOfChar_28 (by decide) ?_
      exact ih 0 ls (lt_56 hk c_1) ⟨rfl, by rw [eix]; exact ixF_s (lt_56 hk c_1) c_2, lv_sub hl [0, 1, 2, 3, 4, 5] rfl⟩
    · refine lv_iload hx hb dZ_indexOfChar_22 (lv_at hl 0 rfl) ?_
      exact W.iret (v := (nI k)) hx hb hr (fun tt ht hW => ⟨⟨(nI k), (), rfl, (by unfold f_Z_indexOfChar; rw [eix]; exact (ixF_h (lt_56 hk c_1) c_2).symm), trivial⟩, hS.F ht⟩) hS.2.2 dZ_indexOfChar_24

set_option maxHeartbeats 4000000 in
set_option maxRecDepth 100000 in
theorem c_Z_indexOf (l : Launch) (sK sV : Nat) (a1 : Int32) : Met l yZ_indexOf wsZ_indexOf ({ frames := 1, cells := 0, slots := 0, locals := 25 }) (va_Pc [.ref sV, .int a1, .int (0 : Int32), .int (56 : Int32)] (fun U => sOK sK sV (fun _ => False) U U.heap)) (va_Qi (fun (r : Int32) (_ : Unit) => r = f_Z_indexOf a1) (fun _ _ => True) (fun _ => False)) 0 0 (fun _ => False) := by
  refine Met.ofW (cc := prog_7_method_22_code) (maxL := 4) (ret := (some .int)) (by decide) rfl ?_
  intro p e s m args below meth c s₁ B hml hv
  obtain ⟨rfl, hE⟩ := hv
  have hx := B.exec
  have hb := B.bytes
  have hr := B.returns
  have hts := fun (w : Cond) (h : w ∈ gw) => atoms_spec (ws := wsZ_indexOf) B.pre w (List.mem_cons_of_mem _ h)
  have hown : s.vm.findClass RZ = some m.cls := findClass_of_methodNamed B.named
  have hlocks := B.notSynchronized
  have hS : va_S (fun _ => False) s.heap s.heap [] := va_S.rf
  have hl := lv_entry ([.ref sV, .int a1, .int (0 : Int32), .int (56 : Int32)]) (n := 4) (Nat.le_of_ble_eq_true rfl)
  rw [lg_entry_eq]
  generalize (lg_sl ([.ref sV, .int a1, .int (0 : Int32), .int (56 : Int32)]) ++ List.replicate (4 - (lg_sl ([.ref sV, .int a1, .int (0 : Int32), .int (56 : Int32)])).length) Slot.unset).toArray = ls at hl ⊢
  have hl : lv_has ls 4 [(0, .ref sV), (1, .int a1), (2, .int (0 : Int32)), (3, .int (56 : Int32))] := hl
  refine lv_iload_n hx hb dZ_indexOf_0 rfl (lv_at hl 1 rfl) ?_
  refine kk_call0 (va_runS (As := [.int a1]) (rest := []) ⟨hx, hb, hml, hown, hts⟩ (c_Z_canEncode l a1) (va_cwS 1 hts (gS tw_163 tw_164 tw_5 tw_165) rfl rfl rfl (by decide +kernel) ⟨Nat.le_of_ble_eq_true rfl, Nat.le_of_ble_eq_true rfl⟩) ⟨fun _ _ _ _ q => q, fun _ _ _ => ⟨rfl, trivial⟩⟩ rfl rfl hl.1 rfl (lv_room (Nat.le_of_ble_eq_true rfl)) dZ_indexOf_1 ⟨Nat.le_of_ble_eq_true rfl, Nat.le_of_ble_eq_true rfl⟩) hS (fun H locs hS => ?_)
  refine lv_if_ne (tgt := 9) hx hb dZ_indexOf_4 (by decide) (fun c_1 => ?_) (fun c_1 => ?_)
  · refine lv_iload_n hx hb dZ_indexOf_9 rfl (lv_at hl 2 rfl) ?_
    refine lv_iconst (v := (0 : Int32)) hx hb dZ_indexOf_10 (by decide) ?_
    refine va_mmax hx hb (hml.trans hl.1.symm) hown (hts _ tw_166) (hts _ tw_72) (hts _ tw_3) (hts _ tw_mmax) (Nat.le_of_ble_eq_true rfl) (Nat.le_of_ble_eq_true rfl) (Nat.le_of_ble_eq_true rfl) (Nat.le_of_ble_eq_true rfl) dZ_indexOf_11 ?_
    refine kk_top (y := (0 : Int32)) (by decide) ?_
    refine lv_istore_n (lv' := [(2, .int (0 : Int32)), (0, .ref sV), (1, .int a1), (3, .int (56 : Int32))]) hx hb dZ_indexOf_14 rfl hl (by decide) rfl (fun ls hl => ?_)
    refine lv_iload_n hx hb dZ_indexOf_15 rfl (lv_at hl 3 rfl) ?_
    refine lv_aload_n hx hb dZ_indexOf_16 rfl (lv_at hl 1 rfl) ?_
    refine va_tlen (v := (56 : Int32)) hx hb hE.2.2.2.1 hS rfl dZ_indexOf_17 ?_
    refine va_mmin hx hb (hml.trans hl.1.symm) hown (hts _ tw_167) (hts _ tw_168) (hts _ tw_3) (hts _ tw_mmin) (Nat.le_of_ble_eq_true rfl) (Nat.le_of_ble_eq_true rfl) (Nat.le_of_ble_eq_true rfl) (Nat.le_of_ble_eq_true rfl) dZ_indexOf_18 ?_
    refine kk_top (y := (56 : Int32)) (by decide) ?_
    refine lv_istore_n (lv' := [(3, .int (56 : Int32)), (2, .int (0 : Int32)), (0, .ref sV), (1, .int a1)]) hx hb dZ_indexOf_21 rfl hl (by decide) rfl (fun ls hl => ?_)
    refine lv_iload_n hx hb dZ_indexOf_22 rfl (lv_at hl 1 rfl) ?_
    refine lv_iload_n hx hb dZ_indexOf_23 rfl (lv_at hl 0 rfl) ?_
    refine lv_icmp_lt (tgt := 29) hx hb dZ_indexOf_24 (by decide) (fun _ => ?_) (fun c0 => absurd (by decide) c0)
    refine lv_aload_n hx hb dZ_indexOf_29 rfl (lv_at hl 2 rfl) ?_
    refine lv_iload_n hx hb dZ_indexOf_30 rfl (lv_at hl 3 rfl) ?_
    refine lv_iload_n hx hb dZ_indexOf_31 rfl (lv_at hl 1 rfl) ?_
    refine lv_iload_n hx hb dZ_indexOf_32 rfl (lv_at hl 0 rfl) ?_
    refine kk_call0 (va_runS (As := [.ref sV, .int a1, .int (0 : Int32), .int (56 : Int32)]) (rest := []) ⟨hx, hb, hml, hown, hts⟩ (c_Z_indexOfChar l sK sV a1) (va_cwS 4 hts (gS tw_170 tw_171 tw_5 tw_172) rfl rfl rfl (by decide +kernel) ⟨Nat.le_of_ble_eq_true rfl, Nat.le_of_ble_eq_true rfl⟩) ⟨fun _ _ _ _ q => ⟨q.1, q.2.bl⟩, fun U hU hW => ⟨rfl, hE.go hS hU hW⟩⟩ rfl rfl hl.1 rfl (lv_room (Nat.le_of_ble_eq_true rfl)) dZ_indexOf_33 ⟨Nat.le_of_ble_eq_true rfl, Nat.le_of_ble_eq_true rfl⟩) hS (fun H locs hS => ?_)
    exact W.iret (v := (f_Z_indexOfChar a1)) hx hb hr (fun tt ht hW => ⟨⟨(f_Z_indexOfChar a1), (), rfl, (by unfold f_Z_indexOf; rw [if_neg c_1]), trivial⟩, hS.F ht⟩) hS.2.2 dZ_indexOf_36
  · refine lv_iconst (v := (-1 : Int32)) hx hb dZ_indexOf_7 (by decide) ?_
    exact W.iret (v := (-1 : Int32)) hx hb hr (fun tt ht hW => ⟨⟨(-1 : Int32), (), rfl, (by unfold f_Z_indexOf; rw [if_pos c_1]), trivial⟩, hS.F ht⟩) hS.2.2 dZ_indexOf_8

set_option maxHeartbeats 4000000 in
set_option maxRecDepth 100000 in
theorem c_S_indexOf2 (l : Launch) (sK sV : Nat) (a1 : Int32) : Met l yS_indexOf2 wsS_indexOf2 ({ frames := 2, cells := 0, slots := 0, locals := 48 }) (va_Pc [.ref sK, .int a1, .int (0 : Int32)] (fun U => sOK sK sV (fun _ => False) U U.heap)) (va_Qi (fun (r : Int32) (_ : Unit) => r = f_S_indexOf2 a1) (fun _ _ => True) (fun _ => False)) 0 0 (fun _ => False) := by
  refine Met.ofW (cc := prog_6_method_80_code) (maxL := 3) (ret := (some .int)) (by decide) rfl ?_
  intro p e s m args below meth c s₁ B hml hv
  obtain ⟨rfl, hE⟩ := hv
  have hx := B.exec
  have hb := B.bytes
  have hr := B.returns
  have hts := fun (w : Cond) (h : w ∈ gw) => atoms_spec (ws := wsS_indexOf2) B.pre w (List.mem_cons_of_mem _ h)
  have hown : s.vm.findClass RS = some m.cls := findClass_of_methodNamed B.named
  have hlocks := B.notSynchronized
  have hS : va_S (fun _ => False) s.heap s.heap [] := va_S.rf
  have hl := lv_entry ([.ref sK, .int a1, .int (0 : Int32)]) (n := 3) (Nat.le_of_ble_eq_true rfl)
  rw [lg_entry_eq]
  generalize (lg_sl ([.ref sK, .int a1, .int (0 : Int32)]) ++ List.replicate (3 - (lg_sl ([.ref sK, .int a1, .int (0 : Int32)])).length) Slot.unset).toArray = ls at hl ⊢
  have hl : lv_has ls 3 [(0, .ref sK), (1, .int a1), (2, .int (0 : Int32))] := hl
  refine lv_aload_n hx hb dS_indexOf2_0 rfl (lv_at hl 0 rfl) ?_
  refine kk_call0 (va_runV (As := []) (rest := []) ⟨hx, hb, hml, hown, hts⟩ (c_S_isLatin1 l sK sV ) (cwV 0 hts (gV tw_109 tw_110 tw_111 tw_4 tw_112) rfl rfl rfl (by decide +kernel) ⟨Nat.le_of_ble_eq_true rfl, Nat.le_of_ble_eq_true rfl⟩) ⟨fun _ _ _ _ q => ⟨q.1, q.2.bl⟩, (hE.rc hS), fun U hU hW => ⟨rfl, hE.go hS hU hW⟩⟩ rfl rfl hl.1 rfl (lv_room (Nat.le_of_ble_eq_true rfl)) dS_indexOf2_1 ⟨Nat.le_of_ble_eq_true rfl, Nat.le_of_ble_eq_true rfl⟩) hS (fun H locs hS => ?_)
  refine lv_if_eq (tgt := 23) hx hb dS_indexOf2_4 (by decide) (fun c0 => absurd c0 (by decide)) (fun _ => ?_)
  refine lv_aload_n hx hb dS_indexOf2_7 rfl (lv_at hl 0 rfl) ?_
  refine vk_getf (v := .ref sV) hx hb hE.2.2.1 hS hown (hts _ tw_289) (fun _ h9 => h9) dS_indexOf2_8 ?_
  refine lv_iload_n hx hb dS_indexOf2_11 rfl (lv_at hl 1 rfl) ?_
  refine lv_iload_n hx hb dS_indexOf2_12 rfl (lv_at hl 2 rfl) ?_
  refine lv_aload_n hx hb dS_indexOf2_13 rfl (lv_at hl 0 rfl) ?_
  refine kk_call0 (va_runV (As := []) (rest := [.int (0 : Int32), .int a1, .ref sV]) ⟨hx, hb, hml, hown, hts⟩ (c_S_length l sK sV ) (cwV 0 hts (gV tw_159 tw_96 tw_97 tw_4 tw_98) rfl rfl rfl (by decide +kernel) ⟨Nat.le_of_ble_eq_true rfl, Nat.le_of_ble_eq_true rfl⟩) ⟨fun _ _ _ _ q => ⟨q.1, q.2.bl⟩, (hE.rc hS), fun U hU hW => ⟨rfl, hE.go hS hU hW⟩⟩ rfl rfl hl.1 rfl (lv_room (Nat.le_of_ble_eq_true rfl)) dS_indexOf2_14 ⟨Nat.le_of_ble_eq_true rfl, Nat.le_of_ble_eq_true rfl⟩) hS (fun H locs hS => ?_)
  refine kk_call0 (va_runS (As := [.ref sV, .int a1, .int (0 : Int32), .int (56 : Int32)]) (rest := []) ⟨hx, hb, hml, hown, hts⟩ (c_Z_indexOf l sK sV a1) (va_cwS 4 hts (gS tw_160 tw_161 tw_5 tw_162) rfl rfl rfl (by decide +kernel) ⟨Nat.le_of_ble_eq_true rfl, Nat.le_of_ble_eq_true rfl⟩) ⟨fun _ _ _ _ q => ⟨q.1, q.2.bl⟩, fun U hU hW => ⟨rfl, hE.go hS hU hW⟩⟩ rfl rfl hl.1 rfl (lv_room (Nat.le_of_ble_eq_true rfl)) dS_indexOf2_17 ⟨Nat.le_of_ble_eq_true rfl, Nat.le_of_ble_eq_true rfl⟩) hS (fun H locs hS => ?_)
  refine lv_goto (tgt := 36) hx hb dS_indexOf2_20 (by decide) ?_
  exact W.iret (v := (f_Z_indexOf a1)) hx hb hr (fun tt ht hW => ⟨⟨(f_Z_indexOf a1), (), rfl, (by rfl), trivial⟩, hS.F ht⟩) hS.2.2 dS_indexOf2_36

set_option maxHeartbeats 4000000 in
set_option maxRecDepth 100000 in
theorem c_S_indexOf (l : Launch) (sK sV : Nat) (a1 : Int32) : Met l yS_indexOf wsS_indexOf ({ frames := 3, cells := 0, slots := 0, locals := 70 }) (va_Pc [.ref sK, .int a1] (fun U => sOK sK sV (fun _ => False) U U.heap)) (va_Qi (fun (r : Int32) (_ : Unit) => r = f_S_indexOf a1) (fun _ _ => True) (fun _ => False)) 0 0 (fun _ => False) := by
  refine Met.ofW (cc := prog_6_method_79_code) (maxL := 2) (ret := (some .int)) (by decide) rfl ?_
  intro p e s m args below meth c s₁ B hml hv
  obtain ⟨rfl, hE⟩ := hv
  have hx := B.exec
  have hb := B.bytes
  have hr := B.returns
  have hts := fun (w : Cond) (h : w ∈ gw) => atoms_spec (ws := wsS_indexOf) B.pre w (List.mem_cons_of_mem _ h)
  have hown : s.vm.findClass RS = some m.cls := findClass_of_methodNamed B.named
  have hlocks := B.notSynchronized
  have hS : va_S (fun _ => False) s.heap s.heap [] := va_S.rf
  have hl := lv_entry ([.ref sK, .int a1]) (n := 2) (Nat.le_of_ble_eq_true rfl)
  rw [lg_entry_eq]
  generalize (lg_sl ([.ref sK, .int a1]) ++ List.replicate (2 - (lg_sl ([.ref sK, .int a1])).length) Slot.unset).toArray = ls at hl ⊢
  have hl : lv_has ls 2 [(0, .ref sK), (1, .int a1)] := hl
  refine lv_aload_n hx hb dS_indexOf_0 rfl (lv_at hl 0 rfl) ?_
  refine lv_iload_n hx hb dS_indexOf_1 rfl (lv_at hl 1 rfl) ?_
  refine lv_iconst (v := (0 : Int32)) hx hb dS_indexOf_2 (by decide) ?_
  refine kk_call0 (va_runV (As := [.int a1, .int (0 : Int32)]) (rest := []) ⟨hx, hb, hml, hown, hts⟩ (c_S_indexOf2 l sK sV a1) (cwV 2 hts (gV tw_155 tw_156 tw_157 tw_4 tw_158) rfl rfl rfl (by decide +kernel) ⟨Nat.le_of_ble_eq_true rfl, Nat.le_of_ble_eq_true rfl⟩) ⟨fun _ _ _ _ q => ⟨q.1, q.2.bl⟩, (hE.rc hS), fun U hU hW => ⟨rfl, hE.go hS hU hW⟩⟩ rfl rfl hl.1 rfl (lv_room (Nat.le_of_ble_eq_true rfl)) dS_indexOf_3 ⟨Nat.le_of_ble_eq_true rfl, Nat.le_of_ble_eq_true rfl⟩) hS (fun H locs hS => ?_)
  exact W.iret (v := (f_S_indexOf2 a1)) hx hb hr (fun tt ht hW => ⟨⟨(f_S_indexOf2 a1), (), rfl, (by rfl), trivial⟩, hS.F ht⟩) hS.2.2 dS_indexOf_6

set_option maxHeartbeats 4000000 in
set_option maxRecDepth 100000 in
theorem c_F_letter (l : Launch) (h0 sK sV : Nat) (a1 : Int32) : Met l yF_letter wsF_letter ({ frames := 4, cells := 0, slots := 0, locals := 85 }) (va_Pc [.ref h0, .int a1] (fun U => sOK sK sV (fun _ => False) U U.heap)) (va_Qi (fun (r : Int32) (_ : Unit) => r = f_F_letter a1) (fun _ _ => True) (fun _ => False)) 0 0 (fun _ => False) := by
  refine Met.ofW (cc := prog_1_method_10_code) (maxL := 2) (ret := (some .int)) (by decide) rfl ?_
  intro p e s m args below meth c s₁ B hml hv
  obtain ⟨rfl, hE⟩ := hv
  have hx := B.exec
  have hb := B.bytes
  have hr := B.returns
  have hts := fun (w : Cond) (h : w ∈ gw) => atoms_spec (ws := wsF_letter) B.pre w (List.mem_cons_of_mem _ h)
  have hown : s.vm.findClass RF = some m.cls := findClass_of_methodNamed B.named
  have hlocks := B.notSynchronized
  have hS : va_S (fun _ => False) s.heap s.heap [] := va_S.rf
  have hl := lv_entry ([.ref h0, .int a1]) (n := 2) (Nat.le_of_ble_eq_true rfl)
  rw [lg_entry_eq]
  generalize (lg_sl ([.ref h0, .int a1]) ++ List.replicate (2 - (lg_sl ([.ref h0, .int a1])).length) Slot.unset).toArray = ls at hl ⊢
  have hl : lv_has ls 2 [(0, .ref h0), (1, .int a1)] := hl
  refine lv_iload_n hx hb dF_letter_0 rfl (lv_at hl 1 rfl) ?_
  refine lv_if_lt (tgt := 10) hx hb dF_letter_1 (by decide) (fun c_1 => ?_) (fun c_1 => ?_)
  · refine lv_iconst (v := (-1 : Int32)) hx hb dF_letter_10 (by decide) ?_
    exact W.iret (v := (-1 : Int32)) hx hb hr (fun tt ht hW => ⟨⟨(-1 : Int32), (), rfl, (by unfold f_F_letter; rw [if_pos c_1]), trivial⟩, hS.F ht⟩) hS.2.2 dF_letter_11
  · refine lv_iload_n hx hb dF_letter_4 rfl (lv_at hl 1 rfl) ?_
    refine lv_bipush (v := (63 : Int32)) hx hb dF_letter_5 (by decide) ?_
    refine lv_icmp_le (tgt := 12) hx hb dF_letter_7 (by decide) (fun c_2 => ?_) (fun c_2 => ?_)
    · refine lv_iload_n hx hb dF_letter_12 rfl (lv_at hl 1 rfl) ?_
      refine va_ldcS hx hb hown hE.2.2.2.2.2.2 dF_letter_13 ?_
      refine kk_call0 (va_runV (As := []) (rest := [.int a1]) ⟨hx, hb, hml, hown, hts⟩ (c_S_length l sK sV ) (cwV 0 hts (gV tw_95 tw_96 tw_97 tw_4 tw_98) rfl rfl rfl (by decide +kernel) ⟨Nat.le_of_ble_eq_true rfl, Nat.le_of_ble_eq_true rfl⟩) ⟨fun _ _ _ _ q => ⟨q.1, q.2.bl⟩, (hE.rc hS), fun U hU hW => ⟨rfl, hE.go hS hU hW⟩⟩ rfl rfl hl.1 rfl (lv_room (Nat.le_of_ble_eq_true rfl)) dF_letter_15 ⟨Nat.le_of_ble_eq_true rfl, Nat.le_of_ble_eq_true rfl⟩) hS (fun H locs hS => ?_)
      refine lv_icmp_ge (tgt := 30) hx hb dF_letter_18 (by decide) (fun c_3 => ?_) (fun c_3 => ?_)
      · refine lv_bipush (v := (63 : Int32)) hx hb dF_letter_30 (by decide) ?_
        exact W.iret (v := (63 : Int32)) hx hb hr (fun tt ht hW => ⟨⟨(63 : Int32), (), rfl, (by unfold f_F_letter; rw [if_neg c_1, if_pos c_2, if_pos c_3]), trivial⟩, hS.F ht⟩) hS.2.2 dF_letter_32
      · refine va_ldcS hx hb hown hE.2.2.2.2.2.2 dF_letter_21 ?_
        refine lv_iload_n hx hb dF_letter_23 rfl (lv_at hl 1 rfl) ?_
        refine kk_call0 (va_runV (As := [.int a1]) (rest := []) ⟨hx, hb, hml, hown, hts⟩ (c_S_charAt l sK sV a1 (in_56 c_1 c_3)) (cwV 1 hts (gV tw_105 tw_106 tw_107 tw_4 tw_108) rfl rfl rfl (by decide +kernel) ⟨Nat.le_of_ble_eq_true rfl, Nat.le_of_ble_eq_true rfl⟩) ⟨fun _ _ _ _ q => ⟨q.1, q.2.bl⟩, (hE.rc hS), fun U hU hW => ⟨rfl, hE.go hS hU hW⟩⟩ rfl rfl hl.1 rfl (lv_room (Nat.le_of_ble_eq_true rfl)) dF_letter_24 ⟨Nat.le_of_ble_eq_true rfl, Nat.le_of_ble_eq_true rfl⟩) hS (fun H locs hS => ?_)
        refine lv_goto (tgt := 32) hx hb dF_letter_27 (by decide) ?_
        exact W.iret (v := (f_S_charAt a1)) hx hb hr (fun tt ht hW => ⟨⟨(f_S_charAt a1), (), rfl, (by unfold f_F_letter; rw [if_neg c_1, if_pos c_2, if_neg c_3]), trivial⟩, hS.F ht⟩) hS.2.2 dF_letter_32
    · refine lv_iconst (v := (-1 : Int32)) hx hb dF_letter_10 (by decide) ?_
      exact W.iret (v := (-1 : Int32)) hx hb hr (fun tt ht hW => ⟨⟨(-1 : Int32), (), rfl, (by unfold f_F_letter; rw [if_neg c_1, if_neg c_2]), trivial⟩, hS.F ht⟩) hS.2.2 dF_letter_11

set_option maxHeartbeats 4000000 in
set_option maxRecDepth 100000 in
theorem c_F_code (l : Launch) (h0 sK sV : Nat) (a1 : Int32) : Met l yF_code wsF_code ({ frames := 4, cells := 0, slots := 0, locals := 91 }) (va_Pc [.ref h0, .int a1] (fun U => sOK sK sV (fun _ => False) U U.heap)) (va_Qi (fun (r : Int32) (_ : Unit) => r = f_F_code a1) (fun _ _ => True) (fun _ => False)) 0 0 (fun _ => False) := by
  refine Met.ofW (cc := prog_1_method_11_code) (maxL := 3) (ret := (some .int)) (by decide) rfl ?_
  intro p e s m args below meth c s₁ B hml hv
  obtain ⟨rfl, hE⟩ := hv
  have hx := B.exec
  have hb := B.bytes
  have hr := B.returns
  have hts := fun (w : Cond) (h : w ∈ gw) => atoms_spec (ws := wsF_code) B.pre w (List.mem_cons_of_mem _ h)
  have hown : s.vm.findClass RF = some m.cls := findClass_of_methodNamed B.named
  have hlocks := B.notSynchronized
  have hS : va_S (fun _ => False) s.heap s.heap [] := va_S.rf
  have hl := lv_entry ([.ref h0, .int a1]) (n := 3) (Nat.le_of_ble_eq_true rfl)
  rw [lg_entry_eq]
  generalize (lg_sl ([.ref h0, .int a1]) ++ List.replicate (3 - (lg_sl ([.ref h0, .int a1])).length) Slot.unset).toArray = ls at hl ⊢
  have hl : lv_has ls 3 [(0, .ref h0), (1, .int a1)] := hl
  refine lv_iload_n hx hb dF_code_0 rfl (lv_at hl 1 rfl) ?_
  refine lv_if_lt (tgt := 11) hx hb dF_code_1 (by decide) (fun c_1 => ?_) (fun c_1 => ?_)
  · refine lv_iconst (v := (-1 : Int32)) hx hb dF_code_11 (by decide) ?_
    exact W.iret (v := (-1 : Int32)) hx hb hr (fun tt ht hW => ⟨⟨(-1 : Int32), (), rfl, (by unfold f_F_code; rw [if_pos c_1]), trivial⟩, hS.F ht⟩) hS.2.2 dF_code_12
  · refine lv_iload_n hx hb dF_code_4 rfl (lv_at hl 1 rfl) ?_
    refine lv_sipush (v := (255 : Int32)) hx hb dF_code_5 (by decide) ?_
    refine lv_icmp_le (tgt := 13) hx hb dF_code_8 (by decide) (fun c_2 => ?_) (fun c_2 => ?_)
    · refine va_ldcS hx hb hown hE.2.2.2.2.2.2 dF_code_13 ?_
      refine lv_iload_n hx hb dF_code_15 rfl (lv_at hl 1 rfl) ?_
      refine kk_call0 (va_runS (As := [.int a1]) (rest := [.ref sK]) ⟨hx, hb, hml, hown, hts⟩ (c_F_greatLetter l a1) (va_cwS 1 hts (gS tw_148 tw_149 tw_1 tw_150) rfl rfl rfl (by decide +kernel) ⟨Nat.le_of_ble_eq_true rfl, Nat.le_of_ble_eq_true rfl⟩) ⟨fun _ _ _ _ q => q, fun _ _ _ => ⟨rfl, trivial⟩⟩ rfl rfl hl.1 rfl (lv_room (Nat.le_of_ble_eq_true rfl)) dF_code_16 ⟨Nat.le_of_ble_eq_true rfl, Nat.le_of_ble_eq_true rfl⟩) hS (fun H locs hS => ?_)
      refine lv_i2c hx hb dF_code_19 rfl ?_
      refine kk_call0 (va_runV (As := [.int ((f_F_greatLetter a1).toUInt32 % 65536).toInt32]) (rest := []) ⟨hx, hb, hml, hown, hts⟩ (c_S_indexOf l sK sV ((f_F_greatLetter a1).toUInt32 % 65536).toInt32) (cwV 1 hts (gV tw_151 tw_152 tw_153 tw_4 tw_154) rfl rfl rfl (by decide +kernel) ⟨Nat.le_of_ble_eq_true rfl, Nat.le_of_ble_eq_true rfl⟩) ⟨fun _ _ _ _ q => ⟨q.1, q.2.bl⟩, (hE.rc hS), fun U hU hW => ⟨rfl, hE.go hS hU hW⟩⟩ rfl rfl hl.1 rfl (lv_room (Nat.le_of_ble_eq_true rfl)) dF_code_20 ⟨Nat.le_of_ble_eq_true rfl, Nat.le_of_ble_eq_true rfl⟩) hS (fun H locs hS => ?_)
      refine lv_topi (fun x_3 ex_3 => ?_)
      refine lv_istore_n (lv' := [(2, .int x_3), (0, .ref h0), (1, .int a1)]) hx hb dF_code_23 rfl hl (by decide) rfl (fun ls hl => ?_)
      refine lv_iload_n hx hb dF_code_24 rfl (lv_at hl 0 rfl) ?_
      refine lv_if_ge (tgt := 32) hx hb dF_code_25 (by decide) (fun c_4 => ?_) (fun c_4 => ?_)
      · refine lv_iload_n hx hb dF_code_32 rfl (lv_at hl 0 rfl) ?_
        exact W.iret (v := x_3) hx hb hr (fun tt ht hW => ⟨⟨x_3, (), rfl, (by subst ex_3; unfold f_F_code; rw [if_neg c_1, if_pos c_2, if_pos c_4]), trivial⟩, hS.F ht⟩) hS.2.2 dF_code_33
      · refine lv_iconst (v := (0 : Int32)) hx hb dF_code_28 (by decide) ?_
        refine lv_goto (tgt := 33) hx hb dF_code_29 (by decide) ?_
        exact W.iret (v := (0 : Int32)) hx hb hr (fun tt ht hW => ⟨⟨(0 : Int32), (), rfl, (by subst ex_3; unfold f_F_code; rw [if_neg c_1, if_pos c_2, if_neg c_4]), trivial⟩, hS.F ht⟩) hS.2.2 dF_code_33
    · refine lv_iconst (v := (-1 : Int32)) hx hb dF_code_11 (by decide) ?_
      exact W.iret (v := (-1 : Int32)) hx hb hr (fun tt ht hW => ⟨⟨(-1 : Int32), (), rfl, (by unfold f_F_code; rw [if_neg c_1, if_neg c_2]), trivial⟩, hS.F ht⟩) hS.2.2 dF_code_12
end
section
set_option maxHeartbeats 40000000 in
set_option maxRecDepth 100000 in
theorem c_F_init (l : Launch) (dC : Nat → ClassId) (dI : Nat → Nat → Nat) (h0 sz : Nat) : Met l yF_init wsF_init ({ frames := 1, cells := 1, slots := 16, locals := 12 }) (va_Pc [.ref h0] (fun U => U.heap.size = sz ∧ va_P (dC, dI) vwCl [(h0, .inr (0, [.null]))] U.heap ∧ va_K (dC, dI) vwCl [] U ∧ va_D (fun _ => True) [(h0, .inr (0, [.null]))])) (va_Qv (fun _ : Unit => True) (fun _ t => ∃ (q1 : Nat) (k1 : ClassId), va_P (dC, dI) vwCl (wsF h0 q1 k1 (fun _ => 0)) t.heap ∧ va_K (dC, dI) vwCl [(k1, .int)] t ∧ va_D (va_A [(h0, .inr (0, [.null]))] sz) (wsF h0 q1 k1 (fun _ => 0))) (va_A [(h0, .inr (0, [.null]))] sz)) 1 16 (va_A [(h0, .inr (0, [.null]))] sz) := by
  refine Met.ofW (cc := prog_1_method_1_code) (maxL := 1) (ret := none) (by decide) rfl ?_
  intro p e s m args below meth c s₁ B hml hv
  obtain ⟨rfl, hsz, hP, hK, hD0⟩ := hv
  have hx := B.exec
  have hb := B.bytes
  have hr := B.returns
  have hts := fun (w : Cond) (h : w ∈ gw) => atoms_spec (ws := wsF_init) B.pre w (List.mem_cons_of_mem _ h)
  have hown : s.vm.findClass RF = some m.cls := findClass_of_methodNamed B.named
  have hlocks := B.notSynchronized
  have hin : meth.name = "<init>" := (name_of_methodNamed B.named B.method).1
  subst hsz
  have hD := hD0.self (sz := s.heap.size)
  generalize hAe : va_A [(h0, .inr (0, [.null]))] s.heap.size = A at hD ⊢
  have hA : ∀ q : Nat, s.heap.size ≤ q → A q := fun q h => by rw [← hAe]; exact Or.inr h
  have hS : va_S A s.heap s.heap [] := va_S.rf
  have hl := lv_entry ([.ref h0]) (n := 1) (Nat.le_of_ble_eq_true rfl)
  rw [lg_entry_eq]
  generalize (lg_sl ([.ref h0]) ++ List.replicate (1 - (lg_sl ([.ref h0])).length) Slot.unset).toArray = ls at hl ⊢
  have hl : lv_has ls 1 [(0, .ref h0)] := hl
  refine lv_aload_n hx hb dF_init_0 rfl (lv_at hl 0 rfl) ?_
  refine W.objInit hx hb hown (hts _ tw_14) (hts _ tw_15) (hts _ tw_obj) rfl (by rw [hml]; exact hl.1) rfl dF_init_1 (Nat.le_of_ble_eq_true rfl) (Nat.le_of_ble_eq_true rfl) ?_
  refine W.eq (g2 := F0 m 4 ls []) rfl ?_
  refine lv_aload_n hx hb dF_init_4 rfl (lv_at hl 0 rfl) ?_
  refine lv_bipush (v := (16 : Int32)) hx hb dF_init_5 (by decide) ?_
  refine va_newa (atype := .int) (ty := .int) (a0 := (16, .inl (fun _ => 0))) (N' := 16) hx hb (hts _ tw_21) rfl hK hP hD hS hA (fun _ => rfl) (by decide) (by decide) (by decide) (Nat.le_of_ble_eq_true rfl) (Nat.le_of_ble_eq_true rfl) dF_init_7 (fun q1 k1 H hK hP hD hS => ?_)
  have hK : va_K (dC, dI) vwCl [(k1, .int)] s := hK
  have hP : va_P (dC, dI) vwCl [(h0, .inr (0, [.null])), (q1, .inl (k1, 16, .inl (fun _ => 0)))] H := hP
  have hD : va_D A [(h0, .inr (0, [.null])), (q1, .inl (k1, 16, .inl (fun _ => 0)))] := hD
  refine W.widen (k := 1) (n := 16) (by omega) (by omega) ?_
  refine va_putF (D := (dC, dI)) (ci := 0) (v := .ref q1) (ty := .array .int) (C := RF) (T := TF) (N := 1) hx hb hts iF tyF tyF_ok nmF hown hK hP hD hS 0 rfl rfl 0 (by decide) (hts _ tw_17) (fun _ h9 => h9) rfl hin rfl (by decide +kernel) rfl rfl (Nat.le_of_ble_eq_true rfl) dF_init_9 (fun H locs hP hD hS => ?_)
  have hP : va_P (dC, dI) vwCl [(h0, .inr (0, [.ref q1])), (q1, .inl (k1, 16, .inl (fun _ => 0)))] H := hP
  have hD : va_D A [(h0, .inr (0, [.ref q1])), (q1, .inl (k1, 16, .inl (fun _ => 0)))] := hD
  exact W.vret hx hb hr (fun t ht hW => ⟨⟨(), rfl, trivial, q1, k1, by rw [ht]; exact hP, va_K.moved hW.alike hK, hD⟩, hS.F ht⟩) hS.2.2 dF_init_12
end
section
set_option maxHeartbeats 40000000 in
set_option maxRecDepth 100000 in
theorem c_M_init (l : Launch) (dC : Nat → ClassId) (dI : Nat → Nat → Nat) (h0 sz : Nat) : Met l yM_init wsM_init ({ frames := 1, cells := 4, slots := 174, locals := 12 }) (va_Pc [.ref h0] (fun U => U.heap.size = sz ∧ va_P (dC, dI) vwCl [(h0, .inr (1, [.null, .null, .null, .null]))] U.heap ∧ va_K (dC, dI) vwCl [] U ∧ va_D (fun _ => True) [(h0, .inr (1, [.null, .null, .null, .null]))])) (va_Qv (fun _ : Unit => True) (fun _ t => ∃ (q1 q2 q3 q4 : Nat) (k1 k2 k3 k4 : ClassId), va_P (dC, dI) vwCl (wsM h0 q1 q2 q3 q4 k1 k2 k3 k4 (fun _ => 0) (fun _ => 0) (ltS 56) (fun _ => 0)) t.heap ∧ va_K (dC, dI) vwCl [(k1, .boolean), (k2, .int), (k3, .int), (k4, .int)] t ∧ va_D (va_A [(h0, .inr (1, [.null, .null, .null, .null]))] sz) (wsM h0 q1 q2 q3 q4 k1 k2 k3 k4 (fun _ => 0) (fun _ => 0) (ltS 56) (fun _ => 0))) (va_A [(h0, .inr (1, [.null, .null, .null, .null]))] sz)) 4 174 (va_A [(h0, .inr (1, [.null, .null, .null, .null]))] sz) := by
  refine Met.ofW (cc := prog_3_method_1_code) (maxL := 1) (ret := none) (by decide) rfl ?_
  intro p e s m args below meth c s₁ B hml hv
  obtain ⟨rfl, hsz, hP, hK, hD0⟩ := hv
  have hx := B.exec
  have hb := B.bytes
  have hr := B.returns
  have hts := fun (w : Cond) (h : w ∈ gw) => atoms_spec (ws := wsM_init) B.pre w (List.mem_cons_of_mem _ h)
  have hown : s.vm.findClass RM = some m.cls := findClass_of_methodNamed B.named
  have hlocks := B.notSynchronized
  have hin : meth.name = "<init>" := (name_of_methodNamed B.named B.method).1
  subst hsz
  have hD := hD0.self (sz := s.heap.size)
  generalize hAe : va_A [(h0, .inr (1, [.null, .null, .null, .null]))] s.heap.size = A at hD ⊢
  have hA : ∀ q : Nat, s.heap.size ≤ q → A q := fun q h => by rw [← hAe]; exact Or.inr h
  have hS : va_S A s.heap s.heap [] := va_S.rf
  have hl := lv_entry ([.ref h0]) (n := 1) (Nat.le_of_ble_eq_true rfl)
  rw [lg_entry_eq]
  generalize (lg_sl ([.ref h0]) ++ List.replicate (1 - (lg_sl ([.ref h0])).length) Slot.unset).toArray = ls at hl ⊢
  have hl : lv_has ls 1 [(0, .ref h0)] := hl
  refine lv_aload_n hx hb dM_init_0 rfl (lv_at hl 0 rfl) ?_
  refine W.objInit hx hb hown (hts _ tw_213) (hts _ tw_15) (hts _ tw_obj) rfl (by rw [hml]; exact hl.1) rfl dM_init_1 (Nat.le_of_ble_eq_true rfl) (Nat.le_of_ble_eq_true rfl) ?_
  refine W.eq (g2 := F0 m 4 ls []) rfl ?_
  refine lv_aload_n hx hb dM_init_4 rfl (lv_at hl 0 rfl) ?_
  refine lv_bipush (v := (16 : Int32)) hx hb dM_init_5 (by decide) ?_
  refine va_newa (atype := .boolean) (ty := .boolean) (a0 := (16, .inl (fun _ => 0))) (N' := 16) hx hb (hts _ tw_227) rfl hK hP hD hS hA (fun _ => rfl) (by decide) (by decide) (by decide) (Nat.le_of_ble_eq_true rfl) (Nat.le_of_ble_eq_true rfl) dM_init_7 (fun q1 k1 H hK hP hD hS => ?_)
  have hK : va_K (dC, dI) vwCl [(k1, .boolean)] s := hK
  have hP : va_P (dC, dI) vwCl [(h0, .inr (1, [.null, .null, .null, .null])), (q1, .inl (k1, 16, .inl (fun _ => 0)))] H := hP
  have hD : va_D A [(h0, .inr (1, [.null, .null, .null, .null])), (q1, .inl (k1, 16, .inl (fun _ => 0)))] := hD
  refine W.widen (k := 1) (n := 16) (by omega) (by omega) ?_
  refine va_putF (D := (dC, dI)) (ci := 1) (v := .ref q1) (ty := .array .boolean) (C := RM) (T := TM) (N := 4) hx hb hts iM tyM tyM_ok nmM hown hK hP hD hS 0 rfl rfl 0 (by decide) (hts _ tw_214) (fun _ h9 => h9) rfl hin rfl (by decide +kernel) rfl rfl (Nat.le_of_ble_eq_true rfl) dM_init_9 (fun H locs hP hD hS => ?_)
  have hP : va_P (dC, dI) vwCl [(h0, .inr (1, [.ref q1, .null, .null, .null])), (q1, .inl (k1, 16, .inl (fun _ => 0)))] H := hP
  have hD : va_D A [(h0, .inr (1, [.ref q1, .null, .null, .null])), (q1, .inl (k1, 16, .inl (fun _ => 0)))] := hD
  refine lv_aload_n hx hb dM_init_12 rfl (lv_at hl 0 rfl) ?_
  refine lv_bipush (v := (96 : Int32)) hx hb dM_init_13 (by decide) ?_
  refine va_newa (atype := .int) (ty := .int) (a0 := (96, .inl (fun _ => 0))) (N' := 96) hx hb (hts _ tw_21) rfl hK hP hD hS hA (fun _ => rfl) (by decide) (by decide) (by decide) (Nat.le_of_ble_eq_true rfl) (Nat.le_of_ble_eq_true rfl) dM_init_15 (fun q2 k2 H hK hP hD hS => ?_)
  have hK : va_K (dC, dI) vwCl [(k1, .boolean), (k2, .int)] s := hK
  have hP : va_P (dC, dI) vwCl [(h0, .inr (1, [.ref q1, .null, .null, .null])), (q1, .inl (k1, 16, .inl (fun _ => 0))), (q2, .inl (k2, 96, .inl (fun _ => 0)))] H := hP
  have hD : va_D A [(h0, .inr (1, [.ref q1, .null, .null, .null])), (q1, .inl (k1, 16, .inl (fun _ => 0))), (q2, .inl (k2, 96, .inl (fun _ => 0)))] := hD
  refine W.widen (k := 2) (n := 112) (by omega) (by omega) ?_
  refine va_putF (D := (dC, dI)) (ci := 1) (v := .ref q2) (ty := .array .int) (C := RM) (T := TM) (N := 4) hx hb hts iM tyM tyM_ok nmM hown hK hP hD hS 0 rfl rfl 1 (by decide) (hts _ tw_215) (fun _ h9 => h9) rfl hin rfl (by decide +kernel) rfl rfl (Nat.le_of_ble_eq_true rfl) dM_init_17 (fun H locs hP hD hS => ?_)
  have hP : va_P (dC, dI) vwCl [(h0, .inr (1, [.ref q1, .ref q2, .null, .null])), (q1, .inl (k1, 16, .inl (fun _ => 0))), (q2, .inl (k2, 96, .inl (fun _ => 0)))] H := hP
  have hD : va_D A [(h0, .inr (1, [.ref q1, .ref q2, .null, .null])), (q1, .inl (k1, 16, .inl (fun _ => 0))), (q2, .inl (k2, 96, .inl (fun _ => 0)))] := hD
  refine lv_aload_n hx hb dM_init_20 rfl (lv_at hl 0 rfl) ?_
  refine lv_bipush (v := (56 : Int32)) hx hb dM_init_21 (by decide) ?_
  refine va_newa (atype := .int) (ty := .int) (a0 := (56, .inl (fun _ => 0))) (N' := 56) hx hb (hts _ tw_21) rfl hK hP hD hS hA (fun _ => rfl) (by decide) (by decide) (by decide) (Nat.le_of_ble_eq_true rfl) (Nat.le_of_ble_eq_true rfl) dM_init_23 (fun q3 k3 H hK hP hD hS => ?_)
  have hK : va_K (dC, dI) vwCl [(k1, .boolean), (k2, .int), (k3, .int)] s := hK
  have hP : va_P (dC, dI) vwCl [(h0, .inr (1, [.ref q1, .ref q2, .null, .null])), (q1, .inl (k1, 16, .inl (fun _ => 0))), (q2, .inl (k2, 96, .inl (fun _ => 0))), (q3, .inl (k3, 56, .inl (fun _ => 0)))] H := hP
  have hD : va_D A [(h0, .inr (1, [.ref q1, .ref q2, .null, .null])), (q1, .inl (k1, 16, .inl (fun _ => 0))), (q2, .inl (k2, 96, .inl (fun _ => 0))), (q3, .inl (k3, 56, .inl (fun _ => 0)))] := hD
  refine W.widen (k := 3) (n := 168) (by omega) (by omega) ?_
  refine lv_dup hx hb dM_init_25 rfl ?_
  refine lv_iconst (v := (0 : Int32)) hx hb dM_init_26 (by decide) ?_
  refine lv_bipush (v := (32 : Int32)) hx hb dM_init_27 (by decide) ?_
  refine va_iast hx hb hK hP hD hS 3 2 rfl rfl (by unfold vp_in; decide) dM_init_29 (fun H locs hP hD hS => ?_)
  have hP : va_P (dC, dI) vwCl [(h0, .inr (1, [.ref q1, .ref q2, .null, .null])), (q1, .inl (k1, 16, .inl (fun _ => 0))), (q2, .inl (k2, 96, .inl (fun _ => 0))), (q3, .inl (k3, 56, .inl (ltS 1)))] H := hP
  have hD : va_D A [(h0, .inr (1, [.ref q1, .ref q2, .null, .null])), (q1, .inl (k1, 16, .inl (fun _ => 0))), (q2, .inl (k2, 96, .inl (fun _ => 0))), (q3, .inl (k3, 56, .inl (ltS 1)))] := hD
  refine lv_dup hx hb dM_init_30 rfl ?_
  refine lv_iconst (v := (1 : Int32)) hx hb dM_init_31 (by decide) ?_
  refine lv_bipush (v := (65 : Int32)) hx hb dM_init_32 (by decide) ?_
  refine va_iast hx hb hK hP hD hS 3 2 rfl rfl (by unfold vp_in; decide) dM_init_34 (fun H locs hP hD hS => ?_)
  have hP : va_P (dC, dI) vwCl [(h0, .inr (1, [.ref q1, .ref q2, .null, .null])), (q1, .inl (k1, 16, .inl (fun _ => 0))), (q2, .inl (k2, 96, .inl (fun _ => 0))), (q3, .inl (k3, 56, .inl (ltS 2)))] H := hP
  have hD : va_D A [(h0, .inr (1, [.ref q1, .ref q2, .null, .null])), (q1, .inl (k1, 16, .inl (fun _ => 0))), (q2, .inl (k2, 96, .inl (fun _ => 0))), (q3, .inl (k3, 56, .inl (ltS 2)))] := hD
  refine lv_dup hx hb dM_init_35 rfl ?_
  refine lv_iconst (v := (2 : Int32)) hx hb dM_init_36 (by decide) ?_
  refine lv_bipush (v := (66 : Int32)) hx hb dM_init_37 (by decide) ?_
  refine va_iast hx hb hK hP hD hS 3 2 rfl rfl (by unfold vp_in; decide) dM_init_39 (fun H locs hP hD hS => ?_)
  have hP : va_P (dC, dI) vwCl [(h0, .inr (1, [.ref q1, .ref q2, .null, .null])), (q1, .inl (k1, 16, .inl (fun _ => 0))), (q2, .inl (k2, 96, .inl (fun _ => 0))), (q3, .inl (k3, 56, .inl (ltS 3)))] H := hP
  have hD : va_D A [(h0, .inr (1, [.ref q1, .ref q2, .null, .null])), (q1, .inl (k1, 16, .inl (fun _ => 0))), (q2, .inl (k2, 96, .inl (fun _ => 0))), (q3, .inl (k3, 56, .inl (ltS 3)))] := hD
  refine lv_dup hx hb dM_init_40 rfl ?_
  refine lv_iconst (v := (3 : Int32)) hx hb dM_init_41 (by decide) ?_
  refine lv_bipush (v := (67 : Int32)) hx hb dM_init_42 (by decide) ?_
  refine va_iast hx hb hK hP hD hS 3 2 rfl rfl (by unfold vp_in; decide) dM_init_44 (fun H locs hP hD hS => ?_)
  have hP : va_P (dC, dI) vwCl [(h0, .inr (1, [.ref q1, .ref q2, .null, .null])), (q1, .inl (k1, 16, .inl (fun _ => 0))), (q2, .inl (k2, 96, .inl (fun _ => 0))), (q3, .inl (k3, 56, .inl (ltS 4)))] H := hP
  have hD : va_D A [(h0, .inr (1, [.ref q1, .ref q2, .null, .null])), (q1, .inl (k1, 16, .inl (fun _ => 0))), (q2, .inl (k2, 96, .inl (fun _ => 0))), (q3, .inl (k3, 56, .inl (ltS 4)))] := hD
  refine lv_dup hx hb dM_init_45 rfl ?_
  refine lv_iconst (v := (4 : Int32)) hx hb dM_init_46 (by decide) ?_
  refine lv_bipush (v := (68 : Int32)) hx hb dM_init_47 (by decide) ?_
  refine va_iast hx hb hK hP hD hS 3 2 rfl rfl (by unfold vp_in; decide) dM_init_49 (fun H locs hP hD hS => ?_)
  have hP : va_P (dC, dI) vwCl [(h0, .inr (1, [.ref q1, .ref q2, .null, .null])), (q1, .inl (k1, 16, .inl (fun _ => 0))), (q2, .inl (k2, 96, .inl (fun _ => 0))), (q3, .inl (k3, 56, .inl (ltS 5)))] H := hP
  have hD : va_D A [(h0, .inr (1, [.ref q1, .ref q2, .null, .null])), (q1, .inl (k1, 16, .inl (fun _ => 0))), (q2, .inl (k2, 96, .inl (fun _ => 0))), (q3, .inl (k3, 56, .inl (ltS 5)))] := hD
  refine lv_dup hx hb dM_init_50 rfl ?_
  refine lv_iconst (v := (5 : Int32)) hx hb dM_init_51 (by decide) ?_
  refine lv_bipush (v := (69 : Int32)) hx hb dM_init_52 (by decide) ?_
  refine va_iast hx hb hK hP hD hS 3 2 rfl rfl (by unfold vp_in; decide) dM_init_54 (fun H locs hP hD hS => ?_)
  have hP : va_P (dC, dI) vwCl [(h0, .inr (1, [.ref q1, .ref q2, .null, .null])), (q1, .inl (k1, 16, .inl (fun _ => 0))), (q2, .inl (k2, 96, .inl (fun _ => 0))), (q3, .inl (k3, 56, .inl (ltS 6)))] H := hP
  have hD : va_D A [(h0, .inr (1, [.ref q1, .ref q2, .null, .null])), (q1, .inl (k1, 16, .inl (fun _ => 0))), (q2, .inl (k2, 96, .inl (fun _ => 0))), (q3, .inl (k3, 56, .inl (ltS 6)))] := hD
  refine lv_dup hx hb dM_init_55 rfl ?_
  refine lv_bipush (v := (6 : Int32)) hx hb dM_init_56 (by decide) ?_
  refine lv_bipush (v := (70 : Int32)) hx hb dM_init_58 (by decide) ?_
  refine va_iast hx hb hK hP hD hS 3 2 rfl rfl (by unfold vp_in; decide) dM_init_60 (fun H locs hP hD hS => ?_)
  have hP : va_P (dC, dI) vwCl [(h0, .inr (1, [.ref q1, .ref q2, .null, .null])), (q1, .inl (k1, 16, .inl (fun _ => 0))), (q2, .inl (k2, 96, .inl (fun _ => 0))), (q3, .inl (k3, 56, .inl (ltS 7)))] H := hP
  have hD : va_D A [(h0, .inr (1, [.ref q1, .ref q2, .null, .null])), (q1, .inl (k1, 16, .inl (fun _ => 0))), (q2, .inl (k2, 96, .inl (fun _ => 0))), (q3, .inl (k3, 56, .inl (ltS 7)))] := hD
  refine lv_dup hx hb dM_init_61 rfl ?_
  refine lv_bipush (v := (7 : Int32)) hx hb dM_init_62 (by decide) ?_
  refine lv_bipush (v := (71 : Int32)) hx hb dM_init_64 (by decide) ?_
  refine va_iast hx hb hK hP hD hS 3 2 rfl rfl (by unfold vp_in; decide) dM_init_66 (fun H locs hP hD hS => ?_)
  have hP : va_P (dC, dI) vwCl [(h0, .inr (1, [.ref q1, .ref q2, .null, .null])), (q1, .inl (k1, 16, .inl (fun _ => 0))), (q2, .inl (k2, 96, .inl (fun _ => 0))), (q3, .inl (k3, 56, .inl (ltS 8)))] H := hP
  have hD : va_D A [(h0, .inr (1, [.ref q1, .ref q2, .null, .null])), (q1, .inl (k1, 16, .inl (fun _ => 0))), (q2, .inl (k2, 96, .inl (fun _ => 0))), (q3, .inl (k3, 56, .inl (ltS 8)))] := hD
  refine lv_dup hx hb dM_init_67 rfl ?_
  refine lv_bipush (v := (8 : Int32)) hx hb dM_init_68 (by decide) ?_
  refine lv_bipush (v := (72 : Int32)) hx hb dM_init_70 (by decide) ?_
  refine va_iast hx hb hK hP hD hS 3 2 rfl rfl (by unfold vp_in; decide) dM_init_72 (fun H locs hP hD hS => ?_)
  have hP : va_P (dC, dI) vwCl [(h0, .inr (1, [.ref q1, .ref q2, .null, .null])), (q1, .inl (k1, 16, .inl (fun _ => 0))), (q2, .inl (k2, 96, .inl (fun _ => 0))), (q3, .inl (k3, 56, .inl (ltS 9)))] H := hP
  have hD : va_D A [(h0, .inr (1, [.ref q1, .ref q2, .null, .null])), (q1, .inl (k1, 16, .inl (fun _ => 0))), (q2, .inl (k2, 96, .inl (fun _ => 0))), (q3, .inl (k3, 56, .inl (ltS 9)))] := hD
  refine lv_dup hx hb dM_init_73 rfl ?_
  refine lv_bipush (v := (9 : Int32)) hx hb dM_init_74 (by decide) ?_
  refine lv_bipush (v := (73 : Int32)) hx hb dM_init_76 (by decide) ?_
  refine va_iast hx hb hK hP hD hS 3 2 rfl rfl (by unfold vp_in; decide) dM_init_78 (fun H locs hP hD hS => ?_)
  have hP : va_P (dC, dI) vwCl [(h0, .inr (1, [.ref q1, .ref q2, .null, .null])), (q1, .inl (k1, 16, .inl (fun _ => 0))), (q2, .inl (k2, 96, .inl (fun _ => 0))), (q3, .inl (k3, 56, .inl (ltS 10)))] H := hP
  have hD : va_D A [(h0, .inr (1, [.ref q1, .ref q2, .null, .null])), (q1, .inl (k1, 16, .inl (fun _ => 0))), (q2, .inl (k2, 96, .inl (fun _ => 0))), (q3, .inl (k3, 56, .inl (ltS 10)))] := hD
  refine lv_dup hx hb dM_init_79 rfl ?_
  refine lv_bipush (v := (10 : Int32)) hx hb dM_init_80 (by decide) ?_
  refine lv_bipush (v := (126 : Int32)) hx hb dM_init_82 (by decide) ?_
  refine va_iast hx hb hK hP hD hS 3 2 rfl rfl (by unfold vp_in; decide) dM_init_84 (fun H locs hP hD hS => ?_)
  have hP : va_P (dC, dI) vwCl [(h0, .inr (1, [.ref q1, .ref q2, .null, .null])), (q1, .inl (k1, 16, .inl (fun _ => 0))), (q2, .inl (k2, 96, .inl (fun _ => 0))), (q3, .inl (k3, 56, .inl (ltS 11)))] H := hP
  have hD : va_D A [(h0, .inr (1, [.ref q1, .ref q2, .null, .null])), (q1, .inl (k1, 16, .inl (fun _ => 0))), (q2, .inl (k2, 96, .inl (fun _ => 0))), (q3, .inl (k3, 56, .inl (ltS 11)))] := hD
  refine lv_dup hx hb dM_init_85 rfl ?_
  refine lv_bipush (v := (11 : Int32)) hx hb dM_init_86 (by decide) ?_
  refine lv_bipush (v := (74 : Int32)) hx hb dM_init_88 (by decide) ?_
  refine va_iast hx hb hK hP hD hS 3 2 rfl rfl (by unfold vp_in; decide) dM_init_90 (fun H locs hP hD hS => ?_)
  have hP : va_P (dC, dI) vwCl [(h0, .inr (1, [.ref q1, .ref q2, .null, .null])), (q1, .inl (k1, 16, .inl (fun _ => 0))), (q2, .inl (k2, 96, .inl (fun _ => 0))), (q3, .inl (k3, 56, .inl (ltS 12)))] H := hP
  have hD : va_D A [(h0, .inr (1, [.ref q1, .ref q2, .null, .null])), (q1, .inl (k1, 16, .inl (fun _ => 0))), (q2, .inl (k2, 96, .inl (fun _ => 0))), (q3, .inl (k3, 56, .inl (ltS 12)))] := hD
  refine lv_dup hx hb dM_init_91 rfl ?_
  refine lv_bipush (v := (12 : Int32)) hx hb dM_init_92 (by decide) ?_
  refine lv_bipush (v := (75 : Int32)) hx hb dM_init_94 (by decide) ?_
  refine va_iast hx hb hK hP hD hS 3 2 rfl rfl (by unfold vp_in; decide) dM_init_96 (fun H locs hP hD hS => ?_)
  have hP : va_P (dC, dI) vwCl [(h0, .inr (1, [.ref q1, .ref q2, .null, .null])), (q1, .inl (k1, 16, .inl (fun _ => 0))), (q2, .inl (k2, 96, .inl (fun _ => 0))), (q3, .inl (k3, 56, .inl (ltS 13)))] H := hP
  have hD : va_D A [(h0, .inr (1, [.ref q1, .ref q2, .null, .null])), (q1, .inl (k1, 16, .inl (fun _ => 0))), (q2, .inl (k2, 96, .inl (fun _ => 0))), (q3, .inl (k3, 56, .inl (ltS 13)))] := hD
  refine lv_dup hx hb dM_init_97 rfl ?_
  refine lv_bipush (v := (13 : Int32)) hx hb dM_init_98 (by decide) ?_
  refine lv_bipush (v := (76 : Int32)) hx hb dM_init_100 (by decide) ?_
  refine va_iast hx hb hK hP hD hS 3 2 rfl rfl (by unfold vp_in; decide) dM_init_102 (fun H locs hP hD hS => ?_)
  have hP : va_P (dC, dI) vwCl [(h0, .inr (1, [.ref q1, .ref q2, .null, .null])), (q1, .inl (k1, 16, .inl (fun _ => 0))), (q2, .inl (k2, 96, .inl (fun _ => 0))), (q3, .inl (k3, 56, .inl (ltS 14)))] H := hP
  have hD : va_D A [(h0, .inr (1, [.ref q1, .ref q2, .null, .null])), (q1, .inl (k1, 16, .inl (fun _ => 0))), (q2, .inl (k2, 96, .inl (fun _ => 0))), (q3, .inl (k3, 56, .inl (ltS 14)))] := hD
  refine lv_dup hx hb dM_init_103 rfl ?_
  refine lv_bipush (v := (14 : Int32)) hx hb dM_init_104 (by decide) ?_
  refine lv_bipush (v := (77 : Int32)) hx hb dM_init_106 (by decide) ?_
  refine va_iast hx hb hK hP hD hS 3 2 rfl rfl (by unfold vp_in; decide) dM_init_108 (fun H locs hP hD hS => ?_)
  have hP : va_P (dC, dI) vwCl [(h0, .inr (1, [.ref q1, .ref q2, .null, .null])), (q1, .inl (k1, 16, .inl (fun _ => 0))), (q2, .inl (k2, 96, .inl (fun _ => 0))), (q3, .inl (k3, 56, .inl (ltS 15)))] H := hP
  have hD : va_D A [(h0, .inr (1, [.ref q1, .ref q2, .null, .null])), (q1, .inl (k1, 16, .inl (fun _ => 0))), (q2, .inl (k2, 96, .inl (fun _ => 0))), (q3, .inl (k3, 56, .inl (ltS 15)))] := hD
  refine lv_dup hx hb dM_init_109 rfl ?_
  refine lv_bipush (v := (15 : Int32)) hx hb dM_init_110 (by decide) ?_
  refine lv_bipush (v := (78 : Int32)) hx hb dM_init_112 (by decide) ?_
  refine va_iast hx hb hK hP hD hS 3 2 rfl rfl (by unfold vp_in; decide) dM_init_114 (fun H locs hP hD hS => ?_)
  have hP : va_P (dC, dI) vwCl [(h0, .inr (1, [.ref q1, .ref q2, .null, .null])), (q1, .inl (k1, 16, .inl (fun _ => 0))), (q2, .inl (k2, 96, .inl (fun _ => 0))), (q3, .inl (k3, 56, .inl (ltS 16)))] H := hP
  have hD : va_D A [(h0, .inr (1, [.ref q1, .ref q2, .null, .null])), (q1, .inl (k1, 16, .inl (fun _ => 0))), (q2, .inl (k2, 96, .inl (fun _ => 0))), (q3, .inl (k3, 56, .inl (ltS 16)))] := hD
  refine lv_dup hx hb dM_init_115 rfl ?_
  refine lv_bipush (v := (16 : Int32)) hx hb dM_init_116 (by decide) ?_
  refine lv_bipush (v := (79 : Int32)) hx hb dM_init_118 (by decide) ?_
  refine va_iast hx hb hK hP hD hS 3 2 rfl rfl (by unfold vp_in; decide) dM_init_120 (fun H locs hP hD hS => ?_)
  have hP : va_P (dC, dI) vwCl [(h0, .inr (1, [.ref q1, .ref q2, .null, .null])), (q1, .inl (k1, 16, .inl (fun _ => 0))), (q2, .inl (k2, 96, .inl (fun _ => 0))), (q3, .inl (k3, 56, .inl (ltS 17)))] H := hP
  have hD : va_D A [(h0, .inr (1, [.ref q1, .ref q2, .null, .null])), (q1, .inl (k1, 16, .inl (fun _ => 0))), (q2, .inl (k2, 96, .inl (fun _ => 0))), (q3, .inl (k3, 56, .inl (ltS 17)))] := hD
  refine lv_dup hx hb dM_init_121 rfl ?_
  refine lv_bipush (v := (17 : Int32)) hx hb dM_init_122 (by decide) ?_
  refine lv_bipush (v := (80 : Int32)) hx hb dM_init_124 (by decide) ?_
  refine va_iast hx hb hK hP hD hS 3 2 rfl rfl (by unfold vp_in; decide) dM_init_126 (fun H locs hP hD hS => ?_)
  have hP : va_P (dC, dI) vwCl [(h0, .inr (1, [.ref q1, .ref q2, .null, .null])), (q1, .inl (k1, 16, .inl (fun _ => 0))), (q2, .inl (k2, 96, .inl (fun _ => 0))), (q3, .inl (k3, 56, .inl (ltS 18)))] H := hP
  have hD : va_D A [(h0, .inr (1, [.ref q1, .ref q2, .null, .null])), (q1, .inl (k1, 16, .inl (fun _ => 0))), (q2, .inl (k2, 96, .inl (fun _ => 0))), (q3, .inl (k3, 56, .inl (ltS 18)))] := hD
  refine lv_dup hx hb dM_init_127 rfl ?_
  refine lv_bipush (v := (18 : Int32)) hx hb dM_init_128 (by decide) ?_
  refine lv_bipush (v := (81 : Int32)) hx hb dM_init_130 (by decide) ?_
  refine va_iast hx hb hK hP hD hS 3 2 rfl rfl (by unfold vp_in; decide) dM_init_132 (fun H locs hP hD hS => ?_)
  have hP : va_P (dC, dI) vwCl [(h0, .inr (1, [.ref q1, .ref q2, .null, .null])), (q1, .inl (k1, 16, .inl (fun _ => 0))), (q2, .inl (k2, 96, .inl (fun _ => 0))), (q3, .inl (k3, 56, .inl (ltS 19)))] H := hP
  have hD : va_D A [(h0, .inr (1, [.ref q1, .ref q2, .null, .null])), (q1, .inl (k1, 16, .inl (fun _ => 0))), (q2, .inl (k2, 96, .inl (fun _ => 0))), (q3, .inl (k3, 56, .inl (ltS 19)))] := hD
  refine lv_dup hx hb dM_init_133 rfl ?_
  refine lv_bipush (v := (19 : Int32)) hx hb dM_init_134 (by decide) ?_
  refine lv_bipush (v := (82 : Int32)) hx hb dM_init_136 (by decide) ?_
  refine va_iast hx hb hK hP hD hS 3 2 rfl rfl (by unfold vp_in; decide) dM_init_138 (fun H locs hP hD hS => ?_)
  have hP : va_P (dC, dI) vwCl [(h0, .inr (1, [.ref q1, .ref q2, .null, .null])), (q1, .inl (k1, 16, .inl (fun _ => 0))), (q2, .inl (k2, 96, .inl (fun _ => 0))), (q3, .inl (k3, 56, .inl (ltS 20)))] H := hP
  have hD : va_D A [(h0, .inr (1, [.ref q1, .ref q2, .null, .null])), (q1, .inl (k1, 16, .inl (fun _ => 0))), (q2, .inl (k2, 96, .inl (fun _ => 0))), (q3, .inl (k3, 56, .inl (ltS 20)))] := hD
  refine lv_dup hx hb dM_init_139 rfl ?_
  refine lv_bipush (v := (20 : Int32)) hx hb dM_init_140 (by decide) ?_
  refine lv_bipush (v := (91 : Int32)) hx hb dM_init_142 (by decide) ?_
  refine va_iast hx hb hK hP hD hS 3 2 rfl rfl (by unfold vp_in; decide) dM_init_144 (fun H locs hP hD hS => ?_)
  have hP : va_P (dC, dI) vwCl [(h0, .inr (1, [.ref q1, .ref q2, .null, .null])), (q1, .inl (k1, 16, .inl (fun _ => 0))), (q2, .inl (k2, 96, .inl (fun _ => 0))), (q3, .inl (k3, 56, .inl (ltS 21)))] H := hP
  have hD : va_D A [(h0, .inr (1, [.ref q1, .ref q2, .null, .null])), (q1, .inl (k1, 16, .inl (fun _ => 0))), (q2, .inl (k2, 96, .inl (fun _ => 0))), (q3, .inl (k3, 56, .inl (ltS 21)))] := hD
  refine lv_dup hx hb dM_init_145 rfl ?_
  refine lv_bipush (v := (21 : Int32)) hx hb dM_init_146 (by decide) ?_
  refine lv_bipush (v := (35 : Int32)) hx hb dM_init_148 (by decide) ?_
  refine va_iast hx hb hK hP hD hS 3 2 rfl rfl (by unfold vp_in; decide) dM_init_150 (fun H locs hP hD hS => ?_)
  have hP : va_P (dC, dI) vwCl [(h0, .inr (1, [.ref q1, .ref q2, .null, .null])), (q1, .inl (k1, 16, .inl (fun _ => 0))), (q2, .inl (k2, 96, .inl (fun _ => 0))), (q3, .inl (k3, 56, .inl (ltS 22)))] H := hP
  have hD : va_D A [(h0, .inr (1, [.ref q1, .ref q2, .null, .null])), (q1, .inl (k1, 16, .inl (fun _ => 0))), (q2, .inl (k2, 96, .inl (fun _ => 0))), (q3, .inl (k3, 56, .inl (ltS 22)))] := hD
  refine lv_dup hx hb dM_init_151 rfl ?_
  refine lv_bipush (v := (22 : Int32)) hx hb dM_init_152 (by decide) ?_
  refine lv_bipush (v := (83 : Int32)) hx hb dM_init_154 (by decide) ?_
  refine va_iast hx hb hK hP hD hS 3 2 rfl rfl (by unfold vp_in; decide) dM_init_156 (fun H locs hP hD hS => ?_)
  have hP : va_P (dC, dI) vwCl [(h0, .inr (1, [.ref q1, .ref q2, .null, .null])), (q1, .inl (k1, 16, .inl (fun _ => 0))), (q2, .inl (k2, 96, .inl (fun _ => 0))), (q3, .inl (k3, 56, .inl (ltS 23)))] H := hP
  have hD : va_D A [(h0, .inr (1, [.ref q1, .ref q2, .null, .null])), (q1, .inl (k1, 16, .inl (fun _ => 0))), (q2, .inl (k2, 96, .inl (fun _ => 0))), (q3, .inl (k3, 56, .inl (ltS 23)))] := hD
  refine lv_dup hx hb dM_init_157 rfl ?_
  refine lv_bipush (v := (23 : Int32)) hx hb dM_init_158 (by decide) ?_
  refine lv_bipush (v := (84 : Int32)) hx hb dM_init_160 (by decide) ?_
  refine va_iast hx hb hK hP hD hS 3 2 rfl rfl (by unfold vp_in; decide) dM_init_162 (fun H locs hP hD hS => ?_)
  have hP : va_P (dC, dI) vwCl [(h0, .inr (1, [.ref q1, .ref q2, .null, .null])), (q1, .inl (k1, 16, .inl (fun _ => 0))), (q2, .inl (k2, 96, .inl (fun _ => 0))), (q3, .inl (k3, 56, .inl (ltS 24)))] H := hP
  have hD : va_D A [(h0, .inr (1, [.ref q1, .ref q2, .null, .null])), (q1, .inl (k1, 16, .inl (fun _ => 0))), (q2, .inl (k2, 96, .inl (fun _ => 0))), (q3, .inl (k3, 56, .inl (ltS 24)))] := hD
  refine lv_dup hx hb dM_init_163 rfl ?_
  refine lv_bipush (v := (24 : Int32)) hx hb dM_init_164 (by decide) ?_
  refine lv_bipush (v := (85 : Int32)) hx hb dM_init_166 (by decide) ?_
  refine va_iast hx hb hK hP hD hS 3 2 rfl rfl (by unfold vp_in; decide) dM_init_168 (fun H locs hP hD hS => ?_)
  have hP : va_P (dC, dI) vwCl [(h0, .inr (1, [.ref q1, .ref q2, .null, .null])), (q1, .inl (k1, 16, .inl (fun _ => 0))), (q2, .inl (k2, 96, .inl (fun _ => 0))), (q3, .inl (k3, 56, .inl (ltS 25)))] H := hP
  have hD : va_D A [(h0, .inr (1, [.ref q1, .ref q2, .null, .null])), (q1, .inl (k1, 16, .inl (fun _ => 0))), (q2, .inl (k2, 96, .inl (fun _ => 0))), (q3, .inl (k3, 56, .inl (ltS 25)))] := hD
  refine lv_dup hx hb dM_init_169 rfl ?_
  refine lv_bipush (v := (25 : Int32)) hx hb dM_init_170 (by decide) ?_
  refine lv_bipush (v := (86 : Int32)) hx hb dM_init_172 (by decide) ?_
  refine va_iast hx hb hK hP hD hS 3 2 rfl rfl (by unfold vp_in; decide) dM_init_174 (fun H locs hP hD hS => ?_)
  have hP : va_P (dC, dI) vwCl [(h0, .inr (1, [.ref q1, .ref q2, .null, .null])), (q1, .inl (k1, 16, .inl (fun _ => 0))), (q2, .inl (k2, 96, .inl (fun _ => 0))), (q3, .inl (k3, 56, .inl (ltS 26)))] H := hP
  have hD : va_D A [(h0, .inr (1, [.ref q1, .ref q2, .null, .null])), (q1, .inl (k1, 16, .inl (fun _ => 0))), (q2, .inl (k2, 96, .inl (fun _ => 0))), (q3, .inl (k3, 56, .inl (ltS 26)))] := hD
  refine lv_dup hx hb dM_init_175 rfl ?_
  refine lv_bipush (v := (26 : Int32)) hx hb dM_init_176 (by decide) ?_
  refine lv_bipush (v := (87 : Int32)) hx hb dM_init_178 (by decide) ?_
  refine va_iast hx hb hK hP hD hS 3 2 rfl rfl (by unfold vp_in; decide) dM_init_180 (fun H locs hP hD hS => ?_)
  have hP : va_P (dC, dI) vwCl [(h0, .inr (1, [.ref q1, .ref q2, .null, .null])), (q1, .inl (k1, 16, .inl (fun _ => 0))), (q2, .inl (k2, 96, .inl (fun _ => 0))), (q3, .inl (k3, 56, .inl (ltS 27)))] H := hP
  have hD : va_D A [(h0, .inr (1, [.ref q1, .ref q2, .null, .null])), (q1, .inl (k1, 16, .inl (fun _ => 0))), (q2, .inl (k2, 96, .inl (fun _ => 0))), (q3, .inl (k3, 56, .inl (ltS 27)))] := hD
  refine lv_dup hx hb dM_init_181 rfl ?_
  refine lv_bipush (v := (27 : Int32)) hx hb dM_init_182 (by decide) ?_
  refine lv_bipush (v := (88 : Int32)) hx hb dM_init_184 (by decide) ?_
  refine va_iast hx hb hK hP hD hS 3 2 rfl rfl (by unfold vp_in; decide) dM_init_186 (fun H locs hP hD hS => ?_)
  have hP : va_P (dC, dI) vwCl [(h0, .inr (1, [.ref q1, .ref q2, .null, .null])), (q1, .inl (k1, 16, .inl (fun _ => 0))), (q2, .inl (k2, 96, .inl (fun _ => 0))), (q3, .inl (k3, 56, .inl (ltS 28)))] H := hP
  have hD : va_D A [(h0, .inr (1, [.ref q1, .ref q2, .null, .null])), (q1, .inl (k1, 16, .inl (fun _ => 0))), (q2, .inl (k2, 96, .inl (fun _ => 0))), (q3, .inl (k3, 56, .inl (ltS 28)))] := hD
  refine lv_dup hx hb dM_init_187 rfl ?_
  refine lv_bipush (v := (28 : Int32)) hx hb dM_init_188 (by decide) ?_
  refine lv_bipush (v := (89 : Int32)) hx hb dM_init_190 (by decide) ?_
  refine va_iast hx hb hK hP hD hS 3 2 rfl rfl (by unfold vp_in; decide) dM_init_192 (fun H locs hP hD hS => ?_)
  have hP : va_P (dC, dI) vwCl [(h0, .inr (1, [.ref q1, .ref q2, .null, .null])), (q1, .inl (k1, 16, .inl (fun _ => 0))), (q2, .inl (k2, 96, .inl (fun _ => 0))), (q3, .inl (k3, 56, .inl (ltS 29)))] H := hP
  have hD : va_D A [(h0, .inr (1, [.ref q1, .ref q2, .null, .null])), (q1, .inl (k1, 16, .inl (fun _ => 0))), (q2, .inl (k2, 96, .inl (fun _ => 0))), (q3, .inl (k3, 56, .inl (ltS 29)))] := hD
  refine lv_dup hx hb dM_init_193 rfl ?_
  refine lv_bipush (v := (29 : Int32)) hx hb dM_init_194 (by decide) ?_
  refine lv_bipush (v := (90 : Int32)) hx hb dM_init_196 (by decide) ?_
  refine va_iast hx hb hK hP hD hS 3 2 rfl rfl (by unfold vp_in; decide) dM_init_198 (fun H locs hP hD hS => ?_)
  have hP : va_P (dC, dI) vwCl [(h0, .inr (1, [.ref q1, .ref q2, .null, .null])), (q1, .inl (k1, 16, .inl (fun _ => 0))), (q2, .inl (k2, 96, .inl (fun _ => 0))), (q3, .inl (k3, 56, .inl (ltS 30)))] H := hP
  have hD : va_D A [(h0, .inr (1, [.ref q1, .ref q2, .null, .null])), (q1, .inl (k1, 16, .inl (fun _ => 0))), (q2, .inl (k2, 96, .inl (fun _ => 0))), (q3, .inl (k3, 56, .inl (ltS 30)))] := hD
  refine lv_dup hx hb dM_init_199 rfl ?_
  refine lv_bipush (v := (30 : Int32)) hx hb dM_init_200 (by decide) ?_
  refine lv_bipush (v := (48 : Int32)) hx hb dM_init_202 (by decide) ?_
  refine va_iast hx hb hK hP hD hS 3 2 rfl rfl (by unfold vp_in; decide) dM_init_204 (fun H locs hP hD hS => ?_)
  have hP : va_P (dC, dI) vwCl [(h0, .inr (1, [.ref q1, .ref q2, .null, .null])), (q1, .inl (k1, 16, .inl (fun _ => 0))), (q2, .inl (k2, 96, .inl (fun _ => 0))), (q3, .inl (k3, 56, .inl (ltS 31)))] H := hP
  have hD : va_D A [(h0, .inr (1, [.ref q1, .ref q2, .null, .null])), (q1, .inl (k1, 16, .inl (fun _ => 0))), (q2, .inl (k2, 96, .inl (fun _ => 0))), (q3, .inl (k3, 56, .inl (ltS 31)))] := hD
  refine lv_dup hx hb dM_init_205 rfl ?_
  refine lv_bipush (v := (31 : Int32)) hx hb dM_init_206 (by decide) ?_
  refine lv_bipush (v := (49 : Int32)) hx hb dM_init_208 (by decide) ?_
  refine va_iast hx hb hK hP hD hS 3 2 rfl rfl (by unfold vp_in; decide) dM_init_210 (fun H locs hP hD hS => ?_)
  have hP : va_P (dC, dI) vwCl [(h0, .inr (1, [.ref q1, .ref q2, .null, .null])), (q1, .inl (k1, 16, .inl (fun _ => 0))), (q2, .inl (k2, 96, .inl (fun _ => 0))), (q3, .inl (k3, 56, .inl (ltS 32)))] H := hP
  have hD : va_D A [(h0, .inr (1, [.ref q1, .ref q2, .null, .null])), (q1, .inl (k1, 16, .inl (fun _ => 0))), (q2, .inl (k2, 96, .inl (fun _ => 0))), (q3, .inl (k3, 56, .inl (ltS 32)))] := hD
  refine lv_dup hx hb dM_init_211 rfl ?_
  refine lv_bipush (v := (32 : Int32)) hx hb dM_init_212 (by decide) ?_
  refine lv_bipush (v := (50 : Int32)) hx hb dM_init_214 (by decide) ?_
  refine va_iast hx hb hK hP hD hS 3 2 rfl rfl (by unfold vp_in; decide) dM_init_216 (fun H locs hP hD hS => ?_)
  have hP : va_P (dC, dI) vwCl [(h0, .inr (1, [.ref q1, .ref q2, .null, .null])), (q1, .inl (k1, 16, .inl (fun _ => 0))), (q2, .inl (k2, 96, .inl (fun _ => 0))), (q3, .inl (k3, 56, .inl (ltS 33)))] H := hP
  have hD : va_D A [(h0, .inr (1, [.ref q1, .ref q2, .null, .null])), (q1, .inl (k1, 16, .inl (fun _ => 0))), (q2, .inl (k2, 96, .inl (fun _ => 0))), (q3, .inl (k3, 56, .inl (ltS 33)))] := hD
  refine lv_dup hx hb dM_init_217 rfl ?_
  refine lv_bipush (v := (33 : Int32)) hx hb dM_init_218 (by decide) ?_
  refine lv_bipush (v := (51 : Int32)) hx hb dM_init_220 (by decide) ?_
  refine va_iast hx hb hK hP hD hS 3 2 rfl rfl (by unfold vp_in; decide) dM_init_222 (fun H locs hP hD hS => ?_)
  have hP : va_P (dC, dI) vwCl [(h0, .inr (1, [.ref q1, .ref q2, .null, .null])), (q1, .inl (k1, 16, .inl (fun _ => 0))), (q2, .inl (k2, 96, .inl (fun _ => 0))), (q3, .inl (k3, 56, .inl (ltS 34)))] H := hP
  have hD : va_D A [(h0, .inr (1, [.ref q1, .ref q2, .null, .null])), (q1, .inl (k1, 16, .inl (fun _ => 0))), (q2, .inl (k2, 96, .inl (fun _ => 0))), (q3, .inl (k3, 56, .inl (ltS 34)))] := hD
  refine lv_dup hx hb dM_init_223 rfl ?_
  refine lv_bipush (v := (34 : Int32)) hx hb dM_init_224 (by decide) ?_
  refine lv_bipush (v := (52 : Int32)) hx hb dM_init_226 (by decide) ?_
  refine va_iast hx hb hK hP hD hS 3 2 rfl rfl (by unfold vp_in; decide) dM_init_228 (fun H locs hP hD hS => ?_)
  have hP : va_P (dC, dI) vwCl [(h0, .inr (1, [.ref q1, .ref q2, .null, .null])), (q1, .inl (k1, 16, .inl (fun _ => 0))), (q2, .inl (k2, 96, .inl (fun _ => 0))), (q3, .inl (k3, 56, .inl (ltS 35)))] H := hP
  have hD : va_D A [(h0, .inr (1, [.ref q1, .ref q2, .null, .null])), (q1, .inl (k1, 16, .inl (fun _ => 0))), (q2, .inl (k2, 96, .inl (fun _ => 0))), (q3, .inl (k3, 56, .inl (ltS 35)))] := hD
  refine lv_dup hx hb dM_init_229 rfl ?_
  refine lv_bipush (v := (35 : Int32)) hx hb dM_init_230 (by decide) ?_
  refine lv_bipush (v := (53 : Int32)) hx hb dM_init_232 (by decide) ?_
  refine va_iast hx hb hK hP hD hS 3 2 rfl rfl (by unfold vp_in; decide) dM_init_234 (fun H locs hP hD hS => ?_)
  have hP : va_P (dC, dI) vwCl [(h0, .inr (1, [.ref q1, .ref q2, .null, .null])), (q1, .inl (k1, 16, .inl (fun _ => 0))), (q2, .inl (k2, 96, .inl (fun _ => 0))), (q3, .inl (k3, 56, .inl (ltS 36)))] H := hP
  have hD : va_D A [(h0, .inr (1, [.ref q1, .ref q2, .null, .null])), (q1, .inl (k1, 16, .inl (fun _ => 0))), (q2, .inl (k2, 96, .inl (fun _ => 0))), (q3, .inl (k3, 56, .inl (ltS 36)))] := hD
  refine lv_dup hx hb dM_init_235 rfl ?_
  refine lv_bipush (v := (36 : Int32)) hx hb dM_init_236 (by decide) ?_
  refine lv_bipush (v := (54 : Int32)) hx hb dM_init_238 (by decide) ?_
  refine va_iast hx hb hK hP hD hS 3 2 rfl rfl (by unfold vp_in; decide) dM_init_240 (fun H locs hP hD hS => ?_)
  have hP : va_P (dC, dI) vwCl [(h0, .inr (1, [.ref q1, .ref q2, .null, .null])), (q1, .inl (k1, 16, .inl (fun _ => 0))), (q2, .inl (k2, 96, .inl (fun _ => 0))), (q3, .inl (k3, 56, .inl (ltS 37)))] H := hP
  have hD : va_D A [(h0, .inr (1, [.ref q1, .ref q2, .null, .null])), (q1, .inl (k1, 16, .inl (fun _ => 0))), (q2, .inl (k2, 96, .inl (fun _ => 0))), (q3, .inl (k3, 56, .inl (ltS 37)))] := hD
  refine lv_dup hx hb dM_init_241 rfl ?_
  refine lv_bipush (v := (37 : Int32)) hx hb dM_init_242 (by decide) ?_
  refine lv_bipush (v := (55 : Int32)) hx hb dM_init_244 (by decide) ?_
  refine va_iast hx hb hK hP hD hS 3 2 rfl rfl (by unfold vp_in; decide) dM_init_246 (fun H locs hP hD hS => ?_)
  have hP : va_P (dC, dI) vwCl [(h0, .inr (1, [.ref q1, .ref q2, .null, .null])), (q1, .inl (k1, 16, .inl (fun _ => 0))), (q2, .inl (k2, 96, .inl (fun _ => 0))), (q3, .inl (k3, 56, .inl (ltS 38)))] H := hP
  have hD : va_D A [(h0, .inr (1, [.ref q1, .ref q2, .null, .null])), (q1, .inl (k1, 16, .inl (fun _ => 0))), (q2, .inl (k2, 96, .inl (fun _ => 0))), (q3, .inl (k3, 56, .inl (ltS 38)))] := hD
  refine lv_dup hx hb dM_init_247 rfl ?_
  refine lv_bipush (v := (38 : Int32)) hx hb dM_init_248 (by decide) ?_
  refine lv_bipush (v := (56 : Int32)) hx hb dM_init_250 (by decide) ?_
  refine va_iast hx hb hK hP hD hS 3 2 rfl rfl (by unfold vp_in; decide) dM_init_252 (fun H locs hP hD hS => ?_)
  have hP : va_P (dC, dI) vwCl [(h0, .inr (1, [.ref q1, .ref q2, .null, .null])), (q1, .inl (k1, 16, .inl (fun _ => 0))), (q2, .inl (k2, 96, .inl (fun _ => 0))), (q3, .inl (k3, 56, .inl (ltS 39)))] H := hP
  have hD : va_D A [(h0, .inr (1, [.ref q1, .ref q2, .null, .null])), (q1, .inl (k1, 16, .inl (fun _ => 0))), (q2, .inl (k2, 96, .inl (fun _ => 0))), (q3, .inl (k3, 56, .inl (ltS 39)))] := hD
  refine lv_dup hx hb dM_init_253 rfl ?_
  refine lv_bipush (v := (39 : Int32)) hx hb dM_init_254 (by decide) ?_
  refine lv_bipush (v := (57 : Int32)) hx hb dM_init_256 (by decide) ?_
  refine va_iast hx hb hK hP hD hS 3 2 rfl rfl (by unfold vp_in; decide) dM_init_258 (fun H locs hP hD hS => ?_)
  have hP : va_P (dC, dI) vwCl [(h0, .inr (1, [.ref q1, .ref q2, .null, .null])), (q1, .inl (k1, 16, .inl (fun _ => 0))), (q2, .inl (k2, 96, .inl (fun _ => 0))), (q3, .inl (k3, 56, .inl (ltS 40)))] H := hP
  have hD : va_D A [(h0, .inr (1, [.ref q1, .ref q2, .null, .null])), (q1, .inl (k1, 16, .inl (fun _ => 0))), (q2, .inl (k2, 96, .inl (fun _ => 0))), (q3, .inl (k3, 56, .inl (ltS 40)))] := hD
  refine lv_dup hx hb dM_init_259 rfl ?_
  refine lv_bipush (v := (40 : Int32)) hx hb dM_init_260 (by decide) ?_
  refine lv_bipush (v := (46 : Int32)) hx hb dM_init_262 (by decide) ?_
  refine va_iast hx hb hK hP hD hS 3 2 rfl rfl (by unfold vp_in; decide) dM_init_264 (fun H locs hP hD hS => ?_)
  have hP : va_P (dC, dI) vwCl [(h0, .inr (1, [.ref q1, .ref q2, .null, .null])), (q1, .inl (k1, 16, .inl (fun _ => 0))), (q2, .inl (k2, 96, .inl (fun _ => 0))), (q3, .inl (k3, 56, .inl (ltS 41)))] H := hP
  have hD : va_D A [(h0, .inr (1, [.ref q1, .ref q2, .null, .null])), (q1, .inl (k1, 16, .inl (fun _ => 0))), (q2, .inl (k2, 96, .inl (fun _ => 0))), (q3, .inl (k3, 56, .inl (ltS 41)))] := hD
  refine lv_dup hx hb dM_init_265 rfl ?_
  refine lv_bipush (v := (41 : Int32)) hx hb dM_init_266 (by decide) ?_
  refine lv_bipush (v := (44 : Int32)) hx hb dM_init_268 (by decide) ?_
  refine va_iast hx hb hK hP hD hS 3 2 rfl rfl (by unfold vp_in; decide) dM_init_270 (fun H locs hP hD hS => ?_)
  have hP : va_P (dC, dI) vwCl [(h0, .inr (1, [.ref q1, .ref q2, .null, .null])), (q1, .inl (k1, 16, .inl (fun _ => 0))), (q2, .inl (k2, 96, .inl (fun _ => 0))), (q3, .inl (k3, 56, .inl (ltS 42)))] H := hP
  have hD : va_D A [(h0, .inr (1, [.ref q1, .ref q2, .null, .null])), (q1, .inl (k1, 16, .inl (fun _ => 0))), (q2, .inl (k2, 96, .inl (fun _ => 0))), (q3, .inl (k3, 56, .inl (ltS 42)))] := hD
  refine lv_dup hx hb dM_init_271 rfl ?_
  refine lv_bipush (v := (42 : Int32)) hx hb dM_init_272 (by decide) ?_
  refine lv_bipush (v := (40 : Int32)) hx hb dM_init_274 (by decide) ?_
  refine va_iast hx hb hK hP hD hS 3 2 rfl rfl (by unfold vp_in; decide) dM_init_276 (fun H locs hP hD hS => ?_)
  have hP : va_P (dC, dI) vwCl [(h0, .inr (1, [.ref q1, .ref q2, .null, .null])), (q1, .inl (k1, 16, .inl (fun _ => 0))), (q2, .inl (k2, 96, .inl (fun _ => 0))), (q3, .inl (k3, 56, .inl (ltS 43)))] H := hP
  have hD : va_D A [(h0, .inr (1, [.ref q1, .ref q2, .null, .null])), (q1, .inl (k1, 16, .inl (fun _ => 0))), (q2, .inl (k2, 96, .inl (fun _ => 0))), (q3, .inl (k3, 56, .inl (ltS 43)))] := hD
  refine lv_dup hx hb dM_init_277 rfl ?_
  refine lv_bipush (v := (43 : Int32)) hx hb dM_init_278 (by decide) ?_
  refine lv_bipush (v := (41 : Int32)) hx hb dM_init_280 (by decide) ?_
  refine va_iast hx hb hK hP hD hS 3 2 rfl rfl (by unfold vp_in; decide) dM_init_282 (fun H locs hP hD hS => ?_)
  have hP : va_P (dC, dI) vwCl [(h0, .inr (1, [.ref q1, .ref q2, .null, .null])), (q1, .inl (k1, 16, .inl (fun _ => 0))), (q2, .inl (k2, 96, .inl (fun _ => 0))), (q3, .inl (k3, 56, .inl (ltS 44)))] H := hP
  have hD : va_D A [(h0, .inr (1, [.ref q1, .ref q2, .null, .null])), (q1, .inl (k1, 16, .inl (fun _ => 0))), (q2, .inl (k2, 96, .inl (fun _ => 0))), (q3, .inl (k3, 56, .inl (ltS 44)))] := hD
  refine lv_dup hx hb dM_init_283 rfl ?_
  refine lv_bipush (v := (44 : Int32)) hx hb dM_init_284 (by decide) ?_
  refine lv_bipush (v := (43 : Int32)) hx hb dM_init_286 (by decide) ?_
  refine va_iast hx hb hK hP hD hS 3 2 rfl rfl (by unfold vp_in; decide) dM_init_288 (fun H locs hP hD hS => ?_)
  have hP : va_P (dC, dI) vwCl [(h0, .inr (1, [.ref q1, .ref q2, .null, .null])), (q1, .inl (k1, 16, .inl (fun _ => 0))), (q2, .inl (k2, 96, .inl (fun _ => 0))), (q3, .inl (k3, 56, .inl (ltS 45)))] H := hP
  have hD : va_D A [(h0, .inr (1, [.ref q1, .ref q2, .null, .null])), (q1, .inl (k1, 16, .inl (fun _ => 0))), (q2, .inl (k2, 96, .inl (fun _ => 0))), (q3, .inl (k3, 56, .inl (ltS 45)))] := hD
  refine lv_dup hx hb dM_init_289 rfl ?_
  refine lv_bipush (v := (45 : Int32)) hx hb dM_init_290 (by decide) ?_
  refine lv_bipush (v := (45 : Int32)) hx hb dM_init_292 (by decide) ?_
  refine va_iast hx hb hK hP hD hS 3 2 rfl rfl (by unfold vp_in; decide) dM_init_294 (fun H locs hP hD hS => ?_)
  have hP : va_P (dC, dI) vwCl [(h0, .inr (1, [.ref q1, .ref q2, .null, .null])), (q1, .inl (k1, 16, .inl (fun _ => 0))), (q2, .inl (k2, 96, .inl (fun _ => 0))), (q3, .inl (k3, 56, .inl (ltS 46)))] H := hP
  have hD : va_D A [(h0, .inr (1, [.ref q1, .ref q2, .null, .null])), (q1, .inl (k1, 16, .inl (fun _ => 0))), (q2, .inl (k2, 96, .inl (fun _ => 0))), (q3, .inl (k3, 56, .inl (ltS 46)))] := hD
  refine lv_dup hx hb dM_init_295 rfl ?_
  refine lv_bipush (v := (46 : Int32)) hx hb dM_init_296 (by decide) ?_
  refine lv_bipush (v := (42 : Int32)) hx hb dM_init_298 (by decide) ?_
  refine va_iast hx hb hK hP hD hS 3 2 rfl rfl (by unfold vp_in; decide) dM_init_300 (fun H locs hP hD hS => ?_)
  have hP : va_P (dC, dI) vwCl [(h0, .inr (1, [.ref q1, .ref q2, .null, .null])), (q1, .inl (k1, 16, .inl (fun _ => 0))), (q2, .inl (k2, 96, .inl (fun _ => 0))), (q3, .inl (k3, 56, .inl (ltS 47)))] H := hP
  have hD : va_D A [(h0, .inr (1, [.ref q1, .ref q2, .null, .null])), (q1, .inl (k1, 16, .inl (fun _ => 0))), (q2, .inl (k2, 96, .inl (fun _ => 0))), (q3, .inl (k3, 56, .inl (ltS 47)))] := hD
  refine lv_dup hx hb dM_init_301 rfl ?_
  refine lv_bipush (v := (47 : Int32)) hx hb dM_init_302 (by decide) ?_
  refine lv_bipush (v := (47 : Int32)) hx hb dM_init_304 (by decide) ?_
  refine va_iast hx hb hK hP hD hS 3 2 rfl rfl (by unfold vp_in; decide) dM_init_306 (fun H locs hP hD hS => ?_)
  have hP : va_P (dC, dI) vwCl [(h0, .inr (1, [.ref q1, .ref q2, .null, .null])), (q1, .inl (k1, 16, .inl (fun _ => 0))), (q2, .inl (k2, 96, .inl (fun _ => 0))), (q3, .inl (k3, 56, .inl (ltS 48)))] H := hP
  have hD : va_D A [(h0, .inr (1, [.ref q1, .ref q2, .null, .null])), (q1, .inl (k1, 16, .inl (fun _ => 0))), (q2, .inl (k2, 96, .inl (fun _ => 0))), (q3, .inl (k3, 56, .inl (ltS 48)))] := hD
  refine lv_dup hx hb dM_init_307 rfl ?_
  refine lv_bipush (v := (48 : Int32)) hx hb dM_init_308 (by decide) ?_
  refine lv_bipush (v := (61 : Int32)) hx hb dM_init_310 (by decide) ?_
  refine va_iast hx hb hK hP hD hS 3 2 rfl rfl (by unfold vp_in; decide) dM_init_312 (fun H locs hP hD hS => ?_)
  have hP : va_P (dC, dI) vwCl [(h0, .inr (1, [.ref q1, .ref q2, .null, .null])), (q1, .inl (k1, 16, .inl (fun _ => 0))), (q2, .inl (k2, 96, .inl (fun _ => 0))), (q3, .inl (k3, 56, .inl (ltS 49)))] H := hP
  have hD : va_D A [(h0, .inr (1, [.ref q1, .ref q2, .null, .null])), (q1, .inl (k1, 16, .inl (fun _ => 0))), (q2, .inl (k2, 96, .inl (fun _ => 0))), (q3, .inl (k3, 56, .inl (ltS 49)))] := hD
  refine lv_dup hx hb dM_init_313 rfl ?_
  refine lv_bipush (v := (49 : Int32)) hx hb dM_init_314 (by decide) ?_
  refine lv_bipush (v := (36 : Int32)) hx hb dM_init_316 (by decide) ?_
  refine va_iast hx hb hK hP hD hS 3 2 rfl rfl (by unfold vp_in; decide) dM_init_318 (fun H locs hP hD hS => ?_)
  have hP : va_P (dC, dI) vwCl [(h0, .inr (1, [.ref q1, .ref q2, .null, .null])), (q1, .inl (k1, 16, .inl (fun _ => 0))), (q2, .inl (k2, 96, .inl (fun _ => 0))), (q3, .inl (k3, 56, .inl (ltS 50)))] H := hP
  have hD : va_D A [(h0, .inr (1, [.ref q1, .ref q2, .null, .null])), (q1, .inl (k1, 16, .inl (fun _ => 0))), (q2, .inl (k2, 96, .inl (fun _ => 0))), (q3, .inl (k3, 56, .inl (ltS 50)))] := hD
  refine lv_dup hx hb dM_init_319 rfl ?_
  refine lv_bipush (v := (50 : Int32)) hx hb dM_init_320 (by decide) ?_
  refine lv_bipush (v := (60 : Int32)) hx hb dM_init_322 (by decide) ?_
  refine va_iast hx hb hK hP hD hS 3 2 rfl rfl (by unfold vp_in; decide) dM_init_324 (fun H locs hP hD hS => ?_)
  have hP : va_P (dC, dI) vwCl [(h0, .inr (1, [.ref q1, .ref q2, .null, .null])), (q1, .inl (k1, 16, .inl (fun _ => 0))), (q2, .inl (k2, 96, .inl (fun _ => 0))), (q3, .inl (k3, 56, .inl (ltS 51)))] H := hP
  have hD : va_D A [(h0, .inr (1, [.ref q1, .ref q2, .null, .null])), (q1, .inl (k1, 16, .inl (fun _ => 0))), (q2, .inl (k2, 96, .inl (fun _ => 0))), (q3, .inl (k3, 56, .inl (ltS 51)))] := hD
  refine lv_dup hx hb dM_init_325 rfl ?_
  refine lv_bipush (v := (51 : Int32)) hx hb dM_init_326 (by decide) ?_
  refine lv_bipush (v := (62 : Int32)) hx hb dM_init_328 (by decide) ?_
  refine va_iast hx hb hK hP hD hS 3 2 rfl rfl (by unfold vp_in; decide) dM_init_330 (fun H locs hP hD hS => ?_)
  have hP : va_P (dC, dI) vwCl [(h0, .inr (1, [.ref q1, .ref q2, .null, .null])), (q1, .inl (k1, 16, .inl (fun _ => 0))), (q2, .inl (k2, 96, .inl (fun _ => 0))), (q3, .inl (k3, 56, .inl (ltS 52)))] H := hP
  have hD : va_D A [(h0, .inr (1, [.ref q1, .ref q2, .null, .null])), (q1, .inl (k1, 16, .inl (fun _ => 0))), (q2, .inl (k2, 96, .inl (fun _ => 0))), (q3, .inl (k3, 56, .inl (ltS 52)))] := hD
  refine lv_dup hx hb dM_init_331 rfl ?_
  refine lv_bipush (v := (52 : Int32)) hx hb dM_init_332 (by decide) ?_
  refine lv_bipush (v := (64 : Int32)) hx hb dM_init_334 (by decide) ?_
  refine va_iast hx hb hK hP hD hS 3 2 rfl rfl (by unfold vp_in; decide) dM_init_336 (fun H locs hP hD hS => ?_)
  have hP : va_P (dC, dI) vwCl [(h0, .inr (1, [.ref q1, .ref q2, .null, .null])), (q1, .inl (k1, 16, .inl (fun _ => 0))), (q2, .inl (k2, 96, .inl (fun _ => 0))), (q3, .inl (k3, 56, .inl (ltS 53)))] H := hP
  have hD : va_D A [(h0, .inr (1, [.ref q1, .ref q2, .null, .null])), (q1, .inl (k1, 16, .inl (fun _ => 0))), (q2, .inl (k2, 96, .inl (fun _ => 0))), (q3, .inl (k3, 56, .inl (ltS 53)))] := hD
  refine lv_dup hx hb dM_init_337 rfl ?_
  refine lv_bipush (v := (53 : Int32)) hx hb dM_init_338 (by decide) ?_
  refine lv_bipush (v := (59 : Int32)) hx hb dM_init_340 (by decide) ?_
  refine va_iast hx hb hK hP hD hS 3 2 rfl rfl (by unfold vp_in; decide) dM_init_342 (fun H locs hP hD hS => ?_)
  have hP : va_P (dC, dI) vwCl [(h0, .inr (1, [.ref q1, .ref q2, .null, .null])), (q1, .inl (k1, 16, .inl (fun _ => 0))), (q2, .inl (k2, 96, .inl (fun _ => 0))), (q3, .inl (k3, 56, .inl (ltS 54)))] H := hP
  have hD : va_D A [(h0, .inr (1, [.ref q1, .ref q2, .null, .null])), (q1, .inl (k1, 16, .inl (fun _ => 0))), (q2, .inl (k2, 96, .inl (fun _ => 0))), (q3, .inl (k3, 56, .inl (ltS 54)))] := hD
  refine lv_dup hx hb dM_init_343 rfl ?_
  refine lv_bipush (v := (54 : Int32)) hx hb dM_init_344 (by decide) ?_
  refine lv_bipush (v := (58 : Int32)) hx hb dM_init_346 (by decide) ?_
  refine va_iast hx hb hK hP hD hS 3 2 rfl rfl (by unfold vp_in; decide) dM_init_348 (fun H locs hP hD hS => ?_)
  have hP : va_P (dC, dI) vwCl [(h0, .inr (1, [.ref q1, .ref q2, .null, .null])), (q1, .inl (k1, 16, .inl (fun _ => 0))), (q2, .inl (k2, 96, .inl (fun _ => 0))), (q3, .inl (k3, 56, .inl (ltS 55)))] H := hP
  have hD : va_D A [(h0, .inr (1, [.ref q1, .ref q2, .null, .null])), (q1, .inl (k1, 16, .inl (fun _ => 0))), (q2, .inl (k2, 96, .inl (fun _ => 0))), (q3, .inl (k3, 56, .inl (ltS 55)))] := hD
  refine lv_dup hx hb dM_init_349 rfl ?_
  refine lv_bipush (v := (55 : Int32)) hx hb dM_init_350 (by decide) ?_
  refine lv_bipush (v := (39 : Int32)) hx hb dM_init_352 (by decide) ?_
  refine va_iast hx hb hK hP hD hS 3 2 rfl rfl (by unfold vp_in; decide) dM_init_354 (fun H locs hP hD hS => ?_)
  have hP : va_P (dC, dI) vwCl [(h0, .inr (1, [.ref q1, .ref q2, .null, .null])), (q1, .inl (k1, 16, .inl (fun _ => 0))), (q2, .inl (k2, 96, .inl (fun _ => 0))), (q3, .inl (k3, 56, .inl (ltS 56)))] H := hP
  have hD : va_D A [(h0, .inr (1, [.ref q1, .ref q2, .null, .null])), (q1, .inl (k1, 16, .inl (fun _ => 0))), (q2, .inl (k2, 96, .inl (fun _ => 0))), (q3, .inl (k3, 56, .inl (ltS 56)))] := hD
  refine va_putF (D := (dC, dI)) (ci := 1) (v := .ref q3) (ty := .array .int) (C := RM) (T := TM) (N := 4) hx hb hts iM tyM tyM_ok nmM hown hK hP hD hS 0 rfl rfl 2 (by decide) (hts _ tw_216) (fun _ h9 => h9) rfl hin rfl (by decide +kernel) rfl rfl (Nat.le_of_ble_eq_true rfl) dM_init_355 (fun H locs hP hD hS => ?_)
  have hP : va_P (dC, dI) vwCl [(h0, .inr (1, [.ref q1, .ref q2, .ref q3, .null])), (q1, .inl (k1, 16, .inl (fun _ => 0))), (q2, .inl (k2, 96, .inl (fun _ => 0))), (q3, .inl (k3, 56, .inl (ltS 56)))] H := hP
  have hD : va_D A [(h0, .inr (1, [.ref q1, .ref q2, .ref q3, .null])), (q1, .inl (k1, 16, .inl (fun _ => 0))), (q2, .inl (k2, 96, .inl (fun _ => 0))), (q3, .inl (k3, 56, .inl (ltS 56)))] := hD
  refine lv_aload_n hx hb dM_init_358 rfl (lv_at hl 0 rfl) ?_
  refine lv_bipush (v := (6 : Int32)) hx hb dM_init_359 (by decide) ?_
  refine va_newa (atype := .int) (ty := .int) (a0 := (6, .inl (fun _ => 0))) (N' := 6) hx hb (hts _ tw_21) rfl hK hP hD hS hA (fun _ => rfl) (by decide) (by decide) (by decide) (Nat.le_of_ble_eq_true rfl) (Nat.le_of_ble_eq_true rfl) dM_init_361 (fun q4 k4 H hK hP hD hS => ?_)
  have hK : va_K (dC, dI) vwCl [(k1, .boolean), (k2, .int), (k3, .int), (k4, .int)] s := hK
  have hP : va_P (dC, dI) vwCl [(h0, .inr (1, [.ref q1, .ref q2, .ref q3, .null])), (q1, .inl (k1, 16, .inl (fun _ => 0))), (q2, .inl (k2, 96, .inl (fun _ => 0))), (q3, .inl (k3, 56, .inl (ltS 56))), (q4, .inl (k4, 6, .inl (fun _ => 0)))] H := hP
  have hD : va_D A [(h0, .inr (1, [.ref q1, .ref q2, .ref q3, .null])), (q1, .inl (k1, 16, .inl (fun _ => 0))), (q2, .inl (k2, 96, .inl (fun _ => 0))), (q3, .inl (k3, 56, .inl (ltS 56))), (q4, .inl (k4, 6, .inl (fun _ => 0)))] := hD
  refine W.widen (k := 4) (n := 174) (by omega) (by omega) ?_
  refine va_putF (D := (dC, dI)) (ci := 1) (v := .ref q4) (ty := .array .int) (C := RM) (T := TM) (N := 4) hx hb hts iM tyM tyM_ok nmM hown hK hP hD hS 0 rfl rfl 3 (by decide) (hts _ tw_217) (fun _ h9 => h9) rfl hin rfl (by decide +kernel) rfl rfl (Nat.le_of_ble_eq_true rfl) dM_init_363 (fun H locs hP hD hS => ?_)
  have hP : va_P (dC, dI) vwCl [(h0, .inr (1, [.ref q1, .ref q2, .ref q3, .ref q4])), (q1, .inl (k1, 16, .inl (fun _ => 0))), (q2, .inl (k2, 96, .inl (fun _ => 0))), (q3, .inl (k3, 56, .inl (ltS 56))), (q4, .inl (k4, 6, .inl (fun _ => 0)))] H := hP
  have hD : va_D A [(h0, .inr (1, [.ref q1, .ref q2, .ref q3, .ref q4])), (q1, .inl (k1, 16, .inl (fun _ => 0))), (q2, .inl (k2, 96, .inl (fun _ => 0))), (q3, .inl (k3, 56, .inl (ltS 56))), (q4, .inl (k4, 6, .inl (fun _ => 0)))] := hD
  exact W.vret hx hb hr (fun t ht hW => ⟨⟨(), rfl, trivial, q1, q2, q3, q4, k1, k2, k3, k4, by rw [ht]; exact hP, va_K.moved hW.alike hK, hD⟩, hS.F ht⟩) hS.2.2 dM_init_366
end
section
/-! words as numbers: a sign s < 2 and bytes c 1 .. c 5 < 64 -/
def wN (s : Nat) (c : Nat → Nat) : Nat := s * 1073741824 + c 1 * 16777216 + c 2 * 262144 + c 3 * 4096 + c 4 * 64 + c 5
def okC (c : Nat → Nat) : Prop := c 1 < 64 ∧ c 2 < 64 ∧ c 3 < 64 ∧ c 4 < 64 ∧ c 5 < 64
def Wd (f g b : Nat → Int32) (j s : Nat) (c : Nat → Nat) : Prop := s < 2 ∧ okC c ∧ g j = nI s ∧ (∀ k, 1 ≤ k → k ≤ 5 → b (6 * j + k) = nI (c k)) ∧ f j = nI (wN s c)
def Rel (f g b : Nat → Int32) : Prop := ∀ j, j < 16 → ∃ (s : Nat) (c : Nat → Nat), Wd f g b j s c
theorem wN_lt {s : Nat} {c : Nat → Nat} (hs : s < 2) (hc : okC c) : wN s c < 2147483648 := by
  obtain ⟨h1, h2, h3, h4, h5⟩ := hc
  unfold wN
  omega
theorem Rel_0 : Rel (fun _ => 0) (fun _ => 0) (fun _ => 0) := fun j hj => ⟨0, fun _ => 0, by decide, ⟨by decide, by decide, by decide, by decide, by decide⟩, rfl, fun _ _ _ => rfl, rfl⟩
theorem Rel_put {f g b b' : Nat → Int32} {j s : Nat} {c : Nat → Nat} (h : Rel f g b) (hs : s < 2) (hc : okC c) (e : ∀ k, 1 ≤ k → k ≤ 5 → b' (6 * j + k) = nI (c k))
    (ho : ∀ i k, i ≠ j → 1 ≤ k → k ≤ 5 → b' (6 * i + k) = b (6 * i + k)) : Rel (upd f j (nI (wN s c))) (upd g j (nI s)) b' := by
  intro i hi
  by_cases hij : i = j
  · subst hij
    exact ⟨s, c, hs, hc, pk_us, e, pk_us⟩
  · obtain ⟨s0, c0, h1, h2, h3, h4, h5⟩ := h i hi
    exact ⟨s0, c0, h1, h2, by rw [pk_un hij]; exact h3, fun k k1 k5 => by rw [ho i k hij k1 k5]; exact h4 k k1 k5, by rw [pk_un hij]; exact h5⟩
theorem Rel_same {f g b f' g' b' : Nat → Int32} (h : Rel f g b) (e1 : f' = f) (e2 : g' = g) (e3 : b' = b) : Rel f' g' b' := by
  subst e1; subst e2; subst e3
  exact h
def nest5 (b : Nat → Int32) (j : Nat) (v : Nat → Int32) : Nat → Int32 := upd (upd (upd (upd (upd b (6 * j + 1) (v 1)) (6 * j + 2) (v 2)) (6 * j + 3) (v 3)) (6 * j + 4) (v 4)) (6 * j + 5) (v 5)
def nest5r (b : Nat → Int32) (j : Nat) (v : Nat → Int32) : Nat → Int32 := upd (upd (upd (upd (upd b (6 * j + 5) (v 5)) (6 * j + 4) (v 4)) (6 * j + 3) (v 3)) (6 * j + 2) (v 2)) (6 * j + 1) (v 1)
theorem k_15 {k : Nat} (h1 : 1 ≤ k) (h5 : k ≤ 5) : k = 1 ∨ k = 2 ∨ k = 3 ∨ k = 4 ∨ k = 5 := by omega
theorem nest5_at {b : Nat → Int32} {j : Nat} {v : Nat → Int32} : ∀ k, 1 ≤ k → k ≤ 5 → nest5 b j v (6 * j + k) = v k := by
  intro k h1 h5
  rcases k_15 h1 h5 with rfl | rfl | rfl | rfl | rfl <;> simp [nest5, upd]
theorem nest5r_at {b : Nat → Int32} {j : Nat} {v : Nat → Int32} : ∀ k, 1 ≤ k → k ≤ 5 → nest5r b j v (6 * j + k) = v k := by
  intro k h1 h5
  rcases k_15 h1 h5 with rfl | rfl | rfl | rfl | rfl <;> simp [nest5r, upd]
theorem nest5_off {b : Nat → Int32} {j : Nat} {v : Nat → Int32} : ∀ i k, i ≠ j → 1 ≤ k → k ≤ 5 → nest5 b j v (6 * i + k) = b (6 * i + k) := by
  intro i k hij h1 h5
  have q1 : 6 * i + k ≠ 6 * j + 1 := by omega
  have q2 : 6 * i + k ≠ 6 * j + 2 := by omega
  have q3 : 6 * i + k ≠ 6 * j + 3 := by omega
  have q4 : 6 * i + k ≠ 6 * j + 4 := by omega
  have q5 : 6 * i + k ≠ 6 * j + 5 := by omega
  simp only [nest5, upd, if_neg q1, if_neg q2, if_neg q3, if_neg q4, if_neg q5]
theorem nest5r_off {b : Nat → Int32} {j : Nat} {v : Nat → Int32} : ∀ i k, i ≠ j → 1 ≤ k → k ≤ 5 → nest5r b j v (6 * i + k) = b (6 * i + k) := by
  intro i k hij h1 h5
  have q1 : 6 * i + k ≠ 6 * j + 1 := by omega
  have q2 : 6 * i + k ≠ 6 * j + 2 := by omega
  have q3 : 6 * i + k ≠ 6 * j + 3 := by omega
  have q4 : 6 * i + k ≠ 6 * j + 4 := by omega
  have q5 : 6 * i + k ≠ 6 * j + 5 := by omega
  simp only [nest5r, upd, if_neg q1, if_neg q2, if_neg q3, if_neg q4, if_neg q5]
/-! bits -/
theorem nx_and (a b : Nat) : nI a &&& nI b = nI (a &&& b) := by
  apply Int32.toBitVec_inj.1
  show BitVec.ofNat 32 a &&& BitVec.ofNat 32 b = BitVec.ofNat 32 (a &&& b)
  apply BitVec.eq_of_getLsbD_eq
  intro i hi
  simp [hi]
theorem nx_or (a b : Nat) : nI a ||| nI b = nI (a ||| b) := by
  apply Int32.toBitVec_inj.1
  show BitVec.ofNat 32 a ||| BitVec.ofNat 32 b = BitVec.ofNat 32 (a ||| b)
  apply BitVec.eq_of_getLsbD_eq
  intro i hi
  simp [hi]
theorem nx_xor (a b : Nat) : nI a ^^^ nI b = nI (a ^^^ b) := by
  apply Int32.toBitVec_inj.1
  show BitVec.ofNat 32 a ^^^ BitVec.ofNat 32 b = BitVec.ofNat 32 (a ^^^ b)
  apply BitVec.eq_of_getLsbD_eq
  intro i hi
  simp [hi]
theorem or30N {a : Nat} (ha : a < 1073741824) (s : Nat) : a ||| (s * 1073741824) = a + s * 1073741824 := by
  have h : 1073741824 * s + a = 1073741824 * s ||| a := Nat.two_pow_add_eq_or_of_lt (i := 30) (b := a) ha s
  rw [Nat.or_comm, Nat.mul_comm s, ← h, Nat.add_comm]
theorem or30 {a s : Nat} (ha : a < 1073741824) : nI a ||| nI (s * 1073741824) = nI (a + s * 1073741824) := by
  rw [nx_or, or30N ha]
theorem blkand (W a b : Nat) : W &&& ((2 ^ b - 1) * 2 ^ a) = W / 2 ^ a % 2 ^ b * 2 ^ a := by
  apply Nat.eq_of_testBit_eq
  intro i
  rw [Nat.testBit_and, Nat.testBit_mul_two_pow, Nat.testBit_mul_two_pow, Nat.testBit_two_pow_sub_one, Nat.testBit_mod_two_pow, Nat.testBit_div_two_pow]
  rcases Nat.lt_or_ge i a with h | h
  · rw [decide_eq_false (Nat.not_le.mpr h), Bool.false_and, Bool.false_and, Bool.and_false]
  · rw [decide_eq_true h, Bool.true_and, Bool.true_and, show i - a + a = i by omega, Bool.and_comm]
theorem and30 {W : Nat} (h : W < 2147483648) : nI W &&& (1073741824 : Int32) = nI (W / 1073741824 * 1073741824) := by
  show nI W &&& nI 1073741824 = _
  have h1 : W &&& 1073741824 = W / 1073741824 % 2 * 1073741824 := blkand W 30 1
  rw [nx_and, h1, show W / 1073741824 % 2 = W / 1073741824 by omega]
theorem andnot (x m : Int32) : x &&& (m ^^^ (-1 : Int32)) = x - (x &&& m) := by
  apply Int32.toBitVec_inj.1
  show x.toBitVec &&& (m.toBitVec ^^^ (-1 : Int32).toBitVec) = x.toBitVec - (x.toBitVec &&& m.toBitVec)
  rw [show (-1 : Int32).toBitVec = BitVec.allOnes 32 from by decide, BitVec.xor_allOnes]
  generalize x.toBitVec = X
  generalize m.toBitVec = Y
  have h : (X &&& Y) &&& (X &&& ~~~Y) = 0#32 := by
    apply BitVec.eq_of_getLsbD_eq
    intro i hi
    simp only [BitVec.getLsbD_and, BitVec.getLsbD_not, BitVec.getLsbD_zero, hi, decide_true, Bool.true_and]
    cases X.getLsbD i <;> cases Y.getLsbD i <;> rfl
  have h3 : (X &&& Y) ||| (X &&& ~~~Y) = X := by
    apply BitVec.eq_of_getLsbD_eq
    intro i hi
    simp only [BitVec.getLsbD_and, BitVec.getLsbD_or, BitVec.getLsbD_not, hi, decide_true, Bool.true_and]
    cases X.getLsbD i <;> cases Y.getLsbD i <;> rfl
  have h2 := BitVec.add_eq_or_of_and_eq_zero _ _ h
  rw [h3] at h2
  generalize X &&& Y = A at h2 ⊢
  generalize X &&& ~~~Y = B at h2 ⊢
  rw [← h2, BitVec.add_comm, BitVec.add_sub_cancel]
theorem blkor {hi lo y a c : Nat} (h1 : lo < 2 ^ a) (h2 : y * 2 ^ a + lo < 2 ^ c) : (hi * 2 ^ c + lo) ||| (y * 2 ^ a) = hi * 2 ^ c + y * 2 ^ a + lo := by
  have e1 : 2 ^ c * hi + lo = 2 ^ c * hi ||| lo := Nat.two_pow_add_eq_or_of_lt (Nat.lt_of_le_of_lt (Nat.le_add_left _ _) h2) hi
  have e2 : 2 ^ a * y + lo = 2 ^ a * y ||| lo := Nat.two_pow_add_eq_or_of_lt h1 y
  have e3 : 2 ^ c * hi + (2 ^ a * y + lo) = 2 ^ c * hi ||| (2 ^ a * y + lo) := Nat.two_pow_add_eq_or_of_lt (by rw [Nat.mul_comm (2 ^ a)]; exact h2) hi
  rw [Nat.mul_comm hi, Nat.mul_comm y, e1, Nat.or_assoc, Nat.or_comm lo, ← e2, ← e3, Nat.add_assoc]
theorem splitW (W a b : Nat) : W = W / 2 ^ (a + b) * 2 ^ (a + b) + W / 2 ^ a % 2 ^ b * 2 ^ a + W % 2 ^ a := by
  have q1 := Nat.div_add_mod W (2 ^ a)
  have q2 := Nat.div_add_mod (W / 2 ^ a) (2 ^ b)
  rw [Nat.div_div_eq_div_mul, ← Nat.pow_add] at q2
  have e2 : 2 ^ a * (W / 2 ^ a) = W / 2 ^ (a + b) * 2 ^ (a + b) + W / 2 ^ a % 2 ^ b * 2 ^ a := by
    have q3 : 2 ^ a * (2 ^ b * (W / 2 ^ (a + b)) + W / 2 ^ a % 2 ^ b) = W / 2 ^ (a + b) * 2 ^ (a + b) + W / 2 ^ a % 2 ^ b * 2 ^ a := by
      rw [Nat.mul_add, ← Nat.mul_assoc, ← Nat.pow_add, Nat.mul_comm (2 ^ (a + b)), Nat.mul_comm (2 ^ a) (_ % _)]
    rw [← q3, q2]
  omega
/-- a block of b bits at a is put anew -/
theorem st_1 {W1 W2 a b : Nat} {m mk sh : Int32} (h1 : W1 < 2147483648) (h2 : W2 < 2147483648) (hb : b ≤ 30) (hab : a + b ≤ 30) (hmk : mk.toBitVec.toNat = 2 ^ b - 1) (hsh : (sh.toBitVec.smod 32).toNat = a) (hm : m = nI ((2 ^ b - 1) * 2 ^ a)) :
    (nI W1 &&& (m ^^^ (-1 : Int32))) ||| ((nI W2 &&& mk) <<< sh) = nI (W1 / 2 ^ (a + b) * 2 ^ (a + b) + W2 % 2 ^ b * 2 ^ a + W1 % 2 ^ a) := by
  have hs := splitW W1 a b
  have hp : (2 : Nat) ^ (a + b) ≤ 2 ^ 30 := Nat.pow_le_pow_right (by decide) hab
  have hpa : (2 : Nat) ^ (a + b) = 2 ^ b * 2 ^ a := by rw [Nat.pow_add, Nat.mul_comm]
  have hy : W2 % 2 ^ b < 2 ^ b := Nat.mod_lt _ (Nat.two_pow_pos b)
  have hlo : W1 % 2 ^ a < 2 ^ a := Nat.mod_lt _ (Nat.two_pow_pos a)
  have hyb : W2 % 2 ^ b * 2 ^ a + 2 ^ a ≤ 2 ^ (a + b) := by
    rw [hpa, ← Nat.succ_mul]
    exact Nat.mul_le_mul_right _ hy
  rw [andnot, hm, nx_and, blkand, pk_sub (by omega), pk_andN (by omega) b hmk, pk_shlN sh a hsh (by omega), nx_or]
  rw [show W1 - W1 / 2 ^ a % 2 ^ b * 2 ^ a = W1 / 2 ^ (a + b) * 2 ^ (a + b) + W1 % 2 ^ a by omega, blkor hlo (by omega)]
theorem st_0 {W1 W2 a b : Nat} {m mk sh : Int32} (h1 : W1 < 2147483648) (h2 : W2 < 2147483648) (hab : a + b = 30) (hmk : mk.toBitVec.toNat = 2 ^ b - 1) (hsh : (sh.toBitVec.smod 32).toNat = a) (hm : m = nI ((2 ^ (b + 1) - 1) * 2 ^ a)) :
    ((nI W1 &&& (m ^^^ (-1 : Int32))) ||| ((nI W2 &&& mk) <<< sh)) ||| (nI W2 &&& (1073741824 : Int32)) = nI (W2 % 2 ^ b * 2 ^ a + W1 % 2 ^ a + W2 / 1073741824 * 1073741824) := by
  have hs := splitW W1 a (b + 1)
  have hp : (2 : Nat) ^ (a + b) = 2 ^ 30 := by rw [hab]
  have hp1 : (2 : Nat) ^ (a + (b + 1)) = 2147483648 := by rw [show a + (b + 1) = 31 by omega]
  have hpa : (2 : Nat) ^ (a + b) = 2 ^ b * 2 ^ a := by rw [Nat.pow_add, Nat.mul_comm]
  have hy : W2 % 2 ^ b < 2 ^ b := Nat.mod_lt _ (Nat.two_pow_pos b)
  have hlo : W1 % 2 ^ a < 2 ^ a := Nat.mod_lt _ (Nat.two_pow_pos a)
  have hyb : W2 % 2 ^ b * 2 ^ a + 2 ^ a ≤ 2 ^ (a + b) := by
    rw [hpa, ← Nat.succ_mul]
    exact Nat.mul_le_mul_right _ hy
  rw [hp1, Nat.div_eq_of_lt h1] at hs
  have hq : W1 - W1 / 2 ^ a % 2 ^ (b + 1) * 2 ^ a = 0 * 2 ^ 30 + W1 % 2 ^ a := by omega
  rw [andnot, hm, nx_and, blkand, pk_sub (by omega), pk_andN (by omega) b hmk, pk_shlN sh a hsh (by omega), nx_or]
  rw [hq, blkor hlo (by omega), and30 h2, or30 (by omega), show 0 * 2 ^ 30 + W2 % 2 ^ b * 2 ^ a + W1 % 2 ^ a = W2 % 2 ^ b * 2 ^ a + W1 % 2 ^ a by omega]

/-! the class's helpers at a field -/
theorem tb_F : ∀ L, L < 6 → ∀ R, R < 6 → L ≤ R → ((f_F_bitsRightOf (f_F_lastByte (nI (8 * L + R))) &&& 31).toBitVec.smod 32).toNat = 6 * (5 - R) ∧ (f_F_rightMask (nI (8 * L + R))).toBitVec.toNat = 2 ^ (6 * (R + 1 - (if L = 0 then 1 else L))) - 1 ∧ f_F_signMask (nI (8 * L + R)) = (if L = 0 then (1073741824 : Int32) else 0) := by decide +kernel
theorem tb_S : ∀ L, L < 6 → ∀ R, R < 6 → L ≤ R → ((f_F_rightMask (nI (8 * L + R)) <<< (f_F_bitsRightOf (f_F_lastByte (nI (8 * L + R))) &&& 31)) ||| f_F_signMask (nI (8 * L + R))) = nI (if L = 0 then (2 ^ (6 * R + 1) - 1) * 2 ^ (6 * (5 - R)) else (2 ^ (6 * (R + 1 - L)) - 1) * 2 ^ (6 * (5 - R))) := by decide +kernel
theorem fo_0 {W R : Nat} (hW : W < 2147483648) (hR : R ≤ 5) : f_F_fieldOf (nI W) (nI (8 * 0 + R)) = nI (W / 2 ^ (6 * (5 - R)) % 2 ^ (6 * R) + W / 1073741824 * 1073741824) := by
  obtain ⟨t1, t2, t3⟩ := tb_F 0 (by decide) R (by omega) (Nat.zero_le _)
  rw [if_pos rfl] at t2 t3
  have hp : (2 : Nat) ^ (6 * R) ≤ 2 ^ 30 := Nat.pow_le_pow_right (by decide) (by omega)
  have hl : W / 2 ^ (6 * (5 - R)) % 2 ^ (6 * R) < 2 ^ (6 * R) := Nat.mod_lt _ (Nat.two_pow_pos _)
  have hd : W / 2 ^ (6 * (5 - R)) ≤ W := Nat.div_le_self _ _
  unfold f_F_fieldOf
  rw [t3, pk_shrN (by omega) _ _ t1, pk_andN (by omega) _ t2, show R + 1 - 1 = R by omega, and30 hW, or30 (by omega)]
theorem fo_1 {W L R : Nat} (hW : W < 2147483648) (h0 : 0 < L) (hL : L ≤ R) (hR : R ≤ 5) : f_F_fieldOf (nI W) (nI (8 * L + R)) = nI (W / 2 ^ (6 * (5 - R)) % 2 ^ (6 * (R + 1 - L))) := by
  obtain ⟨t1, t2, t3⟩ := tb_F L (by omega) R (by omega) hL
  rw [if_neg (by omega)] at t2 t3
  have hd : W / 2 ^ (6 * (5 - R)) ≤ W := Nat.div_le_self _ _
  unfold f_F_fieldOf
  rw [t3, pk_shrN (by omega) _ _ t1, pk_andN (by omega) _ t2, Int32.and_zero, Int32.or_zero]
theorem minus_e {m s : Nat} (hm : m < 1073741824) (hs : s < 2) : (f_F_isMinus (nI (m + s * 1073741824)) = 0) ↔ s = 0 := by
  unfold f_F_isMinus
  rw [and30 (by omega), show (m + s * 1073741824) / 1073741824 = s by omega]
  rcases (show s = 0 ∨ s = 1 by omega) with rfl | rfl
  · decide
  · decide
theorem num_e {m s : Nat} (hm : m < 1073741824) (hs : s < 2) : f_F_number (nI (m + s * 1073741824)) = if s = 0 then nI m else -nI m := by
  unfold f_F_number
  rw [pk_andN (by omega) 30 (by decide), show (m + s * 1073741824) % 2 ^ 30 = m by omega]
  by_cases h : s = 0
  · rw [if_pos ((minus_e hm hs).mpr h), if_pos h]
  · rw [if_neg (fun q => h ((minus_e hm hs).mp q)), if_neg h]

theorem LR_21 {L R : Nat} (h : L ≤ R) (hR : R ≤ 5) : (L = 0 ∧ R = 0) ∨ (L = 0 ∧ R = 1) ∨ (L = 0 ∧ R = 2) ∨ (L = 0 ∧ R = 3) ∨ (L = 0 ∧ R = 4) ∨ (L = 0 ∧ R = 5) ∨ (L = 1 ∧ R = 1) ∨ (L = 1 ∧ R = 2) ∨ (L = 1 ∧ R = 3) ∨ (L = 1 ∧ R = 4) ∨ (L = 1 ∧ R = 5) ∨ (L = 2 ∧ R = 2) ∨ (L = 2 ∧ R = 3) ∨ (L = 2 ∧ R = 4) ∨ (L = 2 ∧ R = 5) ∨ (L = 3 ∧ R = 3) ∨ (L = 3 ∧ R = 4) ∨ (L = 3 ∧ R = 5) ∨ (L = 4 ∧ R = 4) ∨ (L = 4 ∧ R = 5) ∨ (L = 5 ∧ R = 5) := by
  have h1 : L = 0 ∨ L = 1 ∨ L = 2 ∨ L = 3 ∨ L = 4 ∨ L = 5 := by omega
  have h2 : R = 0 ∨ R = 1 ∨ R = 2 ∨ R = 3 ∨ R = 4 ∨ R = 5 := by omega
  rcases h1 with rfl | rfl | rfl | rfl | rfl | rfl <;> rcases h2 with rfl | rfl | rfl | rfl | rfl | rfl <;> first | decide | (exfalso; omega)

/-- bytes that a load lays -/
def cL (c : Nat → Nat) (F R : Nat) : Nat → Nat := fun k => if k + R < 5 + F then 0 else c (k + R - 5)
/-- bytes that a store lays: c into d -/
def cS (c d : Nat → Nat) (F R : Nat) : Nat → Nat := fun k => if k < F then d k else if R < k then d k else c (k + 5 - R)
theorem okC_at {c : Nat → Nat} (hc : okC c) {k : Nat} (h1 : 1 ≤ k) (h5 : k ≤ 5) : c k < 64 := by
  rcases k_15 h1 h5 with rfl | rfl | rfl | rfl | rfl
  · exact hc.1
  · exact hc.2.1
  · exact hc.2.2.1
  · exact hc.2.2.2.1
  · exact hc.2.2.2.2
theorem cL_ok {c : Nat → Nat} {F R : Nat} (hc : okC c) (hF : 0 < F) (hR : R ≤ 5) : okC (cL c F R) := by
  have key : ∀ k, k ≤ 5 → cL c F R k < 64 := by
    intro k hk
    unfold cL
    split
    · decide
    · exact okC_at hc (by omega) (by omega)
  exact ⟨key 1 (by decide), key 2 (by decide), key 3 (by decide), key 4 (by decide), key 5 (by decide)⟩
theorem cS_ok {c d : Nat → Nat} {F R : Nat} (hc : okC c) (hd : okC d) (hF : 0 < F) (hR : R ≤ 5) : okC (cS c d F R) := by
  have key : ∀ k, 1 ≤ k → k ≤ 5 → cS c d F R k < 64 := by
    intro k hk1 hk
    have hdk : d k < 64 := okC_at hd hk1 hk
    unfold cS
    split
    · exact hdk
    · split
      · exact hdk
      · exact okC_at hc (by omega) (by omega)
  exact ⟨key 1 (by decide) (by decide), key 2 (by decide) (by decide), key 3 (by decide) (by decide), key 4 (by decide) (by decide), key 5 (by decide) (by decide)⟩

set_option maxHeartbeats 2000000 in
theorem ld_w {s L R : Nat} {c : Nat → Nat} (hs : s < 2) (hc : okC c) (hL : L ≤ R) (hR : R ≤ 5) : f_F_fieldOf (nI (wN s c)) (nI (8 * L + R)) = nI (wN (if L = 0 then s else 0) (cL c (if L = 0 then 1 else L) R)) := by
  have hW := wN_lt hs hc
  obtain ⟨h1, h2, h3, h4, h5⟩ := hc
  by_cases h0 : L = 0
  · subst h0
    rw [fo_0 hW hR, if_pos rfl, if_pos rfl]
    congr 1
    rcases (show R = 0 ∨ R = 1 ∨ R = 2 ∨ R = 3 ∨ R = 4 ∨ R = 5 by omega) with rfl | rfl | rfl | rfl | rfl | rfl <;> simp [wN, cL] <;> omega
  · rw [fo_1 hW (by omega) hL hR, if_neg h0, if_neg h0]
    congr 1
    rcases LR_21 hL hR with ⟨rfl, rfl⟩ | ⟨rfl, rfl⟩ | ⟨rfl, rfl⟩ | ⟨rfl, rfl⟩ | ⟨rfl, rfl⟩ | ⟨rfl, rfl⟩ | ⟨rfl, rfl⟩ | ⟨rfl, rfl⟩ | ⟨rfl, rfl⟩ | ⟨rfl, rfl⟩ | ⟨rfl, rfl⟩ | ⟨rfl, rfl⟩ | ⟨rfl, rfl⟩ | ⟨rfl, rfl⟩ | ⟨rfl, rfl⟩ | ⟨rfl, rfl⟩ | ⟨rfl, rfl⟩ | ⟨rfl, rfl⟩ | ⟨rfl, rfl⟩ | ⟨rfl, rfl⟩ | ⟨rfl, rfl⟩ <;> simp [wN, cL] at h0 ⊢ <;> omega

set_option maxHeartbeats 2000000 in
theorem st_w {s1 s2 L R : Nat} {c d : Nat → Nat} (hs1 : s1 < 2) (hs2 : s2 < 2) (hc : okC c) (hd : okC d) (hL : L ≤ R) (hR : R ≤ 5) :
    ((nI (wN s1 d) &&& (((f_F_rightMask (nI (8 * L + R)) <<< (f_F_bitsRightOf (f_F_lastByte (nI (8 * L + R))) &&& 31)) ||| f_F_signMask (nI (8 * L + R))) ^^^ (-1 : Int32))) ||| ((nI (wN s2 c) &&& f_F_rightMask (nI (8 * L + R))) <<< (f_F_bitsRightOf (f_F_lastByte (nI (8 * L + R))) &&& 31))) ||| (nI (wN s2 c) &&& f_F_signMask (nI (8 * L + R)))
      = nI (wN (if L = 0 then s2 else s1) (cS c d (if L = 0 then 1 else L) R)) := by
  have hW1 := wN_lt hs1 hd
  have hW2 := wN_lt hs2 hc
  obtain ⟨t1, t2, t3⟩ := tb_F L (by omega) R (by omega) hL
  have t4 := tb_S L (by omega) R (by omega) hL
  obtain ⟨h1, h2, h3, h4, h5⟩ := hc
  obtain ⟨g1, g2, g3, g4, g5⟩ := hd
  by_cases h0 : L = 0
  · subst h0
    rw [if_pos rfl] at t2 t3 t4
    rw [if_pos rfl, if_pos rfl]
    rw [show R + 1 - 1 = R by omega] at t2
    rw [t4, t3, st_0 (a := 6 * (5 - R)) (b := 6 * R) hW1 hW2 (by omega) t2 t1 rfl]
    congr 1
    rcases (show R = 0 ∨ R = 1 ∨ R = 2 ∨ R = 3 ∨ R = 4 ∨ R = 5 by omega) with rfl | rfl | rfl | rfl | rfl | rfl <;> simp [wN, cS] <;> omega
  · rw [if_neg h0] at t2 t3 t4
    rw [if_neg h0, if_neg h0]
    rw [t4, t3, st_1 (a := 6 * (5 - R)) (b := 6 * (R + 1 - L)) hW1 hW2 (by omega) (by omega) t2 t1 rfl, Int32.and_zero, Int32.or_zero]
    congr 1
    rcases LR_21 hL hR with ⟨rfl, rfl⟩ | ⟨rfl, rfl⟩ | ⟨rfl, rfl⟩ | ⟨rfl, rfl⟩ | ⟨rfl, rfl⟩ | ⟨rfl, rfl⟩ | ⟨rfl, rfl⟩ | ⟨rfl, rfl⟩ | ⟨rfl, rfl⟩ | ⟨rfl, rfl⟩ | ⟨rfl, rfl⟩ | ⟨rfl, rfl⟩ | ⟨rfl, rfl⟩ | ⟨rfl, rfl⟩ | ⟨rfl, rfl⟩ | ⟨rfl, rfl⟩ | ⟨rfl, rfl⟩ | ⟨rfl, rfl⟩ | ⟨rfl, rfl⟩ | ⟨rfl, rfl⟩ | ⟨rfl, rfl⟩ <;> simp [wN, cS] at h0 ⊢ <;> omega

theorem mn_1_0 {g b t w : Nat → Int32} {j : Nat} {c : Nat → Nat} (hj : j < 16) (hb : ∀ k, 1 ≤ k → k ≤ 5 → b (6 * j + k) = nI (c k)) : f_M_number g b t w (nI j) (nI 1) (nI 0) = nI (0) := by
  unfold f_M_number
  exact (if_pos (show nI 0 < nI 1 by decide)).trans rfl

theorem mn_1_1 {g b t w : Nat → Int32} {j : Nat} {c : Nat → Nat} (hj : j < 16) (hb : ∀ k, 1 ≤ k → k ≤ 5 → b (6 * j + k) = nI (c k)) : f_M_number g b t w (nI j) (nI 1) (nI 1) = nI (c 1 * 1) := by
  unfold f_M_number
  rw [if_neg (by decide), if_pos (by decide)]
  have i1 : (((6 : Int32) * nI j) + nI 1).toNatClampNeg = 6 * j + 1 := ix_e (k := 1) hj (by decide)
  rw [i1, hb 1 (by decide) (by decide)]
  simp only [show (64 : Int32) = nI 64 from rfl, show (0 : Int32) = nI 0 from rfl, pk_mul, nI_add]
  congr 1 <;> omega

theorem mn_1_2 {g b t w : Nat → Int32} {j : Nat} {c : Nat → Nat} (hj : j < 16) (hb : ∀ k, 1 ≤ k → k ≤ 5 → b (6 * j + k) = nI (c k)) : f_M_number g b t w (nI j) (nI 1) (nI 2) = nI (c 1 * 64 + c 2 * 1) := by
  unfold f_M_number
  rw [if_neg (by decide), if_neg (by decide), if_pos (by decide)]
  have i1 : (((6 : Int32) * nI j) + nI 1).toNatClampNeg = 6 * j + 1 := ix_e (k := 1) hj (by decide)
  have i2 : (((6 : Int32) * nI j) + (nI 1 + (1 : Int32))).toNatClampNeg = 6 * j + 2 := ix_e (k := 2) hj (by decide)
  rw [i1, i2, hb 1 (by decide) (by decide), hb 2 (by decide) (by decide)]
  simp only [show (64 : Int32) = nI 64 from rfl, show (0 : Int32) = nI 0 from rfl, pk_mul, nI_add]
  congr 1 <;> omega

theorem mn_1_3 {g b t w : Nat → Int32} {j : Nat} {c : Nat → Nat} (hj : j < 16) (hb : ∀ k, 1 ≤ k → k ≤ 5 → b (6 * j + k) = nI (c k)) : f_M_number g b t w (nI j) (nI 1) (nI 3) = nI (c 1 * 4096 + c 2 * 64 + c 3 * 1) := by
  unfold f_M_number
  rw [if_neg (by decide), if_neg (by decide), if_neg (by decide), if_pos (by decide)]
  have i1 : (((6 : Int32) * nI j) + nI 1).toNatClampNeg = 6 * j + 1 := ix_e (k := 1) hj (by decide)
  have i2 : (((6 : Int32) * nI j) + (nI 1 + (1 : Int32))).toNatClampNeg = 6 * j + 2 := ix_e (k := 2) hj (by decide)
  have i3 : (((6 : Int32) * nI j) + ((nI 1 + (1 : Int32)) + (1 : Int32))).toNatClampNeg = 6 * j + 3 := ix_e (k := 3) hj (by decide)
  rw [i1, i2, i3, hb 1 (by decide) (by decide), hb 2 (by decide) (by decide), hb 3 (by decide) (by decide)]
  simp only [show (64 : Int32) = nI 64 from rfl, show (0 : Int32) = nI 0 from rfl, pk_mul, nI_add]
  congr 1 <;> omega

theorem mn_1_4 {g b t w : Nat → Int32} {j : Nat} {c : Nat → Nat} (hj : j < 16) (hb : ∀ k, 1 ≤ k → k ≤ 5 → b (6 * j + k) = nI (c k)) : f_M_number g b t w (nI j) (nI 1) (nI 4) = nI (c 1 * 262144 + c 2 * 4096 + c 3 * 64 + c 4 * 1) := by
  unfold f_M_number
  rw [if_neg (by decide), if_neg (by decide), if_neg (by decide), if_neg (by decide), if_pos (by decide)]
  have i1 : (((6 : Int32) * nI j) + nI 1).toNatClampNeg = 6 * j + 1 := ix_e (k := 1) hj (by decide)
  have i2 : (((6 : Int32) * nI j) + (nI 1 + (1 : Int32))).toNatClampNeg = 6 * j + 2 := ix_e (k := 2) hj (by decide)
  have i3 : (((6 : Int32) * nI j) + ((nI 1 + (1 : Int32)) + (1 : Int32))).toNatClampNeg = 6 * j + 3 := ix_e (k := 3) hj (by decide)
  have i4 : (((6 : Int32) * nI j) + (((nI 1 + (1 : Int32)) + (1 : Int32)) + (1 : Int32))).toNatClampNeg = 6 * j + 4 := ix_e (k := 4) hj (by decide)
  rw [i1, i2, i3, i4, hb 1 (by decide) (by decide), hb 2 (by decide) (by decide), hb 3 (by decide) (by decide), hb 4 (by decide) (by decide)]
  simp only [show (64 : Int32) = nI 64 from rfl, show (0 : Int32) = nI 0 from rfl, pk_mul, nI_add]
  congr 1 <;> omega

theorem mn_1_5 {g b t w : Nat → Int32} {j : Nat} {c : Nat → Nat} (hj : j < 16) (hb : ∀ k, 1 ≤ k → k ≤ 5 → b (6 * j + k) = nI (c k)) : f_M_number g b t w (nI j) (nI 1) (nI 5) = nI (c 1 * 16777216 + c 2 * 262144 + c 3 * 4096 + c 4 * 64 + c 5 * 1) := by
  unfold f_M_number
  rw [if_neg (by decide), if_neg (by decide), if_neg (by decide), if_neg (by decide), if_neg (by decide)]
  have i1 : (((6 : Int32) * nI j) + nI 1).toNatClampNeg = 6 * j + 1 := ix_e (k := 1) hj (by decide)
  have i2 : (((6 : Int32) * nI j) + (nI 1 + (1 : Int32))).toNatClampNeg = 6 * j + 2 := ix_e (k := 2) hj (by decide)
  have i3 : (((6 : Int32) * nI j) + ((nI 1 + (1 : Int32)) + (1 : Int32))).toNatClampNeg = 6 * j + 3 := ix_e (k := 3) hj (by decide)
  have i4 : (((6 : Int32) * nI j) + (((nI 1 + (1 : Int32)) + (1 : Int32)) + (1 : Int32))).toNatClampNeg = 6 * j + 4 := ix_e (k := 4) hj (by decide)
  have i5 : (((6 : Int32) * nI j) + ((((nI 1 + (1 : Int32)) + (1 : Int32)) + (1 : Int32)) + (1 : Int32))).toNatClampNeg = 6 * j + 5 := ix_e (k := 5) hj (by decide)
  rw [i1, i2, i3, i4, i5, hb 1 (by decide) (by decide), hb 2 (by decide) (by decide), hb 3 (by decide) (by decide), hb 4 (by decide) (by decide), hb 5 (by decide) (by decide)]
  simp only [show (64 : Int32) = nI 64 from rfl, show (0 : Int32) = nI 0 from rfl, pk_mul, nI_add]
  congr 1 <;> omega

theorem mn_2_2 {g b t w : Nat → Int32} {j : Nat} {c : Nat → Nat} (hj : j < 16) (hb : ∀ k, 1 ≤ k → k ≤ 5 → b (6 * j + k) = nI (c k)) : f_M_number g b t w (nI j) (nI 2) (nI 2) = nI (c 2 * 1) := by
  unfold f_M_number
  rw [if_neg (by decide), if_pos (by decide)]
  have i2 : (((6 : Int32) * nI j) + nI 2).toNatClampNeg = 6 * j + 2 := ix_e (k := 2) hj (by decide)
  rw [i2, hb 2 (by decide) (by decide)]
  simp only [show (64 : Int32) = nI 64 from rfl, show (0 : Int32) = nI 0 from rfl, pk_mul, nI_add]
  congr 1 <;> omega

theorem mn_2_3 {g b t w : Nat → Int32} {j : Nat} {c : Nat → Nat} (hj : j < 16) (hb : ∀ k, 1 ≤ k → k ≤ 5 → b (6 * j + k) = nI (c k)) : f_M_number g b t w (nI j) (nI 2) (nI 3) = nI (c 2 * 64 + c 3 * 1) := by
  unfold f_M_number
  rw [if_neg (by decide), if_neg (by decide), if_pos (by decide)]
  have i2 : (((6 : Int32) * nI j) + nI 2).toNatClampNeg = 6 * j + 2 := ix_e (k := 2) hj (by decide)
  have i3 : (((6 : Int32) * nI j) + (nI 2 + (1 : Int32))).toNatClampNeg = 6 * j + 3 := ix_e (k := 3) hj (by decide)
  rw [i2, i3, hb 2 (by decide) (by decide), hb 3 (by decide) (by decide)]
  simp only [show (64 : Int32) = nI 64 from rfl, show (0 : Int32) = nI 0 from rfl, pk_mul, nI_add]
  congr 1 <;> omega

theorem mn_2_4 {g b t w : Nat → Int32} {j : Nat} {c : Nat → Nat} (hj : j < 16) (hb : ∀ k, 1 ≤ k → k ≤ 5 → b (6 * j + k) = nI (c k)) : f_M_number g b t w (nI j) (nI 2) (nI 4) = nI (c 2 * 4096 + c 3 * 64 + c 4 * 1) := by
  unfold f_M_number
  rw [if_neg (by decide), if_neg (by decide), if_neg (by decide), if_pos (by decide)]
  have i2 : (((6 : Int32) * nI j) + nI 2).toNatClampNeg = 6 * j + 2 := ix_e (k := 2) hj (by decide)
  have i3 : (((6 : Int32) * nI j) + (nI 2 + (1 : Int32))).toNatClampNeg = 6 * j + 3 := ix_e (k := 3) hj (by decide)
  have i4 : (((6 : Int32) * nI j) + ((nI 2 + (1 : Int32)) + (1 : Int32))).toNatClampNeg = 6 * j + 4 := ix_e (k := 4) hj (by decide)
  rw [i2, i3, i4, hb 2 (by decide) (by decide), hb 3 (by decide) (by decide), hb 4 (by decide) (by decide)]
  simp only [show (64 : Int32) = nI 64 from rfl, show (0 : Int32) = nI 0 from rfl, pk_mul, nI_add]
  congr 1 <;> omega

theorem mn_2_5 {g b t w : Nat → Int32} {j : Nat} {c : Nat → Nat} (hj : j < 16) (hb : ∀ k, 1 ≤ k → k ≤ 5 → b (6 * j + k) = nI (c k)) : f_M_number g b t w (nI j) (nI 2) (nI 5) = nI (c 2 * 262144 + c 3 * 4096 + c 4 * 64 + c 5 * 1) := by
  unfold f_M_number
  rw [if_neg (by decide), if_neg (by decide), if_neg (by decide), if_neg (by decide), if_pos (by decide)]
  have i2 : (((6 : Int32) * nI j) + nI 2).toNatClampNeg = 6 * j + 2 := ix_e (k := 2) hj (by decide)
  have i3 : (((6 : Int32) * nI j) + (nI 2 + (1 : Int32))).toNatClampNeg = 6 * j + 3 := ix_e (k := 3) hj (by decide)
  have i4 : (((6 : Int32) * nI j) + ((nI 2 + (1 : Int32)) + (1 : Int32))).toNatClampNeg = 6 * j + 4 := ix_e (k := 4) hj (by decide)
  have i5 : (((6 : Int32) * nI j) + (((nI 2 + (1 : Int32)) + (1 : Int32)) + (1 : Int32))).toNatClampNeg = 6 * j + 5 := ix_e (k := 5) hj (by decide)
  rw [i2, i3, i4, i5, hb 2 (by decide) (by decide), hb 3 (by decide) (by decide), hb 4 (by decide) (by decide), hb 5 (by decide) (by decide)]
  simp only [show (64 : Int32) = nI 64 from rfl, show (0 : Int32) = nI 0 from rfl, pk_mul, nI_add]
  congr 1 <;> omega

theorem mn_3_3 {g b t w : Nat → Int32} {j : Nat} {c : Nat → Nat} (hj : j < 16) (hb : ∀ k, 1 ≤ k → k ≤ 5 → b (6 * j + k) = nI (c k)) : f_M_number g b t w (nI j) (nI 3) (nI 3) = nI (c 3 * 1) := by
  unfold f_M_number
  rw [if_neg (by decide), if_pos (by decide)]
  have i3 : (((6 : Int32) * nI j) + nI 3).toNatClampNeg = 6 * j + 3 := ix_e (k := 3) hj (by decide)
  rw [i3, hb 3 (by decide) (by decide)]
  simp only [show (64 : Int32) = nI 64 from rfl, show (0 : Int32) = nI 0 from rfl, pk_mul, nI_add]
  congr 1 <;> omega

theorem mn_3_4 {g b t w : Nat → Int32} {j : Nat} {c : Nat → Nat} (hj : j < 16) (hb : ∀ k, 1 ≤ k → k ≤ 5 → b (6 * j + k) = nI (c k)) : f_M_number g b t w (nI j) (nI 3) (nI 4) = nI (c 3 * 64 + c 4 * 1) := by
  unfold f_M_number
  rw [if_neg (by decide), if_neg (by decide), if_pos (by decide)]
  have i3 : (((6 : Int32) * nI j) + nI 3).toNatClampNeg = 6 * j + 3 := ix_e (k := 3) hj (by decide)
  have i4 : (((6 : Int32) * nI j) + (nI 3 + (1 : Int32))).toNatClampNeg = 6 * j + 4 := ix_e (k := 4) hj (by decide)
  rw [i3, i4, hb 3 (by decide) (by decide), hb 4 (by decide) (by decide)]
  simp only [show (64 : Int32) = nI 64 from rfl, show (0 : Int32) = nI 0 from rfl, pk_mul, nI_add]
  congr 1 <;> omega

theorem mn_3_5 {g b t w : Nat → Int32} {j : Nat} {c : Nat → Nat} (hj : j < 16) (hb : ∀ k, 1 ≤ k → k ≤ 5 → b (6 * j + k) = nI (c k)) : f_M_number g b t w (nI j) (nI 3) (nI 5) = nI (c 3 * 4096 + c 4 * 64 + c 5 * 1) := by
  unfold f_M_number
  rw [if_neg (by decide), if_neg (by decide), if_neg (by decide), if_pos (by decide)]
  have i3 : (((6 : Int32) * nI j) + nI 3).toNatClampNeg = 6 * j + 3 := ix_e (k := 3) hj (by decide)
  have i4 : (((6 : Int32) * nI j) + (nI 3 + (1 : Int32))).toNatClampNeg = 6 * j + 4 := ix_e (k := 4) hj (by decide)
  have i5 : (((6 : Int32) * nI j) + ((nI 3 + (1 : Int32)) + (1 : Int32))).toNatClampNeg = 6 * j + 5 := ix_e (k := 5) hj (by decide)
  rw [i3, i4, i5, hb 3 (by decide) (by decide), hb 4 (by decide) (by decide), hb 5 (by decide) (by decide)]
  simp only [show (64 : Int32) = nI 64 from rfl, show (0 : Int32) = nI 0 from rfl, pk_mul, nI_add]
  congr 1 <;> omega

theorem mn_4_4 {g b t w : Nat → Int32} {j : Nat} {c : Nat → Nat} (hj : j < 16) (hb : ∀ k, 1 ≤ k → k ≤ 5 → b (6 * j + k) = nI (c k)) : f_M_number g b t w (nI j) (nI 4) (nI 4) = nI (c 4 * 1) := by
  unfold f_M_number
  rw [if_neg (by decide), if_pos (by decide)]
  have i4 : (((6 : Int32) * nI j) + nI 4).toNatClampNeg = 6 * j + 4 := ix_e (k := 4) hj (by decide)
  rw [i4, hb 4 (by decide) (by decide)]
  simp only [show (64 : Int32) = nI 64 from rfl, show (0 : Int32) = nI 0 from rfl, pk_mul, nI_add]
  congr 1 <;> omega

theorem mn_4_5 {g b t w : Nat → Int32} {j : Nat} {c : Nat → Nat} (hj : j < 16) (hb : ∀ k, 1 ≤ k → k ≤ 5 → b (6 * j + k) = nI (c k)) : f_M_number g b t w (nI j) (nI 4) (nI 5) = nI (c 4 * 64 + c 5 * 1) := by
  unfold f_M_number
  rw [if_neg (by decide), if_neg (by decide), if_pos (by decide)]
  have i4 : (((6 : Int32) * nI j) + nI 4).toNatClampNeg = 6 * j + 4 := ix_e (k := 4) hj (by decide)
  have i5 : (((6 : Int32) * nI j) + (nI 4 + (1 : Int32))).toNatClampNeg = 6 * j + 5 := ix_e (k := 5) hj (by decide)
  rw [i4, i5, hb 4 (by decide) (by decide), hb 5 (by decide) (by decide)]
  simp only [show (64 : Int32) = nI 64 from rfl, show (0 : Int32) = nI 0 from rfl, pk_mul, nI_add]
  congr 1 <;> omega

theorem mn_5_5 {g b t w : Nat → Int32} {j : Nat} {c : Nat → Nat} (hj : j < 16) (hb : ∀ k, 1 ≤ k → k ≤ 5 → b (6 * j + k) = nI (c k)) : f_M_number g b t w (nI j) (nI 5) (nI 5) = nI (c 5 * 1) := by
  unfold f_M_number
  rw [if_neg (by decide), if_pos (by decide)]
  have i5 : (((6 : Int32) * nI j) + nI 5).toNatClampNeg = 6 * j + 5 := ix_e (k := 5) hj (by decide)
  rw [i5, hb 5 (by decide) (by decide)]
  simp only [show (64 : Int32) = nI 64 from rfl, show (0 : Int32) = nI 0 from rfl, pk_mul, nI_add]
  congr 1 <;> omega

/-- the magnitude of a field -/
def mg (c : Nat → Nat) (F R : Nat) : Nat := if R < F then 0 else if F = R then c R else if F + 1 = R then c F * 64 + c R else if F + 2 = R then c F * 4096 + c (F + 1) * 64 + c R else if F + 3 = R then c F * 262144 + c (F + 1) * 4096 + c (F + 2) * 64 + c R else c F * 16777216 + c (F + 1) * 262144 + c (F + 2) * 4096 + c (F + 3) * 64 + c R
theorem mn_e {g b t w : Nat → Int32} {j L R : Nat} {c : Nat → Nat} (hj : j < 16) (hb : ∀ k, 1 ≤ k → k ≤ 5 → b (6 * j + k) = nI (c k)) (hL : L ≤ R) (hR : R ≤ 5) : f_M_number g b t w (nI j) (nI (if L = 0 then 1 else L)) (nI R) = nI (mg c (if L = 0 then 1 else L) R) := by
  rcases LR_21 hL hR with ⟨rfl, rfl⟩ | ⟨rfl, rfl⟩ | ⟨rfl, rfl⟩ | ⟨rfl, rfl⟩ | ⟨rfl, rfl⟩ | ⟨rfl, rfl⟩ | ⟨rfl, rfl⟩ | ⟨rfl, rfl⟩ | ⟨rfl, rfl⟩ | ⟨rfl, rfl⟩ | ⟨rfl, rfl⟩ | ⟨rfl, rfl⟩ | ⟨rfl, rfl⟩ | ⟨rfl, rfl⟩ | ⟨rfl, rfl⟩ | ⟨rfl, rfl⟩ | ⟨rfl, rfl⟩ | ⟨rfl, rfl⟩ | ⟨rfl, rfl⟩ | ⟨rfl, rfl⟩ | ⟨rfl, rfl⟩
  · exact (mn_1_0 hj hb).trans (by simp [mg])
  · exact (mn_1_1 hj hb).trans (by simp [mg])
  · exact (mn_1_2 hj hb).trans (by simp [mg])
  · exact (mn_1_3 hj hb).trans (by simp [mg])
  · exact (mn_1_4 hj hb).trans (by simp [mg])
  · exact (mn_1_5 hj hb).trans (by simp [mg])
  · exact (mn_1_1 hj hb).trans (by simp [mg])
  · exact (mn_1_2 hj hb).trans (by simp [mg])
  · exact (mn_1_3 hj hb).trans (by simp [mg])
  · exact (mn_1_4 hj hb).trans (by simp [mg])
  · exact (mn_1_5 hj hb).trans (by simp [mg])
  · exact (mn_2_2 hj hb).trans (by simp [mg])
  · exact (mn_2_3 hj hb).trans (by simp [mg])
  · exact (mn_2_4 hj hb).trans (by simp [mg])
  · exact (mn_2_5 hj hb).trans (by simp [mg])
  · exact (mn_3_3 hj hb).trans (by simp [mg])
  · exact (mn_3_4 hj hb).trans (by simp [mg])
  · exact (mn_3_5 hj hb).trans (by simp [mg])
  · exact (mn_4_4 hj hb).trans (by simp [mg])
  · exact (mn_4_5 hj hb).trans (by simp [mg])
  · exact (mn_5_5 hj hb).trans (by simp [mg])

theorem mg_lt {c : Nat → Nat} {L R : Nat} (hc : okC c) (hL : L ≤ R) (hR : R ≤ 5) : mg c (if L = 0 then 1 else L) R < 1073741824 := by
  obtain ⟨h1, h2, h3, h4, h5⟩ := hc
  rcases LR_21 hL hR with ⟨rfl, rfl⟩ | ⟨rfl, rfl⟩ | ⟨rfl, rfl⟩ | ⟨rfl, rfl⟩ | ⟨rfl, rfl⟩ | ⟨rfl, rfl⟩ | ⟨rfl, rfl⟩ | ⟨rfl, rfl⟩ | ⟨rfl, rfl⟩ | ⟨rfl, rfl⟩ | ⟨rfl, rfl⟩ | ⟨rfl, rfl⟩ | ⟨rfl, rfl⟩ | ⟨rfl, rfl⟩ | ⟨rfl, rfl⟩ | ⟨rfl, rfl⟩ | ⟨rfl, rfl⟩ | ⟨rfl, rfl⟩ | ⟨rfl, rfl⟩ | ⟨rfl, rfl⟩ | ⟨rfl, rfl⟩ <;> simp [mg] <;> omega
set_option maxHeartbeats 2000000 in
/-- a word of a field's bytes has that magnitude -/
theorem mg_w {c : Nat → Nat} {s L R : Nat} (hL : L ≤ R) (hR : R ≤ 5) : wN s (cL c (if L = 0 then 1 else L) R) = mg c (if L = 0 then 1 else L) R + s * 1073741824 := by
  rcases LR_21 hL hR with ⟨rfl, rfl⟩ | ⟨rfl, rfl⟩ | ⟨rfl, rfl⟩ | ⟨rfl, rfl⟩ | ⟨rfl, rfl⟩ | ⟨rfl, rfl⟩ | ⟨rfl, rfl⟩ | ⟨rfl, rfl⟩ | ⟨rfl, rfl⟩ | ⟨rfl, rfl⟩ | ⟨rfl, rfl⟩ | ⟨rfl, rfl⟩ | ⟨rfl, rfl⟩ | ⟨rfl, rfl⟩ | ⟨rfl, rfl⟩ | ⟨rfl, rfl⟩ | ⟨rfl, rfl⟩ | ⟨rfl, rfl⟩ | ⟨rfl, rfl⟩ | ⟨rfl, rfl⟩ | ⟨rfl, rfl⟩ <;> simp [mg, wN, cL] <;> omega
/-- the class's number of a field -/
theorem cn_e {s L R : Nat} {c : Nat → Nat} (hs : s < 2) (hc : okC c) (hL : L ≤ R) (hR : R ≤ 5) : f_F_number (f_F_fieldOf (nI (wN s c)) (nI (8 * L + R))) = if (if L = 0 then s else 0) = 0 then nI (mg c (if L = 0 then 1 else L) R) else -nI (mg c (if L = 0 then 1 else L) R) := by
  rw [ld_w hs hc hL hR, mg_w hL hR, num_e (mg_lt hc hL hR) (by split <;> omega)]
end
section
/-! the two sides answer alike, and stay tied -/
theorem reg_of {a : Int32} (h : ¬ f_M_isRegister a = 0) : ∃ j : Nat, j < 16 ∧ a = nI j := vp_in_of (in_M h) (by decide)
theorem reg_eq (a : Int32) : f_F_isRegister a = f_M_isRegister a := rfl
theorem fld_eq (a : Int32) : f_F_isField a = f_M_is a := by
  unfold f_F_isField f_M_is
  by_cases h0 : a < 0
  · rw [if_pos h0, if_pos h0]
  · rw [if_neg h0, if_neg h0]
    obtain ⟨n, hn, rfl⟩ := nI_of h0
    have e1 : f_F_firstByte (nI n) = nI (n / 8) := pk_shrN hn _ 3 (by decide)
    have e2 : f_F_lastByte (nI n) = nI (n % 8) := pk_andN (by omega) 3 (by decide)
    rw [rem_8 hn, div_8 hn, e1, e2, show (48 : Int32) = nI 48 from rfl, show (6 : Int32) = nI 6 from rfl, show (5 : Int32) = nI 5 from rfl]
    simp only [nI_ltI (show n % 8 < 2 ^ 31 by omega) (show n / 8 < 2 ^ 31 by omega), nI_ltI (show 5 < 2 ^ 31 by decide) (show n % 8 < 2 ^ 31 by omega), nI_leI (show 48 < 2 ^ 31 by decide) hn, nI_leI (show 6 < 2 ^ 31 by decide) (show n % 8 < 2 ^ 31 by omega)]
    repeat' split
    all_goals first | rfl | omega
theorem P_isField (a : Int32) : f_F_isField a = f_M_isField a := fld_eq a
theorem sel_0 {α : Type} {a b c : Int32} {X Y : α} (h : f_M_may a b c = 0) : (if (f_F_isRegister a) = 0 then X else (if (f_F_isRegister b) = 0 then X else (if (f_F_isField c) = 0 then X else Y))) = X := by
  by_cases h1 : f_F_isRegister a = 0
  · rw [if_pos h1]
  · rw [if_neg h1]
    by_cases h2 : f_F_isRegister b = 0
    · rw [if_pos h2]
    · rw [if_neg h2]
      by_cases h3 : f_F_isField c = 0
      · rw [if_pos h3]
      · exfalso
        unfold f_M_may at h
        rw [if_neg (show ¬ f_M_isRegister a = 0 from h1), if_neg (show ¬ f_M_isRegister b = 0 from h2), if_neg (show ¬ f_M_is c = 0 by rw [← fld_eq]; exact h3)] at h
        exact absurd h (by decide)
theorem sel_1 {α : Type} {a b c : Int32} {X Y : α} (h : ¬ f_M_may a b c = 0) : (if (f_F_isRegister a) = 0 then X else (if (f_F_isRegister b) = 0 then X else (if (f_F_isField c) = 0 then X else Y))) = Y := by
  rw [if_neg (show ¬ f_F_isRegister a = 0 from may_1 h), if_neg (show ¬ f_F_isRegister b = 0 from may_2 h), if_neg (show ¬ f_F_isField c = 0 by rw [fld_eq]; exact may_3 h)]
theorem w_mg (s : Nat) (c : Nat → Nat) : wN s c = mg c 1 5 + s * 1073741824 := by
  simp [wN, mg]
  omega
theorem mg15 {c : Nat → Nat} (hc : okC c) : mg c 1 5 < 1073741824 := mg_lt (L := 0) (R := 5) hc (by decide) (by decide)
theorem P_value {f g b t w : Nat → Int32} (h : Rel f g b) (a : Int32) : f_F_value f a = f_M_value g b t w a := by
  unfold f_F_value f_M_value
  rw [reg_eq]
  by_cases hr : f_M_isRegister a = 0
  · rw [if_pos hr, if_pos hr]
  · rw [if_neg hr, if_neg hr]
    obtain ⟨j, hj, rfl⟩ := reg_of hr
    obtain ⟨s, c, hs, hc, eg, eb, ef⟩ := h j hj
    have em : f_M_number g b t w (nI j) (1 : Int32) (5 : Int32) = nI (mg c 1 5) := mn_e (L := 0) (R := 5) hj eb (by decide) (by decide)
    have hm := mg15 hc
    rw [nI_clamp (show j < 2 ^ 31 by omega), em, eg, ef, w_mg, num_e hm hs]
    generalize mg c 1 5 = M at hm ⊢
    rcases (show s = 0 ∨ s = 1 by omega) with rfl | rfl
    · rw [if_neg (show ¬ nI (M + 0 * 1073741824) = (1073741824 : Int32) by rw [show (1073741824 : Int32) = nI 1073741824 from rfl, nI_eq (by omega) (by decide)]; omega), if_pos (show (0 : Nat) = 0 from rfl), if_pos nI_0]
    · rw [if_neg (show ¬ (1 : Nat) = 0 by decide), if_neg (show ¬ nI 1 = 0 by decide)]
      by_cases h0 : M = 0
      · subst h0
        rw [if_pos (show nI (0 + 1 * 1073741824) = (1073741824 : Int32) from rfl), if_pos nI_0]
      · rw [if_neg (show ¬ nI (M + 1 * 1073741824) = (1073741824 : Int32) by rw [show (1073741824 : Int32) = nI 1073741824 from rfl, nI_eq (by omega) (by decide)]; omega), if_neg (show ¬ nI M = 0 by rw [← nI_0, nI_eq (by omega) (by decide)]; exact h0)]
theorem P_byteOf {f g b t w : Nat → Int32} (h : Rel f g b) (a k : Int32) : f_F_byteOf f a k = f_M_byteOf g b t w a k := by
  unfold f_F_byteOf f_M_byteOf
  rw [reg_eq]
  by_cases hr : f_M_isRegister a = 0
  · rw [if_pos hr, if_pos hr]
  rw [if_neg hr, if_neg hr]
  by_cases h0 : k < 0
  · rw [if_pos h0, if_pos h0]
  rw [if_neg h0, if_neg h0]
  by_cases h5 : k ≤ (5 : Int32)
  · rw [if_pos h5, if_pos h5]
    obtain ⟨j, hj, rfl⟩ := reg_of hr
    obtain ⟨n, hn, rfl⟩ := vp_in_of (in_6 h0 h5) (by decide)
    obtain ⟨s, c, hs, hc, eg, eb, ef⟩ := h j hj
    rw [nI_clamp (show j < 2 ^ 31 by omega), eg, ef]
    by_cases hn0 : n = 0
    · subst hn0
      rw [if_pos nI_0, if_pos (show nI 0 ≤ 0 by decide)]
      have hq := minus_e (mg15 hc) hs
      rw [← w_mg] at hq
      rcases (show s = 0 ∨ s = 1 by omega) with rfl | rfl
      · rw [if_pos (hq.mpr rfl), if_pos nI_0]
      · rw [if_neg (fun z => absurd (hq.mp z) (by decide)), if_neg (show ¬ nI 1 = 0 by decide)]
    · have hW := wN_lt hs hc
      rw [if_neg (show ¬ nI n = 0 by rw [← nI_0, nI_eq (by omega) (by decide)]; exact hn0), if_neg (show ¬ nI n ≤ 0 by rw [← nI_0, nI_leI (by omega) (by decide)]; omega), ix_e hj hn, eb n (by omega) (by omega)]
      obtain ⟨h1, h2, h3, h4, h5⟩ := hc
      rcases k_15 (show 1 ≤ n by omega) (show n ≤ 5 by omega) with rfl | rfl | rfl | rfl | rfl
      · rw [pk_shrN hW _ 24 (by decide), pk_andN (by omega) 6 (by decide)]
        congr 1
        simp [wN]
        omega
      · rw [pk_shrN hW _ 18 (by decide), pk_andN (by omega) 6 (by decide)]
        congr 1
        simp [wN]
        omega
      · rw [pk_shrN hW _ 12 (by decide), pk_andN (by omega) 6 (by decide)]
        congr 1
        simp [wN]
        omega
      · rw [pk_shrN hW _ 6 (by decide), pk_andN (by omega) 6 (by decide)]
        congr 1
        simp [wN]
        omega
      · rw [pk_shrN hW _ 0 (by decide), pk_andN (by omega) 6 (by decide)]
        congr 1
        simp [wN]
        omega
  · rw [if_neg h5, if_neg h5]
theorem xor30 {x : Nat} (h : x < 1073741824) : x ^^^ 1073741824 = x + 1073741824 := by
  have h1 : x ^^^ 2 ^ 30 = x ||| 2 ^ 30 := by
    apply Nat.eq_of_testBit_eq
    intro i
    rw [Nat.testBit_xor, Nat.testBit_or, Nat.testBit_two_pow]
    by_cases hi : 30 = i
    · subst hi
      rw [Nat.testBit_lt_two_pow (show x < 2 ^ 30 from h)]
      rfl
    · simp [hi]
  have h2 := or30N h 1
  rw [Nat.one_mul] at h2
  exact h1.trans h2
theorem turn_e {M s : Nat} (hM : M < 1073741824) (hs : s < 2) : nI (M + s * 1073741824) ^^^ (1073741824 : Int32) = nI (M + (1 - s) * 1073741824) := by
  rw [show (1073741824 : Int32) = nI 1073741824 from rfl, nx_xor]
  rcases (show s = 0 ∨ s = 1 by omega) with rfl | rfl
  · rw [show M + 0 * 1073741824 = M by omega, xor30 hM]
  · rw [show M + 1 * 1073741824 = M + 1073741824 by omega, ← xor30 hM, Nat.xor_assoc, Nat.xor_self, Nat.xor_zero]
    congr 1
theorem P_turn {f g b t w : Nat → Int32} (h : Rel f g b) (a : Int32) : f_F_turn f a = f_M_turn g b t w a ∧ Rel (u_F_turn_f f a) (u_M_turn_g g b t w a) b := by
  unfold f_F_turn f_M_turn u_F_turn_f u_M_turn_g
  rw [reg_eq]
  by_cases hr : f_M_isRegister a = 0
  · rw [if_pos hr, if_pos hr, if_pos hr]
    exact ⟨rfl, h⟩
  · rw [if_neg hr, if_neg hr, if_neg hr]
    refine ⟨rfl, ?_⟩
    obtain ⟨j, hj, rfl⟩ := reg_of hr
    obtain ⟨s, c, hs, hc, eg, eb, ef⟩ := h j hj
    have e1 : f j ^^^ (1073741824 : Int32) = nI (wN (1 - s) c) := by rw [ef, w_mg, w_mg, turn_e (mg15 hc) hs]
    have e2 : vp_nar .boolean (if (g j) = 0 then (1 : Int32) else (0 : Int32)) = nI (1 - s) := by
      rw [eg]
      rcases (show s = 0 ∨ s = 1 by omega) with rfl | rfl <;> decide
    rw [nI_clamp (show j < 2 ^ 31 by omega), e1, e2]
    exact Rel_put h (by omega) hc eb (fun _ _ _ _ _ => rfl)
end
section
/-! set -/
theorem abs_e {a : Int32} (h1 : -1073741824 < a.toInt) (h2 : a.toInt < 1073741824) : ∃ n : Nat, n < 1073741824 ∧ (if 0 ≤ a then a else (-a)) = nI n := by
  have e0 : (0 : Int32).toInt = 0 := by decide
  by_cases h : 0 ≤ a
  · rw [if_pos h]
    rw [Int32.le_iff_toInt_le] at h
    obtain ⟨n, hn, rfl⟩ := nI_of (x := a) (by rw [Int32.lt_iff_toInt_lt]; omega)
    rw [nI_toInt hn] at h2
    exact ⟨n, by omega, rfl⟩
  · rw [if_neg h]
    rw [Int32.le_iff_toInt_le] at h
    have e1 : (-a).toInt = -a.toInt := by
      rw [Int32.toInt_neg]
      exact Int.bmod_eq_of_le (by omega) (by omega)
    obtain ⟨n, hn, e⟩ := nI_of (x := -a) (by rw [Int32.lt_iff_toInt_lt]; omega)
    rw [e, nI_toInt hn] at e1
    exact ⟨n, by omega, e⟩
def cD (n : Nat) : Nat → Nat := fun k => if k = 5 then n % 64 else if k = 4 then n / 64 % 64 else if k = 3 then n / 64 / 64 % 64 else if k = 2 then n / 64 / 64 / 64 % 64 else n / 64 / 64 / 64 / 64 % 64
theorem cD_ok (n : Nat) : okC (cD n) := by
  refine ⟨?_, ?_, ?_, ?_, ?_⟩ <;> simp [cD] <;> omega
theorem cD_w {n s : Nat} (h : n < 1073741824) : wN s (cD n) = n + s * 1073741824 := by
  simp [wN, cD]
  omega
theorem dv_64 {n : Nat} (h : n < 2 ^ 31) : nI n / (64 : Int32) = nI (n / 64) := pk_div (d := 64) h (by decide) (by decide)
theorem rm_64 {n : Nat} (h : n < 2 ^ 31) : nI n - nI n / (64 : Int32) * (64 : Int32) = nI (n % 64) := pk_rem (d := 64) h (by decide) (by decide)
theorem sg_e (a2 a3 : Int32) : ∃ s : Nat, s < 2 ∧ (if a2 < 0 then (1 : Int32) else (if a2 = 0 then (if a3 = 0 then (0 : Int32) else (1 : Int32)) else (0 : Int32))) = nI s := by
  repeat' split
  · exact ⟨1, by decide, rfl⟩
  · exact ⟨0, by decide, rfl⟩
  · exact ⟨1, by decide, rfl⟩
  · exact ⟨0, by decide, rfl⟩
theorem P_set {f g b t w : Nat → Int32} (h : Rel f g b) (a1 a2 a3 : Int32) : f_F_set f a1 a2 a3 = f_M_set g b t w a1 a2 a3 ∧ Rel (u_F_set_f f a1 a2 a3) (u_M_set_g g b t w a1 a2 a3) (u_M_set_b g b t w a1 a2 a3) := by
  unfold f_F_set f_M_set u_F_set_f u_M_set_g u_M_set_b
  rw [reg_eq]
  have c1 : (1073741823 : Int32).toInt = 1073741823 := by decide
  have c2 : (-1073741823 : Int32).toInt = -1073741823 := by decide
  have c3 : (1073741824 : Int32).toInt = 1073741824 := by decide
  have c4 : (-1073741824 : Int32).toInt = -1073741824 := by decide
  by_cases hr : f_M_isRegister a1 = 0
  · rw [if_pos hr, if_pos hr, if_pos hr, if_pos hr, if_pos hr]
    exact ⟨rfl, h⟩
  rw [if_neg hr, if_neg hr, if_neg hr, if_neg hr, if_neg hr]
  by_cases h1 : -1073741824 < a2.toInt
  · by_cases h2 : a2.toInt < 1073741824
    · have q1 : ¬ (1073741823 : Int32) < a2 := by rw [Int32.lt_iff_toInt_lt]; omega
      have q2 : (-1073741823 : Int32) ≤ a2 := by rw [Int32.le_iff_toInt_le]; omega
      have q3 : ¬ a2 ≤ (-1073741824 : Int32) := by rw [Int32.le_iff_toInt_le]; omega
      have q4 : a2 < (1073741824 : Int32) := by rw [Int32.lt_iff_toInt_lt]; omega
      simp only [if_neg q1, if_pos q2, if_neg q3, if_pos q4]
      refine ⟨by trivial, ?_⟩
      obtain ⟨j, hj, rfl⟩ := reg_of hr
      obtain ⟨n, hn, en⟩ := abs_e h1 h2
      obtain ⟨s, hs, es⟩ := sg_e a2 a3
      have i1 : (((6 : Int32) * nI j) + (1 : Int32)).toNatClampNeg = 6 * j + 1 := ix_e (k := 1) hj (by decide)
      have i2 : (((6 : Int32) * nI j) + (2 : Int32)).toNatClampNeg = 6 * j + 2 := ix_e (k := 2) hj (by decide)
      have i3 : (((6 : Int32) * nI j) + (3 : Int32)).toNatClampNeg = 6 * j + 3 := ix_e (k := 3) hj (by decide)
      have i4 : (((6 : Int32) * nI j) + (4 : Int32)).toNatClampNeg = 6 * j + 4 := ix_e (k := 4) hj (by decide)
      have i5 : (((6 : Int32) * nI j) + (5 : Int32)).toNatClampNeg = 6 * j + 5 := ix_e (k := 5) hj (by decide)
      rw [nI_clamp (show j < 2 ^ 31 by omega), i1, i2, i3, i4, i5, en, es]
      have e1 : nI n ||| (if nI s = 0 then (0 : Int32) else (1073741824 : Int32)) = nI (wN s (cD n)) := by
        rw [cD_w hn, ← or30 hn]
        rcases (show s = 0 ∨ s = 1 by omega) with rfl | rfl <;> rfl
      have e2 : vp_nar .boolean (nI s) = nI s := by
        rcases (show s = 0 ∨ s = 1 by omega) with rfl | rfl <;> decide
      rw [e1, e2]
      have e3 : upd (upd (upd (upd (upd b (6 * j + 5) (nI n - nI n / (64 : Int32) * (64 : Int32))) (6 * j + 4) ((nI n / (64 : Int32)) - (nI n / (64 : Int32)) / (64 : Int32) * (64 : Int32))) (6 * j + 3) (((nI n / (64 : Int32)) / (64 : Int32)) - ((nI n / (64 : Int32)) / (64 : Int32)) / (64 : Int32) * (64 : Int32))) (6 * j + 2) ((((nI n / (64 : Int32)) / (64 : Int32)) / (64 : Int32)) - (((nI n / (64 : Int32)) / (64 : Int32)) / (64 : Int32)) / (64 : Int32) * (64 : Int32))) (6 * j + 1) (((((nI n / (64 : Int32)) / (64 : Int32)) / (64 : Int32)) / (64 : Int32)) - ((((nI n / (64 : Int32)) / (64 : Int32)) / (64 : Int32)) / (64 : Int32)) / (64 : Int32) * (64 : Int32)) = nest5r b j (fun k => nI (cD n k)) := by
        rw [rm_64 (n := n) (by omega), dv_64 (n := n) (by omega), rm_64 (n := n / 64) (by omega), dv_64 (n := n / 64) (by omega), rm_64 (n := n / 64 / 64) (by omega), dv_64 (n := n / 64 / 64) (by omega), rm_64 (n := n / 64 / 64 / 64) (by omega), dv_64 (n := n / 64 / 64 / 64) (by omega), rm_64 (n := n / 64 / 64 / 64 / 64) (by omega)]
        rfl
      rw [e3]
      exact Rel_put h hs (cD_ok n) nest5r_at nest5r_off
    · have q1 : (1073741823 : Int32) < a2 := by rw [Int32.lt_iff_toInt_lt]; omega
      have q3 : ¬ a2 ≤ (-1073741824 : Int32) := by rw [Int32.le_iff_toInt_le]; omega
      have q4 : ¬ a2 < (1073741824 : Int32) := by rw [Int32.lt_iff_toInt_lt]; omega
      simp only [if_pos q1, if_neg q3, if_neg q4]
      exact ⟨by trivial, h⟩
  · have q1 : ¬ (1073741823 : Int32) < a2 := by rw [Int32.lt_iff_toInt_lt]; omega
    have q2 : ¬ (-1073741823 : Int32) ≤ a2 := by rw [Int32.le_iff_toInt_le]; omega
    have q3 : a2 ≤ (-1073741824 : Int32) := by rw [Int32.le_iff_toInt_le]; omega
    simp only [if_neg q1, if_neg q2, if_pos q3]
    exact ⟨by trivial, h⟩
/-! load, store, compare -/
theorem fl_8 {L R : Nat} (hL : L ≤ R) (hR : R ≤ 5) : ((8 : Int32) ≤ nI (8 * L + R)) ↔ ¬ L = 0 := by
  rw [show (8 : Int32) = nI 8 from rfl, nI_leI (by decide) (by omega)]
  omega
theorem P_load {f g b t w : Nat → Int32} (h : Rel f g b) (a1 a2 a3 : Int32) : f_F_load f a1 a2 a3 = f_M_load g b t w a1 a2 a3 ∧ Rel (u_F_load_f f a1 a2 a3) (u_M_load_g g b t w a1 a2 a3) (u_M_load_b g b t w a1 a2 a3) := by
  unfold f_F_load f_M_load u_F_load_f u_M_load_g u_M_load_b
  by_cases hm : f_M_may a1 a2 a3 = 0
  · rw [sel_0 hm, sel_0 hm, if_pos hm, if_pos hm, if_pos hm]
    exact ⟨rfl, h⟩
  rw [sel_1 hm, sel_1 hm, if_neg hm, if_neg hm, if_neg hm]
  refine ⟨rfl, ?_⟩
  obtain ⟨j, hj, rfl⟩ := reg_of (may_1 hm)
  obtain ⟨i, hi, rfl⟩ := reg_of (may_2 hm)
  obtain ⟨L, R, hL, hR, rfl⟩ := is_of (may_3 hm)
  obtain ⟨s, c, hs, hc, eg, eb, ef⟩ := h i hi
  rw [r_e hR (by omega), f_e hR (by omega), nI_clamp (show j < 2 ^ 31 by omega), nI_clamp (show i < 2 ^ 31 by omega), ef, ld_w hs hc hL hR, eg]
  have hF : 0 < (if L = 0 then 1 else L) := by split <;> omega
  have hF6 : (if L = 0 then 1 else L) < 6 := by split <;> omega
  have e2 : vp_nar .boolean (if (8 : Int32) ≤ nI (8 * L + R) then (0 : Int32) else (if nI s = 0 then (0 : Int32) else (1 : Int32))) = nI (if L = 0 then s else 0) := by
    by_cases h0 : L = 0
    · rw [if_neg (fun q => (fl_8 hL hR).mp q h0), if_pos h0]
      rcases (show s = 0 ∨ s = 1 by omega) with rfl | rfl <;> decide
    · rw [if_pos ((fl_8 hL hR).mpr h0), if_neg h0]
      decide
  have hv : ∀ k, 1 ≤ k → k ≤ 5 → (if ((nI k - (5 : Int32)) + nI R) < nI (if L = 0 then 1 else L) then (0 : Int32) else (b (((6 : Int32) * nI i) + ((nI k - (5 : Int32)) + nI R)).toNatClampNeg)) = nI (cL c (if L = 0 then 1 else L) R k) := by
    intro k k1 k5
    obtain ⟨t1, t2⟩ := tb_L k (by omega) R (by omega) _ hF6 hF
    unfold cL
    by_cases hq : k + R < 5 + (if L = 0 then 1 else L)
    · rw [if_pos (t1.mpr hq), if_pos hq]
      rfl
    · rw [if_neg (fun z => hq (t1.mp z)), if_neg hq, t2 (by omega), ix_e hi (by omega), eb _ (by omega) (by omega)]
  generalize hFe : (if L = 0 then 1 else L) = F at *
  have i1 : (((6 : Int32) * nI j) + (1 : Int32)).toNatClampNeg = 6 * j + 1 := ix_e (k := 1) hj (by decide)
  have i2 : (((6 : Int32) * nI j) + (2 : Int32)).toNatClampNeg = 6 * j + 2 := ix_e (k := 2) hj (by decide)
  have i3 : (((6 : Int32) * nI j) + (3 : Int32)).toNatClampNeg = 6 * j + 3 := ix_e (k := 3) hj (by decide)
  have i4 : (((6 : Int32) * nI j) + (4 : Int32)).toNatClampNeg = 6 * j + 4 := ix_e (k := 4) hj (by decide)
  have i5 : (((6 : Int32) * nI j) + (5 : Int32)).toNatClampNeg = 6 * j + 5 := ix_e (k := 5) hj (by decide)
  have v1 : (if (((1 : Int32) - (5 : Int32)) + nI R) < nI F then (0 : Int32) else (b (((6 : Int32) * nI i) + (((1 : Int32) - (5 : Int32)) + nI R)).toNatClampNeg)) = nI (cL c F R 1) := hv 1 (by decide) (by decide)
  have v2 : (if (((2 : Int32) - (5 : Int32)) + nI R) < nI F then (0 : Int32) else (b (((6 : Int32) * nI i) + (((2 : Int32) - (5 : Int32)) + nI R)).toNatClampNeg)) = nI (cL c F R 2) := hv 2 (by decide) (by decide)
  have v3 : (if (((3 : Int32) - (5 : Int32)) + nI R) < nI F then (0 : Int32) else (b (((6 : Int32) * nI i) + (((3 : Int32) - (5 : Int32)) + nI R)).toNatClampNeg)) = nI (cL c F R 3) := hv 3 (by decide) (by decide)
  have v4 : (if (((4 : Int32) - (5 : Int32)) + nI R) < nI F then (0 : Int32) else (b (((6 : Int32) * nI i) + (((4 : Int32) - (5 : Int32)) + nI R)).toNatClampNeg)) = nI (cL c F R 4) := hv 4 (by decide) (by decide)
  have v5 : (if (((5 : Int32) - (5 : Int32)) + nI R) < nI F then (0 : Int32) else (b (((6 : Int32) * nI i) + (((5 : Int32) - (5 : Int32)) + nI R)).toNatClampNeg)) = nI (cL c F R 5) := hv 5 (by decide) (by decide)
  rw [e2, i1, i2, i3, i4, i5, v1, v2, v3, v4, v5]
  exact Rel_put (b' := nest5 b j (fun k => nI (cL c F R k))) h (by split <;> omega) (cL_ok hc hF hR) nest5_at nest5_off
theorem P_store {f g b t w : Nat → Int32} (h : Rel f g b) (a1 a2 a3 : Int32) : f_F_store f a1 a2 a3 = f_M_store g b t w a1 a2 a3 ∧ Rel (u_F_store_f f a1 a2 a3) (u_M_store_g g b t w a1 a2 a3) (u_M_store_b g b t w a1 a2 a3) := by
  unfold f_F_store f_M_store u_F_store_f u_M_store_g u_M_store_b
  by_cases hm : f_M_may a1 a2 a3 = 0
  · rw [sel_0 hm, sel_0 hm, if_pos hm, if_pos hm, if_pos hm]
    exact ⟨rfl, h⟩
  rw [sel_1 hm, sel_1 hm, if_neg hm, if_neg hm, if_neg hm]
  refine ⟨rfl, ?_⟩
  obtain ⟨j, hj, rfl⟩ := reg_of (may_1 hm)
  obtain ⟨i, hi, rfl⟩ := reg_of (may_2 hm)
  obtain ⟨L, R, hL, hR, rfl⟩ := is_of (may_3 hm)
  obtain ⟨s2, c, hs2, hc, eg2, eb2, ef2⟩ := h i hi
  obtain ⟨s1, d, hs1, hd, eg1, eb1, ef1⟩ := h j hj
  rw [r_e hR (by omega), f_e hR (by omega), nI_clamp (show j < 2 ^ 31 by omega), nI_clamp (show i < 2 ^ 31 by omega), ef2, ef1, st_w hs1 hs2 hc hd hL hR, eg1, eg2]
  have hF : 0 < (if L = 0 then 1 else L) := by split <;> omega
  have hF6 : (if L = 0 then 1 else L) < 6 := by split <;> omega
  have e2 : vp_nar .boolean (if (8 : Int32) ≤ nI (8 * L + R) then nI s1 else nI s2) = nI (if L = 0 then s2 else s1) := by
    by_cases h0 : L = 0
    · rw [if_neg (fun q => (fl_8 hL hR).mp q h0), if_pos h0]
      rcases (show s2 = 0 ∨ s2 = 1 by omega) with rfl | rfl <;> decide
    · rw [if_pos ((fl_8 hL hR).mpr h0), if_neg h0]
      rcases (show s1 = 0 ∨ s1 = 1 by omega) with rfl | rfl <;> decide
  have hv : ∀ k, 1 ≤ k → k ≤ 5 → (if (if nI k < nI (if L = 0 then 1 else L) then (0 : Int32) else (if nI R < nI k then (0 : Int32) else (1 : Int32))) = 0 then (b (((6 : Int32) * nI j) + nI k).toNatClampNeg) else (b (((((6 : Int32) * nI i) + nI k) + (5 : Int32)) - nI R).toNatClampNeg)) = nI (cS c d (if L = 0 then 1 else L) R k) := by
    intro k k1 k5
    unfold cS
    by_cases hq : k < (if L = 0 then 1 else L)
    · rw [if_pos ((nI_ltI (by omega) (by omega)).mpr hq), if_pos hq, if_pos rfl, ix_e hj (by omega), eb1 k k1 k5]
    · rw [if_neg (fun z => hq ((nI_ltI (by omega) (by omega)).mp z)), if_neg hq]
      by_cases hp : R < k
      · rw [if_pos ((nI_ltI (by omega) (by omega)).mpr hp), if_pos hp, if_pos rfl, ix_e hj (by omega), eb1 k k1 k5]
      · rw [if_neg (fun z => hp ((nI_ltI (by omega) (by omega)).mp z)), if_neg hp, if_neg (by decide)]
        have e : (6 : Int32) * nI i + nI k + (5 : Int32) - nI R = nI (6 * i + (k + 5 - R)) := by
          rw [show (6 : Int32) = nI 6 from rfl, show (5 : Int32) = nI 5 from rfl, pk_mul, nI_add, nI_add, pk_sub (by omega)]
          congr 1
          omega
        rw [e, nI_clamp (by omega), eb2 _ (by omega) (by omega)]
  generalize hFe : (if L = 0 then 1 else L) = F at *
  have i1 : (((6 : Int32) * nI j) + (1 : Int32)).toNatClampNeg = 6 * j + 1 := ix_e (k := 1) hj (by decide)
  have i2 : (((6 : Int32) * nI j) + (2 : Int32)).toNatClampNeg = 6 * j + 2 := ix_e (k := 2) hj (by decide)
  have i3 : (((6 : Int32) * nI j) + (3 : Int32)).toNatClampNeg = 6 * j + 3 := ix_e (k := 3) hj (by decide)
  have i4 : (((6 : Int32) * nI j) + (4 : Int32)).toNatClampNeg = 6 * j + 4 := ix_e (k := 4) hj (by decide)
  have i5 : (((6 : Int32) * nI j) + (5 : Int32)).toNatClampNeg = 6 * j + 5 := ix_e (k := 5) hj (by decide)
  have v1 : (if (if (1 : Int32) < nI F then (0 : Int32) else (if nI R < (1 : Int32) then (0 : Int32) else (1 : Int32))) = 0 then (b (((6 : Int32) * nI j) + (1 : Int32)).toNatClampNeg) else (b (((((6 : Int32) * nI i) + (1 : Int32)) + (5 : Int32)) - nI R).toNatClampNeg)) = nI (cS c d F R 1) := hv 1 (by decide) (by decide)
  have v2 : (if (if (2 : Int32) < nI F then (0 : Int32) else (if nI R < (2 : Int32) then (0 : Int32) else (1 : Int32))) = 0 then (b (((6 : Int32) * nI j) + (2 : Int32)).toNatClampNeg) else (b (((((6 : Int32) * nI i) + (2 : Int32)) + (5 : Int32)) - nI R).toNatClampNeg)) = nI (cS c d F R 2) := hv 2 (by decide) (by decide)
  have v3 : (if (if (3 : Int32) < nI F then (0 : Int32) else (if nI R < (3 : Int32) then (0 : Int32) else (1 : Int32))) = 0 then (b (((6 : Int32) * nI j) + (3 : Int32)).toNatClampNeg) else (b (((((6 : Int32) * nI i) + (3 : Int32)) + (5 : Int32)) - nI R).toNatClampNeg)) = nI (cS c d F R 3) := hv 3 (by decide) (by decide)
  have v4 : (if (if (4 : Int32) < nI F then (0 : Int32) else (if nI R < (4 : Int32) then (0 : Int32) else (1 : Int32))) = 0 then (b (((6 : Int32) * nI j) + (4 : Int32)).toNatClampNeg) else (b (((((6 : Int32) * nI i) + (4 : Int32)) + (5 : Int32)) - nI R).toNatClampNeg)) = nI (cS c d F R 4) := hv 4 (by decide) (by decide)
  have v5 : (if (if (5 : Int32) < nI F then (0 : Int32) else (if nI R < (5 : Int32) then (0 : Int32) else (1 : Int32))) = 0 then (b (((6 : Int32) * nI j) + (5 : Int32)).toNatClampNeg) else (b (((((6 : Int32) * nI i) + (5 : Int32)) + (5 : Int32)) - nI R).toNatClampNeg)) = nI (cS c d F R 5) := hv 5 (by decide) (by decide)
  rw [e2, v1, v2, v3, v4, v5, i1, i2, i3, i4, i5]
  exact Rel_put (b' := nest5 b j (fun k => nI (cS c d F R k))) h (by split <;> omega) (cS_ok hc hd hF hR) nest5_at nest5_off
theorem mk_e {g b t w : Nat → Int32} {j L R s : Nat} {c : Nat → Nat} (hj : j < 16) (hs : s < 2) (eg : g j = nI s) (hb : ∀ k, 1 ≤ k → k ≤ 5 → b (6 * j + k) = nI (c k)) (hL : L ≤ R) (hR : R ≤ 5) :
    (if (8 : Int32) ≤ nI (8 * L + R) then (f_M_number g b t w (nI j) (f_M_first (nI (8 * L + R))) (nI (8 * L + R) - nI (8 * L + R) / (8 : Int32) * (8 : Int32))) else (if (g (nI j).toNatClampNeg) = 0 then (f_M_number g b t w (nI j) (f_M_first (nI (8 * L + R))) (nI (8 * L + R) - nI (8 * L + R) / (8 : Int32) * (8 : Int32))) else (-(f_M_number g b t w (nI j) (f_M_first (nI (8 * L + R))) (nI (8 * L + R) - nI (8 * L + R) / (8 : Int32) * (8 : Int32))))))
      = if (if L = 0 then s else 0) = 0 then nI (mg c (if L = 0 then 1 else L) R) else -nI (mg c (if L = 0 then 1 else L) R) := by
  rw [r_e hR (by omega), f_e hR (by omega), mn_e hj hb hL hR, nI_clamp (show j < 2 ^ 31 by omega), eg]
  by_cases h0 : L = 0
  · subst h0
    rw [if_neg (fun q => (fl_8 hL hR).mp q rfl)]
    rcases (show s = 0 ∨ s = 1 by omega) with rfl | rfl
    · rw [if_pos nI_0, if_pos (show (if (0 : Nat) = 0 then (0 : Nat) else 0) = 0 from rfl)]
    · rw [if_neg (show ¬ nI 1 = 0 by decide), if_neg (show ¬ (if (0 : Nat) = 0 then (1 : Nat) else 0) = 0 by decide)]
  · rw [if_pos ((fl_8 hL hR).mpr h0), if_pos (show (if L = 0 then s else 0) = 0 by rw [if_neg h0])]
theorem P_compare {f g b t w : Nat → Int32} (h : Rel f g b) (a1 a2 a3 : Int32) : f_F_compare f a1 a2 a3 = f_M_compare g b t w a1 a2 a3 := by
  unfold f_F_compare f_M_compare
  by_cases hm : f_M_may a1 a2 a3 = 0
  · rw [sel_0 hm, if_pos hm]
  rw [sel_1 hm, if_neg hm]
  obtain ⟨j, hj, rfl⟩ := reg_of (may_1 hm)
  obtain ⟨i, hi, rfl⟩ := reg_of (may_2 hm)
  obtain ⟨L, R, hL, hR, rfl⟩ := is_of (may_3 hm)
  obtain ⟨s2, c, hs2, hc, eg2, eb2, ef2⟩ := h i hi
  obtain ⟨s1, d, hs1, hd, eg1, eb1, ef1⟩ := h j hj
  rw [mk_e hj hs1 eg1 eb1 hL hR, mk_e hi hs2 eg2 eb2 hL hR, nI_clamp (show j < 2 ^ 31 by omega), nI_clamp (show i < 2 ^ 31 by omega), ef2, ef1, cn_e hs1 hd hL hR, cn_e hs2 hc hL hR]
end
section
/-! letters -/
theorem lt_sb : ∀ k, k < 56 → ltS 56 k = sby k := by decide +kernel
theorem ch_sb : ∀ k, k < 56 → (((sby k) &&& (255 : Int32)).toUInt32 % 65536).toInt32 = sby k := by decide +kernel
theorem cdS_c {t u : Nat → Int32} {c : Int32} : ∀ n, (∀ k, k < n → t k = u k) → cdS t c n = cdS u c n := by
  intro n
  induction n with
  | zero => intro _; rfl
  | succ n ih =>
    intro h
    show (if t n = c then nI n else cdS t c n) = (if u n = c then nI n else cdS u c n)
    rw [h n (by omega), ih (fun k hk => h k (by omega))]
theorem cd_tab : ∀ n, n < 256 → f_F_code (nI n) = f_M_code (fun _ => 0) (fun _ => 0) sby (fun _ => 0) (nI n) := by decide +kernel
theorem in_64 {k : Int32} {n : Nat} {M : Int32} (hM : M.toInt = n) (h0 : ¬ k < 0) (h5 : k ≤ M) : ∃ j : Nat, j ≤ n ∧ k = nI j := nI_of2 hM h0 h5
theorem P_letter {g b t w : Nat → Int32} (hT : t = ltS 56) (a : Int32) : f_F_letter a = f_M_letter g b t w a := by
  unfold f_F_letter f_M_letter
  by_cases h0 : a < 0
  · rw [if_pos h0, if_pos h0]
  rw [if_neg h0, if_neg h0]
  by_cases h1 : a ≤ (63 : Int32)
  · rw [if_pos h1, if_pos h1]
    by_cases h2 : (56 : Int32) ≤ a
    · rw [if_pos h2, if_pos h2]
    · rw [if_neg h2, if_neg h2]
      obtain ⟨n, hn, rfl⟩ := vp_in_of (in_56 h0 h2) (by decide)
      unfold f_S_charAt f_Z_charAt
      rw [nI_clamp (by omega), ch_sb n hn, hT, lt_sb n hn]
  · rw [if_neg h1, if_neg h1]
theorem P_code {g b t w : Nat → Int32} (hT : t = ltS 56) (a : Int32) : f_F_code a = f_M_code g b t w a := by
  by_cases h0 : a < 0
  · unfold f_F_code f_M_code
    rw [if_pos h0, if_pos h0]
  by_cases h1 : a ≤ (255 : Int32)
  · obtain ⟨n, hn, rfl⟩ := in_64 (n := 255) (M := 255) (by decide) h0 h1
    rw [cd_tab n (by omega)]
    unfold f_M_code
    rw [if_neg h0, if_pos h1, if_neg h0, if_pos h1, hT]
    exact (cdS_c 56 lt_sb).symm
  · unfold f_F_code f_M_code
    rw [if_neg h0, if_neg h1, if_neg h0, if_neg h1]
end
section
/-! THE CLAIM OUT OF ONE WALK OF THE LAW'S BODY. Your part is whole_start (and what it stands on); all else here is the same for every law, but numbers. -/
def R_law : String := "WordFieldsLaw"
def lw_P (b : Addr) (xs : List Int32) (args : Array Value) (s : State) : Prop := args = #[.ref b] ∧ s.IntsAt b xs ∧ xs.length ≤ 2048 ∧ (Jvm.Cond.and given_1 narrow_1).before args s = true
def lw_Q (_ : Array Value) (s : State) (o : Outcome) (t : State) : Prop := o = .returned (some (.int 1)) ∧ Framed s o t [] 7 195
def lw_Z (below : List Frame) (a : Array Value) (s : State) : State → Prop := fun t => ∃ o, t.status = .running ∧ Ended t below o ∧ lw_Q a s o t
/-- the law's own end, with 1 on the stack, nothing written that was there before, its room as the claim has it -/
theorem lw_ret {p : Program} {l : Launch} {e : Env} {s : State} {m : MethodId} {below : List Frame} {meth : Method} {c : Code} {b : Nat} (hx : p.tables.exec = Jvm.exec) (hb : c.code = code) (hr : meth.sig.returnType = ret) (hlocks : meth.locks = false) {pc : Nat} {H : Heap} {ls : Array Slot} (hdg : decode code pc = .ok (.ireturn, 1)) : W p l e room_1 s m #[Value.ref b] below meth c H [] 7 195 (lw_Z below #[Value.ref b] s) (F0 m pc ls [.int 1]) := by
  intro T hT X
  obtain ⟨fs, hret, hrun, hended, hW, hframe⟩ := X.leave (v := some (.int 1)) (hlocks := hlocks) (fun h => by rw [hr] at h; cases h)
  have hmeth' : T.vm.method? m = some meth := X.method'
  refine ⟨T.setFrames fs, ?_, .returned (some (.int 1)), hrun, hended, rfl, ⟨_, rfl⟩, hW, hframe⟩
  jvm_step X.here [X.here.top, hx, hb, hdg, hmeth', hr, ret, narrow_b1]
  (try refine ⟨rfl, ?_⟩); (try refine ⟨rfl, ?_⟩)
  first | (intro acts; rw [hret _ acts rfl rfl rfl]) | rw [hret _ _ rfl rfl rfl]
  exact Steps.refl _
/-- what holds at the law's entry: the machine, the code, the tables' words (any of lw_tbl by 'hts w (by decide +kernel)'), the script of L ints xs at the cell b, what the Statement gives of the start (any of its parts by flat_of_before) -/
def lw_At (p : Program) (s : State) (m : MethodId) (meth : Method) (c : Code) (b L : Nat) (xs : Nat → Int32) : Prop :=
  p.tables.exec = Jvm.exec ∧ c.code = code ∧ meth.sig.returnType = ret ∧ c.maxLocals = 4 ∧ s.vm.findClass R_law = some m.cls ∧ (∀ w ∈ lw_tbl, w.before #[Value.ref b] s = true) ∧ va_X b L xs s s.heap ∧ b < s.heap.size ∧ meth.locks = false ∧ (Jvm.Cond.and given_1 narrow_1).before #[Value.ref b] s = true
theorem s_lt {L i : Nat} (hL : L ≤ 2048) (hi : i ≤ L) (h : ¬ (Int32.ofNat L - (4 : Int32)) < nI i) : i + 4 ≤ L := by
  rw [Int32.lt_iff_toInt_lt, nI_toInt (by omega), show Int32.ofNat L - (4 : Int32) = nI L - nI 4 from rfl, pk_sub_toInt (by omega) (by decide)] at h
  omega
theorem s_in0 {L i : Nat} (h : i + 4 ≤ L ∧ L ≤ 2048) : vp_in (nI i) L := vp_in_nI (by omega) (by omega)
theorem s_in {L i k : Nat} (h : i + 4 ≤ L ∧ L ≤ 2048) (hk : k < 4) : vp_in (nI i + nI k) L := by
  rw [nI_add]
  exact vp_in_nI (by omega) (by omega)

set_option maxHeartbeats 40000000 in
set_option maxRecDepth 100000 in
/-- THE LAW'S LOOP -/
theorem law_loop {p : Program} {l : Launch} {e : Env} {s : State} {m : MethodId} {below : List Frame} {meth : Method} {c : Code} {dC : Nat → ClassId} {dI : Nat → Nat → Nat} {b0 L : Nat} {xs : Nat → Int32} {hF qF hM q1 q2 q3 q4 : Nat} {kF k1 k2 k3 k4 : ClassId} {sK sV : Nat} (hL : L ≤ 2048) (C0 : lw_At p s m meth c b0 L xs) (hK : va_K (dC, dI) vwCl [(kF, .int), (k1, .boolean), (k2, .int), (k3, .int), (k4, .int)] s) (hE : sOK sK sV (fun q : Nat => s.heap.size ≤ q) s s.heap) :
    ∀ (n i : Nat), i ≤ L → L + 1 ≤ i + n → ∀ (f g b t w : Nat → Int32), Rel f g b → t = ltS 56 → ∀ (H : Heap) (locs : List Loc), va_P (dC, dI) vwCl (wsL hF qF kF hM q1 q2 q3 q4 k1 k2 k3 k4 f g b t w) H → va_D (fun q : Nat => s.heap.size ≤ q) (wsL hF qF kF hM q1 q2 q3 q4 k1 k2 k3 k4 f g b t w) → va_S (fun q : Nat => s.heap.size ≤ q) s.heap H locs → ∀ (ls : Array Slot), lv_has ls 4 [(3, .int (nI i)), (0, .ref b0), (1, .ref hF), (2, .ref hM)] → W p l e room_1 s m #[Value.ref b0] below meth c H locs 7 195 (lw_Z below #[Value.ref b0] s) (F0 m 18 ls []) := by
  obtain ⟨hx, hb, hr, hml, hown, hts, hX, hbl, hlocks, hgv⟩ := C0
  have hts := fun (w : Cond) (h : w ∈ gw) => hts w (gw_in h)
  have hA : ∀ q : Nat, s.heap.size ≤ q → (fun q : Nat => s.heap.size ≤ q) q := fun _ h => h
  have hbA : ¬ (fun q : Nat => s.heap.size ≤ q) b0 := Nat.not_le.mpr hbl
  intro n
  induction n with
  | zero =>
    intro i h1 h2
    exact absurd h2 (by omega)
  | succ n ih =>
    intro i hi hin f g b t w hR hT H locs hP hD hS ls hl
    refine lv_iload_n hx hb dL_law_18 rfl (lv_at hl 0 rfl) ?_
    refine lv_aload_n hx hb dL_law_19 rfl (lv_at hl 1 rfl) ?_
    refine va_slen hx hb hX hbl hbA hS dL_law_20 ?_
    refine lv_iconst (v := (4 : Int32)) hx hb dL_law_21 (by decide) ?_
    refine lv_isub hx hb dL_law_22 ?_
    refine lv_icmp_gt (tgt := 430) hx hb dL_law_23 (by decide) (fun c_0 => ?_) (fun c_0 => ?_)
    · refine lv_iconst (v := 1) hx hb dL_law_430 (by decide) ?_
      refine va_forget (fun q hq => hS.2.2 q hq) ?_
      exact lw_ret hx hb hr hlocks dL_law_431
    have hlt : i + 4 ≤ L ∧ L ≤ 2048 := ⟨s_lt hL hi c_0, hL⟩
    refine lv_aload_n hx hb dL_law_26 rfl (lv_at hl 1 rfl) ?_
    refine lv_iload_n hx hb dL_law_27 rfl (lv_at hl 0 rfl) ?_
    refine va_sld hx hb hX hbl hbA hS (s_in0 hlt) dL_law_28 ?_
    refine lv_bipush (v := (15 : Int32)) hx hb dL_law_29 (by decide) ?_
    refine lv_iand hx hb dL_law_31 ?_
    obtain ⟨k, hk, ek⟩ := pk_andE (xs (nI i).toNatClampNeg) (m := (15 : Int32)) 4 (by decide)
    refine kk_top ek ?_
    rcases (show k = 0 ∨ k = 1 ∨ k = 2 ∨ k = 3 ∨ k = 4 ∨ k = 5 ∨ k = 6 ∨ k = 7 ∨ k = 8 ∨ k = 9 ∨ 10 ≤ k by omega) with rfl | rfl | rfl | rfl | rfl | rfl | rfl | rfl | rfl | rfl | hk9
    · refine lv_tableIn (off := 56) (tgt := 88) hx hb dL_law_32 (by decide) (by decide) (by decide) (by decide) ?_
      refine lv_aload_n hx hb dL_law_88 rfl (lv_at hl 2 rfl) ?_
      refine lv_aload_n hx hb dL_law_89 rfl (lv_at hl 1 rfl) ?_
      refine lv_iload_n hx hb dL_law_90 rfl (lv_at hl 0 rfl) ?_
      refine lv_iconst (v := (1 : Int32)) hx hb dL_law_91 (by decide) ?_
      refine lv_iadd hx hb dL_law_92 ?_
      refine va_sld hx hb hX hbl hbA hS (s_in hlt (k := 1) (by decide)) dL_law_93 ?_
      refine lv_aload_n hx hb dL_law_94 rfl (lv_at hl 1 rfl) ?_
      refine lv_iload_n hx hb dL_law_95 rfl (lv_at hl 0 rfl) ?_
      refine lv_iconst (v := (2 : Int32)) hx hb dL_law_96 (by decide) ?_
      refine lv_iadd hx hb dL_law_97 ?_
      refine va_sld hx hb hX hbl hbA hS (s_in hlt (k := 2) (by decide)) dL_law_98 ?_
      refine lv_aload_n hx hb dL_law_99 rfl (lv_at hl 1 rfl) ?_
      refine lv_iload_n hx hb dL_law_100 rfl (lv_at hl 0 rfl) ?_
      refine lv_iconst (v := (3 : Int32)) hx hb dL_law_101 (by decide) ?_
      refine lv_iadd hx hb dL_law_102 ?_
      refine va_sld hx hb hX hbl hbA hS (s_in hlt (k := 3) (by decide)) dL_law_103 ?_
      refine kk_mrg (pc' := 112) (ls' := ls) (rest' := [.int (xs ((nI i) + (2 : Int32)).toNatClampNeg), .int (xs ((nI i) + (1 : Int32)).toNatClampNeg), .ref hF]) (x := (if (xs ((nI i) + (3 : Int32)).toNatClampNeg) = 0 then (0 : Int32) else (1 : Int32))) (fun hk_1 => ?_) (fun v_3 ev_3 => ?_)
      · refine lv_if_eq (tgt := 111) hx hb dL_law_104 (by decide) (fun c_2 => ?_) (fun c_2 => ?_)
        · refine lv_iconst (v := (0 : Int32)) hx hb dL_law_111 (by decide) ?_
          exact hk_1 _ (by rw [if_pos c_2])
        · refine lv_iconst (v := (1 : Int32)) hx hb dL_law_107 (by decide) ?_
          refine lv_goto (tgt := 112) hx hb dL_law_108 (by decide) ?_
          exact hk_1 _ (by rw [if_neg c_2])
      refine kk_callW (ws := (wsL hF qF kF hM q1 q2 q3 q4 k1 k2 k3 k4 f g b t w)) (wr := wsM hM q1 q2 q3 q4 k1 k2 k3 k4 g b t w) (w2 := (wsL hF qF kF hM q1 q2 q3 q4 k1 k2 k3 k4 (u_F_set_f f (xs ((nI i) + (1 : Int32)).toNatClampNeg) (xs ((nI i) + (2 : Int32)).toNatClampNeg) v_3) g b t w)) (va_runV (As := [.int (xs ((nI i) + (1 : Int32)).toNatClampNeg), .int (xs ((nI i) + (2 : Int32)).toNatClampNeg), .int v_3]) (rest := []) ⟨hx, hb, hml, hown, hts⟩ (c_F_set l dC dI hF qF kF H.size f (xs ((nI i) + (1 : Int32)).toNatClampNeg) (xs ((nI i) + (2 : Int32)).toNatClampNeg) v_3) (cwV 3 hts (gV tw_22 tw_23 tw_24 tw_1 tw_25) rfl rfl rfl (by decide +kernel) ⟨Nat.le_of_ble_eq_true rfl, Nat.le_of_ble_eq_true rfl⟩) ⟨fun a U g mk q => ⟨q.1, q.2.1, q.2.2.1, va_K.moved (u := U) (U := U.calling g mk a) (Vm.Alike.refl U.vm) q.2.2.2.1, q.2.2.2.2⟩, va_recv hK hP (ci := 0) (q0 := 0) rfl rfl, fun U hU hW => ⟨rfl, by rw [hU], by rw [hU]; exact hP.sub [0, 1] rfl, va_K.moved hW.alike (hK.sub [0] rfl), (hD.sub [0, 1] (by decide) rfl).weaken (fun _ _ _ _ => trivial)⟩⟩ rfl rfl hl.1 rfl (lv_room (Nat.le_of_ble_eq_true rfl)) dL_law_112 ⟨Nat.le_of_ble_eq_true rfl, Nat.le_of_ble_eq_true rfl⟩) hS hP hD hA [0, 1] [2, 3, 4, 5, 6] rfl rfl (by decide) (by decide) [5, 6, 0, 1, 2, 3, 4] rfl rfl (by decide) (fun H locs hS hP hD => ?_)
      refine lv_aload_n hx hb dL_law_115 rfl (lv_at hl 3 rfl) ?_
      refine lv_aload_n hx hb dL_law_116 rfl (lv_at hl 1 rfl) ?_
      refine lv_iload_n hx hb dL_law_117 rfl (lv_at hl 0 rfl) ?_
      refine lv_iconst (v := (1 : Int32)) hx hb dL_law_118 (by decide) ?_
      refine lv_iadd hx hb dL_law_119 ?_
      refine va_sld hx hb hX hbl hbA hS (s_in hlt (k := 1) (by decide)) dL_law_120 ?_
      refine lv_aload_n hx hb dL_law_121 rfl (lv_at hl 1 rfl) ?_
      refine lv_iload_n hx hb dL_law_122 rfl (lv_at hl 0 rfl) ?_
      refine lv_iconst (v := (2 : Int32)) hx hb dL_law_123 (by decide) ?_
      refine lv_iadd hx hb dL_law_124 ?_
      refine va_sld hx hb hX hbl hbA hS (s_in hlt (k := 2) (by decide)) dL_law_125 ?_
      refine lv_aload_n hx hb dL_law_126 rfl (lv_at hl 1 rfl) ?_
      refine lv_iload_n hx hb dL_law_127 rfl (lv_at hl 0 rfl) ?_
      refine lv_iconst (v := (3 : Int32)) hx hb dL_law_128 (by decide) ?_
      refine lv_iadd hx hb dL_law_129 ?_
      refine va_sld hx hb hX hbl hbA hS (s_in hlt (k := 3) (by decide)) dL_law_130 ?_
      refine kk_mrg (pc' := 139) (ls' := ls) (rest' := [.int (xs ((nI i) + (2 : Int32)).toNatClampNeg), .int (xs ((nI i) + (1 : Int32)).toNatClampNeg), .ref hM, .int (f_F_set f (xs ((nI i) + (1 : Int32)).toNatClampNeg) (xs ((nI i) + (2 : Int32)).toNatClampNeg) v_3)]) (x := (if (xs ((nI i) + (3 : Int32)).toNatClampNeg) = 0 then (0 : Int32) else (1 : Int32))) (fun hk_4 => ?_) (fun v_6 ev_6 => ?_)
      · refine lv_if_eq (tgt := 138) hx hb dL_law_131 (by decide) (fun c_5 => ?_) (fun c_5 => ?_)
        · refine lv_iconst (v := (0 : Int32)) hx hb dL_law_138 (by decide) ?_
          exact hk_4 _ (by rw [if_pos c_5])
        · refine lv_iconst (v := (1 : Int32)) hx hb dL_law_134 (by decide) ?_
          refine lv_goto (tgt := 139) hx hb dL_law_135 (by decide) ?_
          exact hk_4 _ (by rw [if_neg c_5])
      refine kk_callW (ws := (wsL hF qF kF hM q1 q2 q3 q4 k1 k2 k3 k4 (u_F_set_f f (xs ((nI i) + (1 : Int32)).toNatClampNeg) (xs ((nI i) + (2 : Int32)).toNatClampNeg) v_3) g b t w)) (wr := wsF hF qF kF (u_F_set_f f (xs ((nI i) + (1 : Int32)).toNatClampNeg) (xs ((nI i) + (2 : Int32)).toNatClampNeg) v_3)) (w2 := (wsL hF qF kF hM q1 q2 q3 q4 k1 k2 k3 k4 (u_F_set_f f (xs ((nI i) + (1 : Int32)).toNatClampNeg) (xs ((nI i) + (2 : Int32)).toNatClampNeg) v_3) (u_M_set_g g b t w (xs ((nI i) + (1 : Int32)).toNatClampNeg) (xs ((nI i) + (2 : Int32)).toNatClampNeg) v_6) (u_M_set_b g b t w (xs ((nI i) + (1 : Int32)).toNatClampNeg) (xs ((nI i) + (2 : Int32)).toNatClampNeg) v_6) t w)) (va_runV (As := [.int (xs ((nI i) + (1 : Int32)).toNatClampNeg), .int (xs ((nI i) + (2 : Int32)).toNatClampNeg), .int v_6]) (rest := [.int (f_F_set f (xs ((nI i) + (1 : Int32)).toNatClampNeg) (xs ((nI i) + (2 : Int32)).toNatClampNeg) v_3)]) ⟨hx, hb, hml, hown, hts⟩ (c_M_set l dC dI hM q1 q2 q3 q4 k1 k2 k3 k4 H.size g b t w (xs ((nI i) + (1 : Int32)).toNatClampNeg) (xs ((nI i) + (2 : Int32)).toNatClampNeg) v_6) (cwV 3 hts (gV tw_228 tw_229 tw_230 tw_2 tw_231) rfl rfl rfl (by decide +kernel) ⟨Nat.le_of_ble_eq_true rfl, Nat.le_of_ble_eq_true rfl⟩) ⟨fun a U g mk q => ⟨q.1, q.2.1, q.2.2.1, va_K.moved (u := U) (U := U.calling g mk a) (Vm.Alike.refl U.vm) q.2.2.2.1, q.2.2.2.2⟩, va_recv hK hP (ci := 1) (q0 := 2) rfl rfl, fun U hU hW => ⟨rfl, by rw [hU], by rw [hU]; exact hP.sub [2, 3, 4, 5, 6] rfl, va_K.moved hW.alike (hK.sub [1, 2, 3, 4] rfl), (hD.sub [2, 3, 4, 5, 6] (by decide) rfl).weaken (fun _ _ _ _ => trivial)⟩⟩ rfl rfl hl.1 rfl (lv_room (Nat.le_of_ble_eq_true rfl)) dL_law_139 ⟨Nat.le_of_ble_eq_true rfl, Nat.le_of_ble_eq_true rfl⟩) hS hP hD hA [2, 3, 4, 5, 6] [0, 1] rfl rfl (by decide) (by decide) [0, 1, 2, 3, 4, 5, 6] rfl rfl (by decide) (fun H locs hS hP hD => ?_)
      refine lv_icmp_eq (tgt := 424) hx hb dL_law_142 (by decide) (fun _ => ?_) (fun c0 => absurd (by subst ev_3; subst ev_6; exact (P_set hR _ _ _).1) c0)
      refine lv_iinc (v := (nI (i + 4))) (lv' := [(3, .int (nI (i + 4))), (0, .ref b0), (1, .ref hF), (2, .ref hM)]) hx hb dL_law_424 hl (k := 0) rfl (nI_add i 4) (by decide) rfl (fun ls hl => ?_)
      refine lv_goto (tgt := 18) hx hb dL_law_427 (by decide) ?_
      exact ih (i + 4) (by omega) (by omega) (u_F_set_f f (xs ((nI i) + (1 : Int32)).toNatClampNeg) (xs ((nI i) + (2 : Int32)).toNatClampNeg) v_3) (u_M_set_g g b t w (xs ((nI i) + (1 : Int32)).toNatClampNeg) (xs ((nI i) + (2 : Int32)).toNatClampNeg) v_6) (u_M_set_b g b t w (xs ((nI i) + (1 : Int32)).toNatClampNeg) (xs ((nI i) + (2 : Int32)).toNatClampNeg) v_6) t w (by subst ev_3; subst ev_6; exact (P_set hR _ _ _).2) hT H locs hP hD hS ls (lv_sub hl [0, 1, 2, 3] rfl)
    · refine lv_tableIn (off := 115) (tgt := 147) hx hb dL_law_32 (by decide) (by decide) (by decide) (by decide) ?_
      refine lv_aload_n hx hb dL_law_147 rfl (lv_at hl 2 rfl) ?_
      refine lv_aload_n hx hb dL_law_148 rfl (lv_at hl 1 rfl) ?_
      refine lv_iload_n hx hb dL_law_149 rfl (lv_at hl 0 rfl) ?_
      refine lv_iconst (v := (1 : Int32)) hx hb dL_law_150 (by decide) ?_
      refine lv_iadd hx hb dL_law_151 ?_
      refine va_sld hx hb hX hbl hbA hS (s_in hlt (k := 1) (by decide)) dL_law_152 ?_
      refine kk_callP (va_runV (As := [.int (xs ((nI i) + (1 : Int32)).toNatClampNeg)]) (rest := []) ⟨hx, hb, hml, hown, hts⟩ (c_F_value l dC dI hF qF kF f (xs ((nI i) + (1 : Int32)).toNatClampNeg)) (cwV 1 hts (gV tw_32 tw_33 tw_34 tw_1 tw_35) rfl rfl rfl (by decide +kernel) ⟨Nat.le_of_ble_eq_true rfl, Nat.le_of_ble_eq_true rfl⟩) ⟨fun a U g mk q => ⟨q.1, q.2.1, va_K.moved (u := U) (U := U.calling g mk a) (Vm.Alike.refl U.vm) q.2.2⟩, va_recv hK hP (ci := 0) (q0 := 0) rfl rfl, fun U hU hW => ⟨rfl, by rw [hU]; exact hP.sub [0, 1] rfl, va_K.moved hW.alike (hK.sub [0] rfl)⟩⟩ rfl rfl hl.1 rfl (lv_room (Nat.le_of_ble_eq_true rfl)) dL_law_153 ⟨Nat.le_of_ble_eq_true rfl, Nat.le_of_ble_eq_true rfl⟩) hS hP (fun H locs hS hP => ?_)
      refine lv_aload_n hx hb dL_law_156 rfl (lv_at hl 3 rfl) ?_
      refine lv_aload_n hx hb dL_law_157 rfl (lv_at hl 1 rfl) ?_
      refine lv_iload_n hx hb dL_law_158 rfl (lv_at hl 0 rfl) ?_
      refine lv_iconst (v := (1 : Int32)) hx hb dL_law_159 (by decide) ?_
      refine lv_iadd hx hb dL_law_160 ?_
      refine va_sld hx hb hX hbl hbA hS (s_in hlt (k := 1) (by decide)) dL_law_161 ?_
      refine kk_callP (va_runV (As := [.int (xs ((nI i) + (1 : Int32)).toNatClampNeg)]) (rest := [.int (f_F_value f (xs ((nI i) + (1 : Int32)).toNatClampNeg))]) ⟨hx, hb, hml, hown, hts⟩ (c_M_value l dC dI hM q1 q2 q3 q4 k1 k2 k3 k4 g b t w (xs ((nI i) + (1 : Int32)).toNatClampNeg)) (cwV 1 hts (gV tw_237 tw_238 tw_239 tw_2 tw_240) rfl rfl rfl (by decide +kernel) ⟨Nat.le_of_ble_eq_true rfl, Nat.le_of_ble_eq_true rfl⟩) ⟨fun a U g mk q => ⟨q.1, q.2.1, va_K.moved (u := U) (U := U.calling g mk a) (Vm.Alike.refl U.vm) q.2.2⟩, va_recv hK hP (ci := 1) (q0 := 2) rfl rfl, fun U hU hW => ⟨rfl, by rw [hU]; exact hP.sub [2, 3, 4, 5, 6] rfl, va_K.moved hW.alike (hK.sub [1, 2, 3, 4] rfl)⟩⟩ rfl rfl hl.1 rfl (lv_room (Nat.le_of_ble_eq_true rfl)) dL_law_162 ⟨Nat.le_of_ble_eq_true rfl, Nat.le_of_ble_eq_true rfl⟩) hS hP (fun H locs hS hP => ?_)
      refine lv_icmp_eq (tgt := 424) hx hb dL_law_165 (by decide) (fun _ => ?_) (fun c0 => absurd (by exact P_value hR _) c0)
      refine lv_iinc (v := (nI (i + 4))) (lv' := [(3, .int (nI (i + 4))), (0, .ref b0), (1, .ref hF), (2, .ref hM)]) hx hb dL_law_424 hl (k := 0) rfl (nI_add i 4) (by decide) rfl (fun ls hl => ?_)
      refine lv_goto (tgt := 18) hx hb dL_law_427 (by decide) ?_
      exact ih (i + 4) (by omega) (by omega) f g b t w hR hT H locs hP hD hS ls (lv_sub hl [0, 1, 2, 3] rfl)
    · refine lv_tableIn (off := 138) (tgt := 170) hx hb dL_law_32 (by decide) (by decide) (by decide) (by decide) ?_
      refine lv_aload_n hx hb dL_law_170 rfl (lv_at hl 2 rfl) ?_
      refine lv_aload_n hx hb dL_law_171 rfl (lv_at hl 1 rfl) ?_
      refine lv_iload_n hx hb dL_law_172 rfl (lv_at hl 0 rfl) ?_
      refine lv_iconst (v := (1 : Int32)) hx hb dL_law_173 (by decide) ?_
      refine lv_iadd hx hb dL_law_174 ?_
      refine va_sld hx hb hX hbl hbA hS (s_in hlt (k := 1) (by decide)) dL_law_175 ?_
      refine lv_aload_n hx hb dL_law_176 rfl (lv_at hl 1 rfl) ?_
      refine lv_iload_n hx hb dL_law_177 rfl (lv_at hl 0 rfl) ?_
      refine lv_iconst (v := (2 : Int32)) hx hb dL_law_178 (by decide) ?_
      refine lv_iadd hx hb dL_law_179 ?_
      refine va_sld hx hb hX hbl hbA hS (s_in hlt (k := 2) (by decide)) dL_law_180 ?_
      refine kk_callP (va_runV (As := [.int (xs ((nI i) + (1 : Int32)).toNatClampNeg), .int (xs ((nI i) + (2 : Int32)).toNatClampNeg)]) (rest := []) ⟨hx, hb, hml, hown, hts⟩ (c_F_byteOf l dC dI hF qF kF f (xs ((nI i) + (1 : Int32)).toNatClampNeg) (xs ((nI i) + (2 : Int32)).toNatClampNeg)) (cwV 2 hts (gV tw_44 tw_45 tw_46 tw_1 tw_47) rfl rfl rfl (by decide +kernel) ⟨Nat.le_of_ble_eq_true rfl, Nat.le_of_ble_eq_true rfl⟩) ⟨fun a U g mk q => ⟨q.1, q.2.1, va_K.moved (u := U) (U := U.calling g mk a) (Vm.Alike.refl U.vm) q.2.2⟩, va_recv hK hP (ci := 0) (q0 := 0) rfl rfl, fun U hU hW => ⟨rfl, by rw [hU]; exact hP.sub [0, 1] rfl, va_K.moved hW.alike (hK.sub [0] rfl)⟩⟩ rfl rfl hl.1 rfl (lv_room (Nat.le_of_ble_eq_true rfl)) dL_law_181 ⟨Nat.le_of_ble_eq_true rfl, Nat.le_of_ble_eq_true rfl⟩) hS hP (fun H locs hS hP => ?_)
      refine lv_aload_n hx hb dL_law_184 rfl (lv_at hl 3 rfl) ?_
      refine lv_aload_n hx hb dL_law_185 rfl (lv_at hl 1 rfl) ?_
      refine lv_iload_n hx hb dL_law_186 rfl (lv_at hl 0 rfl) ?_
      refine lv_iconst (v := (1 : Int32)) hx hb dL_law_187 (by decide) ?_
      refine lv_iadd hx hb dL_law_188 ?_
      refine va_sld hx hb hX hbl hbA hS (s_in hlt (k := 1) (by decide)) dL_law_189 ?_
      refine lv_aload_n hx hb dL_law_190 rfl (lv_at hl 1 rfl) ?_
      refine lv_iload_n hx hb dL_law_191 rfl (lv_at hl 0 rfl) ?_
      refine lv_iconst (v := (2 : Int32)) hx hb dL_law_192 (by decide) ?_
      refine lv_iadd hx hb dL_law_193 ?_
      refine va_sld hx hb hX hbl hbA hS (s_in hlt (k := 2) (by decide)) dL_law_194 ?_
      refine kk_callP (va_runV (As := [.int (xs ((nI i) + (1 : Int32)).toNatClampNeg), .int (xs ((nI i) + (2 : Int32)).toNatClampNeg)]) (rest := [.int (f_F_byteOf f (xs ((nI i) + (1 : Int32)).toNatClampNeg) (xs ((nI i) + (2 : Int32)).toNatClampNeg))]) ⟨hx, hb, hml, hown, hts⟩ (c_M_byteOf l dC dI hM q1 q2 q3 q4 k1 k2 k3 k4 g b t w (xs ((nI i) + (1 : Int32)).toNatClampNeg) (xs ((nI i) + (2 : Int32)).toNatClampNeg)) (cwV 2 hts (gV tw_247 tw_248 tw_249 tw_2 tw_250) rfl rfl rfl (by decide +kernel) ⟨Nat.le_of_ble_eq_true rfl, Nat.le_of_ble_eq_true rfl⟩) ⟨fun a U g mk q => ⟨q.1, q.2.1, va_K.moved (u := U) (U := U.calling g mk a) (Vm.Alike.refl U.vm) q.2.2⟩, va_recv hK hP (ci := 1) (q0 := 2) rfl rfl, fun U hU hW => ⟨rfl, by rw [hU]; exact hP.sub [2, 3, 4, 5, 6] rfl, va_K.moved hW.alike (hK.sub [1, 2, 3, 4] rfl)⟩⟩ rfl rfl hl.1 rfl (lv_room (Nat.le_of_ble_eq_true rfl)) dL_law_195 ⟨Nat.le_of_ble_eq_true rfl, Nat.le_of_ble_eq_true rfl⟩) hS hP (fun H locs hS hP => ?_)
      refine lv_icmp_eq (tgt := 424) hx hb dL_law_198 (by decide) (fun _ => ?_) (fun c0 => absurd (by exact P_byteOf hR _ _) c0)
      refine lv_iinc (v := (nI (i + 4))) (lv' := [(3, .int (nI (i + 4))), (0, .ref b0), (1, .ref hF), (2, .ref hM)]) hx hb dL_law_424 hl (k := 0) rfl (nI_add i 4) (by decide) rfl (fun ls hl => ?_)
      refine lv_goto (tgt := 18) hx hb dL_law_427 (by decide) ?_
      exact ih (i + 4) (by omega) (by omega) f g b t w hR hT H locs hP hD hS ls (lv_sub hl [0, 1, 2, 3] rfl)
    · refine lv_tableIn (off := 171) (tgt := 203) hx hb dL_law_32 (by decide) (by decide) (by decide) (by decide) ?_
      refine lv_aload_n hx hb dL_law_203 rfl (lv_at hl 2 rfl) ?_
      refine lv_aload_n hx hb dL_law_204 rfl (lv_at hl 1 rfl) ?_
      refine lv_iload_n hx hb dL_law_205 rfl (lv_at hl 0 rfl) ?_
      refine lv_iconst (v := (1 : Int32)) hx hb dL_law_206 (by decide) ?_
      refine lv_iadd hx hb dL_law_207 ?_
      refine va_sld hx hb hX hbl hbA hS (s_in hlt (k := 1) (by decide)) dL_law_208 ?_
      refine lv_aload_n hx hb dL_law_209 rfl (lv_at hl 1 rfl) ?_
      refine lv_iload_n hx hb dL_law_210 rfl (lv_at hl 0 rfl) ?_
      refine lv_iconst (v := (2 : Int32)) hx hb dL_law_211 (by decide) ?_
      refine lv_iadd hx hb dL_law_212 ?_
      refine va_sld hx hb hX hbl hbA hS (s_in hlt (k := 2) (by decide)) dL_law_213 ?_
      refine lv_aload_n hx hb dL_law_214 rfl (lv_at hl 1 rfl) ?_
      refine lv_iload_n hx hb dL_law_215 rfl (lv_at hl 0 rfl) ?_
      refine lv_iconst (v := (3 : Int32)) hx hb dL_law_216 (by decide) ?_
      refine lv_iadd hx hb dL_law_217 ?_
      refine va_sld hx hb hX hbl hbA hS (s_in hlt (k := 3) (by decide)) dL_law_218 ?_
      refine kk_callW (ws := (wsL hF qF kF hM q1 q2 q3 q4 k1 k2 k3 k4 f g b t w)) (wr := wsM hM q1 q2 q3 q4 k1 k2 k3 k4 g b t w) (w2 := (wsL hF qF kF hM q1 q2 q3 q4 k1 k2 k3 k4 (u_F_load_f f (xs ((nI i) + (1 : Int32)).toNatClampNeg) (xs ((nI i) + (2 : Int32)).toNatClampNeg) (xs ((nI i) + (3 : Int32)).toNatClampNeg)) g b t w)) (va_runV (As := [.int (xs ((nI i) + (1 : Int32)).toNatClampNeg), .int (xs ((nI i) + (2 : Int32)).toNatClampNeg), .int (xs ((nI i) + (3 : Int32)).toNatClampNeg)]) (rest := []) ⟨hx, hb, hml, hown, hts⟩ (c_F_load l dC dI hF qF kF H.size f (xs ((nI i) + (1 : Int32)).toNatClampNeg) (xs ((nI i) + (2 : Int32)).toNatClampNeg) (xs ((nI i) + (3 : Int32)).toNatClampNeg)) (cwV 3 hts (gV tw_51 tw_52 tw_53 tw_1 tw_54) rfl rfl rfl (by decide +kernel) ⟨Nat.le_of_ble_eq_true rfl, Nat.le_of_ble_eq_true rfl⟩) ⟨fun a U g mk q => ⟨q.1, q.2.1, q.2.2.1, va_K.moved (u := U) (U := U.calling g mk a) (Vm.Alike.refl U.vm) q.2.2.2.1, q.2.2.2.2⟩, va_recv hK hP (ci := 0) (q0 := 0) rfl rfl, fun U hU hW => ⟨rfl, by rw [hU], by rw [hU]; exact hP.sub [0, 1] rfl, va_K.moved hW.alike (hK.sub [0] rfl), (hD.sub [0, 1] (by decide) rfl).weaken (fun _ _ _ _ => trivial)⟩⟩ rfl rfl hl.1 rfl (lv_room (Nat.le_of_ble_eq_true rfl)) dL_law_219 ⟨Nat.le_of_ble_eq_true rfl, Nat.le_of_ble_eq_true rfl⟩) hS hP hD hA [0, 1] [2, 3, 4, 5, 6] rfl rfl (by decide) (by decide) [5, 6, 0, 1, 2, 3, 4] rfl rfl (by decide) (fun H locs hS hP hD => ?_)
      refine lv_aload_n hx hb dL_law_222 rfl (lv_at hl 3 rfl) ?_
      refine lv_aload_n hx hb dL_law_223 rfl (lv_at hl 1 rfl) ?_
      refine lv_iload_n hx hb dL_law_224 rfl (lv_at hl 0 rfl) ?_
      refine lv_iconst (v := (1 : Int32)) hx hb dL_law_225 (by decide) ?_
      refine lv_iadd hx hb dL_law_226 ?_
      refine va_sld hx hb hX hbl hbA hS (s_in hlt (k := 1) (by decide)) dL_law_227 ?_
      refine lv_aload_n hx hb dL_law_228 rfl (lv_at hl 1 rfl) ?_
      refine lv_iload_n hx hb dL_law_229 rfl (lv_at hl 0 rfl) ?_
      refine lv_iconst (v := (2 : Int32)) hx hb dL_law_230 (by decide) ?_
      refine lv_iadd hx hb dL_law_231 ?_
      refine va_sld hx hb hX hbl hbA hS (s_in hlt (k := 2) (by decide)) dL_law_232 ?_
      refine lv_aload_n hx hb dL_law_233 rfl (lv_at hl 1 rfl) ?_
      refine lv_iload_n hx hb dL_law_234 rfl (lv_at hl 0 rfl) ?_
      refine lv_iconst (v := (3 : Int32)) hx hb dL_law_235 (by decide) ?_
      refine lv_iadd hx hb dL_law_236 ?_
      refine va_sld hx hb hX hbl hbA hS (s_in hlt (k := 3) (by decide)) dL_law_237 ?_
      refine kk_callW (ws := (wsL hF qF kF hM q1 q2 q3 q4 k1 k2 k3 k4 (u_F_load_f f (xs ((nI i) + (1 : Int32)).toNatClampNeg) (xs ((nI i) + (2 : Int32)).toNatClampNeg) (xs ((nI i) + (3 : Int32)).toNatClampNeg)) g b t w)) (wr := wsF hF qF kF (u_F_load_f f (xs ((nI i) + (1 : Int32)).toNatClampNeg) (xs ((nI i) + (2 : Int32)).toNatClampNeg) (xs ((nI i) + (3 : Int32)).toNatClampNeg))) (w2 := (wsL hF qF kF hM q1 q2 q3 q4 k1 k2 k3 k4 (u_F_load_f f (xs ((nI i) + (1 : Int32)).toNatClampNeg) (xs ((nI i) + (2 : Int32)).toNatClampNeg) (xs ((nI i) + (3 : Int32)).toNatClampNeg)) (u_M_load_g g b t w (xs ((nI i) + (1 : Int32)).toNatClampNeg) (xs ((nI i) + (2 : Int32)).toNatClampNeg) (xs ((nI i) + (3 : Int32)).toNatClampNeg)) (u_M_load_b g b t w (xs ((nI i) + (1 : Int32)).toNatClampNeg) (xs ((nI i) + (2 : Int32)).toNatClampNeg) (xs ((nI i) + (3 : Int32)).toNatClampNeg)) t (u_M_load_w g b t w (xs ((nI i) + (1 : Int32)).toNatClampNeg) (xs ((nI i) + (2 : Int32)).toNatClampNeg) (xs ((nI i) + (3 : Int32)).toNatClampNeg)))) (va_runV (As := [.int (xs ((nI i) + (1 : Int32)).toNatClampNeg), .int (xs ((nI i) + (2 : Int32)).toNatClampNeg), .int (xs ((nI i) + (3 : Int32)).toNatClampNeg)]) (rest := [.int (f_F_load f (xs ((nI i) + (1 : Int32)).toNatClampNeg) (xs ((nI i) + (2 : Int32)).toNatClampNeg) (xs ((nI i) + (3 : Int32)).toNatClampNeg))]) ⟨hx, hb, hml, hown, hts⟩ (c_M_load l dC dI hM q1 q2 q3 q4 k1 k2 k3 k4 H.size g b t w (xs ((nI i) + (1 : Int32)).toNatClampNeg) (xs ((nI i) + (2 : Int32)).toNatClampNeg) (xs ((nI i) + (3 : Int32)).toNatClampNeg)) (cwV 3 hts (gV tw_251 tw_252 tw_253 tw_2 tw_254) rfl rfl rfl (by decide +kernel) ⟨Nat.le_of_ble_eq_true rfl, Nat.le_of_ble_eq_true rfl⟩) ⟨fun a U g mk q => ⟨q.1, q.2.1, q.2.2.1, va_K.moved (u := U) (U := U.calling g mk a) (Vm.Alike.refl U.vm) q.2.2.2.1, q.2.2.2.2⟩, va_recv hK hP (ci := 1) (q0 := 2) rfl rfl, fun U hU hW => ⟨rfl, by rw [hU], by rw [hU]; exact hP.sub [2, 3, 4, 5, 6] rfl, va_K.moved hW.alike (hK.sub [1, 2, 3, 4] rfl), (hD.sub [2, 3, 4, 5, 6] (by decide) rfl).weaken (fun _ _ _ _ => trivial)⟩⟩ rfl rfl hl.1 rfl (lv_room (Nat.le_of_ble_eq_true rfl)) dL_law_238 ⟨Nat.le_of_ble_eq_true rfl, Nat.le_of_ble_eq_true rfl⟩) hS hP hD hA [2, 3, 4, 5, 6] [0, 1] rfl rfl (by decide) (by decide) [0, 1, 2, 3, 4, 5, 6] rfl rfl (by decide) (fun H locs hS hP hD => ?_)
      refine lv_icmp_eq (tgt := 424) hx hb dL_law_241 (by decide) (fun _ => ?_) (fun c0 => absurd (by exact (P_load hR _ _ _).1) c0)
      refine lv_iinc (v := (nI (i + 4))) (lv' := [(3, .int (nI (i + 4))), (0, .ref b0), (1, .ref hF), (2, .ref hM)]) hx hb dL_law_424 hl (k := 0) rfl (nI_add i 4) (by decide) rfl (fun ls hl => ?_)
      refine lv_goto (tgt := 18) hx hb dL_law_427 (by decide) ?_
      exact ih (i + 4) (by omega) (by omega) (u_F_load_f f (xs ((nI i) + (1 : Int32)).toNatClampNeg) (xs ((nI i) + (2 : Int32)).toNatClampNeg) (xs ((nI i) + (3 : Int32)).toNatClampNeg)) (u_M_load_g g b t w (xs ((nI i) + (1 : Int32)).toNatClampNeg) (xs ((nI i) + (2 : Int32)).toNatClampNeg) (xs ((nI i) + (3 : Int32)).toNatClampNeg)) (u_M_load_b g b t w (xs ((nI i) + (1 : Int32)).toNatClampNeg) (xs ((nI i) + (2 : Int32)).toNatClampNeg) (xs ((nI i) + (3 : Int32)).toNatClampNeg)) t (u_M_load_w g b t w (xs ((nI i) + (1 : Int32)).toNatClampNeg) (xs ((nI i) + (2 : Int32)).toNatClampNeg) (xs ((nI i) + (3 : Int32)).toNatClampNeg)) (by exact (P_load hR _ _ _).2) hT H locs hP hD hS ls (lv_sub hl [0, 1, 2, 3] rfl)
    · refine lv_tableIn (off := 214) (tgt := 246) hx hb dL_law_32 (by decide) (by decide) (by decide) (by decide) ?_
      refine lv_aload_n hx hb dL_law_246 rfl (lv_at hl 2 rfl) ?_
      refine lv_aload_n hx hb dL_law_247 rfl (lv_at hl 1 rfl) ?_
      refine lv_iload_n hx hb dL_law_248 rfl (lv_at hl 0 rfl) ?_
      refine lv_iconst (v := (1 : Int32)) hx hb dL_law_249 (by decide) ?_
      refine lv_iadd hx hb dL_law_250 ?_
      refine va_sld hx hb hX hbl hbA hS (s_in hlt (k := 1) (by decide)) dL_law_251 ?_
      refine lv_aload_n hx hb dL_law_252 rfl (lv_at hl 1 rfl) ?_
      refine lv_iload_n hx hb dL_law_253 rfl (lv_at hl 0 rfl) ?_
      refine lv_iconst (v := (2 : Int32)) hx hb dL_law_254 (by decide) ?_
      refine lv_iadd hx hb dL_law_255 ?_
      refine va_sld hx hb hX hbl hbA hS (s_in hlt (k := 2) (by decide)) dL_law_256 ?_
      refine lv_aload_n hx hb dL_law_257 rfl (lv_at hl 1 rfl) ?_
      refine lv_iload_n hx hb dL_law_258 rfl (lv_at hl 0 rfl) ?_
      refine lv_iconst (v := (3 : Int32)) hx hb dL_law_259 (by decide) ?_
      refine lv_iadd hx hb dL_law_260 ?_
      refine va_sld hx hb hX hbl hbA hS (s_in hlt (k := 3) (by decide)) dL_law_261 ?_
      refine kk_callW (ws := (wsL hF qF kF hM q1 q2 q3 q4 k1 k2 k3 k4 f g b t w)) (wr := wsM hM q1 q2 q3 q4 k1 k2 k3 k4 g b t w) (w2 := (wsL hF qF kF hM q1 q2 q3 q4 k1 k2 k3 k4 (u_F_store_f f (xs ((nI i) + (1 : Int32)).toNatClampNeg) (xs ((nI i) + (2 : Int32)).toNatClampNeg) (xs ((nI i) + (3 : Int32)).toNatClampNeg)) g b t w)) (va_runV (As := [.int (xs ((nI i) + (1 : Int32)).toNatClampNeg), .int (xs ((nI i) + (2 : Int32)).toNatClampNeg), .int (xs ((nI i) + (3 : Int32)).toNatClampNeg)]) (rest := []) ⟨hx, hb, hml, hown, hts⟩ (c_F_store l dC dI hF qF kF H.size f (xs ((nI i) + (1 : Int32)).toNatClampNeg) (xs ((nI i) + (2 : Int32)).toNatClampNeg) (xs ((nI i) + (3 : Int32)).toNatClampNeg)) (cwV 3 hts (gV tw_77 tw_78 tw_79 tw_1 tw_80) rfl rfl rfl (by decide +kernel) ⟨Nat.le_of_ble_eq_true rfl, Nat.le_of_ble_eq_true rfl⟩) ⟨fun a U g mk q => ⟨q.1, q.2.1, q.2.2.1, va_K.moved (u := U) (U := U.calling g mk a) (Vm.Alike.refl U.vm) q.2.2.2.1, q.2.2.2.2⟩, va_recv hK hP (ci := 0) (q0 := 0) rfl rfl, fun U hU hW => ⟨rfl, by rw [hU], by rw [hU]; exact hP.sub [0, 1] rfl, va_K.moved hW.alike (hK.sub [0] rfl), (hD.sub [0, 1] (by decide) rfl).weaken (fun _ _ _ _ => trivial)⟩⟩ rfl rfl hl.1 rfl (lv_room (Nat.le_of_ble_eq_true rfl)) dL_law_262 ⟨Nat.le_of_ble_eq_true rfl, Nat.le_of_ble_eq_true rfl⟩) hS hP hD hA [0, 1] [2, 3, 4, 5, 6] rfl rfl (by decide) (by decide) [5, 6, 0, 1, 2, 3, 4] rfl rfl (by decide) (fun H locs hS hP hD => ?_)
      refine lv_aload_n hx hb dL_law_265 rfl (lv_at hl 3 rfl) ?_
      refine lv_aload_n hx hb dL_law_266 rfl (lv_at hl 1 rfl) ?_
      refine lv_iload_n hx hb dL_law_267 rfl (lv_at hl 0 rfl) ?_
      refine lv_iconst (v := (1 : Int32)) hx hb dL_law_268 (by decide) ?_
      refine lv_iadd hx hb dL_law_269 ?_
      refine va_sld hx hb hX hbl hbA hS (s_in hlt (k := 1) (by decide)) dL_law_270 ?_
      refine lv_aload_n hx hb dL_law_271 rfl (lv_at hl 1 rfl) ?_
      refine lv_iload_n hx hb dL_law_272 rfl (lv_at hl 0 rfl) ?_
      refine lv_iconst (v := (2 : Int32)) hx hb dL_law_273 (by decide) ?_
      refine lv_iadd hx hb dL_law_274 ?_
      refine va_sld hx hb hX hbl hbA hS (s_in hlt (k := 2) (by decide)) dL_law_275 ?_
      refine lv_aload_n hx hb dL_law_276 rfl (lv_at hl 1 rfl) ?_
      refine lv_iload_n hx hb dL_law_277 rfl (lv_at hl 0 rfl) ?_
      refine lv_iconst (v := (3 : Int32)) hx hb dL_law_278 (by decide) ?_
      refine lv_iadd hx hb dL_law_279 ?_
      refine va_sld hx hb hX hbl hbA hS (s_in hlt (k := 3) (by decide)) dL_law_280 ?_
      refine kk_callW (ws := (wsL hF qF kF hM q1 q2 q3 q4 k1 k2 k3 k4 (u_F_store_f f (xs ((nI i) + (1 : Int32)).toNatClampNeg) (xs ((nI i) + (2 : Int32)).toNatClampNeg) (xs ((nI i) + (3 : Int32)).toNatClampNeg)) g b t w)) (wr := wsF hF qF kF (u_F_store_f f (xs ((nI i) + (1 : Int32)).toNatClampNeg) (xs ((nI i) + (2 : Int32)).toNatClampNeg) (xs ((nI i) + (3 : Int32)).toNatClampNeg))) (w2 := (wsL hF qF kF hM q1 q2 q3 q4 k1 k2 k3 k4 (u_F_store_f f (xs ((nI i) + (1 : Int32)).toNatClampNeg) (xs ((nI i) + (2 : Int32)).toNatClampNeg) (xs ((nI i) + (3 : Int32)).toNatClampNeg)) (u_M_store_g g b t w (xs ((nI i) + (1 : Int32)).toNatClampNeg) (xs ((nI i) + (2 : Int32)).toNatClampNeg) (xs ((nI i) + (3 : Int32)).toNatClampNeg)) (u_M_store_b g b t w (xs ((nI i) + (1 : Int32)).toNatClampNeg) (xs ((nI i) + (2 : Int32)).toNatClampNeg) (xs ((nI i) + (3 : Int32)).toNatClampNeg)) t (u_M_store_w g b t w (xs ((nI i) + (1 : Int32)).toNatClampNeg) (xs ((nI i) + (2 : Int32)).toNatClampNeg) (xs ((nI i) + (3 : Int32)).toNatClampNeg)))) (va_runV (As := [.int (xs ((nI i) + (1 : Int32)).toNatClampNeg), .int (xs ((nI i) + (2 : Int32)).toNatClampNeg), .int (xs ((nI i) + (3 : Int32)).toNatClampNeg)]) (rest := [.int (f_F_store f (xs ((nI i) + (1 : Int32)).toNatClampNeg) (xs ((nI i) + (2 : Int32)).toNatClampNeg) (xs ((nI i) + (3 : Int32)).toNatClampNeg))]) ⟨hx, hb, hml, hown, hts⟩ (c_M_store l dC dI hM q1 q2 q3 q4 k1 k2 k3 k4 H.size g b t w (xs ((nI i) + (1 : Int32)).toNatClampNeg) (xs ((nI i) + (2 : Int32)).toNatClampNeg) (xs ((nI i) + (3 : Int32)).toNatClampNeg)) (cwV 3 hts (gV tw_265 tw_266 tw_267 tw_2 tw_268) rfl rfl rfl (by decide +kernel) ⟨Nat.le_of_ble_eq_true rfl, Nat.le_of_ble_eq_true rfl⟩) ⟨fun a U g mk q => ⟨q.1, q.2.1, q.2.2.1, va_K.moved (u := U) (U := U.calling g mk a) (Vm.Alike.refl U.vm) q.2.2.2.1, q.2.2.2.2⟩, va_recv hK hP (ci := 1) (q0 := 2) rfl rfl, fun U hU hW => ⟨rfl, by rw [hU], by rw [hU]; exact hP.sub [2, 3, 4, 5, 6] rfl, va_K.moved hW.alike (hK.sub [1, 2, 3, 4] rfl), (hD.sub [2, 3, 4, 5, 6] (by decide) rfl).weaken (fun _ _ _ _ => trivial)⟩⟩ rfl rfl hl.1 rfl (lv_room (Nat.le_of_ble_eq_true rfl)) dL_law_281 ⟨Nat.le_of_ble_eq_true rfl, Nat.le_of_ble_eq_true rfl⟩) hS hP hD hA [2, 3, 4, 5, 6] [0, 1] rfl rfl (by decide) (by decide) [0, 1, 2, 3, 4, 5, 6] rfl rfl (by decide) (fun H locs hS hP hD => ?_)
      refine lv_icmp_eq (tgt := 424) hx hb dL_law_284 (by decide) (fun _ => ?_) (fun c0 => absurd (by exact (P_store hR _ _ _).1) c0)
      refine lv_iinc (v := (nI (i + 4))) (lv' := [(3, .int (nI (i + 4))), (0, .ref b0), (1, .ref hF), (2, .ref hM)]) hx hb dL_law_424 hl (k := 0) rfl (nI_add i 4) (by decide) rfl (fun ls hl => ?_)
      refine lv_goto (tgt := 18) hx hb dL_law_427 (by decide) ?_
      exact ih (i + 4) (by omega) (by omega) (u_F_store_f f (xs ((nI i) + (1 : Int32)).toNatClampNeg) (xs ((nI i) + (2 : Int32)).toNatClampNeg) (xs ((nI i) + (3 : Int32)).toNatClampNeg)) (u_M_store_g g b t w (xs ((nI i) + (1 : Int32)).toNatClampNeg) (xs ((nI i) + (2 : Int32)).toNatClampNeg) (xs ((nI i) + (3 : Int32)).toNatClampNeg)) (u_M_store_b g b t w (xs ((nI i) + (1 : Int32)).toNatClampNeg) (xs ((nI i) + (2 : Int32)).toNatClampNeg) (xs ((nI i) + (3 : Int32)).toNatClampNeg)) t (u_M_store_w g b t w (xs ((nI i) + (1 : Int32)).toNatClampNeg) (xs ((nI i) + (2 : Int32)).toNatClampNeg) (xs ((nI i) + (3 : Int32)).toNatClampNeg)) (by exact (P_store hR _ _ _).2) hT H locs hP hD hS ls (lv_sub hl [0, 1, 2, 3] rfl)
    · refine lv_tableIn (off := 257) (tgt := 289) hx hb dL_law_32 (by decide) (by decide) (by decide) (by decide) ?_
      refine lv_aload_n hx hb dL_law_289 rfl (lv_at hl 2 rfl) ?_
      refine lv_aload_n hx hb dL_law_290 rfl (lv_at hl 1 rfl) ?_
      refine lv_iload_n hx hb dL_law_291 rfl (lv_at hl 0 rfl) ?_
      refine lv_iconst (v := (1 : Int32)) hx hb dL_law_292 (by decide) ?_
      refine lv_iadd hx hb dL_law_293 ?_
      refine va_sld hx hb hX hbl hbA hS (s_in hlt (k := 1) (by decide)) dL_law_294 ?_
      refine kk_callW (ws := (wsL hF qF kF hM q1 q2 q3 q4 k1 k2 k3 k4 f g b t w)) (wr := wsM hM q1 q2 q3 q4 k1 k2 k3 k4 g b t w) (w2 := (wsL hF qF kF hM q1 q2 q3 q4 k1 k2 k3 k4 (u_F_turn_f f (xs ((nI i) + (1 : Int32)).toNatClampNeg)) g b t w)) (va_runV (As := [.int (xs ((nI i) + (1 : Int32)).toNatClampNeg)]) (rest := []) ⟨hx, hb, hml, hown, hts⟩ (c_F_turn l dC dI hF qF kF H.size f (xs ((nI i) + (1 : Int32)).toNatClampNeg)) (cwV 1 hts (gV tw_81 tw_82 tw_83 tw_1 tw_84) rfl rfl rfl (by decide +kernel) ⟨Nat.le_of_ble_eq_true rfl, Nat.le_of_ble_eq_true rfl⟩) ⟨fun a U g mk q => ⟨q.1, q.2.1, q.2.2.1, va_K.moved (u := U) (U := U.calling g mk a) (Vm.Alike.refl U.vm) q.2.2.2.1, q.2.2.2.2⟩, va_recv hK hP (ci := 0) (q0 := 0) rfl rfl, fun U hU hW => ⟨rfl, by rw [hU], by rw [hU]; exact hP.sub [0, 1] rfl, va_K.moved hW.alike (hK.sub [0] rfl), (hD.sub [0, 1] (by decide) rfl).weaken (fun _ _ _ _ => trivial)⟩⟩ rfl rfl hl.1 rfl (lv_room (Nat.le_of_ble_eq_true rfl)) dL_law_295 ⟨Nat.le_of_ble_eq_true rfl, Nat.le_of_ble_eq_true rfl⟩) hS hP hD hA [0, 1] [2, 3, 4, 5, 6] rfl rfl (by decide) (by decide) [5, 6, 0, 1, 2, 3, 4] rfl rfl (by decide) (fun H locs hS hP hD => ?_)
      refine lv_aload_n hx hb dL_law_298 rfl (lv_at hl 3 rfl) ?_
      refine lv_aload_n hx hb dL_law_299 rfl (lv_at hl 1 rfl) ?_
      refine lv_iload_n hx hb dL_law_300 rfl (lv_at hl 0 rfl) ?_
      refine lv_iconst (v := (1 : Int32)) hx hb dL_law_301 (by decide) ?_
      refine lv_iadd hx hb dL_law_302 ?_
      refine va_sld hx hb hX hbl hbA hS (s_in hlt (k := 1) (by decide)) dL_law_303 ?_
      refine kk_callW (ws := (wsL hF qF kF hM q1 q2 q3 q4 k1 k2 k3 k4 (u_F_turn_f f (xs ((nI i) + (1 : Int32)).toNatClampNeg)) g b t w)) (wr := wsF hF qF kF (u_F_turn_f f (xs ((nI i) + (1 : Int32)).toNatClampNeg))) (w2 := (wsL hF qF kF hM q1 q2 q3 q4 k1 k2 k3 k4 (u_F_turn_f f (xs ((nI i) + (1 : Int32)).toNatClampNeg)) (u_M_turn_g g b t w (xs ((nI i) + (1 : Int32)).toNatClampNeg)) b t w)) (va_runV (As := [.int (xs ((nI i) + (1 : Int32)).toNatClampNeg)]) (rest := [.int (f_F_turn f (xs ((nI i) + (1 : Int32)).toNatClampNeg))]) ⟨hx, hb, hml, hown, hts⟩ (c_M_turn l dC dI hM q1 q2 q3 q4 k1 k2 k3 k4 H.size g b t w (xs ((nI i) + (1 : Int32)).toNatClampNeg)) (cwV 1 hts (gV tw_269 tw_270 tw_271 tw_2 tw_272) rfl rfl rfl (by decide +kernel) ⟨Nat.le_of_ble_eq_true rfl, Nat.le_of_ble_eq_true rfl⟩) ⟨fun a U g mk q => ⟨q.1, q.2.1, q.2.2.1, va_K.moved (u := U) (U := U.calling g mk a) (Vm.Alike.refl U.vm) q.2.2.2.1, q.2.2.2.2⟩, va_recv hK hP (ci := 1) (q0 := 2) rfl rfl, fun U hU hW => ⟨rfl, by rw [hU], by rw [hU]; exact hP.sub [2, 3, 4, 5, 6] rfl, va_K.moved hW.alike (hK.sub [1, 2, 3, 4] rfl), (hD.sub [2, 3, 4, 5, 6] (by decide) rfl).weaken (fun _ _ _ _ => trivial)⟩⟩ rfl rfl hl.1 rfl (lv_room (Nat.le_of_ble_eq_true rfl)) dL_law_304 ⟨Nat.le_of_ble_eq_true rfl, Nat.le_of_ble_eq_true rfl⟩) hS hP hD hA [2, 3, 4, 5, 6] [0, 1] rfl rfl (by decide) (by decide) [0, 1, 2, 3, 4, 5, 6] rfl rfl (by decide) (fun H locs hS hP hD => ?_)
      refine lv_icmp_eq (tgt := 424) hx hb dL_law_307 (by decide) (fun _ => ?_) (fun c0 => absurd (by exact (P_turn hR _).1) c0)
      refine lv_iinc (v := (nI (i + 4))) (lv' := [(3, .int (nI (i + 4))), (0, .ref b0), (1, .ref hF), (2, .ref hM)]) hx hb dL_law_424 hl (k := 0) rfl (nI_add i 4) (by decide) rfl (fun ls hl => ?_)
      refine lv_goto (tgt := 18) hx hb dL_law_427 (by decide) ?_
      exact ih (i + 4) (by omega) (by omega) (u_F_turn_f f (xs ((nI i) + (1 : Int32)).toNatClampNeg)) (u_M_turn_g g b t w (xs ((nI i) + (1 : Int32)).toNatClampNeg)) b t w (by exact (P_turn hR _).2) hT H locs hP hD hS ls (lv_sub hl [0, 1, 2, 3] rfl)
    · refine lv_tableIn (off := 280) (tgt := 312) hx hb dL_law_32 (by decide) (by decide) (by decide) (by decide) ?_
      refine lv_aload_n hx hb dL_law_312 rfl (lv_at hl 2 rfl) ?_
      refine lv_aload_n hx hb dL_law_313 rfl (lv_at hl 1 rfl) ?_
      refine lv_iload_n hx hb dL_law_314 rfl (lv_at hl 0 rfl) ?_
      refine lv_iconst (v := (1 : Int32)) hx hb dL_law_315 (by decide) ?_
      refine lv_iadd hx hb dL_law_316 ?_
      refine va_sld hx hb hX hbl hbA hS (s_in hlt (k := 1) (by decide)) dL_law_317 ?_
      refine lv_aload_n hx hb dL_law_318 rfl (lv_at hl 1 rfl) ?_
      refine lv_iload_n hx hb dL_law_319 rfl (lv_at hl 0 rfl) ?_
      refine lv_iconst (v := (2 : Int32)) hx hb dL_law_320 (by decide) ?_
      refine lv_iadd hx hb dL_law_321 ?_
      refine va_sld hx hb hX hbl hbA hS (s_in hlt (k := 2) (by decide)) dL_law_322 ?_
      refine lv_aload_n hx hb dL_law_323 rfl (lv_at hl 1 rfl) ?_
      refine lv_iload_n hx hb dL_law_324 rfl (lv_at hl 0 rfl) ?_
      refine lv_iconst (v := (3 : Int32)) hx hb dL_law_325 (by decide) ?_
      refine lv_iadd hx hb dL_law_326 ?_
      refine va_sld hx hb hX hbl hbA hS (s_in hlt (k := 3) (by decide)) dL_law_327 ?_
      refine kk_callP (va_runV (As := [.int (xs ((nI i) + (1 : Int32)).toNatClampNeg), .int (xs ((nI i) + (2 : Int32)).toNatClampNeg), .int (xs ((nI i) + (3 : Int32)).toNatClampNeg)]) (rest := []) ⟨hx, hb, hml, hown, hts⟩ (c_F_compare l dC dI hF qF kF f (xs ((nI i) + (1 : Int32)).toNatClampNeg) (xs ((nI i) + (2 : Int32)).toNatClampNeg) (xs ((nI i) + (3 : Int32)).toNatClampNeg)) (cwV 3 hts (gV tw_85 tw_86 tw_87 tw_1 tw_88) rfl rfl rfl (by decide +kernel) ⟨Nat.le_of_ble_eq_true rfl, Nat.le_of_ble_eq_true rfl⟩) ⟨fun a U g mk q => ⟨q.1, q.2.1, va_K.moved (u := U) (U := U.calling g mk a) (Vm.Alike.refl U.vm) q.2.2⟩, va_recv hK hP (ci := 0) (q0 := 0) rfl rfl, fun U hU hW => ⟨rfl, by rw [hU]; exact hP.sub [0, 1] rfl, va_K.moved hW.alike (hK.sub [0] rfl)⟩⟩ rfl rfl hl.1 rfl (lv_room (Nat.le_of_ble_eq_true rfl)) dL_law_328 ⟨Nat.le_of_ble_eq_true rfl, Nat.le_of_ble_eq_true rfl⟩) hS hP (fun H locs hS hP => ?_)
      refine lv_aload_n hx hb dL_law_331 rfl (lv_at hl 3 rfl) ?_
      refine lv_aload_n hx hb dL_law_332 rfl (lv_at hl 1 rfl) ?_
      refine lv_iload_n hx hb dL_law_333 rfl (lv_at hl 0 rfl) ?_
      refine lv_iconst (v := (1 : Int32)) hx hb dL_law_334 (by decide) ?_
      refine lv_iadd hx hb dL_law_335 ?_
      refine va_sld hx hb hX hbl hbA hS (s_in hlt (k := 1) (by decide)) dL_law_336 ?_
      refine lv_aload_n hx hb dL_law_337 rfl (lv_at hl 1 rfl) ?_
      refine lv_iload_n hx hb dL_law_338 rfl (lv_at hl 0 rfl) ?_
      refine lv_iconst (v := (2 : Int32)) hx hb dL_law_339 (by decide) ?_
      refine lv_iadd hx hb dL_law_340 ?_
      refine va_sld hx hb hX hbl hbA hS (s_in hlt (k := 2) (by decide)) dL_law_341 ?_
      refine lv_aload_n hx hb dL_law_342 rfl (lv_at hl 1 rfl) ?_
      refine lv_iload_n hx hb dL_law_343 rfl (lv_at hl 0 rfl) ?_
      refine lv_iconst (v := (3 : Int32)) hx hb dL_law_344 (by decide) ?_
      refine lv_iadd hx hb dL_law_345 ?_
      refine va_sld hx hb hX hbl hbA hS (s_in hlt (k := 3) (by decide)) dL_law_346 ?_
      refine kk_callP (va_runV (As := [.int (xs ((nI i) + (1 : Int32)).toNatClampNeg), .int (xs ((nI i) + (2 : Int32)).toNatClampNeg), .int (xs ((nI i) + (3 : Int32)).toNatClampNeg)]) (rest := [.int (f_F_compare f (xs ((nI i) + (1 : Int32)).toNatClampNeg) (xs ((nI i) + (2 : Int32)).toNatClampNeg) (xs ((nI i) + (3 : Int32)).toNatClampNeg))]) ⟨hx, hb, hml, hown, hts⟩ (c_M_compare l dC dI hM q1 q2 q3 q4 k1 k2 k3 k4 g b t w (xs ((nI i) + (1 : Int32)).toNatClampNeg) (xs ((nI i) + (2 : Int32)).toNatClampNeg) (xs ((nI i) + (3 : Int32)).toNatClampNeg)) (cwV 3 hts (gV tw_273 tw_274 tw_275 tw_2 tw_276) rfl rfl rfl (by decide +kernel) ⟨Nat.le_of_ble_eq_true rfl, Nat.le_of_ble_eq_true rfl⟩) ⟨fun a U g mk q => ⟨q.1, q.2.1, va_K.moved (u := U) (U := U.calling g mk a) (Vm.Alike.refl U.vm) q.2.2⟩, va_recv hK hP (ci := 1) (q0 := 2) rfl rfl, fun U hU hW => ⟨rfl, by rw [hU]; exact hP.sub [2, 3, 4, 5, 6] rfl, va_K.moved hW.alike (hK.sub [1, 2, 3, 4] rfl)⟩⟩ rfl rfl hl.1 rfl (lv_room (Nat.le_of_ble_eq_true rfl)) dL_law_347 ⟨Nat.le_of_ble_eq_true rfl, Nat.le_of_ble_eq_true rfl⟩) hS hP (fun H locs hS hP => ?_)
      refine lv_icmp_eq (tgt := 424) hx hb dL_law_350 (by decide) (fun _ => ?_) (fun c0 => absurd (by exact P_compare hR _ _ _) c0)
      refine lv_iinc (v := (nI (i + 4))) (lv' := [(3, .int (nI (i + 4))), (0, .ref b0), (1, .ref hF), (2, .ref hM)]) hx hb dL_law_424 hl (k := 0) rfl (nI_add i 4) (by decide) rfl (fun ls hl => ?_)
      refine lv_goto (tgt := 18) hx hb dL_law_427 (by decide) ?_
      exact ih (i + 4) (by omega) (by omega) f g b t w hR hT H locs hP hD hS ls (lv_sub hl [0, 1, 2, 3] rfl)
    · refine lv_tableIn (off := 323) (tgt := 355) hx hb dL_law_32 (by decide) (by decide) (by decide) (by decide) ?_
      refine lv_aload_n hx hb dL_law_355 rfl (lv_at hl 2 rfl) ?_
      refine lv_aload_n hx hb dL_law_356 rfl (lv_at hl 1 rfl) ?_
      refine lv_iload_n hx hb dL_law_357 rfl (lv_at hl 0 rfl) ?_
      refine lv_iconst (v := (1 : Int32)) hx hb dL_law_358 (by decide) ?_
      refine lv_iadd hx hb dL_law_359 ?_
      refine va_sld hx hb hX hbl hbA hS (s_in hlt (k := 1) (by decide)) dL_law_360 ?_
      refine kk_callP (va_runV (As := [.int (xs ((nI i) + (1 : Int32)).toNatClampNeg)]) (rest := []) ⟨hx, hb, hml, hown, hts⟩ (c_F_isField l hF (xs ((nI i) + (1 : Int32)).toNatClampNeg)) (cwV 1 hts (gV tw_89 tw_56 tw_57 tw_1 tw_58) rfl rfl rfl (by decide +kernel) ⟨Nat.le_of_ble_eq_true rfl, Nat.le_of_ble_eq_true rfl⟩) ⟨fun _ _ _ _ q => q, va_recv hK hP (ci := 0) (q0 := 0) rfl rfl, fun _ _ _ => ⟨rfl, trivial⟩⟩ rfl rfl hl.1 rfl (lv_room (Nat.le_of_ble_eq_true rfl)) dL_law_361 ⟨Nat.le_of_ble_eq_true rfl, Nat.le_of_ble_eq_true rfl⟩) hS hP (fun H locs hS hP => ?_)
      refine lv_aload_n hx hb dL_law_364 rfl (lv_at hl 3 rfl) ?_
      refine lv_aload_n hx hb dL_law_365 rfl (lv_at hl 1 rfl) ?_
      refine lv_iload_n hx hb dL_law_366 rfl (lv_at hl 0 rfl) ?_
      refine lv_iconst (v := (1 : Int32)) hx hb dL_law_367 (by decide) ?_
      refine lv_iadd hx hb dL_law_368 ?_
      refine va_sld hx hb hX hbl hbA hS (s_in hlt (k := 1) (by decide)) dL_law_369 ?_
      refine kk_callP (va_runV (As := [.int (xs ((nI i) + (1 : Int32)).toNatClampNeg)]) (rest := [.int (f_F_isField (xs ((nI i) + (1 : Int32)).toNatClampNeg))]) ⟨hx, hb, hml, hown, hts⟩ (c_M_isField l hM (xs ((nI i) + (1 : Int32)).toNatClampNeg)) (cwV 1 hts (gV tw_277 tw_278 tw_279 tw_2 tw_280) rfl rfl rfl (by decide +kernel) ⟨Nat.le_of_ble_eq_true rfl, Nat.le_of_ble_eq_true rfl⟩) ⟨fun _ _ _ _ q => q, va_recv hK hP (ci := 1) (q0 := 2) rfl rfl, fun _ _ _ => ⟨rfl, trivial⟩⟩ rfl rfl hl.1 rfl (lv_room (Nat.le_of_ble_eq_true rfl)) dL_law_370 ⟨Nat.le_of_ble_eq_true rfl, Nat.le_of_ble_eq_true rfl⟩) hS hP (fun H locs hS hP => ?_)
      refine lv_icmp_eq (tgt := 424) hx hb dL_law_373 (by decide) (fun _ => ?_) (fun c0 => absurd (P_isField _) c0)
      refine lv_iinc (v := (nI (i + 4))) (lv' := [(3, .int (nI (i + 4))), (0, .ref b0), (1, .ref hF), (2, .ref hM)]) hx hb dL_law_424 hl (k := 0) rfl (nI_add i 4) (by decide) rfl (fun ls hl => ?_)
      refine lv_goto (tgt := 18) hx hb dL_law_427 (by decide) ?_
      exact ih (i + 4) (by omega) (by omega) f g b t w hR hT H locs hP hD hS ls (lv_sub hl [0, 1, 2, 3] rfl)
    · refine lv_tableIn (off := 346) (tgt := 378) hx hb dL_law_32 (by decide) (by decide) (by decide) (by decide) ?_
      refine lv_aload_n hx hb dL_law_378 rfl (lv_at hl 2 rfl) ?_
      refine lv_aload_n hx hb dL_law_379 rfl (lv_at hl 1 rfl) ?_
      refine lv_iload_n hx hb dL_law_380 rfl (lv_at hl 0 rfl) ?_
      refine lv_iconst (v := (1 : Int32)) hx hb dL_law_381 (by decide) ?_
      refine lv_iadd hx hb dL_law_382 ?_
      refine va_sld hx hb hX hbl hbA hS (s_in hlt (k := 1) (by decide)) dL_law_383 ?_
      refine kk_callP (va_runV (As := [.int (xs ((nI i) + (1 : Int32)).toNatClampNeg)]) (rest := []) ⟨hx, hb, hml, hown, hts⟩ (c_F_letter l hF sK sV (xs ((nI i) + (1 : Int32)).toNatClampNeg)) (cwV 1 hts (gV tw_90 tw_91 tw_92 tw_1 tw_93) rfl rfl rfl (by decide +kernel) ⟨Nat.le_of_ble_eq_true rfl, Nat.le_of_ble_eq_true rfl⟩) ⟨fun _ _ _ _ q => ⟨q.1, q.2.bl⟩, va_recv hK hP (ci := 0) (q0 := 0) rfl rfl, fun U hU hW => ⟨rfl, hE.go hS hU hW⟩⟩ rfl rfl hl.1 rfl (lv_room (Nat.le_of_ble_eq_true rfl)) dL_law_384 ⟨Nat.le_of_ble_eq_true rfl, Nat.le_of_ble_eq_true rfl⟩) hS hP (fun H locs hS hP => ?_)
      refine lv_aload_n hx hb dL_law_387 rfl (lv_at hl 3 rfl) ?_
      refine lv_aload_n hx hb dL_law_388 rfl (lv_at hl 1 rfl) ?_
      refine lv_iload_n hx hb dL_law_389 rfl (lv_at hl 0 rfl) ?_
      refine lv_iconst (v := (1 : Int32)) hx hb dL_law_390 (by decide) ?_
      refine lv_iadd hx hb dL_law_391 ?_
      refine va_sld hx hb hX hbl hbA hS (s_in hlt (k := 1) (by decide)) dL_law_392 ?_
      refine kk_callP (va_runV (As := [.int (xs ((nI i) + (1 : Int32)).toNatClampNeg)]) (rest := [.int (f_F_letter (xs ((nI i) + (1 : Int32)).toNatClampNeg))]) ⟨hx, hb, hml, hown, hts⟩ (c_M_letter l dC dI hM q1 q2 q3 q4 k1 k2 k3 k4 g b t w (xs ((nI i) + (1 : Int32)).toNatClampNeg)) (cwV 1 hts (gV tw_281 tw_282 tw_283 tw_2 tw_284) rfl rfl rfl (by decide +kernel) ⟨Nat.le_of_ble_eq_true rfl, Nat.le_of_ble_eq_true rfl⟩) ⟨fun a U g mk q => ⟨q.1, q.2.1, va_K.moved (u := U) (U := U.calling g mk a) (Vm.Alike.refl U.vm) q.2.2⟩, va_recv hK hP (ci := 1) (q0 := 2) rfl rfl, fun U hU hW => ⟨rfl, by rw [hU]; exact hP.sub [2, 3, 4, 5, 6] rfl, va_K.moved hW.alike (hK.sub [1, 2, 3, 4] rfl)⟩⟩ rfl rfl hl.1 rfl (lv_room (Nat.le_of_ble_eq_true rfl)) dL_law_393 ⟨Nat.le_of_ble_eq_true rfl, Nat.le_of_ble_eq_true rfl⟩) hS hP (fun H locs hS hP => ?_)
      refine lv_icmp_eq (tgt := 424) hx hb dL_law_396 (by decide) (fun _ => ?_) (fun c0 => absurd (P_letter hT _) c0)
      refine lv_iinc (v := (nI (i + 4))) (lv' := [(3, .int (nI (i + 4))), (0, .ref b0), (1, .ref hF), (2, .ref hM)]) hx hb dL_law_424 hl (k := 0) rfl (nI_add i 4) (by decide) rfl (fun ls hl => ?_)
      refine lv_goto (tgt := 18) hx hb dL_law_427 (by decide) ?_
      exact ih (i + 4) (by omega) (by omega) f g b t w hR hT H locs hP hD hS ls (lv_sub hl [0, 1, 2, 3] rfl)
    · refine lv_tableIn (off := 369) (tgt := 401) hx hb dL_law_32 (by decide) (by decide) (by decide) (by decide) ?_
      refine lv_aload_n hx hb dL_law_401 rfl (lv_at hl 2 rfl) ?_
      refine lv_aload_n hx hb dL_law_402 rfl (lv_at hl 1 rfl) ?_
      refine lv_iload_n hx hb dL_law_403 rfl (lv_at hl 0 rfl) ?_
      refine lv_iconst (v := (1 : Int32)) hx hb dL_law_404 (by decide) ?_
      refine lv_iadd hx hb dL_law_405 ?_
      refine va_sld hx hb hX hbl hbA hS (s_in hlt (k := 1) (by decide)) dL_law_406 ?_
      refine kk_callP (va_runV (As := [.int (xs ((nI i) + (1 : Int32)).toNatClampNeg)]) (rest := []) ⟨hx, hb, hml, hown, hts⟩ (c_F_code l hF sK sV (xs ((nI i) + (1 : Int32)).toNatClampNeg)) (cwV 1 hts (gV tw_144 tw_145 tw_146 tw_1 tw_147) rfl rfl rfl (by decide +kernel) ⟨Nat.le_of_ble_eq_true rfl, Nat.le_of_ble_eq_true rfl⟩) ⟨fun _ _ _ _ q => ⟨q.1, q.2.bl⟩, va_recv hK hP (ci := 0) (q0 := 0) rfl rfl, fun U hU hW => ⟨rfl, hE.go hS hU hW⟩⟩ rfl rfl hl.1 rfl (lv_room (Nat.le_of_ble_eq_true rfl)) dL_law_407 ⟨Nat.le_of_ble_eq_true rfl, Nat.le_of_ble_eq_true rfl⟩) hS hP (fun H locs hS hP => ?_)
      refine lv_aload_n hx hb dL_law_410 rfl (lv_at hl 3 rfl) ?_
      refine lv_aload_n hx hb dL_law_411 rfl (lv_at hl 1 rfl) ?_
      refine lv_iload_n hx hb dL_law_412 rfl (lv_at hl 0 rfl) ?_
      refine lv_iconst (v := (1 : Int32)) hx hb dL_law_413 (by decide) ?_
      refine lv_iadd hx hb dL_law_414 ?_
      refine va_sld hx hb hX hbl hbA hS (s_in hlt (k := 1) (by decide)) dL_law_415 ?_
      refine kk_callP (va_runV (As := [.int (xs ((nI i) + (1 : Int32)).toNatClampNeg)]) (rest := [.int (f_F_code (xs ((nI i) + (1 : Int32)).toNatClampNeg))]) ⟨hx, hb, hml, hown, hts⟩ (c_M_code l dC dI hM q1 q2 q3 q4 k1 k2 k3 k4 g b t w (xs ((nI i) + (1 : Int32)).toNatClampNeg)) (cwV 1 hts (gV tw_285 tw_286 tw_287 tw_2 tw_288) rfl rfl rfl (by decide +kernel) ⟨Nat.le_of_ble_eq_true rfl, Nat.le_of_ble_eq_true rfl⟩) ⟨fun a U g mk q => ⟨q.1, q.2.1, va_K.moved (u := U) (U := U.calling g mk a) (Vm.Alike.refl U.vm) q.2.2⟩, va_recv hK hP (ci := 1) (q0 := 2) rfl rfl, fun U hU hW => ⟨rfl, by rw [hU]; exact hP.sub [2, 3, 4, 5, 6] rfl, va_K.moved hW.alike (hK.sub [1, 2, 3, 4] rfl)⟩⟩ rfl rfl hl.1 rfl (lv_room (Nat.le_of_ble_eq_true rfl)) dL_law_416 ⟨Nat.le_of_ble_eq_true rfl, Nat.le_of_ble_eq_true rfl⟩) hS hP (fun H locs hS hP => ?_)
      refine lv_icmp_eq (tgt := 424) hx hb dL_law_419 (by decide) (fun _ => ?_) (fun c0 => absurd (P_code hT _) c0)
      refine lv_iinc (v := (nI (i + 4))) (lv' := [(3, .int (nI (i + 4))), (0, .ref b0), (1, .ref hF), (2, .ref hM)]) hx hb dL_law_424 hl (k := 0) rfl (nI_add i 4) (by decide) rfl (fun ls hl => ?_)
      refine lv_goto (tgt := 18) hx hb dL_law_427 (by decide) ?_
      exact ih (i + 4) (by omega) (by omega) f g b t w hR hT H locs hP hD hS ls (lv_sub hl [0, 1, 2, 3] rfl)
    · refine lv_tableOut (tgt := 424) hx hb dL_law_32 (Or.inr (by rw [nI_toInt (by omega)]; omega)) (by decide) ?_
      refine lv_iinc (v := (nI (i + 4))) (lv' := [(3, .int (nI (i + 4))), (0, .ref b0), (1, .ref hF), (2, .ref hM)]) hx hb dL_law_424 hl (k := 0) rfl (nI_add i 4) (by decide) rfl (fun ls hl => ?_)
      refine lv_goto (tgt := 18) hx hb dL_law_427 (by decide) ?_
      exact ih (i + 4) (by omega) (by omega) f g b t w hR hT H locs hP hD hS ls (lv_sub hl [0, 1, 2, 3] rfl)
end
section
theorem st_el : ∀ j, j < 56 → Cond.eq (.elem (.field (.string "WordFields" 51) "java/lang/String" "value" "[B") (.int (Int32.ofNat j))) (.int (sby j)) ∈ flatC (Jvm.Cond.and given_1 narrow_1) := by decide +kernel
set_option maxHeartbeats 40000000 in
set_option maxRecDepth 100000 in
/-- THE LAW, from its entry -/
theorem whole_start {p : Program} {e : Env} {s : State} {m : MethodId} {below : List Frame} {meth : Method} {c : Code} (l : Launch) {b L : Nat} {xs : Nat → Int32} (hL : L ≤ 2048) (C0 : lw_At p s m meth c b L xs) : W p l e room_1 s m #[Value.ref b] below meth c s.heap [] 0 0 (lw_Z below #[Value.ref b] s) (entryFrame m ([Value.ref b] : List Value).toArray 4) := by
  obtain ⟨hx, hb, hr, hml, hown, hts, hX, hbl, hlocks, hgv⟩ := id C0
  have hts0 := hts
  have hts := fun (w : Cond) (h : w ∈ gw) => hts w (gw_in h)
  have hA : ∀ q : Nat, s.heap.size ≤ q → (fun q : Nat => s.heap.size ≤ q) q := fun _ h => h
  have hbA : ¬ (fun q : Nat => s.heap.size ≤ q) b := Nat.not_le.mpr hbl
  obtain ⟨c0, iS0, hKn0⟩ := u_known (C := RF) (T := TF) (N := 1) (n := 1) hts iF (hts _ tw_10)
  obtain ⟨c1, iS1, hKn1⟩ := u_known (C := RM) (T := TM) (N := 4) (n := 4) hts iM (hts _ tw_209)
  obtain ⟨dC, dI, hKc⟩ : ∃ (dC : Nat → ClassId) (dI : Nat → Nat → Nat), ∀ (k : Nat) (q : vw_C), vwCl[k]? = some q → u_Kn s q.1 q.2.1 q.2.2 (dC k) (dI k) := by
    refine ⟨fun k => if k = 0 then c0 else c1, fun k => if k = 0 then iS0 else iS1, ?_⟩
    intro k q hq
    match k, hq with
    | 0, hq => cases hq; exact hKn0
    | 1, hq => cases hq; exact hKn1
    | k + 2, hq => simp [vwCl] at hq
  have hS : va_S (fun q : Nat => s.heap.size ≤ q) s.heap s.heap [] := va_S.rf
  have hK : va_K (dC, dI) vwCl [] s := ⟨hKc, fun k q h => by simp at h⟩
  have hP : va_P (dC, dI) vwCl [] s.heap := fun k q h => by simp at h
  have hD : va_D (fun q : Nat => s.heap.size ≤ q) [] := ⟨fun i j p q h => by simp at h, fun k q h => by simp at h⟩
  have hs := flat_of_before _ hgv
  have hex : (Cond.exactly (.string "WordFields" 51) "java/lang/String").before #[Value.ref b] s = true := hs _ (by decide +kernel)
  have hco : (Cond.eq (.field (.string "WordFields" 51) "java/lang/String" "coder" "B") (.int 0)).before #[Value.ref b] s = true := hs _ (by decide +kernel)
  have har : (Cond.arrayOf (.field (.string "WordFields" 51) "java/lang/String" "value" "[B") .byte).before #[Value.ref b] s = true := hs _ (by decide +kernel)
  have hle : (Cond.eq (.length (.field (.string "WordFields" 51) "java/lang/String" "value" "[B")) (.int (Int32.ofNat 56))).before #[Value.ref b] s = true := hs _ (by decide +kernel)
  have hel : ∀ j : Nat, j < 56 → (Cond.eq (.elem (.field (.string "WordFields" 51) "java/lang/String" "value" "[B") (.int (Int32.ofNat j))) (.int (sby j))).before #[Value.ref b] s = true := fun j hj => hs _ (st_el j hj)
  have hcs : (Cond.eq (.static "java/lang/String" "COMPACT_STRINGS" "Z") (.int 1)).before #[Value.ref b] s = true := hs _ (by decide +kernel)
  have hzq : (Cond.isRef (.static "jdk/internal/util/Preconditions" "SIOOBE_FORMATTER" "Ljava/util/function/BiFunction;")).before #[Value.ref b] s = true := hs _ (by decide +kernel)
  have hnA : ∀ a : Nat, a < s.heap.size → ¬ (fun q : Nat => s.heap.size ≤ q) a := fun a h9 => Nat.not_le.mpr h9
  obtain ⟨adK, adV, hV, hEv⟩ := vk_Sof (A := (fun q : Nat => s.heap.size ≤ q)) (tm := fun _ => .string "WordFields" 51) (len := [56]) (byt := [ltL]) (N := 1) (fun i hi => by rcases (show i = 0 by omega) with rfl; decide) (fun _ _ => hex) (fun _ _ => hco) (fun _ _ => har) (fun i hi => by rcases (show i = 0 by omega) with rfl; exact hle) (fun i hi j hj => by rcases (show i = 0 by omega) with rfl; exact hel j hj) (fun i j hi hj hij => absurd (by omega) hij) hnA
  obtain ⟨hV1, hV2, hV3, hV4⟩ := hV.1 0 (by decide)
  obtain ⟨sK, esK⟩ : ∃ z, z = adK 0 := ⟨_, rfl⟩
  obtain ⟨sV, esV⟩ : ∃ z, z = adV 0 := ⟨_, rfl⟩
  have hE : sOK sK sV (fun q : Nat => s.heap.size ≤ q) s s.heap := by
    subst esK; subst esV
    exact ⟨hV1, hV2, hV3, hV4, va_Zof (hts0 _ (List.mem_append_right _ (List.mem_of_getElem? (i := 104) rfl))) (hts _ tw_4) (va_eqt hcs) hnA, va_Zqof (hts0 _ (List.mem_append_right _ (List.mem_of_getElem? (i := 120) rfl))) (hts _ tw_6) hzq hnA, vk_R.of (hts0 _ (List.mem_append_right _ (List.mem_of_getElem? (i := 94) rfl))) (hEv 0 (by decide))⟩
  have hl := lv_entry ([.ref b]) (n := 4) (Nat.le_of_ble_eq_true rfl)
  rw [lg_entry_eq]
  generalize (lg_sl ([.ref b]) ++ List.replicate (4 - (lg_sl ([.ref b])).length) Slot.unset).toArray = ls at hl ⊢
  have hl : lv_has ls 4 [(0, .ref b)] := hl
  refine va_new (ci := 0) (fs := [.null]) (C := RF) (T := TF) (N := 1) hx hb hts iF tyF tyF_ok hown (hts _ tw_9) (hts _ tw_10) (hts _ tw_1) hK hP hD hS hA rfl (fun j hj => by rcases (show j = 0 by omega) with rfl <;> rfl) (Nat.le_of_ble_eq_true rfl) (Nat.le_of_ble_eq_true rfl) dL_law_0 (fun hF H hP hD hS => ?_)
  have hP : va_P (dC, dI) vwCl [(hF, .inr (0, [.null]))] H := hP
  have hD : va_D (fun q : Nat => s.heap.size ≤ q) [(hF, .inr (0, [.null]))] := hD
  refine W.widen (k := 1) (n := 1) (by omega) (by omega) ?_
  refine lv_dup hx hb dL_law_3 rfl ?_
  have hPc := hP.sub (ws' := [(hF, .inr (0, [.null]))]) [0] rfl
  have hDc := hD.sub (ws' := [(hF, .inr (0, [.null]))]) [0] (by decide) rfl
  have hKc := hK.sub (tys' := []) [] rfl
  have hFc := va_free (wc := [(hF, .inr (0, [.null]))]) hD hS hA [0] rfl
  refine va_callv (va_runI (As := []) (rest := [.ref hF]) ⟨hx, hb, hml, hown, hts⟩ (c_F_init l dC dI hF H.size) (cwI 0 hts (gI tw_13) rfl rfl rfl (hts _ tw_1) (hts _ tw_11) (hts _ tw_12) rfl (by decide +kernel) ⟨Nat.le_of_ble_eq_true rfl, Nat.le_of_ble_eq_true rfl⟩) ⟨fun a U g mk q => ⟨q.1, q.2.1, q.2.2.1, va_K.moved (u := U) (U := U.calling g mk a) (Vm.Alike.refl U.vm) q.2.2.2.1, q.2.2.2.2⟩, fun U hU hW => ⟨rfl, by rw [hU], by rw [hU]; exact hPc, va_K.moved hW.alike hKc, hDc.weaken (fun _ _ _ _ => trivial)⟩⟩ rfl rfl hl.1 rfl (lv_room (Nat.le_of_ble_eq_true rfl)) dL_law_4 ⟨Nat.le_of_ble_eq_true rfl, Nat.le_of_ble_eq_true rfl⟩) hS (fun q _ h => hFc q h) hFc (fun u t H1 locs ht hvm hw hB hz1 hk1 hS => ?_)
  obtain ⟨qF, kF, hP1, hK1, hD1⟩ := hB
  rw [ht] at hP1
  have hK1 := va_K.moved hvm.symm hK1
  obtain ⟨hP, hD⟩ := va_join (wr := []) (w1 := wsF hF qF kF (fun _ => 0)) hP hD [0] [] rfl rfl (by decide) (by decide) hk1 hFc hP1 hD1
  have hK := (hK.sub [] rfl).app hK1
  generalize H1 = H at hP hS ⊢
  have hP : va_P (dC, dI) vwCl (wsF hF qF kF (fun _ => 0)) H := hP
  have hD : va_D (fun q : Nat => s.heap.size ≤ q) (wsF hF qF kF (fun _ => 0)) := hD
  have hK : va_K (dC, dI) vwCl [(kF, .int)] s := hK
  refine W.widen (k := 2) (n := 17) (by omega) (by omega) ?_
  refine lv_astore_n (lv' := [(1, .ref hF), (0, .ref b)]) hx hb dL_law_7 rfl hl (by decide) rfl (fun ls hl => ?_)
  refine va_new (ci := 1) (fs := [.null, .null, .null, .null]) (C := RM) (T := TM) (N := 4) hx hb hts iM tyM tyM_ok hown (hts _ tw_208) (hts _ tw_209) (hts _ tw_2) hK hP hD hS hA rfl (fun j hj => by rcases (show j = 0 ∨ j = 1 ∨ j = 2 ∨ j = 3 by omega) with rfl | rfl | rfl | rfl <;> rfl) (Nat.le_of_ble_eq_true rfl) (Nat.le_of_ble_eq_true rfl) dL_law_8 (fun hM H hP hD hS => ?_)
  have hP : va_P (dC, dI) vwCl ((wsF hF qF kF (fun _ => 0)) ++ [(hM, .inr (1, [.null, .null, .null, .null]))]) H := hP
  have hD : va_D (fun q : Nat => s.heap.size ≤ q) ((wsF hF qF kF (fun _ => 0)) ++ [(hM, .inr (1, [.null, .null, .null, .null]))]) := hD
  refine W.widen (k := 3) (n := 21) (by omega) (by omega) ?_
  refine lv_dup hx hb dL_law_11 rfl ?_
  have hPc := hP.sub (ws' := [(hM, .inr (1, [.null, .null, .null, .null]))]) [2] rfl
  have hDc := hD.sub (ws' := [(hM, .inr (1, [.null, .null, .null, .null]))]) [2] (by decide) rfl
  have hKc := hK.sub (tys' := []) [] rfl
  have hFc := va_free (wc := [(hM, .inr (1, [.null, .null, .null, .null]))]) hD hS hA [2] rfl
  refine va_callv (va_runI (As := []) (rest := [.ref hM]) ⟨hx, hb, hml, hown, hts⟩ (c_M_init l dC dI hM H.size) (cwI 0 hts (gI tw_212) rfl rfl rfl (hts _ tw_2) (hts _ tw_210) (hts _ tw_211) rfl (by decide +kernel) ⟨Nat.le_of_ble_eq_true rfl, Nat.le_of_ble_eq_true rfl⟩) ⟨fun a U g mk q => ⟨q.1, q.2.1, q.2.2.1, va_K.moved (u := U) (U := U.calling g mk a) (Vm.Alike.refl U.vm) q.2.2.2.1, q.2.2.2.2⟩, fun U hU hW => ⟨rfl, by rw [hU], by rw [hU]; exact hPc, va_K.moved hW.alike hKc, hDc.weaken (fun _ _ _ _ => trivial)⟩⟩ rfl rfl hl.1 rfl (lv_room (Nat.le_of_ble_eq_true rfl)) dL_law_12 ⟨Nat.le_of_ble_eq_true rfl, Nat.le_of_ble_eq_true rfl⟩) hS (fun q _ h => hFc q h) hFc (fun u t H1 locs ht hvm hw hB hz1 hk1 hS => ?_)
  obtain ⟨q1, q2, q3, q4, k1, k2, k3, k4, hP1, hK1, hD1⟩ := hB
  rw [ht] at hP1
  have hK1 := va_K.moved hvm.symm hK1
  obtain ⟨hP, hD⟩ := va_join (wr := (wsF hF qF kF (fun _ => 0))) (w1 := wsM hM q1 q2 q3 q4 k1 k2 k3 k4 (fun _ => 0) (fun _ => 0) (ltS 56) (fun _ => 0)) hP hD [2] [0, 1] rfl rfl (by decide) (by decide) hk1 hFc hP1 hD1
  have hK := (hK.sub [0] rfl).app hK1
  generalize H1 = H at hP hS ⊢
  have hP : va_P (dC, dI) vwCl (wsL hF qF kF hM q1 q2 q3 q4 k1 k2 k3 k4 (fun _ => 0) (fun _ => 0) (fun _ => 0) (ltS 56) (fun _ => 0)) H := hP
  have hD : va_D (fun q : Nat => s.heap.size ≤ q) (wsL hF qF kF hM q1 q2 q3 q4 k1 k2 k3 k4 (fun _ => 0) (fun _ => 0) (fun _ => 0) (ltS 56) (fun _ => 0)) := hD
  have hK : va_K (dC, dI) vwCl [(kF, .int), (k1, .boolean), (k2, .int), (k3, .int), (k4, .int)] s := hK
  refine W.widen (k := 7) (n := 195) (by omega) (by omega) ?_
  refine lv_astore_n (lv' := [(2, .ref hM), (1, .ref hF), (0, .ref b)]) hx hb dL_law_15 rfl hl (by decide) rfl (fun ls hl => ?_)
  refine lv_iconst (v := 0) hx hb dL_law_16 (by decide) ?_
  refine lv_istore_n (lv' := [(3, .int 0), (2, .ref hM), (1, .ref hF), (0, .ref b)]) hx hb dL_law_17 rfl hl (by decide) rfl (fun ls hl => ?_)
  exact law_loop (sK := sK) (sV := sV) hL C0 hK hE (L + 1) 0 (Nat.zero_le L) (by omega) _ _ _ _ _ Rel_0 rfl H _ hP hD hS ls (lv_sub hl [0, 3, 2, 1] rfl)
end
section
-- ===== YOUR PART ENDS =====
set_option maxHeartbeats 4000000 in
theorem lw_walk (l : Launch) (b : Addr) (xs : List Int32) : MetFree l x (headSpec (Jvm.Cond.code x code maxLocals ret :: tables_1) room_1) (lw_P b xs) (fun _ _ _ _ _ => True) lw_Q := by
  refine MetFree.of_bodyS (code := code) (maxLocals := maxLocals) (ret := ret) (by decide) ?_ ?_
  · intro args s m h hn
    obtain ⟨meth, c, h1, h2, h3, h4, h5, h6, -, -⟩ := Cond.code_spec hn (atoms_spec (ws := Jvm.Cond.code x code maxLocals ret :: tables_1) h _ List.mem_cons_self)
    exact ⟨meth, c, h1, h2, h3, h4, h5, h6⟩
  · intro p e s m args below meth c s₁ B hml0 hP _
    obtain ⟨rfl, hx, hbd, hgv⟩ := hP
    obtain ⟨scr, harrAt, hlist, hof, hsmall⟩ := hx
    obtain ⟨hcb, hkn, -, -⟩ := State.arrayAt?_spec harrAt
    have hown : s.vm.findClass R_law = some m.cls := findClass_of_methodNamed B.named
    have hts0 : ∀ c ∈ (Jvm.Cond.code x code maxLocals ret :: tables_1), c.before #[Value.ref b] s = true := atoms_spec (ws := Jvm.Cond.code x code maxLocals ret :: tables_1) B.pre
    have hts : ∀ w ∈ lw_tbl, w.before #[Value.ref b] s = true := k2_hts_sels lw_privs (fun w hw => hts0 w (List.mem_cons_of_mem _ hw)) lw_privs_ok
    have hml : c.maxLocals = 4 := B.maxLocals_eq (hts0 _ List.mem_cons_self)
    have X₀ : Stand p l e room_1 s m #[Value.ref b] below meth c s₁ [] 0 0 := Stand.of_body B
    have hh0 : s₁.heap = s.heap := by rw [B.state]; rfl
    have hsz : scr.slots.size = xs.length := by rw [← Array.length_toList, hlist, List.length_map]
    have hval : ∀ j : Nat, j < xs.length → scr.slots[j]? = some (.int (xs.getD j 0)) := fun j hj => by
      rw [← Array.getElem?_toList, hlist]
      simp [hj]
    have hbl : b < s.heap.size := (Array.getElem?_eq_some_iff.mp hcb).1
    have hX : va_X b xs.length (fun j => xs.getD j 0) s s.heap := ⟨scr, hcb, hof, hkn, hsz, hval⟩
    have K : W p l e room_1 s m #[Value.ref b] below meth c s₁.heap [] 0 0 (lw_Z below #[Value.ref b] s) (entryFrame m ([Value.ref b] : List Value).toArray 4) := by
      rw [hh0]
      exact whole_start l hbd ⟨B.exec, B.bytes, B.returns, hml, hown, hts, hX, hbl, B.notSynchronized, hgv⟩
    obtain ⟨t, a1, o, b1, b2, b3⟩ := K s₁ rfl X₀
    exact ⟨t, o, a1, b1, b2, b3⟩
theorem lw_pre_spec {args : Array Value} {s : State} (h : (Jvm.Cond.and given_1 narrow_1).before args s = true) (hr : rest_1_c.before args s = true) : ∃ (b : Addr) (xs : List Int32), lw_P b xs args s := by
  have hs := flat_of_before _ h
  have hq := flat_of_before _ hr
  have hc : (Cond.count 1).before args s = true := hs _ (by decide +kernel)
  have harr : (Cond.arrayOf (.arg 0) .int).before args s = true := hs _ (by decide +kernel)
  have hle : (Cond.le (.length (.arg 0)) (.int 2048)).before args s = true := hs _ (by decide +kernel)
  have hlen : (Cond.isInt (.length (.arg 0))).before args s = true := hq _ (by decide +kernel)
  have hall : (Cond.all (.arg 0) (.isInt (.elem (.arg 0) (.index 0)))).before args s = true := hq _ (by decide +kernel)
  obtain ⟨b, xs, hb, hx⟩ := State.ints_of_pre rfl harr hlen hall
  have hsm : xs.length < 2 ^ 31 := hx.choose_spec.2.2.2
  have hev : (Term.length (.arg 0)).eval args s none [] s = some (.int xs.length.toInt32) := hx.length_eval hb
  have hv := Cond.le_ints hev (show (Term.int 2048).eval args s none [] s = some (.int 2048) from rfl)
  have hd : xs.length.toInt32 ≤ 2048 := by
    simpa [Cond.before, Cond.holds, hv] using hle
  have hN : xs.length ≤ 2048 := (Int32.ofNat_le_ofNat hsm (by decide)).mp (show Int32.ofNat xs.length ≤ Int32.ofNat 2048 from hd)
  exact ⟨b, xs, Cond.one_arg hc (show args[0]? = some (.ref b) from hb), hx, hN, h⟩
theorem lw_comes (l : Launch) : Comes l x (Jvm.Cond.code x code maxLocals ret :: tables_1) room_1 (fun tb e args s => Calls_1 tb e args s ∧ rest_1 tb e args s ∧ Pre_1 tb e args s)
    (fun _ _ args s o t => lw_Q args s o t) := by
  intro p e ha hc hk s m args below hf hfit hheap happ hpre
  obtain ⟨b, xs, hP⟩ := lw_pre_spec hpre.2.2 hpre.2.1
  obtain ⟨k, o, h1, h2, h3, hQ⟩ := lw_walk l b xs p e ha hc hk s m args below hf ((Spec.applies_iff_loose hf).mp happ).1 hP trivial
  exact ⟨k, o, h1, h2, h3, hQ⟩
theorem lw_frame {s t : State} {o : Outcome} {args : Array Value} (h : Framed s o t [] 7 195) :
    Framed s o t (fieldLocs frame_1_writes args s ++ arrayLocs frame_1_arrays args s ++ staticLocs frame_1_statics s) 7 195 := h
theorem lw_limb (L : Cond) (hL : ∀ (args : Array Value) (s t : State), L.after args s (.returned (some (.int 1))) t = true) :
    ArmFor flags0 classFile x code maxLocals ret World_1 tables_1 room_1 Calls_1 rest_1 Pre_1
      (fun tb e a s o t => postC L tb e a s o t ∧ Framed s o t (fieldLocs frame_1_writes a s ++ arrayLocs frame_1_arrays a s ++ staticLocs frame_1_statics s) 7 195) := by
  intro l _ _ _ p e ha hc hk s m args below hf hfit hheap happ hpre
  obtain ⟨k, o, h1, h2, h3, rfl, hF⟩ := lw_comes l p e ha hc hk s m args below hf hfit hheap happ hpre
  exact ⟨k, _, h1, h2, h3, hL args s _, lw_frame hF⟩
theorem i_vc : Claimed_1_1 ∧ Claimed_1_2 := ⟨lw_limb limb_1_1 (fun args s t => by simp [limb_1_1, Cond.after, Cond.holds, Cond.value]), lw_limb limb_1_2 (fun args s t => Cond.after_iff.mpr (by
  first | (rw [show limb_1_2 = Cond.eq .result (.int 1) from rfl, Cond.eq_ints (x := 1) (y := 1) rfl rfl]; simp; done) | (simp [limb_1_2, Cond.value, Term.eval]; done)))⟩
end
