section
-- ===== PART A: goes FIRST, ahead of the names: the tables' words, and 'selects' of the private methods out of them =====
/-- a private method of a class that the tables say can be made, by its rows of tables_1 -/
def lw_okq (q : MethodName × Nat) : Prop := (q.1.cls ≠ "java/lang/invoke/MethodHandle" ∧ q.1.cls ≠ "java/lang/invoke/VarHandle") ∧ Cond.instantiable q.1.cls q.2 ∈ tables_1 ∧ Cond.privateMethod q.1 ∈ tables_1 ∧ Cond.instanceMethod q.1 ∈ tables_1
theorem lw_p0 : lw_okq (⟨"WordFieldsModel", "number", "(III)I"⟩, 4) := ⟨⟨by decide +kernel, by decide +kernel⟩, List.mem_of_getElem? (i := 209) (by decide +kernel), List.mem_of_getElem? (i := 243) (by decide +kernel), List.mem_of_getElem? (i := 244) (by decide +kernel)⟩
theorem lw_p1 : lw_okq (⟨"WordFieldsModel", "may", "(III)Z"⟩, 4) := ⟨⟨by decide +kernel, by decide +kernel⟩, List.mem_of_getElem? (i := 209) (by decide +kernel), List.mem_of_getElem? (i := 256) (by decide +kernel), List.mem_of_getElem? (i := 257) (by decide +kernel)⟩
def lw_privs_1 : List (MethodName × Nat) := [(⟨"WordFieldsModel", "number", "(III)I"⟩, 4), (⟨"WordFieldsModel", "may", "(III)Z"⟩, 4)]
theorem lw_r1 : ∀ q ∈ lw_privs_1, lw_okq q := List.forall_mem_cons.mpr ⟨lw_p0, List.forall_mem_cons.mpr ⟨lw_p1, fun _ h => absurd h List.not_mem_nil⟩⟩
def lw_privs : List (MethodName × Nat) := lw_privs_1
def lw_tbl : List Cond := k2_sels lw_privs ++ tables_1
theorem lw_privs_ok : ∀ q ∈ lw_privs, lw_okq q := lw_r1

/-! the words that a callee may take along -/
def gw : List Cond := lw_tbl.filter goodWord
theorem gw_in {w : Cond} (h : w ∈ gw) : w ∈ lw_tbl := (List.mem_filter.mp h).1
theorem gw_g {w : Cond} (h : w ∈ gw) : (w.onTables && w.keeps) = true ∨ ∃ ty, w = .arrayClass ty := good_of_word (List.mem_filter.mp h).2
theorem gw_of {w : Cond} (i : Nat) (h : tables_1[i]? = some w) (hg : goodWord w = true) : w ∈ gw := List.mem_filter.mpr ⟨List.mem_append_right _ (List.mem_of_getElem? h), hg⟩
theorem gI {y : MethodName} {b : ByteArray} {k : Nat} {r : Option FieldType} (h : Cond.code y b k r ∈ gw) : GoodIn gw (Cond.code y b k r :: gw) := fun w hw => by
  rcases List.mem_cons.mp hw with rfl | hw
  · exact ⟨h, gw_g h⟩
  · exact ⟨hw, gw_g hw⟩
theorem gS {own : String} {idx : Nat} {y : MethodName} {b : ByteArray} {k : Nat} {r : Option FieldType} (h1 : Cond.methodLink own idx y ∈ gw) (h2 : Cond.static y ∈ gw) (h3 : Cond.initialized y.cls ∈ gw) (h4 : Cond.code y b k r ∈ gw) : GoodIn gw (va_wsS own idx y (Cond.code y b k r :: gw)) := fun w hw => by
  unfold va_wsS at hw
  rcases List.mem_append.mp hw with hw | hw
  · simp only [List.mem_cons, List.not_mem_nil, or_false] at hw
    rcases hw with rfl | rfl | rfl
    · exact ⟨h1, gw_g h1⟩
    · exact ⟨h2, gw_g h2⟩
    · exact ⟨h3, gw_g h3⟩
  · exact gI h4 w hw
theorem gV {own : String} {idx : Nat} {C : String} {y : MethodName} {b : ByteArray} {k : Nat} {r : Option FieldType} (h1 : Cond.methodLink own idx y ∈ gw) (h2 : Cond.instanceMethod y ∈ gw) (h3 : Cond.selects C y y ∈ gw) (h4 : Cond.initialized C ∈ gw) (h5 : Cond.code y b k r ∈ gw) : GoodIn gw (wsV own idx C y (Cond.code y b k r :: gw)) := fun w hw => by
  unfold wsV at hw
  rcases List.mem_append.mp hw with hw | hw
  · simp only [List.mem_cons, List.not_mem_nil, or_false] at hw
    rcases hw with rfl | rfl | rfl | rfl
    · exact ⟨h1, gw_g h1⟩
    · exact ⟨h2, gw_g h2⟩
    · exact ⟨h3, gw_g h3⟩
    · exact ⟨h4, gw_g h4⟩
  · exact gI h5 w hw
theorem tw_p0 : Cond.selects "WordFieldsModel" ⟨"WordFieldsModel", "number", "(III)I"⟩ ⟨"WordFieldsModel", "number", "(III)I"⟩ ∈ gw := List.mem_filter.mpr ⟨List.mem_append_left _ (List.mem_of_getElem? (i := 0) rfl), rfl⟩
theorem tw_p1 : Cond.selects "WordFieldsModel" ⟨"WordFieldsModel", "may", "(III)Z"⟩ ⟨"WordFieldsModel", "may", "(III)Z"⟩ ∈ gw := List.mem_filter.mpr ⟨List.mem_append_left _ (List.mem_of_getElem? (i := 1) rfl), rfl⟩
theorem tw_mmax : Cond.code Lib.Math.max.name Lib.Math.max.code 2 (some .int) ∈ gw := gw_of 73 rfl rfl
theorem tw_mmin : Cond.code Lib.Math.min.name Lib.Math.min.code 2 (some .int) ∈ gw := gw_of 169 rfl rfl
theorem tw_obj : Cond.code objectInit ⟨#[0xb1]⟩ 1 none ∈ gw := gw_of 16 rfl rfl

theorem tw_1 : (Jvm.Cond.initialized "WordFields") ∈ gw := gw_of 1 rfl rfl
theorem tw_2 : (Jvm.Cond.initialized "WordFieldsModel") ∈ gw := gw_of 2 rfl rfl
theorem tw_3 : (Jvm.Cond.initialized "java/lang/Math") ∈ gw := gw_of 3 rfl rfl
theorem tw_4 : (Jvm.Cond.initialized "java/lang/String") ∈ gw := gw_of 4 rfl rfl
theorem tw_5 : (Jvm.Cond.initialized "java/lang/StringLatin1") ∈ gw := gw_of 5 rfl rfl
theorem tw_6 : (Jvm.Cond.initialized "jdk/internal/util/Preconditions") ∈ gw := gw_of 6 rfl rfl
theorem tw_9 : (Jvm.Cond.classLink "WordFieldsLaw" (7 : Nat) "WordFields") ∈ gw := gw_of 9 rfl rfl
theorem tw_10 : (Jvm.Cond.instantiable "WordFields" (1 : Nat)) ∈ gw := gw_of 10 rfl rfl
theorem tw_11 : (Jvm.Cond.methodLink "WordFieldsLaw" (9 : Nat) ({ cls := "WordFields", name := "<init>", desc := "()V" } : Jvm.MethodName)) ∈ gw := gw_of 11 rfl rfl
theorem tw_12 : (Jvm.Cond.instanceMethod ({ cls := "WordFields", name := "<init>", desc := "()V" } : Jvm.MethodName)) ∈ gw := gw_of 12 rfl rfl
theorem tw_13 : (Jvm.Cond.code ({ cls := "WordFields", name := "<init>", desc := "()V" } : Jvm.MethodName) prog_1_method_1_code (1 : Nat) (Option.none : Option Jvm.ClassFile.FieldType)) ∈ gw := gw_of 13 rfl rfl
theorem tw_14 : (Jvm.Cond.methodLink "WordFields" (5 : Nat) ({ cls := "java/lang/Object", name := "<init>", desc := "()V" } : Jvm.MethodName)) ∈ gw := gw_of 14 rfl rfl
theorem tw_15 : (Jvm.Cond.instanceMethod ({ cls := "java/lang/Object", name := "<init>", desc := "()V" } : Jvm.MethodName)) ∈ gw := gw_of 15 rfl rfl
theorem tw_17 : (Jvm.Cond.fieldLink "WordFields" (11 : Nat) "WordFields" "words" "[I") ∈ gw := gw_of 17 rfl rfl
theorem tw_21 : (Jvm.Cond.arrayClass Jvm.ClassFile.FieldType.int) ∈ gw := gw_of 21 rfl rfl
theorem tw_22 : (Jvm.Cond.methodLink "WordFieldsLaw" (13 : Nat) ({ cls := "WordFields", name := "set", desc := "(IIZ)Z" } : Jvm.MethodName)) ∈ gw := gw_of 22 rfl rfl
theorem tw_23 : (Jvm.Cond.instanceMethod ({ cls := "WordFields", name := "set", desc := "(IIZ)Z" } : Jvm.MethodName)) ∈ gw := gw_of 23 rfl rfl
theorem tw_24 : (Jvm.Cond.selects "WordFields" ({ cls := "WordFields", name := "set", desc := "(IIZ)Z" } : Jvm.MethodName) ({ cls := "WordFields", name := "set", desc := "(IIZ)Z" } : Jvm.MethodName)) ∈ gw := gw_of 24 rfl rfl
theorem tw_25 : (Jvm.Cond.code ({ cls := "WordFields", name := "set", desc := "(IIZ)Z" } : Jvm.MethodName) prog_1_method_2_code (5 : Nat) (Option.some Jvm.ClassFile.FieldType.boolean)) ∈ gw := gw_of 25 rfl rfl
theorem tw_26 : (Jvm.Cond.methodLink "WordFields" (15 : Nat) ({ cls := "WordFields", name := "isRegister", desc := "(I)Z" } : Jvm.MethodName)) ∈ gw := gw_of 26 rfl rfl
theorem tw_27 : (Jvm.Cond.static ({ cls := "WordFields", name := "isRegister", desc := "(I)Z" } : Jvm.MethodName)) ∈ gw := gw_of 27 rfl rfl
theorem tw_28 : (Jvm.Cond.code ({ cls := "WordFields", name := "isRegister", desc := "(I)Z" } : Jvm.MethodName) prog_1_method_12_code (1 : Nat) (Option.some Jvm.ClassFile.FieldType.boolean)) ∈ gw := gw_of 28 rfl rfl
theorem tw_29 : (Jvm.Cond.constant "WordFields" (19 : Nat) (1073741823 : Int32)) ∈ gw := gw_of 29 rfl rfl
theorem tw_30 : (Jvm.Cond.constant "WordFields" (20 : Nat) (-1073741823 : Int32)) ∈ gw := gw_of 30 rfl rfl
theorem tw_31 : (Jvm.Cond.constant "WordFields" (21 : Nat) (1073741824 : Int32)) ∈ gw := gw_of 31 rfl rfl
theorem tw_32 : (Jvm.Cond.methodLink "WordFieldsLaw" (18 : Nat) ({ cls := "WordFields", name := "value", desc := "(I)I" } : Jvm.MethodName)) ∈ gw := gw_of 32 rfl rfl
theorem tw_33 : (Jvm.Cond.instanceMethod ({ cls := "WordFields", name := "value", desc := "(I)I" } : Jvm.MethodName)) ∈ gw := gw_of 33 rfl rfl
theorem tw_34 : (Jvm.Cond.selects "WordFields" ({ cls := "WordFields", name := "value", desc := "(I)I" } : Jvm.MethodName) ({ cls := "WordFields", name := "value", desc := "(I)I" } : Jvm.MethodName)) ∈ gw := gw_of 34 rfl rfl
theorem tw_35 : (Jvm.Cond.code ({ cls := "WordFields", name := "value", desc := "(I)I" } : Jvm.MethodName) prog_1_method_3_code (3 : Nat) (Option.some Jvm.ClassFile.FieldType.int)) ∈ gw := gw_of 35 rfl rfl
theorem tw_36 : (Jvm.Cond.constant "WordFields" (22 : Nat) (2147483647 : Int32)) ∈ gw := gw_of 36 rfl rfl
theorem tw_37 : (Jvm.Cond.constant "WordFields" (23 : Nat) (-2147483648 : Int32)) ∈ gw := gw_of 37 rfl rfl
theorem tw_38 : (Jvm.Cond.methodLink "WordFields" (24 : Nat) ({ cls := "WordFields", name := "number", desc := "(I)I" } : Jvm.MethodName)) ∈ gw := gw_of 38 rfl rfl
theorem tw_39 : (Jvm.Cond.static ({ cls := "WordFields", name := "number", desc := "(I)I" } : Jvm.MethodName)) ∈ gw := gw_of 39 rfl rfl
theorem tw_40 : (Jvm.Cond.code ({ cls := "WordFields", name := "number", desc := "(I)I" } : Jvm.MethodName) prog_1_method_14_code (2 : Nat) (Option.some Jvm.ClassFile.FieldType.int)) ∈ gw := gw_of 40 rfl rfl
theorem tw_41 : (Jvm.Cond.methodLink "WordFields" (28 : Nat) ({ cls := "WordFields", name := "isMinus", desc := "(I)Z" } : Jvm.MethodName)) ∈ gw := gw_of 41 rfl rfl
theorem tw_42 : (Jvm.Cond.static ({ cls := "WordFields", name := "isMinus", desc := "(I)Z" } : Jvm.MethodName)) ∈ gw := gw_of 42 rfl rfl
theorem tw_43 : (Jvm.Cond.code ({ cls := "WordFields", name := "isMinus", desc := "(I)Z" } : Jvm.MethodName) prog_1_method_13_code (1 : Nat) (Option.some Jvm.ClassFile.FieldType.boolean)) ∈ gw := gw_of 43 rfl rfl
theorem tw_44 : (Jvm.Cond.methodLink "WordFieldsLaw" (23 : Nat) ({ cls := "WordFields", name := "byteOf", desc := "(II)I" } : Jvm.MethodName)) ∈ gw := gw_of 44 rfl rfl
theorem tw_45 : (Jvm.Cond.instanceMethod ({ cls := "WordFields", name := "byteOf", desc := "(II)I" } : Jvm.MethodName)) ∈ gw := gw_of 45 rfl rfl
theorem tw_46 : (Jvm.Cond.selects "WordFields" ({ cls := "WordFields", name := "byteOf", desc := "(II)I" } : Jvm.MethodName) ({ cls := "WordFields", name := "byteOf", desc := "(II)I" } : Jvm.MethodName)) ∈ gw := gw_of 46 rfl rfl
theorem tw_47 : (Jvm.Cond.code ({ cls := "WordFields", name := "byteOf", desc := "(II)I" } : Jvm.MethodName) prog_1_method_4_code (4 : Nat) (Option.some Jvm.ClassFile.FieldType.int)) ∈ gw := gw_of 47 rfl rfl
theorem tw_48 : (Jvm.Cond.methodLink "WordFields" (31 : Nat) ({ cls := "WordFields", name := "bitsRightOf", desc := "(I)I" } : Jvm.MethodName)) ∈ gw := gw_of 48 rfl rfl
theorem tw_49 : (Jvm.Cond.static ({ cls := "WordFields", name := "bitsRightOf", desc := "(I)I" } : Jvm.MethodName)) ∈ gw := gw_of 49 rfl rfl
theorem tw_50 : (Jvm.Cond.code ({ cls := "WordFields", name := "bitsRightOf", desc := "(I)I" } : Jvm.MethodName) prog_1_method_17_code (1 : Nat) (Option.some Jvm.ClassFile.FieldType.int)) ∈ gw := gw_of 50 rfl rfl
theorem tw_51 : (Jvm.Cond.methodLink "WordFieldsLaw" (28 : Nat) ({ cls := "WordFields", name := "load", desc := "(III)Z" } : Jvm.MethodName)) ∈ gw := gw_of 51 rfl rfl
theorem tw_52 : (Jvm.Cond.instanceMethod ({ cls := "WordFields", name := "load", desc := "(III)Z" } : Jvm.MethodName)) ∈ gw := gw_of 52 rfl rfl
theorem tw_53 : (Jvm.Cond.selects "WordFields" ({ cls := "WordFields", name := "load", desc := "(III)Z" } : Jvm.MethodName) ({ cls := "WordFields", name := "load", desc := "(III)Z" } : Jvm.MethodName)) ∈ gw := gw_of 53 rfl rfl
theorem tw_54 : (Jvm.Cond.code ({ cls := "WordFields", name := "load", desc := "(III)Z" } : Jvm.MethodName) prog_1_method_5_code (4 : Nat) (Option.some Jvm.ClassFile.FieldType.boolean)) ∈ gw := gw_of 54 rfl rfl
theorem tw_55 : (Jvm.Cond.methodLink "WordFields" (34 : Nat) ({ cls := "WordFields", name := "isField", desc := "(I)Z" } : Jvm.MethodName)) ∈ gw := gw_of 55 rfl rfl
theorem tw_56 : (Jvm.Cond.instanceMethod ({ cls := "WordFields", name := "isField", desc := "(I)Z" } : Jvm.MethodName)) ∈ gw := gw_of 56 rfl rfl
theorem tw_57 : (Jvm.Cond.selects "WordFields" ({ cls := "WordFields", name := "isField", desc := "(I)Z" } : Jvm.MethodName) ({ cls := "WordFields", name := "isField", desc := "(I)Z" } : Jvm.MethodName)) ∈ gw := gw_of 57 rfl rfl
theorem tw_58 : (Jvm.Cond.code ({ cls := "WordFields", name := "isField", desc := "(I)Z" } : Jvm.MethodName) prog_1_method_9_code (2 : Nat) (Option.some Jvm.ClassFile.FieldType.boolean)) ∈ gw := gw_of 58 rfl rfl
theorem tw_59 : (Jvm.Cond.methodLink "WordFields" (50 : Nat) ({ cls := "WordFields", name := "firstByte", desc := "(I)I" } : Jvm.MethodName)) ∈ gw := gw_of 59 rfl rfl
theorem tw_60 : (Jvm.Cond.static ({ cls := "WordFields", name := "firstByte", desc := "(I)I" } : Jvm.MethodName)) ∈ gw := gw_of 60 rfl rfl
theorem tw_61 : (Jvm.Cond.code ({ cls := "WordFields", name := "firstByte", desc := "(I)I" } : Jvm.MethodName) prog_1_method_15_code (1 : Nat) (Option.some Jvm.ClassFile.FieldType.int)) ∈ gw := gw_of 61 rfl rfl
theorem tw_62 : (Jvm.Cond.methodLink "WordFields" (44 : Nat) ({ cls := "WordFields", name := "lastByte", desc := "(I)I" } : Jvm.MethodName)) ∈ gw := gw_of 62 rfl rfl
theorem tw_63 : (Jvm.Cond.static ({ cls := "WordFields", name := "lastByte", desc := "(I)I" } : Jvm.MethodName)) ∈ gw := gw_of 63 rfl rfl
theorem tw_64 : (Jvm.Cond.code ({ cls := "WordFields", name := "lastByte", desc := "(I)I" } : Jvm.MethodName) prog_1_method_16_code (1 : Nat) (Option.some Jvm.ClassFile.FieldType.int)) ∈ gw := gw_of 64 rfl rfl
theorem tw_65 : (Jvm.Cond.methodLink "WordFields" (37 : Nat) ({ cls := "WordFields", name := "fieldOf", desc := "(II)I" } : Jvm.MethodName)) ∈ gw := gw_of 65 rfl rfl
theorem tw_66 : (Jvm.Cond.static ({ cls := "WordFields", name := "fieldOf", desc := "(II)I" } : Jvm.MethodName)) ∈ gw := gw_of 66 rfl rfl
theorem tw_67 : (Jvm.Cond.code ({ cls := "WordFields", name := "fieldOf", desc := "(II)I" } : Jvm.MethodName) prog_1_method_20_code (3 : Nat) (Option.some Jvm.ClassFile.FieldType.int)) ∈ gw := gw_of 67 rfl rfl
theorem tw_68 : (Jvm.Cond.methodLink "WordFields" (41 : Nat) ({ cls := "WordFields", name := "rightMask", desc := "(I)I" } : Jvm.MethodName)) ∈ gw := gw_of 68 rfl rfl
theorem tw_69 : (Jvm.Cond.static ({ cls := "WordFields", name := "rightMask", desc := "(I)I" } : Jvm.MethodName)) ∈ gw := gw_of 69 rfl rfl
theorem tw_70 : (Jvm.Cond.code ({ cls := "WordFields", name := "rightMask", desc := "(I)I" } : Jvm.MethodName) prog_1_method_18_code (2 : Nat) (Option.some Jvm.ClassFile.FieldType.int)) ∈ gw := gw_of 70 rfl rfl
theorem tw_71 : (Jvm.Cond.methodLink "WordFields" (71 : Nat) ({ cls := "java/lang/Math", name := "max", desc := "(II)I" } : Jvm.MethodName)) ∈ gw := gw_of 71 rfl rfl
theorem tw_72 : (Jvm.Cond.static ({ cls := "java/lang/Math", name := "max", desc := "(II)I" } : Jvm.MethodName)) ∈ gw := gw_of 72 rfl rfl
theorem tw_74 : (Jvm.Cond.methodLink "WordFields" (47 : Nat) ({ cls := "WordFields", name := "signMask", desc := "(I)I" } : Jvm.MethodName)) ∈ gw := gw_of 74 rfl rfl
theorem tw_75 : (Jvm.Cond.static ({ cls := "WordFields", name := "signMask", desc := "(I)I" } : Jvm.MethodName)) ∈ gw := gw_of 75 rfl rfl
theorem tw_76 : (Jvm.Cond.code ({ cls := "WordFields", name := "signMask", desc := "(I)I" } : Jvm.MethodName) prog_1_method_19_code (1 : Nat) (Option.some Jvm.ClassFile.FieldType.int)) ∈ gw := gw_of 76 rfl rfl
theorem tw_77 : (Jvm.Cond.methodLink "WordFieldsLaw" (33 : Nat) ({ cls := "WordFields", name := "store", desc := "(III)Z" } : Jvm.MethodName)) ∈ gw := gw_of 77 rfl rfl
theorem tw_78 : (Jvm.Cond.instanceMethod ({ cls := "WordFields", name := "store", desc := "(III)Z" } : Jvm.MethodName)) ∈ gw := gw_of 78 rfl rfl
theorem tw_79 : (Jvm.Cond.selects "WordFields" ({ cls := "WordFields", name := "store", desc := "(III)Z" } : Jvm.MethodName) ({ cls := "WordFields", name := "store", desc := "(III)Z" } : Jvm.MethodName)) ∈ gw := gw_of 79 rfl rfl
theorem tw_80 : (Jvm.Cond.code ({ cls := "WordFields", name := "store", desc := "(III)Z" } : Jvm.MethodName) prog_1_method_6_code (7 : Nat) (Option.some Jvm.ClassFile.FieldType.boolean)) ∈ gw := gw_of 80 rfl rfl
theorem tw_81 : (Jvm.Cond.methodLink "WordFieldsLaw" (37 : Nat) ({ cls := "WordFields", name := "turn", desc := "(I)Z" } : Jvm.MethodName)) ∈ gw := gw_of 81 rfl rfl
theorem tw_82 : (Jvm.Cond.instanceMethod ({ cls := "WordFields", name := "turn", desc := "(I)Z" } : Jvm.MethodName)) ∈ gw := gw_of 82 rfl rfl
theorem tw_83 : (Jvm.Cond.selects "WordFields" ({ cls := "WordFields", name := "turn", desc := "(I)Z" } : Jvm.MethodName) ({ cls := "WordFields", name := "turn", desc := "(I)Z" } : Jvm.MethodName)) ∈ gw := gw_of 83 rfl rfl
theorem tw_84 : (Jvm.Cond.code ({ cls := "WordFields", name := "turn", desc := "(I)Z" } : Jvm.MethodName) prog_1_method_7_code (2 : Nat) (Option.some Jvm.ClassFile.FieldType.boolean)) ∈ gw := gw_of 84 rfl rfl
theorem tw_85 : (Jvm.Cond.methodLink "WordFieldsLaw" (42 : Nat) ({ cls := "WordFields", name := "compare", desc := "(III)I" } : Jvm.MethodName)) ∈ gw := gw_of 85 rfl rfl
theorem tw_86 : (Jvm.Cond.instanceMethod ({ cls := "WordFields", name := "compare", desc := "(III)I" } : Jvm.MethodName)) ∈ gw := gw_of 86 rfl rfl
theorem tw_87 : (Jvm.Cond.selects "WordFields" ({ cls := "WordFields", name := "compare", desc := "(III)I" } : Jvm.MethodName) ({ cls := "WordFields", name := "compare", desc := "(III)I" } : Jvm.MethodName)) ∈ gw := gw_of 87 rfl rfl
theorem tw_88 : (Jvm.Cond.code ({ cls := "WordFields", name := "compare", desc := "(III)I" } : Jvm.MethodName) prog_1_method_8_code (6 : Nat) (Option.some Jvm.ClassFile.FieldType.int)) ∈ gw := gw_of 88 rfl rfl
theorem tw_89 : (Jvm.Cond.methodLink "WordFieldsLaw" (47 : Nat) ({ cls := "WordFields", name := "isField", desc := "(I)Z" } : Jvm.MethodName)) ∈ gw := gw_of 89 rfl rfl
theorem tw_90 : (Jvm.Cond.methodLink "WordFieldsLaw" (51 : Nat) ({ cls := "WordFields", name := "letter", desc := "(I)I" } : Jvm.MethodName)) ∈ gw := gw_of 90 rfl rfl
theorem tw_91 : (Jvm.Cond.instanceMethod ({ cls := "WordFields", name := "letter", desc := "(I)I" } : Jvm.MethodName)) ∈ gw := gw_of 91 rfl rfl
theorem tw_92 : (Jvm.Cond.selects "WordFields" ({ cls := "WordFields", name := "letter", desc := "(I)I" } : Jvm.MethodName) ({ cls := "WordFields", name := "letter", desc := "(I)I" } : Jvm.MethodName)) ∈ gw := gw_of 92 rfl rfl
theorem tw_93 : (Jvm.Cond.code ({ cls := "WordFields", name := "letter", desc := "(I)I" } : Jvm.MethodName) prog_1_method_10_code (2 : Nat) (Option.some Jvm.ClassFile.FieldType.int)) ∈ gw := gw_of 93 rfl rfl
theorem tw_95 : (Jvm.Cond.methodLink "WordFields" (55 : Nat) ({ cls := "java/lang/String", name := "length", desc := "()I" } : Jvm.MethodName)) ∈ gw := gw_of 95 rfl rfl
theorem tw_96 : (Jvm.Cond.instanceMethod ({ cls := "java/lang/String", name := "length", desc := "()I" } : Jvm.MethodName)) ∈ gw := gw_of 96 rfl rfl
theorem tw_97 : (Jvm.Cond.selects "java/lang/String" ({ cls := "java/lang/String", name := "length", desc := "()I" } : Jvm.MethodName) ({ cls := "java/lang/String", name := "length", desc := "()I" } : Jvm.MethodName)) ∈ gw := gw_of 97 rfl rfl
theorem tw_98 : (Jvm.Cond.code ({ cls := "java/lang/String", name := "length", desc := "()I" } : Jvm.MethodName) prog_6_method_54_code (1 : Nat) (Option.some Jvm.ClassFile.FieldType.int)) ∈ gw := gw_of 98 rfl rfl
theorem tw_99 : (Jvm.Cond.methodLink "java/lang/String" (335 : Nat) ({ cls := "java/lang/String", name := "coder", desc := "()B" } : Jvm.MethodName)) ∈ gw := gw_of 99 rfl rfl
theorem tw_100 : (Jvm.Cond.instanceMethod ({ cls := "java/lang/String", name := "coder", desc := "()B" } : Jvm.MethodName)) ∈ gw := gw_of 100 rfl rfl
theorem tw_101 : (Jvm.Cond.selects "java/lang/String" ({ cls := "java/lang/String", name := "coder", desc := "()B" } : Jvm.MethodName) ({ cls := "java/lang/String", name := "coder", desc := "()B" } : Jvm.MethodName)) ∈ gw := gw_of 101 rfl rfl
theorem tw_102 : (Jvm.Cond.code ({ cls := "java/lang/String", name := "coder", desc := "()B" } : Jvm.MethodName) prog_6_method_152_code (1 : Nat) (Option.some Jvm.ClassFile.FieldType.byte)) ∈ gw := gw_of 102 rfl rfl
theorem tw_103 : (Jvm.Cond.fieldLink "java/lang/String" (38 : Nat) "java/lang/String" "COMPACT_STRINGS" "Z") ∈ gw := gw_of 103 rfl rfl
theorem tw_105 : (Jvm.Cond.methodLink "WordFields" (61 : Nat) ({ cls := "java/lang/String", name := "charAt", desc := "(I)C" } : Jvm.MethodName)) ∈ gw := gw_of 105 rfl rfl
theorem tw_106 : (Jvm.Cond.instanceMethod ({ cls := "java/lang/String", name := "charAt", desc := "(I)C" } : Jvm.MethodName)) ∈ gw := gw_of 106 rfl rfl
theorem tw_107 : (Jvm.Cond.selects "java/lang/String" ({ cls := "java/lang/String", name := "charAt", desc := "(I)C" } : Jvm.MethodName) ({ cls := "java/lang/String", name := "charAt", desc := "(I)C" } : Jvm.MethodName)) ∈ gw := gw_of 107 rfl rfl
theorem tw_108 : (Jvm.Cond.code ({ cls := "java/lang/String", name := "charAt", desc := "(I)C" } : Jvm.MethodName) prog_6_method_56_code (2 : Nat) (Option.some Jvm.ClassFile.FieldType.char)) ∈ gw := gw_of 108 rfl rfl
theorem tw_109 : (Jvm.Cond.methodLink "java/lang/String" (492 : Nat) ({ cls := "java/lang/String", name := "isLatin1", desc := "()Z" } : Jvm.MethodName)) ∈ gw := gw_of 109 rfl rfl
theorem tw_110 : (Jvm.Cond.instanceMethod ({ cls := "java/lang/String", name := "isLatin1", desc := "()Z" } : Jvm.MethodName)) ∈ gw := gw_of 110 rfl rfl
theorem tw_111 : (Jvm.Cond.selects "java/lang/String" ({ cls := "java/lang/String", name := "isLatin1", desc := "()Z" } : Jvm.MethodName) ({ cls := "java/lang/String", name := "isLatin1", desc := "()Z" } : Jvm.MethodName)) ∈ gw := gw_of 111 rfl rfl
theorem tw_112 : (Jvm.Cond.code ({ cls := "java/lang/String", name := "isLatin1", desc := "()Z" } : Jvm.MethodName) prog_6_method_154_code (1 : Nat) (Option.some Jvm.ClassFile.FieldType.boolean)) ∈ gw := gw_of 112 rfl rfl
theorem tw_113 : (Jvm.Cond.methodLink "java/lang/String" (495 : Nat) ({ cls := "java/lang/StringLatin1", name := "charAt", desc := "([BI)C" } : Jvm.MethodName)) ∈ gw := gw_of 113 rfl rfl
theorem tw_114 : (Jvm.Cond.static ({ cls := "java/lang/StringLatin1", name := "charAt", desc := "([BI)C" } : Jvm.MethodName)) ∈ gw := gw_of 114 rfl rfl
theorem tw_115 : (Jvm.Cond.code ({ cls := "java/lang/StringLatin1", name := "charAt", desc := "([BI)C" } : Jvm.MethodName) prog_7_method_2_code (2 : Nat) (Option.some Jvm.ClassFile.FieldType.char)) ∈ gw := gw_of 115 rfl rfl
theorem tw_116 : (Jvm.Cond.methodLink "java/lang/StringLatin1" (9 : Nat) ({ cls := "java/lang/String", name := "checkIndex", desc := "(II)V" } : Jvm.MethodName)) ∈ gw := gw_of 116 rfl rfl
theorem tw_117 : (Jvm.Cond.static ({ cls := "java/lang/String", name := "checkIndex", desc := "(II)V" } : Jvm.MethodName)) ∈ gw := gw_of 117 rfl rfl
theorem tw_118 : (Jvm.Cond.code ({ cls := "java/lang/String", name := "checkIndex", desc := "(II)V" } : Jvm.MethodName) prog_6_method_155_code (2 : Nat) (Option.none : Option Jvm.ClassFile.FieldType)) ∈ gw := gw_of 118 rfl rfl
theorem tw_119 : (Jvm.Cond.fieldLink "java/lang/String" (1053 : Nat) "jdk/internal/util/Preconditions" "SIOOBE_FORMATTER" "Ljava/util/function/BiFunction;") ∈ gw := gw_of 119 rfl rfl
theorem tw_121 : (Jvm.Cond.methodLink "java/lang/String" (1059 : Nat) ({ cls := "jdk/internal/util/Preconditions", name := "checkIndex", desc := "(IILjava/util/function/BiFunction;)I" } : Jvm.MethodName)) ∈ gw := gw_of 121 rfl rfl
theorem tw_122 : (Jvm.Cond.static ({ cls := "jdk/internal/util/Preconditions", name := "checkIndex", desc := "(IILjava/util/function/BiFunction;)I" } : Jvm.MethodName)) ∈ gw := gw_of 122 rfl rfl
theorem tw_123 : (Jvm.Cond.code ({ cls := "jdk/internal/util/Preconditions", name := "checkIndex", desc := "(IILjava/util/function/BiFunction;)I" } : Jvm.MethodName) prog_9_method_11_code (3 : Nat) (Option.some Jvm.ClassFile.FieldType.int)) ∈ gw := gw_of 123 rfl rfl
theorem tw_144 : (Jvm.Cond.methodLink "WordFieldsLaw" (55 : Nat) ({ cls := "WordFields", name := "code", desc := "(I)I" } : Jvm.MethodName)) ∈ gw := gw_of 144 rfl rfl
theorem tw_145 : (Jvm.Cond.instanceMethod ({ cls := "WordFields", name := "code", desc := "(I)I" } : Jvm.MethodName)) ∈ gw := gw_of 145 rfl rfl
theorem tw_146 : (Jvm.Cond.selects "WordFields" ({ cls := "WordFields", name := "code", desc := "(I)I" } : Jvm.MethodName) ({ cls := "WordFields", name := "code", desc := "(I)I" } : Jvm.MethodName)) ∈ gw := gw_of 146 rfl rfl
theorem tw_147 : (Jvm.Cond.code ({ cls := "WordFields", name := "code", desc := "(I)I" } : Jvm.MethodName) prog_1_method_11_code (3 : Nat) (Option.some Jvm.ClassFile.FieldType.int)) ∈ gw := gw_of 147 rfl rfl
theorem tw_148 : (Jvm.Cond.methodLink "WordFields" (65 : Nat) ({ cls := "WordFields", name := "greatLetter", desc := "(I)I" } : Jvm.MethodName)) ∈ gw := gw_of 148 rfl rfl
theorem tw_149 : (Jvm.Cond.static ({ cls := "WordFields", name := "greatLetter", desc := "(I)I" } : Jvm.MethodName)) ∈ gw := gw_of 149 rfl rfl
theorem tw_150 : (Jvm.Cond.code ({ cls := "WordFields", name := "greatLetter", desc := "(I)I" } : Jvm.MethodName) prog_1_method_21_code (1 : Nat) (Option.some Jvm.ClassFile.FieldType.int)) ∈ gw := gw_of 150 rfl rfl
theorem tw_151 : (Jvm.Cond.methodLink "WordFields" (68 : Nat) ({ cls := "java/lang/String", name := "indexOf", desc := "(I)I" } : Jvm.MethodName)) ∈ gw := gw_of 151 rfl rfl
theorem tw_152 : (Jvm.Cond.instanceMethod ({ cls := "java/lang/String", name := "indexOf", desc := "(I)I" } : Jvm.MethodName)) ∈ gw := gw_of 152 rfl rfl
theorem tw_153 : (Jvm.Cond.selects "java/lang/String" ({ cls := "java/lang/String", name := "indexOf", desc := "(I)I" } : Jvm.MethodName) ({ cls := "java/lang/String", name := "indexOf", desc := "(I)I" } : Jvm.MethodName)) ∈ gw := gw_of 153 rfl rfl
theorem tw_154 : (Jvm.Cond.code ({ cls := "java/lang/String", name := "indexOf", desc := "(I)I" } : Jvm.MethodName) prog_6_method_79_code (2 : Nat) (Option.some Jvm.ClassFile.FieldType.int)) ∈ gw := gw_of 154 rfl rfl
theorem tw_155 : (Jvm.Cond.methodLink "java/lang/String" (633 : Nat) ({ cls := "java/lang/String", name := "indexOf", desc := "(II)I" } : Jvm.MethodName)) ∈ gw := gw_of 155 rfl rfl
theorem tw_156 : (Jvm.Cond.instanceMethod ({ cls := "java/lang/String", name := "indexOf", desc := "(II)I" } : Jvm.MethodName)) ∈ gw := gw_of 156 rfl rfl
theorem tw_157 : (Jvm.Cond.selects "java/lang/String" ({ cls := "java/lang/String", name := "indexOf", desc := "(II)I" } : Jvm.MethodName) ({ cls := "java/lang/String", name := "indexOf", desc := "(II)I" } : Jvm.MethodName)) ∈ gw := gw_of 157 rfl rfl
theorem tw_158 : (Jvm.Cond.code ({ cls := "java/lang/String", name := "indexOf", desc := "(II)I" } : Jvm.MethodName) prog_6_method_80_code (3 : Nat) (Option.some Jvm.ClassFile.FieldType.int)) ∈ gw := gw_of 158 rfl rfl
theorem tw_159 : (Jvm.Cond.methodLink "java/lang/String" (505 : Nat) ({ cls := "java/lang/String", name := "length", desc := "()I" } : Jvm.MethodName)) ∈ gw := gw_of 159 rfl rfl
theorem tw_160 : (Jvm.Cond.methodLink "java/lang/String" (637 : Nat) ({ cls := "java/lang/StringLatin1", name := "indexOf", desc := "([BIII)I" } : Jvm.MethodName)) ∈ gw := gw_of 160 rfl rfl
theorem tw_161 : (Jvm.Cond.static ({ cls := "java/lang/StringLatin1", name := "indexOf", desc := "([BIII)I" } : Jvm.MethodName)) ∈ gw := gw_of 161 rfl rfl
theorem tw_162 : (Jvm.Cond.code ({ cls := "java/lang/StringLatin1", name := "indexOf", desc := "([BIII)I" } : Jvm.MethodName) prog_7_method_22_code (4 : Nat) (Option.some Jvm.ClassFile.FieldType.int)) ∈ gw := gw_of 162 rfl rfl
theorem tw_163 : (Jvm.Cond.methodLink "java/lang/StringLatin1" (88 : Nat) ({ cls := "java/lang/StringLatin1", name := "canEncode", desc := "(I)Z" } : Jvm.MethodName)) ∈ gw := gw_of 163 rfl rfl
theorem tw_164 : (Jvm.Cond.static ({ cls := "java/lang/StringLatin1", name := "canEncode", desc := "(I)Z" } : Jvm.MethodName)) ∈ gw := gw_of 164 rfl rfl
theorem tw_165 : (Jvm.Cond.code ({ cls := "java/lang/StringLatin1", name := "canEncode", desc := "(I)Z" } : Jvm.MethodName) prog_7_method_4_code (1 : Nat) (Option.some Jvm.ClassFile.FieldType.boolean)) ∈ gw := gw_of 165 rfl rfl
theorem tw_166 : (Jvm.Cond.methodLink "java/lang/StringLatin1" (92 : Nat) ({ cls := "java/lang/Math", name := "max", desc := "(II)I" } : Jvm.MethodName)) ∈ gw := gw_of 166 rfl rfl
theorem tw_167 : (Jvm.Cond.methodLink "java/lang/StringLatin1" (38 : Nat) ({ cls := "java/lang/Math", name := "min", desc := "(II)I" } : Jvm.MethodName)) ∈ gw := gw_of 167 rfl rfl
theorem tw_168 : (Jvm.Cond.static ({ cls := "java/lang/Math", name := "min", desc := "(II)I" } : Jvm.MethodName)) ∈ gw := gw_of 168 rfl rfl
theorem tw_170 : (Jvm.Cond.methodLink "java/lang/StringLatin1" (95 : Nat) ({ cls := "java/lang/StringLatin1", name := "indexOfChar", desc := "([BIII)I" } : Jvm.MethodName)) ∈ gw := gw_of 170 rfl rfl
theorem tw_171 : (Jvm.Cond.static ({ cls := "java/lang/StringLatin1", name := "indexOfChar", desc := "([BIII)I" } : Jvm.MethodName)) ∈ gw := gw_of 171 rfl rfl
theorem tw_172 : (Jvm.Cond.code ({ cls := "java/lang/StringLatin1", name := "indexOfChar", desc := "([BIII)I" } : Jvm.MethodName) prog_7_method_23_code (6 : Nat) (Option.some Jvm.ClassFile.FieldType.int)) ∈ gw := gw_of 172 rfl rfl
theorem tw_208 : (Jvm.Cond.classLink "WordFieldsLaw" (10 : Nat) "WordFieldsModel") ∈ gw := gw_of 208 rfl rfl
theorem tw_209 : (Jvm.Cond.instantiable "WordFieldsModel" (4 : Nat)) ∈ gw := gw_of 209 rfl rfl
theorem tw_210 : (Jvm.Cond.methodLink "WordFieldsLaw" (12 : Nat) ({ cls := "WordFieldsModel", name := "<init>", desc := "()V" } : Jvm.MethodName)) ∈ gw := gw_of 210 rfl rfl
theorem tw_211 : (Jvm.Cond.instanceMethod ({ cls := "WordFieldsModel", name := "<init>", desc := "()V" } : Jvm.MethodName)) ∈ gw := gw_of 211 rfl rfl
theorem tw_212 : (Jvm.Cond.code ({ cls := "WordFieldsModel", name := "<init>", desc := "()V" } : Jvm.MethodName) prog_3_method_1_code (1 : Nat) (Option.none : Option Jvm.ClassFile.FieldType)) ∈ gw := gw_of 212 rfl rfl
theorem tw_213 : (Jvm.Cond.methodLink "WordFieldsModel" (1 : Nat) ({ cls := "java/lang/Object", name := "<init>", desc := "()V" } : Jvm.MethodName)) ∈ gw := gw_of 213 rfl rfl
theorem tw_214 : (Jvm.Cond.fieldLink "WordFieldsModel" (7 : Nat) "WordFieldsModel" "minus" "[Z") ∈ gw := gw_of 214 rfl rfl
theorem tw_215 : (Jvm.Cond.fieldLink "WordFieldsModel" (13 : Nat) "WordFieldsModel" "bytes" "[I") ∈ gw := gw_of 215 rfl rfl
theorem tw_216 : (Jvm.Cond.fieldLink "WordFieldsModel" (17 : Nat) "WordFieldsModel" "letters" "[I") ∈ gw := gw_of 216 rfl rfl
theorem tw_217 : (Jvm.Cond.fieldLink "WordFieldsModel" (20 : Nat) "WordFieldsModel" "work" "[I") ∈ gw := gw_of 217 rfl rfl
theorem tw_227 : (Jvm.Cond.arrayClass Jvm.ClassFile.FieldType.boolean) ∈ gw := gw_of 227 rfl rfl
theorem tw_228 : (Jvm.Cond.methodLink "WordFieldsLaw" (17 : Nat) ({ cls := "WordFieldsModel", name := "set", desc := "(IIZ)Z" } : Jvm.MethodName)) ∈ gw := gw_of 228 rfl rfl
theorem tw_229 : (Jvm.Cond.instanceMethod ({ cls := "WordFieldsModel", name := "set", desc := "(IIZ)Z" } : Jvm.MethodName)) ∈ gw := gw_of 229 rfl rfl
theorem tw_230 : (Jvm.Cond.selects "WordFieldsModel" ({ cls := "WordFieldsModel", name := "set", desc := "(IIZ)Z" } : Jvm.MethodName) ({ cls := "WordFieldsModel", name := "set", desc := "(IIZ)Z" } : Jvm.MethodName)) ∈ gw := gw_of 230 rfl rfl
theorem tw_231 : (Jvm.Cond.code ({ cls := "WordFieldsModel", name := "set", desc := "(IIZ)Z" } : Jvm.MethodName) prog_3_method_6_code (7 : Nat) (Option.some Jvm.ClassFile.FieldType.boolean)) ∈ gw := gw_of 231 rfl rfl
theorem tw_232 : (Jvm.Cond.constant "WordFieldsModel" (23 : Nat) (-1073741824 : Int32)) ∈ gw := gw_of 232 rfl rfl
theorem tw_233 : (Jvm.Cond.methodLink "WordFieldsModel" (24 : Nat) ({ cls := "WordFieldsModel", name := "isRegister", desc := "(I)Z" } : Jvm.MethodName)) ∈ gw := gw_of 233 rfl rfl
theorem tw_234 : (Jvm.Cond.static ({ cls := "WordFieldsModel", name := "isRegister", desc := "(I)Z" } : Jvm.MethodName)) ∈ gw := gw_of 234 rfl rfl
theorem tw_235 : (Jvm.Cond.code ({ cls := "WordFieldsModel", name := "isRegister", desc := "(I)Z" } : Jvm.MethodName) prog_3_method_3_code (1 : Nat) (Option.some Jvm.ClassFile.FieldType.boolean)) ∈ gw := gw_of 235 rfl rfl
theorem tw_236 : (Jvm.Cond.constant "WordFieldsModel" (28 : Nat) (1073741824 : Int32)) ∈ gw := gw_of 236 rfl rfl
theorem tw_237 : (Jvm.Cond.methodLink "WordFieldsLaw" (22 : Nat) ({ cls := "WordFieldsModel", name := "value", desc := "(I)I" } : Jvm.MethodName)) ∈ gw := gw_of 237 rfl rfl
theorem tw_238 : (Jvm.Cond.instanceMethod ({ cls := "WordFieldsModel", name := "value", desc := "(I)I" } : Jvm.MethodName)) ∈ gw := gw_of 238 rfl rfl
theorem tw_239 : (Jvm.Cond.selects "WordFieldsModel" ({ cls := "WordFieldsModel", name := "value", desc := "(I)I" } : Jvm.MethodName) ({ cls := "WordFieldsModel", name := "value", desc := "(I)I" } : Jvm.MethodName)) ∈ gw := gw_of 239 rfl rfl
theorem tw_240 : (Jvm.Cond.code ({ cls := "WordFieldsModel", name := "value", desc := "(I)I" } : Jvm.MethodName) prog_3_method_8_code (3 : Nat) (Option.some Jvm.ClassFile.FieldType.int)) ∈ gw := gw_of 240 rfl rfl
theorem tw_241 : (Jvm.Cond.constant "WordFieldsModel" (29 : Nat) (2147483647 : Int32)) ∈ gw := gw_of 241 rfl rfl
theorem tw_242 : (Jvm.Cond.methodLink "WordFieldsModel" (30 : Nat) ({ cls := "WordFieldsModel", name := "number", desc := "(III)I" } : Jvm.MethodName)) ∈ gw := gw_of 242 rfl rfl
theorem tw_244 : (Jvm.Cond.instanceMethod ({ cls := "WordFieldsModel", name := "number", desc := "(III)I" } : Jvm.MethodName)) ∈ gw := gw_of 244 rfl rfl
theorem tw_245 : (Jvm.Cond.code ({ cls := "WordFieldsModel", name := "number", desc := "(III)I" } : Jvm.MethodName) prog_3_method_7_code (6 : Nat) (Option.some Jvm.ClassFile.FieldType.int)) ∈ gw := gw_of 245 rfl rfl
theorem tw_246 : (Jvm.Cond.constant "WordFieldsModel" (34 : Nat) (-2147483648 : Int32)) ∈ gw := gw_of 246 rfl rfl
theorem tw_247 : (Jvm.Cond.methodLink "WordFieldsLaw" (27 : Nat) ({ cls := "WordFieldsModel", name := "byteOf", desc := "(II)I" } : Jvm.MethodName)) ∈ gw := gw_of 247 rfl rfl
theorem tw_248 : (Jvm.Cond.instanceMethod ({ cls := "WordFieldsModel", name := "byteOf", desc := "(II)I" } : Jvm.MethodName)) ∈ gw := gw_of 248 rfl rfl
theorem tw_249 : (Jvm.Cond.selects "WordFieldsModel" ({ cls := "WordFieldsModel", name := "byteOf", desc := "(II)I" } : Jvm.MethodName) ({ cls := "WordFieldsModel", name := "byteOf", desc := "(II)I" } : Jvm.MethodName)) ∈ gw := gw_of 249 rfl rfl
theorem tw_250 : (Jvm.Cond.code ({ cls := "WordFieldsModel", name := "byteOf", desc := "(II)I" } : Jvm.MethodName) prog_3_method_9_code (3 : Nat) (Option.some Jvm.ClassFile.FieldType.int)) ∈ gw := gw_of 250 rfl rfl
theorem tw_251 : (Jvm.Cond.methodLink "WordFieldsLaw" (32 : Nat) ({ cls := "WordFieldsModel", name := "load", desc := "(III)Z" } : Jvm.MethodName)) ∈ gw := gw_of 251 rfl rfl
theorem tw_252 : (Jvm.Cond.instanceMethod ({ cls := "WordFieldsModel", name := "load", desc := "(III)Z" } : Jvm.MethodName)) ∈ gw := gw_of 252 rfl rfl
theorem tw_253 : (Jvm.Cond.selects "WordFieldsModel" ({ cls := "WordFieldsModel", name := "load", desc := "(III)Z" } : Jvm.MethodName) ({ cls := "WordFieldsModel", name := "load", desc := "(III)Z" } : Jvm.MethodName)) ∈ gw := gw_of 253 rfl rfl
theorem tw_254 : (Jvm.Cond.code ({ cls := "WordFieldsModel", name := "load", desc := "(III)Z" } : Jvm.MethodName) prog_3_method_11_code (6 : Nat) (Option.some Jvm.ClassFile.FieldType.boolean)) ∈ gw := gw_of 254 rfl rfl
theorem tw_255 : (Jvm.Cond.methodLink "WordFieldsModel" (38 : Nat) ({ cls := "WordFieldsModel", name := "may", desc := "(III)Z" } : Jvm.MethodName)) ∈ gw := gw_of 255 rfl rfl
theorem tw_257 : (Jvm.Cond.instanceMethod ({ cls := "WordFieldsModel", name := "may", desc := "(III)Z" } : Jvm.MethodName)) ∈ gw := gw_of 257 rfl rfl
theorem tw_258 : (Jvm.Cond.code ({ cls := "WordFieldsModel", name := "may", desc := "(III)Z" } : Jvm.MethodName) prog_3_method_10_code (4 : Nat) (Option.some Jvm.ClassFile.FieldType.boolean)) ∈ gw := gw_of 258 rfl rfl
theorem tw_259 : (Jvm.Cond.methodLink "WordFieldsModel" (35 : Nat) ({ cls := "WordFieldsModel", name := "is", desc := "(I)Z" } : Jvm.MethodName)) ∈ gw := gw_of 259 rfl rfl
theorem tw_260 : (Jvm.Cond.static ({ cls := "WordFieldsModel", name := "is", desc := "(I)Z" } : Jvm.MethodName)) ∈ gw := gw_of 260 rfl rfl
theorem tw_261 : (Jvm.Cond.code ({ cls := "WordFieldsModel", name := "is", desc := "(I)Z" } : Jvm.MethodName) prog_3_method_4_code (1 : Nat) (Option.some Jvm.ClassFile.FieldType.boolean)) ∈ gw := gw_of 261 rfl rfl
theorem tw_262 : (Jvm.Cond.methodLink "WordFieldsModel" (42 : Nat) ({ cls := "WordFieldsModel", name := "first", desc := "(I)I" } : Jvm.MethodName)) ∈ gw := gw_of 262 rfl rfl
theorem tw_263 : (Jvm.Cond.static ({ cls := "WordFieldsModel", name := "first", desc := "(I)I" } : Jvm.MethodName)) ∈ gw := gw_of 263 rfl rfl
theorem tw_264 : (Jvm.Cond.code ({ cls := "WordFieldsModel", name := "first", desc := "(I)I" } : Jvm.MethodName) prog_3_method_5_code (1 : Nat) (Option.some Jvm.ClassFile.FieldType.int)) ∈ gw := gw_of 264 rfl rfl
theorem tw_265 : (Jvm.Cond.methodLink "WordFieldsLaw" (36 : Nat) ({ cls := "WordFieldsModel", name := "store", desc := "(III)Z" } : Jvm.MethodName)) ∈ gw := gw_of 265 rfl rfl
theorem tw_266 : (Jvm.Cond.instanceMethod ({ cls := "WordFieldsModel", name := "store", desc := "(III)Z" } : Jvm.MethodName)) ∈ gw := gw_of 266 rfl rfl
theorem tw_267 : (Jvm.Cond.selects "WordFieldsModel" ({ cls := "WordFieldsModel", name := "store", desc := "(III)Z" } : Jvm.MethodName) ({ cls := "WordFieldsModel", name := "store", desc := "(III)Z" } : Jvm.MethodName)) ∈ gw := gw_of 267 rfl rfl
theorem tw_268 : (Jvm.Cond.code ({ cls := "WordFieldsModel", name := "store", desc := "(III)Z" } : Jvm.MethodName) prog_3_method_12_code (6 : Nat) (Option.some Jvm.ClassFile.FieldType.boolean)) ∈ gw := gw_of 268 rfl rfl
theorem tw_269 : (Jvm.Cond.methodLink "WordFieldsLaw" (41 : Nat) ({ cls := "WordFieldsModel", name := "turn", desc := "(I)Z" } : Jvm.MethodName)) ∈ gw := gw_of 269 rfl rfl
theorem tw_270 : (Jvm.Cond.instanceMethod ({ cls := "WordFieldsModel", name := "turn", desc := "(I)Z" } : Jvm.MethodName)) ∈ gw := gw_of 270 rfl rfl
theorem tw_271 : (Jvm.Cond.selects "WordFieldsModel" ({ cls := "WordFieldsModel", name := "turn", desc := "(I)Z" } : Jvm.MethodName) ({ cls := "WordFieldsModel", name := "turn", desc := "(I)Z" } : Jvm.MethodName)) ∈ gw := gw_of 271 rfl rfl
theorem tw_272 : (Jvm.Cond.code ({ cls := "WordFieldsModel", name := "turn", desc := "(I)Z" } : Jvm.MethodName) prog_3_method_13_code (2 : Nat) (Option.some Jvm.ClassFile.FieldType.boolean)) ∈ gw := gw_of 272 rfl rfl
theorem tw_273 : (Jvm.Cond.methodLink "WordFieldsLaw" (46 : Nat) ({ cls := "WordFieldsModel", name := "compare", desc := "(III)I" } : Jvm.MethodName)) ∈ gw := gw_of 273 rfl rfl
theorem tw_274 : (Jvm.Cond.instanceMethod ({ cls := "WordFieldsModel", name := "compare", desc := "(III)I" } : Jvm.MethodName)) ∈ gw := gw_of 274 rfl rfl
theorem tw_275 : (Jvm.Cond.selects "WordFieldsModel" ({ cls := "WordFieldsModel", name := "compare", desc := "(III)I" } : Jvm.MethodName) ({ cls := "WordFieldsModel", name := "compare", desc := "(III)I" } : Jvm.MethodName)) ∈ gw := gw_of 275 rfl rfl
theorem tw_276 : (Jvm.Cond.code ({ cls := "WordFieldsModel", name := "compare", desc := "(III)I" } : Jvm.MethodName) prog_3_method_14_code (6 : Nat) (Option.some Jvm.ClassFile.FieldType.int)) ∈ gw := gw_of 276 rfl rfl
theorem tw_277 : (Jvm.Cond.methodLink "WordFieldsLaw" (50 : Nat) ({ cls := "WordFieldsModel", name := "isField", desc := "(I)Z" } : Jvm.MethodName)) ∈ gw := gw_of 277 rfl rfl
theorem tw_278 : (Jvm.Cond.instanceMethod ({ cls := "WordFieldsModel", name := "isField", desc := "(I)Z" } : Jvm.MethodName)) ∈ gw := gw_of 278 rfl rfl
theorem tw_279 : (Jvm.Cond.selects "WordFieldsModel" ({ cls := "WordFieldsModel", name := "isField", desc := "(I)Z" } : Jvm.MethodName) ({ cls := "WordFieldsModel", name := "isField", desc := "(I)Z" } : Jvm.MethodName)) ∈ gw := gw_of 279 rfl rfl
theorem tw_280 : (Jvm.Cond.code ({ cls := "WordFieldsModel", name := "isField", desc := "(I)Z" } : Jvm.MethodName) prog_3_method_15_code (2 : Nat) (Option.some Jvm.ClassFile.FieldType.boolean)) ∈ gw := gw_of 280 rfl rfl
theorem tw_281 : (Jvm.Cond.methodLink "WordFieldsLaw" (54 : Nat) ({ cls := "WordFieldsModel", name := "letter", desc := "(I)I" } : Jvm.MethodName)) ∈ gw := gw_of 281 rfl rfl
theorem tw_282 : (Jvm.Cond.instanceMethod ({ cls := "WordFieldsModel", name := "letter", desc := "(I)I" } : Jvm.MethodName)) ∈ gw := gw_of 282 rfl rfl
theorem tw_283 : (Jvm.Cond.selects "WordFieldsModel" ({ cls := "WordFieldsModel", name := "letter", desc := "(I)I" } : Jvm.MethodName) ({ cls := "WordFieldsModel", name := "letter", desc := "(I)I" } : Jvm.MethodName)) ∈ gw := gw_of 283 rfl rfl
theorem tw_284 : (Jvm.Cond.code ({ cls := "WordFieldsModel", name := "letter", desc := "(I)I" } : Jvm.MethodName) prog_3_method_16_code (2 : Nat) (Option.some Jvm.ClassFile.FieldType.int)) ∈ gw := gw_of 284 rfl rfl
theorem tw_285 : (Jvm.Cond.methodLink "WordFieldsLaw" (58 : Nat) ({ cls := "WordFieldsModel", name := "code", desc := "(I)I" } : Jvm.MethodName)) ∈ gw := gw_of 285 rfl rfl
theorem tw_286 : (Jvm.Cond.instanceMethod ({ cls := "WordFieldsModel", name := "code", desc := "(I)I" } : Jvm.MethodName)) ∈ gw := gw_of 286 rfl rfl
theorem tw_287 : (Jvm.Cond.selects "WordFieldsModel" ({ cls := "WordFieldsModel", name := "code", desc := "(I)I" } : Jvm.MethodName) ({ cls := "WordFieldsModel", name := "code", desc := "(I)I" } : Jvm.MethodName)) ∈ gw := gw_of 287 rfl rfl
theorem tw_288 : (Jvm.Cond.code ({ cls := "WordFieldsModel", name := "code", desc := "(I)I" } : Jvm.MethodName) prog_3_method_17_code (5 : Nat) (Option.some Jvm.ClassFile.FieldType.int)) ∈ gw := gw_of 288 rfl rfl
theorem tw_289 : (Jvm.Cond.fieldLink "java/lang/String" (9 : Nat) "java/lang/String" "value" "[B") ∈ gw := gw_of 289 rfl rfl
theorem tw_290 : (Jvm.Cond.fieldLink "java/lang/String" (15 : Nat) "java/lang/String" "coder" "B") ∈ gw := gw_of 290 rfl rfl
abbrev RF : String := "WordFields"
def TF : u_T := fun k => match k with
  | _ => ("WordFields", "words", "[I", true)
def tyF : Nat → FieldType := fun k => match k with
  | _ => .array .int
theorem nmF : ∀ a, a < 1 → ∀ b, b < 1 → a ≠ b → (TF a).2.1 ≠ (TF b).2.1 := by decide +kernel
theorem tyF_ok : ∀ k, k < 1 → parseFieldDescriptor (TF k).2.2.1 = some (tyF k) := by decide +kernel
abbrev RM : String := "WordFieldsModel"
def TM : u_T := fun k => match k with
  | 0 => ("WordFieldsModel", "minus", "[Z", true)
  | 1 => ("WordFieldsModel", "bytes", "[I", true)
  | 2 => ("WordFieldsModel", "letters", "[I", true)
  | _ => ("WordFieldsModel", "work", "[I", true)
def tyM : Nat → FieldType := fun k => match k with
  | 0 => .array .boolean
  | 1 => .array .int
  | 2 => .array .int
  | _ => .array .int
theorem nmM : ∀ a, a < 4 → ∀ b, b < 4 → a ≠ b → (TM a).2.1 ≠ (TM b).2.1 := by decide +kernel
theorem tyM_ok : ∀ k, k < 4 → parseFieldDescriptor (TM k).2.2.1 = some (tyM k) := by decide +kernel
abbrev RL : String := "WordFieldsLaw"
abbrev RS : String := "java/lang/String"
abbrev RZ : String := "java/lang/StringLatin1"
abbrev RQ : String := "jdk/internal/util/Preconditions"
abbrev vwCl : List vw_C := [(RF, TF, 1), (RM, TM, 4)]
abbrev yF_isRegister : MethodName := ⟨"WordFields", "isRegister", "(I)Z"⟩
abbrev wsF_isRegister : List Cond := Cond.code yF_isRegister prog_1_method_12_code 1 (some .boolean) :: gw
abbrev yF_isMinus : MethodName := ⟨"WordFields", "isMinus", "(I)Z"⟩
abbrev wsF_isMinus : List Cond := Cond.code yF_isMinus prog_1_method_13_code 1 (some .boolean) :: gw
abbrev yF_number : MethodName := ⟨"WordFields", "number", "(I)I"⟩
abbrev wsF_number : List Cond := Cond.code yF_number prog_1_method_14_code 2 (some .int) :: gw
abbrev yF_firstByte : MethodName := ⟨"WordFields", "firstByte", "(I)I"⟩
abbrev wsF_firstByte : List Cond := Cond.code yF_firstByte prog_1_method_15_code 1 (some .int) :: gw
abbrev yF_lastByte : MethodName := ⟨"WordFields", "lastByte", "(I)I"⟩
abbrev wsF_lastByte : List Cond := Cond.code yF_lastByte prog_1_method_16_code 1 (some .int) :: gw
abbrev yF_bitsRightOf : MethodName := ⟨"WordFields", "bitsRightOf", "(I)I"⟩
abbrev wsF_bitsRightOf : List Cond := Cond.code yF_bitsRightOf prog_1_method_17_code 1 (some .int) :: gw
abbrev yF_rightMask : MethodName := ⟨"WordFields", "rightMask", "(I)I"⟩
abbrev wsF_rightMask : List Cond := Cond.code yF_rightMask prog_1_method_18_code 2 (some .int) :: gw
abbrev yF_signMask : MethodName := ⟨"WordFields", "signMask", "(I)I"⟩
abbrev wsF_signMask : List Cond := Cond.code yF_signMask prog_1_method_19_code 1 (some .int) :: gw
abbrev yF_fieldOf : MethodName := ⟨"WordFields", "fieldOf", "(II)I"⟩
abbrev wsF_fieldOf : List Cond := Cond.code yF_fieldOf prog_1_method_20_code 3 (some .int) :: gw
abbrev yF_greatLetter : MethodName := ⟨"WordFields", "greatLetter", "(I)I"⟩
abbrev wsF_greatLetter : List Cond := Cond.code yF_greatLetter prog_1_method_21_code 1 (some .int) :: gw
abbrev yF_isField : MethodName := ⟨"WordFields", "isField", "(I)Z"⟩
abbrev wsF_isField : List Cond := Cond.code yF_isField prog_1_method_9_code 2 (some .boolean) :: gw
abbrev yF_value : MethodName := ⟨"WordFields", "value", "(I)I"⟩
abbrev wsF_value : List Cond := Cond.code yF_value prog_1_method_3_code 3 (some .int) :: gw
abbrev yF_byteOf : MethodName := ⟨"WordFields", "byteOf", "(II)I"⟩
abbrev wsF_byteOf : List Cond := Cond.code yF_byteOf prog_1_method_4_code 4 (some .int) :: gw
abbrev yF_compare : MethodName := ⟨"WordFields", "compare", "(III)I"⟩
abbrev wsF_compare : List Cond := Cond.code yF_compare prog_1_method_8_code 6 (some .int) :: gw
abbrev yF_set : MethodName := ⟨"WordFields", "set", "(IIZ)Z"⟩
abbrev wsF_set : List Cond := Cond.code yF_set prog_1_method_2_code 5 (some .boolean) :: gw
abbrev yF_load : MethodName := ⟨"WordFields", "load", "(III)Z"⟩
abbrev wsF_load : List Cond := Cond.code yF_load prog_1_method_5_code 4 (some .boolean) :: gw
abbrev yF_store : MethodName := ⟨"WordFields", "store", "(III)Z"⟩
abbrev wsF_store : List Cond := Cond.code yF_store prog_1_method_6_code 7 (some .boolean) :: gw
abbrev yF_turn : MethodName := ⟨"WordFields", "turn", "(I)Z"⟩
abbrev wsF_turn : List Cond := Cond.code yF_turn prog_1_method_7_code 2 (some .boolean) :: gw
abbrev yM_isRegister : MethodName := ⟨"WordFieldsModel", "isRegister", "(I)Z"⟩
abbrev wsM_isRegister : List Cond := Cond.code yM_isRegister prog_3_method_3_code 1 (some .boolean) :: gw
abbrev yM_is : MethodName := ⟨"WordFieldsModel", "is", "(I)Z"⟩
abbrev wsM_is : List Cond := Cond.code yM_is prog_3_method_4_code 1 (some .boolean) :: gw
abbrev yM_first : MethodName := ⟨"WordFieldsModel", "first", "(I)I"⟩
abbrev wsM_first : List Cond := Cond.code yM_first prog_3_method_5_code 1 (some .int) :: gw
abbrev yM_may : MethodName := ⟨"WordFieldsModel", "may", "(III)Z"⟩
abbrev wsM_may : List Cond := Cond.code yM_may prog_3_method_10_code 4 (some .boolean) :: gw
abbrev yM_isField : MethodName := ⟨"WordFieldsModel", "isField", "(I)Z"⟩
abbrev wsM_isField : List Cond := Cond.code yM_isField prog_3_method_15_code 2 (some .boolean) :: gw
abbrev yM_number : MethodName := ⟨"WordFieldsModel", "number", "(III)I"⟩
abbrev wsM_number : List Cond := Cond.code yM_number prog_3_method_7_code 6 (some .int) :: gw
abbrev yM_value : MethodName := ⟨"WordFieldsModel", "value", "(I)I"⟩
abbrev wsM_value : List Cond := Cond.code yM_value prog_3_method_8_code 3 (some .int) :: gw
abbrev yM_byteOf : MethodName := ⟨"WordFieldsModel", "byteOf", "(II)I"⟩
abbrev wsM_byteOf : List Cond := Cond.code yM_byteOf prog_3_method_9_code 3 (some .int) :: gw
abbrev yM_compare : MethodName := ⟨"WordFieldsModel", "compare", "(III)I"⟩
abbrev wsM_compare : List Cond := Cond.code yM_compare prog_3_method_14_code 6 (some .int) :: gw
abbrev yM_letter : MethodName := ⟨"WordFieldsModel", "letter", "(I)I"⟩
abbrev wsM_letter : List Cond := Cond.code yM_letter prog_3_method_16_code 2 (some .int) :: gw
abbrev yM_turn : MethodName := ⟨"WordFieldsModel", "turn", "(I)Z"⟩
abbrev wsM_turn : List Cond := Cond.code yM_turn prog_3_method_13_code 2 (some .boolean) :: gw
abbrev yM_set : MethodName := ⟨"WordFieldsModel", "set", "(IIZ)Z"⟩
abbrev wsM_set : List Cond := Cond.code yM_set prog_3_method_6_code 7 (some .boolean) :: gw
abbrev yM_load : MethodName := ⟨"WordFieldsModel", "load", "(III)Z"⟩
abbrev wsM_load : List Cond := Cond.code yM_load prog_3_method_11_code 6 (some .boolean) :: gw
abbrev yM_store : MethodName := ⟨"WordFieldsModel", "store", "(III)Z"⟩
abbrev wsM_store : List Cond := Cond.code yM_store prog_3_method_12_code 6 (some .boolean) :: gw
abbrev yM_code : MethodName := ⟨"WordFieldsModel", "code", "(I)I"⟩
abbrev wsM_code : List Cond := Cond.code yM_code prog_3_method_17_code 5 (some .int) :: gw
abbrev yS_coder : MethodName := ⟨"java/lang/String", "coder", "()B"⟩
abbrev wsS_coder : List Cond := Cond.code yS_coder prog_6_method_152_code 1 (some .byte) :: gw
abbrev yS_isLatin1 : MethodName := ⟨"java/lang/String", "isLatin1", "()Z"⟩
abbrev wsS_isLatin1 : List Cond := Cond.code yS_isLatin1 prog_6_method_154_code 1 (some .boolean) :: gw
abbrev yS_length : MethodName := ⟨"java/lang/String", "length", "()I"⟩
abbrev wsS_length : List Cond := Cond.code yS_length prog_6_method_54_code 1 (some .int) :: gw
abbrev yQ_checkIndex : MethodName := ⟨"jdk/internal/util/Preconditions", "checkIndex", "(IILjava/util/function/BiFunction;)I"⟩
abbrev wsQ_checkIndex : List Cond := Cond.code yQ_checkIndex prog_9_method_11_code 3 (some .int) :: gw
abbrev yS_checkIndex : MethodName := ⟨"java/lang/String", "checkIndex", "(II)V"⟩
abbrev wsS_checkIndex : List Cond := Cond.code yS_checkIndex prog_6_method_155_code 2 none :: gw
abbrev yZ_charAt : MethodName := ⟨"java/lang/StringLatin1", "charAt", "([BI)C"⟩
abbrev wsZ_charAt : List Cond := Cond.code yZ_charAt prog_7_method_2_code 2 (some .char) :: gw
abbrev yS_charAt : MethodName := ⟨"java/lang/String", "charAt", "(I)C"⟩
abbrev wsS_charAt : List Cond := Cond.code yS_charAt prog_6_method_56_code 2 (some .char) :: gw
abbrev yZ_canEncode : MethodName := ⟨"java/lang/StringLatin1", "canEncode", "(I)Z"⟩
abbrev wsZ_canEncode : List Cond := Cond.code yZ_canEncode prog_7_method_4_code 1 (some .boolean) :: gw
abbrev yZ_indexOfChar : MethodName := ⟨"java/lang/StringLatin1", "indexOfChar", "([BIII)I"⟩
abbrev wsZ_indexOfChar : List Cond := Cond.code yZ_indexOfChar prog_7_method_23_code 6 (some .int) :: gw
abbrev yZ_indexOf : MethodName := ⟨"java/lang/StringLatin1", "indexOf", "([BIII)I"⟩
abbrev wsZ_indexOf : List Cond := Cond.code yZ_indexOf prog_7_method_22_code 4 (some .int) :: gw
abbrev yS_indexOf2 : MethodName := ⟨"java/lang/String", "indexOf", "(II)I"⟩
abbrev wsS_indexOf2 : List Cond := Cond.code yS_indexOf2 prog_6_method_80_code 3 (some .int) :: gw
abbrev yS_indexOf : MethodName := ⟨"java/lang/String", "indexOf", "(I)I"⟩
abbrev wsS_indexOf : List Cond := Cond.code yS_indexOf prog_6_method_79_code 2 (some .int) :: gw
abbrev yF_letter : MethodName := ⟨"WordFields", "letter", "(I)I"⟩
abbrev wsF_letter : List Cond := Cond.code yF_letter prog_1_method_10_code 2 (some .int) :: gw
abbrev yF_code : MethodName := ⟨"WordFields", "code", "(I)I"⟩
abbrev wsF_code : List Cond := Cond.code yF_code prog_1_method_11_code 3 (some .int) :: gw
abbrev yF_init : MethodName := ⟨"WordFields", "<init>", "()V"⟩
abbrev wsF_init : List Cond := Cond.code yF_init prog_1_method_1_code 1 none :: gw
abbrev yM_init : MethodName := ⟨"WordFieldsModel", "<init>", "()V"⟩
abbrev wsM_init : List Cond := Cond.code yM_init prog_3_method_1_code 1 none :: gw
end
section
theorem iF : ∀ w ∈ u_ws RF TF 1, w ∈ gw := by decide +kernel
theorem iM : ∀ w ∈ u_ws RM TM 4, w ∈ gw := by decide +kernel
end
section
theorem dF_isRegister_0 : decode prog_1_method_12_code 0 = .ok (.iload_n 0, 1) := by decide +kernel
theorem dF_isRegister_1 : decode prog_1_method_12_code 1 = .ok (.ifCond .lt 13, 3) := by decide +kernel
theorem dF_isRegister_4 : decode prog_1_method_12_code 4 = .ok (.iload_n 0, 1) := by decide +kernel
theorem dF_isRegister_5 : decode prog_1_method_12_code 5 = .ok (.bipush 16, 2) := by decide +kernel
theorem dF_isRegister_7 : decode prog_1_method_12_code 7 = .ok (.if_icmp .ge 7, 3) := by decide +kernel
theorem dF_isRegister_10 : decode prog_1_method_12_code 10 = .ok (.iconst 1, 1) := by decide +kernel
theorem dF_isRegister_11 : decode prog_1_method_12_code 11 = .ok (.goto 4, 3) := by decide +kernel
theorem dF_isRegister_14 : decode prog_1_method_12_code 14 = .ok (.iconst 0, 1) := by decide +kernel
theorem dF_isRegister_15 : decode prog_1_method_12_code 15 = .ok (.ireturn, 1) := by decide +kernel
theorem dF_isMinus_0 : decode prog_1_method_13_code 0 = .ok (.iload_n 0, 1) := by decide +kernel
theorem dF_isMinus_1 : decode prog_1_method_13_code 1 = .ok (.ldc 21, 2) := by decide +kernel
theorem dF_isMinus_3 : decode prog_1_method_13_code 3 = .ok (.iand, 1) := by decide +kernel
theorem dF_isMinus_4 : decode prog_1_method_13_code 4 = .ok (.ifCond .eq 7, 3) := by decide +kernel
theorem dF_isMinus_7 : decode prog_1_method_13_code 7 = .ok (.iconst 1, 1) := by decide +kernel
theorem dF_isMinus_8 : decode prog_1_method_13_code 8 = .ok (.goto 4, 3) := by decide +kernel
theorem dF_isMinus_11 : decode prog_1_method_13_code 11 = .ok (.iconst 0, 1) := by decide +kernel
theorem dF_isMinus_12 : decode prog_1_method_13_code 12 = .ok (.ireturn, 1) := by decide +kernel
theorem dF_number_0 : decode prog_1_method_14_code 0 = .ok (.iload_n 0, 1) := by decide +kernel
theorem dF_number_1 : decode prog_1_method_14_code 1 = .ok (.ldc 19, 2) := by decide +kernel
theorem dF_number_3 : decode prog_1_method_14_code 3 = .ok (.iand, 1) := by decide +kernel
theorem dF_number_4 : decode prog_1_method_14_code 4 = .ok (.istore_n 1, 1) := by decide +kernel
theorem dF_number_5 : decode prog_1_method_14_code 5 = .ok (.iload_n 0, 1) := by decide +kernel
theorem dF_number_6 : decode prog_1_method_14_code 6 = .ok (.invokestatic 28, 3) := by decide +kernel
theorem dF_number_9 : decode prog_1_method_14_code 9 = .ok (.ifCond .eq 8, 3) := by decide +kernel
theorem dF_number_12 : decode prog_1_method_14_code 12 = .ok (.iload_n 1, 1) := by decide +kernel
theorem dF_number_13 : decode prog_1_method_14_code 13 = .ok (.ineg, 1) := by decide +kernel
theorem dF_number_14 : decode prog_1_method_14_code 14 = .ok (.goto 4, 3) := by decide +kernel
theorem dF_number_17 : decode prog_1_method_14_code 17 = .ok (.iload_n 1, 1) := by decide +kernel
theorem dF_number_18 : decode prog_1_method_14_code 18 = .ok (.ireturn, 1) := by decide +kernel
theorem dF_firstByte_0 : decode prog_1_method_15_code 0 = .ok (.iload_n 0, 1) := by decide +kernel
theorem dF_firstByte_1 : decode prog_1_method_15_code 1 = .ok (.iconst 3, 1) := by decide +kernel
theorem dF_firstByte_2 : decode prog_1_method_15_code 2 = .ok (.ishr, 1) := by decide +kernel
theorem dF_firstByte_3 : decode prog_1_method_15_code 3 = .ok (.ireturn, 1) := by decide +kernel
theorem dF_lastByte_0 : decode prog_1_method_16_code 0 = .ok (.iload_n 0, 1) := by decide +kernel
theorem dF_lastByte_1 : decode prog_1_method_16_code 1 = .ok (.bipush 7, 2) := by decide +kernel
theorem dF_lastByte_3 : decode prog_1_method_16_code 3 = .ok (.iand, 1) := by decide +kernel
theorem dF_lastByte_4 : decode prog_1_method_16_code 4 = .ok (.ireturn, 1) := by decide +kernel
theorem dF_bitsRightOf_0 : decode prog_1_method_17_code 0 = .ok (.bipush 6, 2) := by decide +kernel
theorem dF_bitsRightOf_2 : decode prog_1_method_17_code 2 = .ok (.iconst 5, 1) := by decide +kernel
theorem dF_bitsRightOf_3 : decode prog_1_method_17_code 3 = .ok (.iload_n 0, 1) := by decide +kernel
theorem dF_bitsRightOf_4 : decode prog_1_method_17_code 4 = .ok (.isub, 1) := by decide +kernel
theorem dF_bitsRightOf_5 : decode prog_1_method_17_code 5 = .ok (.imul, 1) := by decide +kernel
theorem dF_bitsRightOf_6 : decode prog_1_method_17_code 6 = .ok (.ireturn, 1) := by decide +kernel
theorem dF_rightMask_0 : decode prog_1_method_18_code 0 = .ok (.iload_n 0, 1) := by decide +kernel
theorem dF_rightMask_1 : decode prog_1_method_18_code 1 = .ok (.invokestatic 44, 3) := by decide +kernel
theorem dF_rightMask_4 : decode prog_1_method_18_code 4 = .ok (.iload_n 0, 1) := by decide +kernel
theorem dF_rightMask_5 : decode prog_1_method_18_code 5 = .ok (.invokestatic 50, 3) := by decide +kernel
theorem dF_rightMask_8 : decode prog_1_method_18_code 8 = .ok (.iconst 1, 1) := by decide +kernel
theorem dF_rightMask_9 : decode prog_1_method_18_code 9 = .ok (.invokestatic 71, 3) := by decide +kernel
theorem dF_rightMask_12 : decode prog_1_method_18_code 12 = .ok (.isub, 1) := by decide +kernel
theorem dF_rightMask_13 : decode prog_1_method_18_code 13 = .ok (.iconst 1, 1) := by decide +kernel
theorem dF_rightMask_14 : decode prog_1_method_18_code 14 = .ok (.iadd, 1) := by decide +kernel
theorem dF_rightMask_15 : decode prog_1_method_18_code 15 = .ok (.istore_n 1, 1) := by decide +kernel
theorem dF_rightMask_16 : decode prog_1_method_18_code 16 = .ok (.iconst 1, 1) := by decide +kernel
theorem dF_rightMask_17 : decode prog_1_method_18_code 17 = .ok (.bipush 6, 2) := by decide +kernel
theorem dF_rightMask_19 : decode prog_1_method_18_code 19 = .ok (.iload_n 1, 1) := by decide +kernel
theorem dF_rightMask_20 : decode prog_1_method_18_code 20 = .ok (.imul, 1) := by decide +kernel
theorem dF_rightMask_21 : decode prog_1_method_18_code 21 = .ok (.ishl, 1) := by decide +kernel
theorem dF_rightMask_22 : decode prog_1_method_18_code 22 = .ok (.iconst 1, 1) := by decide +kernel
theorem dF_rightMask_23 : decode prog_1_method_18_code 23 = .ok (.isub, 1) := by decide +kernel
theorem dF_rightMask_24 : decode prog_1_method_18_code 24 = .ok (.ireturn, 1) := by decide +kernel
theorem dF_signMask_0 : decode prog_1_method_19_code 0 = .ok (.iload_n 0, 1) := by decide +kernel
theorem dF_signMask_1 : decode prog_1_method_19_code 1 = .ok (.invokestatic 50, 3) := by decide +kernel
theorem dF_signMask_4 : decode prog_1_method_19_code 4 = .ok (.ifCond .ne 8, 3) := by decide +kernel
theorem dF_signMask_7 : decode prog_1_method_19_code 7 = .ok (.ldc 21, 2) := by decide +kernel
theorem dF_signMask_9 : decode prog_1_method_19_code 9 = .ok (.goto 4, 3) := by decide +kernel
theorem dF_signMask_12 : decode prog_1_method_19_code 12 = .ok (.iconst 0, 1) := by decide +kernel
theorem dF_signMask_13 : decode prog_1_method_19_code 13 = .ok (.ireturn, 1) := by decide +kernel
theorem dF_fieldOf_0 : decode prog_1_method_20_code 0 = .ok (.iload_n 0, 1) := by decide +kernel
theorem dF_fieldOf_1 : decode prog_1_method_20_code 1 = .ok (.iload_n 1, 1) := by decide +kernel
theorem dF_fieldOf_2 : decode prog_1_method_20_code 2 = .ok (.invokestatic 44, 3) := by decide +kernel
theorem dF_fieldOf_5 : decode prog_1_method_20_code 5 = .ok (.invokestatic 31, 3) := by decide +kernel
theorem dF_fieldOf_8 : decode prog_1_method_20_code 8 = .ok (.ishr, 1) := by decide +kernel
theorem dF_fieldOf_9 : decode prog_1_method_20_code 9 = .ok (.iload_n 1, 1) := by decide +kernel
theorem dF_fieldOf_10 : decode prog_1_method_20_code 10 = .ok (.invokestatic 41, 3) := by decide +kernel
theorem dF_fieldOf_13 : decode prog_1_method_20_code 13 = .ok (.iand, 1) := by decide +kernel
theorem dF_fieldOf_14 : decode prog_1_method_20_code 14 = .ok (.istore_n 2, 1) := by decide +kernel
theorem dF_fieldOf_15 : decode prog_1_method_20_code 15 = .ok (.iload_n 2, 1) := by decide +kernel
theorem dF_fieldOf_16 : decode prog_1_method_20_code 16 = .ok (.iload_n 0, 1) := by decide +kernel
theorem dF_fieldOf_17 : decode prog_1_method_20_code 17 = .ok (.iload_n 1, 1) := by decide +kernel
theorem dF_fieldOf_18 : decode prog_1_method_20_code 18 = .ok (.invokestatic 47, 3) := by decide +kernel
theorem dF_fieldOf_21 : decode prog_1_method_20_code 21 = .ok (.iand, 1) := by decide +kernel
theorem dF_fieldOf_22 : decode prog_1_method_20_code 22 = .ok (.ior, 1) := by decide +kernel
theorem dF_fieldOf_23 : decode prog_1_method_20_code 23 = .ok (.ireturn, 1) := by decide +kernel
theorem dF_greatLetter_0 : decode prog_1_method_21_code 0 = .ok (.iload_n 0, 1) := by decide +kernel
theorem dF_greatLetter_1 : decode prog_1_method_21_code 1 = .ok (.bipush 97, 2) := by decide +kernel
theorem dF_greatLetter_3 : decode prog_1_method_21_code 3 = .ok (.if_icmp .lt 19, 3) := by decide +kernel
theorem dF_greatLetter_6 : decode prog_1_method_21_code 6 = .ok (.iload_n 0, 1) := by decide +kernel
theorem dF_greatLetter_7 : decode prog_1_method_21_code 7 = .ok (.bipush 122, 2) := by decide +kernel
theorem dF_greatLetter_9 : decode prog_1_method_21_code 9 = .ok (.if_icmp .gt 13, 3) := by decide +kernel
theorem dF_greatLetter_12 : decode prog_1_method_21_code 12 = .ok (.iload_n 0, 1) := by decide +kernel
theorem dF_greatLetter_13 : decode prog_1_method_21_code 13 = .ok (.bipush 97, 2) := by decide +kernel
theorem dF_greatLetter_15 : decode prog_1_method_21_code 15 = .ok (.isub, 1) := by decide +kernel
theorem dF_greatLetter_16 : decode prog_1_method_21_code 16 = .ok (.bipush 65, 2) := by decide +kernel
theorem dF_greatLetter_18 : decode prog_1_method_21_code 18 = .ok (.iadd, 1) := by decide +kernel
theorem dF_greatLetter_19 : decode prog_1_method_21_code 19 = .ok (.goto 4, 3) := by decide +kernel
theorem dF_greatLetter_22 : decode prog_1_method_21_code 22 = .ok (.iload_n 0, 1) := by decide +kernel
theorem dF_greatLetter_23 : decode prog_1_method_21_code 23 = .ok (.ireturn, 1) := by decide +kernel
theorem dF_isField_0 : decode prog_1_method_9_code 0 = .ok (.iload_n 1, 1) := by decide +kernel
theorem dF_isField_1 : decode prog_1_method_9_code 1 = .ok (.ifCond .lt 26, 3) := by decide +kernel
theorem dF_isField_4 : decode prog_1_method_9_code 4 = .ok (.iload_n 1, 1) := by decide +kernel
theorem dF_isField_5 : decode prog_1_method_9_code 5 = .ok (.invokestatic 50, 3) := by decide +kernel
theorem dF_isField_8 : decode prog_1_method_9_code 8 = .ok (.iload_n 1, 1) := by decide +kernel
theorem dF_isField_9 : decode prog_1_method_9_code 9 = .ok (.invokestatic 44, 3) := by decide +kernel
theorem dF_isField_12 : decode prog_1_method_9_code 12 = .ok (.if_icmp .gt 15, 3) := by decide +kernel
theorem dF_isField_15 : decode prog_1_method_9_code 15 = .ok (.iload_n 1, 1) := by decide +kernel
theorem dF_isField_16 : decode prog_1_method_9_code 16 = .ok (.invokestatic 44, 3) := by decide +kernel
theorem dF_isField_19 : decode prog_1_method_9_code 19 = .ok (.iconst 5, 1) := by decide +kernel
theorem dF_isField_20 : decode prog_1_method_9_code 20 = .ok (.if_icmp .gt 7, 3) := by decide +kernel
theorem dF_isField_23 : decode prog_1_method_9_code 23 = .ok (.iconst 1, 1) := by decide +kernel
theorem dF_isField_24 : decode prog_1_method_9_code 24 = .ok (.goto 4, 3) := by decide +kernel
theorem dF_isField_27 : decode prog_1_method_9_code 27 = .ok (.iconst 0, 1) := by decide +kernel
theorem dF_isField_28 : decode prog_1_method_9_code 28 = .ok (.ireturn, 1) := by decide +kernel
theorem dF_value_0 : decode prog_1_method_3_code 0 = .ok (.iload_n 1, 1) := by decide +kernel
theorem dF_value_1 : decode prog_1_method_3_code 1 = .ok (.invokestatic 15, 3) := by decide +kernel
theorem dF_value_4 : decode prog_1_method_3_code 4 = .ok (.ifCond .ne 6, 3) := by decide +kernel
theorem dF_value_7 : decode prog_1_method_3_code 7 = .ok (.ldc 22, 2) := by decide +kernel
theorem dF_value_9 : decode prog_1_method_3_code 9 = .ok (.ireturn, 1) := by decide +kernel
theorem dF_value_10 : decode prog_1_method_3_code 10 = .ok (.aload_n 0, 1) := by decide +kernel
theorem dF_value_11 : decode prog_1_method_3_code 11 = .ok (.getfield 11, 3) := by decide +kernel
theorem dF_value_14 : decode prog_1_method_3_code 14 = .ok (.iload_n 1, 1) := by decide +kernel
theorem dF_value_15 : decode prog_1_method_3_code 15 = .ok (.iaload, 1) := by decide +kernel
theorem dF_value_16 : decode prog_1_method_3_code 16 = .ok (.istore_n 2, 1) := by decide +kernel
theorem dF_value_17 : decode prog_1_method_3_code 17 = .ok (.iload_n 2, 1) := by decide +kernel
theorem dF_value_18 : decode prog_1_method_3_code 18 = .ok (.ldc 21, 2) := by decide +kernel
theorem dF_value_20 : decode prog_1_method_3_code 20 = .ok (.if_icmp .ne 8, 3) := by decide +kernel
theorem dF_value_23 : decode prog_1_method_3_code 23 = .ok (.ldc 23, 2) := by decide +kernel
theorem dF_value_25 : decode prog_1_method_3_code 25 = .ok (.goto 7, 3) := by decide +kernel
theorem dF_value_28 : decode prog_1_method_3_code 28 = .ok (.iload_n 2, 1) := by decide +kernel
theorem dF_value_29 : decode prog_1_method_3_code 29 = .ok (.invokestatic 24, 3) := by decide +kernel
theorem dF_value_32 : decode prog_1_method_3_code 32 = .ok (.ireturn, 1) := by decide +kernel
theorem dF_byteOf_0 : decode prog_1_method_4_code 0 = .ok (.iload_n 1, 1) := by decide +kernel
theorem dF_byteOf_1 : decode prog_1_method_4_code 1 = .ok (.invokestatic 15, 3) := by decide +kernel
theorem dF_byteOf_4 : decode prog_1_method_4_code 4 = .ok (.ifCond .eq 12, 3) := by decide +kernel
theorem dF_byteOf_7 : decode prog_1_method_4_code 7 = .ok (.iload_n 2, 1) := by decide +kernel
theorem dF_byteOf_8 : decode prog_1_method_4_code 8 = .ok (.ifCond .lt 8, 3) := by decide +kernel
theorem dF_byteOf_11 : decode prog_1_method_4_code 11 = .ok (.iload_n 2, 1) := by decide +kernel
theorem dF_byteOf_12 : decode prog_1_method_4_code 12 = .ok (.iconst 5, 1) := by decide +kernel
theorem dF_byteOf_13 : decode prog_1_method_4_code 13 = .ok (.if_icmp .le 5, 3) := by decide +kernel
theorem dF_byteOf_16 : decode prog_1_method_4_code 16 = .ok (.iconst (-1), 1) := by decide +kernel
theorem dF_byteOf_17 : decode prog_1_method_4_code 17 = .ok (.ireturn, 1) := by decide +kernel
theorem dF_byteOf_18 : decode prog_1_method_4_code 18 = .ok (.aload_n 0, 1) := by decide +kernel
theorem dF_byteOf_19 : decode prog_1_method_4_code 19 = .ok (.getfield 11, 3) := by decide +kernel
theorem dF_byteOf_22 : decode prog_1_method_4_code 22 = .ok (.iload_n 1, 1) := by decide +kernel
theorem dF_byteOf_23 : decode prog_1_method_4_code 23 = .ok (.iaload, 1) := by decide +kernel
theorem dF_byteOf_24 : decode prog_1_method_4_code 24 = .ok (.istore_n 3, 1) := by decide +kernel
theorem dF_byteOf_25 : decode prog_1_method_4_code 25 = .ok (.iload_n 2, 1) := by decide +kernel
theorem dF_byteOf_26 : decode prog_1_method_4_code 26 = .ok (.ifCond .ne 16, 3) := by decide +kernel
theorem dF_byteOf_29 : decode prog_1_method_4_code 29 = .ok (.iload_n 3, 1) := by decide +kernel
theorem dF_byteOf_30 : decode prog_1_method_4_code 30 = .ok (.invokestatic 28, 3) := by decide +kernel
theorem dF_byteOf_33 : decode prog_1_method_4_code 33 = .ok (.ifCond .eq 7, 3) := by decide +kernel
theorem dF_byteOf_36 : decode prog_1_method_4_code 36 = .ok (.iconst 1, 1) := by decide +kernel
theorem dF_byteOf_37 : decode prog_1_method_4_code 37 = .ok (.goto 4, 3) := by decide +kernel
theorem dF_byteOf_40 : decode prog_1_method_4_code 40 = .ok (.iconst 0, 1) := by decide +kernel
theorem dF_byteOf_41 : decode prog_1_method_4_code 41 = .ok (.ireturn, 1) := by decide +kernel
theorem dF_byteOf_42 : decode prog_1_method_4_code 42 = .ok (.iload_n 3, 1) := by decide +kernel
theorem dF_byteOf_43 : decode prog_1_method_4_code 43 = .ok (.iload_n 2, 1) := by decide +kernel
theorem dF_byteOf_44 : decode prog_1_method_4_code 44 = .ok (.invokestatic 31, 3) := by decide +kernel
theorem dF_byteOf_47 : decode prog_1_method_4_code 47 = .ok (.ishr, 1) := by decide +kernel
theorem dF_byteOf_48 : decode prog_1_method_4_code 48 = .ok (.bipush 63, 2) := by decide +kernel
theorem dF_byteOf_50 : decode prog_1_method_4_code 50 = .ok (.iand, 1) := by decide +kernel
theorem dF_byteOf_51 : decode prog_1_method_4_code 51 = .ok (.ireturn, 1) := by decide +kernel
theorem dF_compare_0 : decode prog_1_method_8_code 0 = .ok (.iload_n 1, 1) := by decide +kernel
theorem dF_compare_1 : decode prog_1_method_8_code 1 = .ok (.invokestatic 15, 3) := by decide +kernel
theorem dF_compare_4 : decode prog_1_method_8_code 4 = .ok (.ifCond .eq 18, 3) := by decide +kernel
theorem dF_compare_7 : decode prog_1_method_8_code 7 = .ok (.iload_n 2, 1) := by decide +kernel
theorem dF_compare_8 : decode prog_1_method_8_code 8 = .ok (.invokestatic 15, 3) := by decide +kernel
theorem dF_compare_11 : decode prog_1_method_8_code 11 = .ok (.ifCond .eq 11, 3) := by decide +kernel
theorem dF_compare_14 : decode prog_1_method_8_code 14 = .ok (.aload_n 0, 1) := by decide +kernel
theorem dF_compare_15 : decode prog_1_method_8_code 15 = .ok (.iload_n 3, 1) := by decide +kernel
theorem dF_compare_16 : decode prog_1_method_8_code 16 = .ok (.invokevirtual 34, 3) := by decide +kernel
theorem dF_compare_19 : decode prog_1_method_8_code 19 = .ok (.ifCond .ne 6, 3) := by decide +kernel
theorem dF_compare_22 : decode prog_1_method_8_code 22 = .ok (.bipush (-2), 2) := by decide +kernel
theorem dF_compare_24 : decode prog_1_method_8_code 24 = .ok (.ireturn, 1) := by decide +kernel
theorem dF_compare_25 : decode prog_1_method_8_code 25 = .ok (.aload_n 0, 1) := by decide +kernel
theorem dF_compare_26 : decode prog_1_method_8_code 26 = .ok (.getfield 11, 3) := by decide +kernel
theorem dF_compare_29 : decode prog_1_method_8_code 29 = .ok (.iload_n 1, 1) := by decide +kernel
theorem dF_compare_30 : decode prog_1_method_8_code 30 = .ok (.iaload, 1) := by decide +kernel
theorem dF_compare_31 : decode prog_1_method_8_code 31 = .ok (.iload_n 3, 1) := by decide +kernel
theorem dF_compare_32 : decode prog_1_method_8_code 32 = .ok (.invokestatic 37, 3) := by decide +kernel
theorem dF_compare_35 : decode prog_1_method_8_code 35 = .ok (.invokestatic 24, 3) := by decide +kernel
theorem dF_compare_38 : decode prog_1_method_8_code 38 = .ok (.istore 4, 2) := by decide +kernel
theorem dF_compare_40 : decode prog_1_method_8_code 40 = .ok (.aload_n 0, 1) := by decide +kernel
theorem dF_compare_41 : decode prog_1_method_8_code 41 = .ok (.getfield 11, 3) := by decide +kernel
theorem dF_compare_44 : decode prog_1_method_8_code 44 = .ok (.iload_n 2, 1) := by decide +kernel
theorem dF_compare_45 : decode prog_1_method_8_code 45 = .ok (.iaload, 1) := by decide +kernel
theorem dF_compare_46 : decode prog_1_method_8_code 46 = .ok (.iload_n 3, 1) := by decide +kernel
theorem dF_compare_47 : decode prog_1_method_8_code 47 = .ok (.invokestatic 37, 3) := by decide +kernel
theorem dF_compare_50 : decode prog_1_method_8_code 50 = .ok (.invokestatic 24, 3) := by decide +kernel
theorem dF_compare_53 : decode prog_1_method_8_code 53 = .ok (.istore 5, 2) := by decide +kernel
theorem dF_compare_55 : decode prog_1_method_8_code 55 = .ok (.iload 4, 2) := by decide +kernel
theorem dF_compare_57 : decode prog_1_method_8_code 57 = .ok (.iload 5, 2) := by decide +kernel
theorem dF_compare_59 : decode prog_1_method_8_code 59 = .ok (.if_icmp .ge 7, 3) := by decide +kernel
theorem dF_compare_62 : decode prog_1_method_8_code 62 = .ok (.iconst (-1), 1) := by decide +kernel
theorem dF_compare_63 : decode prog_1_method_8_code 63 = .ok (.goto 15, 3) := by decide +kernel
theorem dF_compare_66 : decode prog_1_method_8_code 66 = .ok (.iload 4, 2) := by decide +kernel
theorem dF_compare_68 : decode prog_1_method_8_code 68 = .ok (.iload 5, 2) := by decide +kernel
theorem dF_compare_70 : decode prog_1_method_8_code 70 = .ok (.if_icmp .le 7, 3) := by decide +kernel
theorem dF_compare_73 : decode prog_1_method_8_code 73 = .ok (.iconst 1, 1) := by decide +kernel
theorem dF_compare_74 : decode prog_1_method_8_code 74 = .ok (.goto 4, 3) := by decide +kernel
theorem dF_compare_77 : decode prog_1_method_8_code 77 = .ok (.iconst 0, 1) := by decide +kernel
theorem dF_compare_78 : decode prog_1_method_8_code 78 = .ok (.ireturn, 1) := by decide +kernel
theorem dF_set_0 : decode prog_1_method_2_code 0 = .ok (.iload_n 1, 1) := by decide +kernel
theorem dF_set_1 : decode prog_1_method_2_code 1 = .ok (.invokestatic 15, 3) := by decide +kernel
theorem dF_set_4 : decode prog_1_method_2_code 4 = .ok (.ifCond .eq 15, 3) := by decide +kernel
theorem dF_set_7 : decode prog_1_method_2_code 7 = .ok (.iload_n 2, 1) := by decide +kernel
theorem dF_set_8 : decode prog_1_method_2_code 8 = .ok (.ldc 19, 2) := by decide +kernel
theorem dF_set_10 : decode prog_1_method_2_code 10 = .ok (.if_icmp .gt 9, 3) := by decide +kernel
theorem dF_set_13 : decode prog_1_method_2_code 13 = .ok (.iload_n 2, 1) := by decide +kernel
theorem dF_set_14 : decode prog_1_method_2_code 14 = .ok (.ldc 20, 2) := by decide +kernel
theorem dF_set_16 : decode prog_1_method_2_code 16 = .ok (.if_icmp .ge 5, 3) := by decide +kernel
theorem dF_set_19 : decode prog_1_method_2_code 19 = .ok (.iconst 0, 1) := by decide +kernel
theorem dF_set_20 : decode prog_1_method_2_code 20 = .ok (.ireturn, 1) := by decide +kernel
theorem dF_set_21 : decode prog_1_method_2_code 21 = .ok (.iload_n 2, 1) := by decide +kernel
theorem dF_set_22 : decode prog_1_method_2_code 22 = .ok (.ifCond .lt 11, 3) := by decide +kernel
theorem dF_set_25 : decode prog_1_method_2_code 25 = .ok (.iload_n 2, 1) := by decide +kernel
theorem dF_set_26 : decode prog_1_method_2_code 26 = .ok (.ifCond .ne 11, 3) := by decide +kernel
theorem dF_set_29 : decode prog_1_method_2_code 29 = .ok (.iload_n 3, 1) := by decide +kernel
theorem dF_set_30 : decode prog_1_method_2_code 30 = .ok (.ifCond .eq 7, 3) := by decide +kernel
theorem dF_set_33 : decode prog_1_method_2_code 33 = .ok (.iconst 1, 1) := by decide +kernel
theorem dF_set_34 : decode prog_1_method_2_code 34 = .ok (.goto 4, 3) := by decide +kernel
theorem dF_set_37 : decode prog_1_method_2_code 37 = .ok (.iconst 0, 1) := by decide +kernel
theorem dF_set_38 : decode prog_1_method_2_code 38 = .ok (.istore 4, 2) := by decide +kernel
theorem dF_set_40 : decode prog_1_method_2_code 40 = .ok (.aload_n 0, 1) := by decide +kernel
theorem dF_set_41 : decode prog_1_method_2_code 41 = .ok (.getfield 11, 3) := by decide +kernel
theorem dF_set_44 : decode prog_1_method_2_code 44 = .ok (.iload_n 1, 1) := by decide +kernel
theorem dF_set_45 : decode prog_1_method_2_code 45 = .ok (.iload_n 2, 1) := by decide +kernel
theorem dF_set_46 : decode prog_1_method_2_code 46 = .ok (.ifCond .ge 8, 3) := by decide +kernel
theorem dF_set_49 : decode prog_1_method_2_code 49 = .ok (.iload_n 2, 1) := by decide +kernel
theorem dF_set_50 : decode prog_1_method_2_code 50 = .ok (.ineg, 1) := by decide +kernel
theorem dF_set_51 : decode prog_1_method_2_code 51 = .ok (.goto 4, 3) := by decide +kernel
theorem dF_set_54 : decode prog_1_method_2_code 54 = .ok (.iload_n 2, 1) := by decide +kernel
theorem dF_set_55 : decode prog_1_method_2_code 55 = .ok (.iload 4, 2) := by decide +kernel
theorem dF_set_57 : decode prog_1_method_2_code 57 = .ok (.ifCond .eq 8, 3) := by decide +kernel
theorem dF_set_60 : decode prog_1_method_2_code 60 = .ok (.ldc 21, 2) := by decide +kernel
theorem dF_set_62 : decode prog_1_method_2_code 62 = .ok (.goto 4, 3) := by decide +kernel
theorem dF_set_65 : decode prog_1_method_2_code 65 = .ok (.iconst 0, 1) := by decide +kernel
theorem dF_set_66 : decode prog_1_method_2_code 66 = .ok (.ior, 1) := by decide +kernel
theorem dF_set_67 : decode prog_1_method_2_code 67 = .ok (.iastore, 1) := by decide +kernel
theorem dF_set_68 : decode prog_1_method_2_code 68 = .ok (.iconst 1, 1) := by decide +kernel
theorem dF_set_69 : decode prog_1_method_2_code 69 = .ok (.ireturn, 1) := by decide +kernel
theorem dF_load_0 : decode prog_1_method_5_code 0 = .ok (.iload_n 1, 1) := by decide +kernel
theorem dF_load_1 : decode prog_1_method_5_code 1 = .ok (.invokestatic 15, 3) := by decide +kernel
theorem dF_load_4 : decode prog_1_method_5_code 4 = .ok (.ifCond .eq 18, 3) := by decide +kernel
theorem dF_load_7 : decode prog_1_method_5_code 7 = .ok (.iload_n 2, 1) := by decide +kernel
theorem dF_load_8 : decode prog_1_method_5_code 8 = .ok (.invokestatic 15, 3) := by decide +kernel
theorem dF_load_11 : decode prog_1_method_5_code 11 = .ok (.ifCond .eq 11, 3) := by decide +kernel
theorem dF_load_14 : decode prog_1_method_5_code 14 = .ok (.aload_n 0, 1) := by decide +kernel
theorem dF_load_15 : decode prog_1_method_5_code 15 = .ok (.iload_n 3, 1) := by decide +kernel
theorem dF_load_16 : decode prog_1_method_5_code 16 = .ok (.invokevirtual 34, 3) := by decide +kernel
theorem dF_load_19 : decode prog_1_method_5_code 19 = .ok (.ifCond .ne 5, 3) := by decide +kernel
theorem dF_load_22 : decode prog_1_method_5_code 22 = .ok (.iconst 0, 1) := by decide +kernel
theorem dF_load_23 : decode prog_1_method_5_code 23 = .ok (.ireturn, 1) := by decide +kernel
theorem dF_load_24 : decode prog_1_method_5_code 24 = .ok (.aload_n 0, 1) := by decide +kernel
theorem dF_load_25 : decode prog_1_method_5_code 25 = .ok (.getfield 11, 3) := by decide +kernel
theorem dF_load_28 : decode prog_1_method_5_code 28 = .ok (.iload_n 1, 1) := by decide +kernel
theorem dF_load_29 : decode prog_1_method_5_code 29 = .ok (.aload_n 0, 1) := by decide +kernel
theorem dF_load_30 : decode prog_1_method_5_code 30 = .ok (.getfield 11, 3) := by decide +kernel
theorem dF_load_33 : decode prog_1_method_5_code 33 = .ok (.iload_n 2, 1) := by decide +kernel
theorem dF_load_34 : decode prog_1_method_5_code 34 = .ok (.iaload, 1) := by decide +kernel
theorem dF_load_35 : decode prog_1_method_5_code 35 = .ok (.iload_n 3, 1) := by decide +kernel
theorem dF_load_36 : decode prog_1_method_5_code 36 = .ok (.invokestatic 37, 3) := by decide +kernel
theorem dF_load_39 : decode prog_1_method_5_code 39 = .ok (.iastore, 1) := by decide +kernel
theorem dF_load_40 : decode prog_1_method_5_code 40 = .ok (.iconst 1, 1) := by decide +kernel
theorem dF_load_41 : decode prog_1_method_5_code 41 = .ok (.ireturn, 1) := by decide +kernel
theorem dF_store_0 : decode prog_1_method_6_code 0 = .ok (.iload_n 1, 1) := by decide +kernel
theorem dF_store_1 : decode prog_1_method_6_code 1 = .ok (.invokestatic 15, 3) := by decide +kernel
theorem dF_store_4 : decode prog_1_method_6_code 4 = .ok (.ifCond .eq 18, 3) := by decide +kernel
theorem dF_store_7 : decode prog_1_method_6_code 7 = .ok (.iload_n 2, 1) := by decide +kernel
theorem dF_store_8 : decode prog_1_method_6_code 8 = .ok (.invokestatic 15, 3) := by decide +kernel
theorem dF_store_11 : decode prog_1_method_6_code 11 = .ok (.ifCond .eq 11, 3) := by decide +kernel
theorem dF_store_14 : decode prog_1_method_6_code 14 = .ok (.aload_n 0, 1) := by decide +kernel
theorem dF_store_15 : decode prog_1_method_6_code 15 = .ok (.iload_n 3, 1) := by decide +kernel
theorem dF_store_16 : decode prog_1_method_6_code 16 = .ok (.invokevirtual 34, 3) := by decide +kernel
theorem dF_store_19 : decode prog_1_method_6_code 19 = .ok (.ifCond .ne 5, 3) := by decide +kernel
theorem dF_store_22 : decode prog_1_method_6_code 22 = .ok (.iconst 0, 1) := by decide +kernel
theorem dF_store_23 : decode prog_1_method_6_code 23 = .ok (.ireturn, 1) := by decide +kernel
theorem dF_store_24 : decode prog_1_method_6_code 24 = .ok (.aload_n 0, 1) := by decide +kernel
theorem dF_store_25 : decode prog_1_method_6_code 25 = .ok (.getfield 11, 3) := by decide +kernel
theorem dF_store_28 : decode prog_1_method_6_code 28 = .ok (.iload_n 2, 1) := by decide +kernel
theorem dF_store_29 : decode prog_1_method_6_code 29 = .ok (.iaload, 1) := by decide +kernel
theorem dF_store_30 : decode prog_1_method_6_code 30 = .ok (.istore 4, 2) := by decide +kernel
theorem dF_store_32 : decode prog_1_method_6_code 32 = .ok (.iload 4, 2) := by decide +kernel
theorem dF_store_34 : decode prog_1_method_6_code 34 = .ok (.iload_n 3, 1) := by decide +kernel
theorem dF_store_35 : decode prog_1_method_6_code 35 = .ok (.invokestatic 41, 3) := by decide +kernel
theorem dF_store_38 : decode prog_1_method_6_code 38 = .ok (.iand, 1) := by decide +kernel
theorem dF_store_39 : decode prog_1_method_6_code 39 = .ok (.iload_n 3, 1) := by decide +kernel
theorem dF_store_40 : decode prog_1_method_6_code 40 = .ok (.invokestatic 44, 3) := by decide +kernel
theorem dF_store_43 : decode prog_1_method_6_code 43 = .ok (.invokestatic 31, 3) := by decide +kernel
theorem dF_store_46 : decode prog_1_method_6_code 46 = .ok (.ishl, 1) := by decide +kernel
theorem dF_store_47 : decode prog_1_method_6_code 47 = .ok (.istore 5, 2) := by decide +kernel
theorem dF_store_49 : decode prog_1_method_6_code 49 = .ok (.iload_n 3, 1) := by decide +kernel
theorem dF_store_50 : decode prog_1_method_6_code 50 = .ok (.invokestatic 41, 3) := by decide +kernel
theorem dF_store_53 : decode prog_1_method_6_code 53 = .ok (.iload_n 3, 1) := by decide +kernel
theorem dF_store_54 : decode prog_1_method_6_code 54 = .ok (.invokestatic 44, 3) := by decide +kernel
theorem dF_store_57 : decode prog_1_method_6_code 57 = .ok (.invokestatic 31, 3) := by decide +kernel
theorem dF_store_60 : decode prog_1_method_6_code 60 = .ok (.ishl, 1) := by decide +kernel
theorem dF_store_61 : decode prog_1_method_6_code 61 = .ok (.iload_n 3, 1) := by decide +kernel
theorem dF_store_62 : decode prog_1_method_6_code 62 = .ok (.invokestatic 47, 3) := by decide +kernel
theorem dF_store_65 : decode prog_1_method_6_code 65 = .ok (.ior, 1) := by decide +kernel
theorem dF_store_66 : decode prog_1_method_6_code 66 = .ok (.istore 6, 2) := by decide +kernel
theorem dF_store_68 : decode prog_1_method_6_code 68 = .ok (.aload_n 0, 1) := by decide +kernel
theorem dF_store_69 : decode prog_1_method_6_code 69 = .ok (.getfield 11, 3) := by decide +kernel
theorem dF_store_72 : decode prog_1_method_6_code 72 = .ok (.iload_n 1, 1) := by decide +kernel
theorem dF_store_73 : decode prog_1_method_6_code 73 = .ok (.aload_n 0, 1) := by decide +kernel
theorem dF_store_74 : decode prog_1_method_6_code 74 = .ok (.getfield 11, 3) := by decide +kernel
theorem dF_store_77 : decode prog_1_method_6_code 77 = .ok (.iload_n 1, 1) := by decide +kernel
theorem dF_store_78 : decode prog_1_method_6_code 78 = .ok (.iaload, 1) := by decide +kernel
theorem dF_store_79 : decode prog_1_method_6_code 79 = .ok (.iload 6, 2) := by decide +kernel
theorem dF_store_81 : decode prog_1_method_6_code 81 = .ok (.iconst (-1), 1) := by decide +kernel
theorem dF_store_82 : decode prog_1_method_6_code 82 = .ok (.ixor, 1) := by decide +kernel
theorem dF_store_83 : decode prog_1_method_6_code 83 = .ok (.iand, 1) := by decide +kernel
theorem dF_store_84 : decode prog_1_method_6_code 84 = .ok (.iload 5, 2) := by decide +kernel
theorem dF_store_86 : decode prog_1_method_6_code 86 = .ok (.ior, 1) := by decide +kernel
theorem dF_store_87 : decode prog_1_method_6_code 87 = .ok (.iload 4, 2) := by decide +kernel
theorem dF_store_89 : decode prog_1_method_6_code 89 = .ok (.iload_n 3, 1) := by decide +kernel
theorem dF_store_90 : decode prog_1_method_6_code 90 = .ok (.invokestatic 47, 3) := by decide +kernel
theorem dF_store_93 : decode prog_1_method_6_code 93 = .ok (.iand, 1) := by decide +kernel
theorem dF_store_94 : decode prog_1_method_6_code 94 = .ok (.ior, 1) := by decide +kernel
theorem dF_store_95 : decode prog_1_method_6_code 95 = .ok (.iastore, 1) := by decide +kernel
theorem dF_store_96 : decode prog_1_method_6_code 96 = .ok (.iconst 1, 1) := by decide +kernel
theorem dF_store_97 : decode prog_1_method_6_code 97 = .ok (.ireturn, 1) := by decide +kernel
theorem dF_turn_0 : decode prog_1_method_7_code 0 = .ok (.iload_n 1, 1) := by decide +kernel
theorem dF_turn_1 : decode prog_1_method_7_code 1 = .ok (.invokestatic 15, 3) := by decide +kernel
theorem dF_turn_4 : decode prog_1_method_7_code 4 = .ok (.ifCond .ne 5, 3) := by decide +kernel
theorem dF_turn_7 : decode prog_1_method_7_code 7 = .ok (.iconst 0, 1) := by decide +kernel
theorem dF_turn_8 : decode prog_1_method_7_code 8 = .ok (.ireturn, 1) := by decide +kernel
theorem dF_turn_9 : decode prog_1_method_7_code 9 = .ok (.aload_n 0, 1) := by decide +kernel
theorem dF_turn_10 : decode prog_1_method_7_code 10 = .ok (.getfield 11, 3) := by decide +kernel
theorem dF_turn_13 : decode prog_1_method_7_code 13 = .ok (.iload_n 1, 1) := by decide +kernel
theorem dF_turn_14 : decode prog_1_method_7_code 14 = .ok (.dup2, 1) := by decide +kernel
theorem dF_turn_15 : decode prog_1_method_7_code 15 = .ok (.iaload, 1) := by decide +kernel
theorem dF_turn_16 : decode prog_1_method_7_code 16 = .ok (.ldc 21, 2) := by decide +kernel
theorem dF_turn_18 : decode prog_1_method_7_code 18 = .ok (.ixor, 1) := by decide +kernel
theorem dF_turn_19 : decode prog_1_method_7_code 19 = .ok (.iastore, 1) := by decide +kernel
theorem dF_turn_20 : decode prog_1_method_7_code 20 = .ok (.iconst 1, 1) := by decide +kernel
theorem dF_turn_21 : decode prog_1_method_7_code 21 = .ok (.ireturn, 1) := by decide +kernel
theorem dS_coder_0 : decode prog_6_method_152_code 0 = .ok (.getstatic 38, 3) := by decide +kernel
theorem dS_coder_3 : decode prog_6_method_152_code 3 = .ok (.ifCond .eq 10, 3) := by decide +kernel
theorem dS_coder_6 : decode prog_6_method_152_code 6 = .ok (.aload_n 0, 1) := by decide +kernel
theorem dS_coder_7 : decode prog_6_method_152_code 7 = .ok (.getfield 15, 3) := by decide +kernel
theorem dS_coder_10 : decode prog_6_method_152_code 10 = .ok (.goto 4, 3) := by decide +kernel
theorem dS_coder_13 : decode prog_6_method_152_code 13 = .ok (.iconst 1, 1) := by decide +kernel
theorem dS_coder_14 : decode prog_6_method_152_code 14 = .ok (.ireturn, 1) := by decide +kernel
theorem dS_isLatin1_0 : decode prog_6_method_154_code 0 = .ok (.getstatic 38, 3) := by decide +kernel
theorem dS_isLatin1_3 : decode prog_6_method_154_code 3 = .ok (.ifCond .eq 14, 3) := by decide +kernel
theorem dS_isLatin1_6 : decode prog_6_method_154_code 6 = .ok (.aload_n 0, 1) := by decide +kernel
theorem dS_isLatin1_7 : decode prog_6_method_154_code 7 = .ok (.getfield 15, 3) := by decide +kernel
theorem dS_isLatin1_10 : decode prog_6_method_154_code 10 = .ok (.ifCond .ne 7, 3) := by decide +kernel
theorem dS_isLatin1_13 : decode prog_6_method_154_code 13 = .ok (.iconst 1, 1) := by decide +kernel
theorem dS_isLatin1_14 : decode prog_6_method_154_code 14 = .ok (.goto 4, 3) := by decide +kernel
theorem dS_isLatin1_17 : decode prog_6_method_154_code 17 = .ok (.iconst 0, 1) := by decide +kernel
theorem dS_isLatin1_18 : decode prog_6_method_154_code 18 = .ok (.ireturn, 1) := by decide +kernel
theorem dS_length_0 : decode prog_6_method_54_code 0 = .ok (.aload_n 0, 1) := by decide +kernel
theorem dS_length_1 : decode prog_6_method_54_code 1 = .ok (.getfield 9, 3) := by decide +kernel
theorem dS_length_4 : decode prog_6_method_54_code 4 = .ok (.arraylength, 1) := by decide +kernel
theorem dS_length_5 : decode prog_6_method_54_code 5 = .ok (.aload_n 0, 1) := by decide +kernel
theorem dS_length_6 : decode prog_6_method_54_code 6 = .ok (.invokevirtual 335, 3) := by decide +kernel
theorem dS_length_9 : decode prog_6_method_54_code 9 = .ok (.ishr, 1) := by decide +kernel
theorem dS_length_10 : decode prog_6_method_54_code 10 = .ok (.ireturn, 1) := by decide +kernel
theorem dQ_checkIndex_0 : decode prog_9_method_11_code 0 = .ok (.iload_n 0, 1) := by decide +kernel
theorem dQ_checkIndex_1 : decode prog_9_method_11_code 1 = .ok (.ifCond .lt 8, 3) := by decide +kernel
theorem dQ_checkIndex_4 : decode prog_9_method_11_code 4 = .ok (.iload_n 0, 1) := by decide +kernel
theorem dQ_checkIndex_5 : decode prog_9_method_11_code 5 = .ok (.iload_n 1, 1) := by decide +kernel
theorem dQ_checkIndex_6 : decode prog_9_method_11_code 6 = .ok (.if_icmp .lt 10, 3) := by decide +kernel
theorem dQ_checkIndex_9 : decode prog_9_method_11_code 9 = .ok (.aload_n 2, 1) := by decide +kernel
theorem dQ_checkIndex_10 : decode prog_9_method_11_code 10 = .ok (.iload_n 0, 1) := by decide +kernel
theorem dQ_checkIndex_11 : decode prog_9_method_11_code 11 = .ok (.iload_n 1, 1) := by decide +kernel
theorem dQ_checkIndex_12 : decode prog_9_method_11_code 12 = .ok (.invokestatic 95, 3) := by decide +kernel
theorem dQ_checkIndex_15 : decode prog_9_method_11_code 15 = .ok (.athrow, 1) := by decide +kernel
theorem dQ_checkIndex_16 : decode prog_9_method_11_code 16 = .ok (.iload_n 0, 1) := by decide +kernel
theorem dQ_checkIndex_17 : decode prog_9_method_11_code 17 = .ok (.ireturn, 1) := by decide +kernel
theorem dS_checkIndex_0 : decode prog_6_method_155_code 0 = .ok (.iload_n 0, 1) := by decide +kernel
theorem dS_checkIndex_1 : decode prog_6_method_155_code 1 = .ok (.iload_n 1, 1) := by decide +kernel
theorem dS_checkIndex_2 : decode prog_6_method_155_code 2 = .ok (.getstatic 1053, 3) := by decide +kernel
theorem dS_checkIndex_5 : decode prog_6_method_155_code 5 = .ok (.invokestatic 1059, 3) := by decide +kernel
theorem dS_checkIndex_8 : decode prog_6_method_155_code 8 = .ok (.pop, 1) := by decide +kernel
theorem dS_checkIndex_9 : decode prog_6_method_155_code 9 = .ok (.return_, 1) := by decide +kernel
theorem dZ_charAt_0 : decode prog_7_method_2_code 0 = .ok (.iload_n 1, 1) := by decide +kernel
theorem dZ_charAt_1 : decode prog_7_method_2_code 1 = .ok (.aload_n 0, 1) := by decide +kernel
theorem dZ_charAt_2 : decode prog_7_method_2_code 2 = .ok (.arraylength, 1) := by decide +kernel
theorem dZ_charAt_3 : decode prog_7_method_2_code 3 = .ok (.invokestatic 9, 3) := by decide +kernel
theorem dZ_charAt_6 : decode prog_7_method_2_code 6 = .ok (.aload_n 0, 1) := by decide +kernel
theorem dZ_charAt_7 : decode prog_7_method_2_code 7 = .ok (.iload_n 1, 1) := by decide +kernel
theorem dZ_charAt_8 : decode prog_7_method_2_code 8 = .ok (.baload, 1) := by decide +kernel
theorem dZ_charAt_9 : decode prog_7_method_2_code 9 = .ok (.sipush 255, 3) := by decide +kernel
theorem dZ_charAt_12 : decode prog_7_method_2_code 12 = .ok (.iand, 1) := by decide +kernel
theorem dZ_charAt_13 : decode prog_7_method_2_code 13 = .ok (.i2c, 1) := by decide +kernel
theorem dZ_charAt_14 : decode prog_7_method_2_code 14 = .ok (.ireturn, 1) := by decide +kernel
theorem dS_charAt_0 : decode prog_6_method_56_code 0 = .ok (.aload_n 0, 1) := by decide +kernel
theorem dS_charAt_1 : decode prog_6_method_56_code 1 = .ok (.invokevirtual 492, 3) := by decide +kernel
theorem dS_charAt_4 : decode prog_6_method_56_code 4 = .ok (.ifCond .eq 12, 3) := by decide +kernel
theorem dS_charAt_7 : decode prog_6_method_56_code 7 = .ok (.aload_n 0, 1) := by decide +kernel
theorem dS_charAt_8 : decode prog_6_method_56_code 8 = .ok (.getfield 9, 3) := by decide +kernel
theorem dS_charAt_11 : decode prog_6_method_56_code 11 = .ok (.iload_n 1, 1) := by decide +kernel
theorem dS_charAt_12 : decode prog_6_method_56_code 12 = .ok (.invokestatic 495, 3) := by decide +kernel
theorem dS_charAt_15 : decode prog_6_method_56_code 15 = .ok (.ireturn, 1) := by decide +kernel
theorem dS_charAt_16 : decode prog_6_method_56_code 16 = .ok (.aload_n 0, 1) := by decide +kernel
theorem dS_charAt_17 : decode prog_6_method_56_code 17 = .ok (.getfield 9, 3) := by decide +kernel
theorem dS_charAt_20 : decode prog_6_method_56_code 20 = .ok (.iload_n 1, 1) := by decide +kernel
theorem dS_charAt_21 : decode prog_6_method_56_code 21 = .ok (.invokestatic 498, 3) := by decide +kernel
theorem dS_charAt_24 : decode prog_6_method_56_code 24 = .ok (.ireturn, 1) := by decide +kernel
theorem dZ_canEncode_0 : decode prog_7_method_4_code 0 = .ok (.iload_n 0, 1) := by decide +kernel
theorem dZ_canEncode_1 : decode prog_7_method_4_code 1 = .ok (.ifCond .lt 14, 3) := by decide +kernel
theorem dZ_canEncode_4 : decode prog_7_method_4_code 4 = .ok (.iload_n 0, 1) := by decide +kernel
theorem dZ_canEncode_5 : decode prog_7_method_4_code 5 = .ok (.sipush 255, 3) := by decide +kernel
theorem dZ_canEncode_8 : decode prog_7_method_4_code 8 = .ok (.if_icmp .gt 7, 3) := by decide +kernel
theorem dZ_canEncode_11 : decode prog_7_method_4_code 11 = .ok (.iconst 1, 1) := by decide +kernel
theorem dZ_canEncode_12 : decode prog_7_method_4_code 12 = .ok (.goto 4, 3) := by decide +kernel
theorem dZ_canEncode_15 : decode prog_7_method_4_code 15 = .ok (.iconst 0, 1) := by decide +kernel
theorem dZ_canEncode_16 : decode prog_7_method_4_code 16 = .ok (.ireturn, 1) := by decide +kernel
theorem dZ_indexOfChar_0 : decode prog_7_method_23_code 0 = .ok (.iload_n 1, 1) := by decide +kernel
theorem dZ_indexOfChar_1 : decode prog_7_method_23_code 1 = .ok (.i2b, 1) := by decide +kernel
theorem dZ_indexOfChar_2 : decode prog_7_method_23_code 2 = .ok (.istore 4, 2) := by decide +kernel
theorem dZ_indexOfChar_4 : decode prog_7_method_23_code 4 = .ok (.iload_n 2, 1) := by decide +kernel
theorem dZ_indexOfChar_5 : decode prog_7_method_23_code 5 = .ok (.istore 5, 2) := by decide +kernel
theorem dZ_indexOfChar_7 : decode prog_7_method_23_code 7 = .ok (.iload 5, 2) := by decide +kernel
theorem dZ_indexOfChar_9 : decode prog_7_method_23_code 9 = .ok (.iload_n 3, 1) := by decide +kernel
theorem dZ_indexOfChar_10 : decode prog_7_method_23_code 10 = .ok (.if_icmp .ge 21, 3) := by decide +kernel
theorem dZ_indexOfChar_13 : decode prog_7_method_23_code 13 = .ok (.aload_n 0, 1) := by decide +kernel
theorem dZ_indexOfChar_14 : decode prog_7_method_23_code 14 = .ok (.iload 5, 2) := by decide +kernel
theorem dZ_indexOfChar_16 : decode prog_7_method_23_code 16 = .ok (.baload, 1) := by decide +kernel
theorem dZ_indexOfChar_17 : decode prog_7_method_23_code 17 = .ok (.iload 4, 2) := by decide +kernel
theorem dZ_indexOfChar_19 : decode prog_7_method_23_code 19 = .ok (.if_icmp .ne 6, 3) := by decide +kernel
theorem dZ_indexOfChar_22 : decode prog_7_method_23_code 22 = .ok (.iload 5, 2) := by decide +kernel
theorem dZ_indexOfChar_24 : decode prog_7_method_23_code 24 = .ok (.ireturn, 1) := by decide +kernel
theorem dZ_indexOfChar_25 : decode prog_7_method_23_code 25 = .ok (.iinc 5 1, 3) := by decide +kernel
theorem dZ_indexOfChar_28 : decode prog_7_method_23_code 28 = .ok (.goto (-21), 3) := by decide +kernel
theorem dZ_indexOfChar_31 : decode prog_7_method_23_code 31 = .ok (.iconst (-1), 1) := by decide +kernel
theorem dZ_indexOfChar_32 : decode prog_7_method_23_code 32 = .ok (.ireturn, 1) := by decide +kernel
theorem dZ_indexOf_0 : decode prog_7_method_22_code 0 = .ok (.iload_n 1, 1) := by decide +kernel
theorem dZ_indexOf_1 : decode prog_7_method_22_code 1 = .ok (.invokestatic 88, 3) := by decide +kernel
theorem dZ_indexOf_4 : decode prog_7_method_22_code 4 = .ok (.ifCond .ne 5, 3) := by decide +kernel
theorem dZ_indexOf_7 : decode prog_7_method_22_code 7 = .ok (.iconst (-1), 1) := by decide +kernel
theorem dZ_indexOf_8 : decode prog_7_method_22_code 8 = .ok (.ireturn, 1) := by decide +kernel
theorem dZ_indexOf_9 : decode prog_7_method_22_code 9 = .ok (.iload_n 2, 1) := by decide +kernel
theorem dZ_indexOf_10 : decode prog_7_method_22_code 10 = .ok (.iconst 0, 1) := by decide +kernel
theorem dZ_indexOf_11 : decode prog_7_method_22_code 11 = .ok (.invokestatic 92, 3) := by decide +kernel
theorem dZ_indexOf_14 : decode prog_7_method_22_code 14 = .ok (.istore_n 2, 1) := by decide +kernel
theorem dZ_indexOf_15 : decode prog_7_method_22_code 15 = .ok (.iload_n 3, 1) := by decide +kernel
theorem dZ_indexOf_16 : decode prog_7_method_22_code 16 = .ok (.aload_n 0, 1) := by decide +kernel
theorem dZ_indexOf_17 : decode prog_7_method_22_code 17 = .ok (.arraylength, 1) := by decide +kernel
theorem dZ_indexOf_18 : decode prog_7_method_22_code 18 = .ok (.invokestatic 38, 3) := by decide +kernel
theorem dZ_indexOf_21 : decode prog_7_method_22_code 21 = .ok (.istore_n 3, 1) := by decide +kernel
theorem dZ_indexOf_22 : decode prog_7_method_22_code 22 = .ok (.iload_n 2, 1) := by decide +kernel
theorem dZ_indexOf_23 : decode prog_7_method_22_code 23 = .ok (.iload_n 3, 1) := by decide +kernel
theorem dZ_indexOf_24 : decode prog_7_method_22_code 24 = .ok (.if_icmp .lt 5, 3) := by decide +kernel
theorem dZ_indexOf_27 : decode prog_7_method_22_code 27 = .ok (.iconst (-1), 1) := by decide +kernel
theorem dZ_indexOf_28 : decode prog_7_method_22_code 28 = .ok (.ireturn, 1) := by decide +kernel
theorem dZ_indexOf_29 : decode prog_7_method_22_code 29 = .ok (.aload_n 0, 1) := by decide +kernel
theorem dZ_indexOf_30 : decode prog_7_method_22_code 30 = .ok (.iload_n 1, 1) := by decide +kernel
theorem dZ_indexOf_31 : decode prog_7_method_22_code 31 = .ok (.iload_n 2, 1) := by decide +kernel
theorem dZ_indexOf_32 : decode prog_7_method_22_code 32 = .ok (.iload_n 3, 1) := by decide +kernel
theorem dZ_indexOf_33 : decode prog_7_method_22_code 33 = .ok (.invokestatic 95, 3) := by decide +kernel
theorem dZ_indexOf_36 : decode prog_7_method_22_code 36 = .ok (.ireturn, 1) := by decide +kernel
theorem dS_indexOf2_0 : decode prog_6_method_80_code 0 = .ok (.aload_n 0, 1) := by decide +kernel
theorem dS_indexOf2_1 : decode prog_6_method_80_code 1 = .ok (.invokevirtual 492, 3) := by decide +kernel
theorem dS_indexOf2_4 : decode prog_6_method_80_code 4 = .ok (.ifCond .eq 19, 3) := by decide +kernel
theorem dS_indexOf2_7 : decode prog_6_method_80_code 7 = .ok (.aload_n 0, 1) := by decide +kernel
theorem dS_indexOf2_8 : decode prog_6_method_80_code 8 = .ok (.getfield 9, 3) := by decide +kernel
theorem dS_indexOf2_11 : decode prog_6_method_80_code 11 = .ok (.iload_n 1, 1) := by decide +kernel
theorem dS_indexOf2_12 : decode prog_6_method_80_code 12 = .ok (.iload_n 2, 1) := by decide +kernel
theorem dS_indexOf2_13 : decode prog_6_method_80_code 13 = .ok (.aload_n 0, 1) := by decide +kernel
theorem dS_indexOf2_14 : decode prog_6_method_80_code 14 = .ok (.invokevirtual 505, 3) := by decide +kernel
theorem dS_indexOf2_17 : decode prog_6_method_80_code 17 = .ok (.invokestatic 637, 3) := by decide +kernel
theorem dS_indexOf2_20 : decode prog_6_method_80_code 20 = .ok (.goto 16, 3) := by decide +kernel
theorem dS_indexOf2_23 : decode prog_6_method_80_code 23 = .ok (.aload_n 0, 1) := by decide +kernel
theorem dS_indexOf2_24 : decode prog_6_method_80_code 24 = .ok (.getfield 9, 3) := by decide +kernel
theorem dS_indexOf2_27 : decode prog_6_method_80_code 27 = .ok (.iload_n 1, 1) := by decide +kernel
theorem dS_indexOf2_28 : decode prog_6_method_80_code 28 = .ok (.iload_n 2, 1) := by decide +kernel
theorem dS_indexOf2_29 : decode prog_6_method_80_code 29 = .ok (.aload_n 0, 1) := by decide +kernel
theorem dS_indexOf2_30 : decode prog_6_method_80_code 30 = .ok (.invokevirtual 505, 3) := by decide +kernel
theorem dS_indexOf2_33 : decode prog_6_method_80_code 33 = .ok (.invokestatic 640, 3) := by decide +kernel
theorem dS_indexOf2_36 : decode prog_6_method_80_code 36 = .ok (.ireturn, 1) := by decide +kernel
theorem dS_indexOf_0 : decode prog_6_method_79_code 0 = .ok (.aload_n 0, 1) := by decide +kernel
theorem dS_indexOf_1 : decode prog_6_method_79_code 1 = .ok (.iload_n 1, 1) := by decide +kernel
theorem dS_indexOf_2 : decode prog_6_method_79_code 2 = .ok (.iconst 0, 1) := by decide +kernel
theorem dS_indexOf_3 : decode prog_6_method_79_code 3 = .ok (.invokevirtual 633, 3) := by decide +kernel
theorem dS_indexOf_6 : decode prog_6_method_79_code 6 = .ok (.ireturn, 1) := by decide +kernel
theorem dF_letter_0 : decode prog_1_method_10_code 0 = .ok (.iload_n 1, 1) := by decide +kernel
theorem dF_letter_1 : decode prog_1_method_10_code 1 = .ok (.ifCond .lt 9, 3) := by decide +kernel
theorem dF_letter_4 : decode prog_1_method_10_code 4 = .ok (.iload_n 1, 1) := by decide +kernel
theorem dF_letter_5 : decode prog_1_method_10_code 5 = .ok (.bipush 63, 2) := by decide +kernel
theorem dF_letter_7 : decode prog_1_method_10_code 7 = .ok (.if_icmp .le 5, 3) := by decide +kernel
theorem dF_letter_10 : decode prog_1_method_10_code 10 = .ok (.iconst (-1), 1) := by decide +kernel
theorem dF_letter_11 : decode prog_1_method_10_code 11 = .ok (.ireturn, 1) := by decide +kernel
theorem dF_letter_12 : decode prog_1_method_10_code 12 = .ok (.iload_n 1, 1) := by decide +kernel
theorem dF_letter_13 : decode prog_1_method_10_code 13 = .ok (.ldc 53, 2) := by decide +kernel
theorem dF_letter_15 : decode prog_1_method_10_code 15 = .ok (.invokevirtual 55, 3) := by decide +kernel
theorem dF_letter_18 : decode prog_1_method_10_code 18 = .ok (.if_icmp .ge 12, 3) := by decide +kernel
theorem dF_letter_21 : decode prog_1_method_10_code 21 = .ok (.ldc 53, 2) := by decide +kernel
theorem dF_letter_23 : decode prog_1_method_10_code 23 = .ok (.iload_n 1, 1) := by decide +kernel
theorem dF_letter_24 : decode prog_1_method_10_code 24 = .ok (.invokevirtual 61, 3) := by decide +kernel
theorem dF_letter_27 : decode prog_1_method_10_code 27 = .ok (.goto 5, 3) := by decide +kernel
theorem dF_letter_30 : decode prog_1_method_10_code 30 = .ok (.bipush 63, 2) := by decide +kernel
theorem dF_letter_32 : decode prog_1_method_10_code 32 = .ok (.ireturn, 1) := by decide +kernel
theorem dF_code_0 : decode prog_1_method_11_code 0 = .ok (.iload_n 1, 1) := by decide +kernel
theorem dF_code_1 : decode prog_1_method_11_code 1 = .ok (.ifCond .lt 10, 3) := by decide +kernel
theorem dF_code_4 : decode prog_1_method_11_code 4 = .ok (.iload_n 1, 1) := by decide +kernel
theorem dF_code_5 : decode prog_1_method_11_code 5 = .ok (.sipush 255, 3) := by decide +kernel
theorem dF_code_8 : decode prog_1_method_11_code 8 = .ok (.if_icmp .le 5, 3) := by decide +kernel
theorem dF_code_11 : decode prog_1_method_11_code 11 = .ok (.iconst (-1), 1) := by decide +kernel
theorem dF_code_12 : decode prog_1_method_11_code 12 = .ok (.ireturn, 1) := by decide +kernel
theorem dF_code_13 : decode prog_1_method_11_code 13 = .ok (.ldc 53, 2) := by decide +kernel
theorem dF_code_15 : decode prog_1_method_11_code 15 = .ok (.iload_n 1, 1) := by decide +kernel
theorem dF_code_16 : decode prog_1_method_11_code 16 = .ok (.invokestatic 65, 3) := by decide +kernel
theorem dF_code_19 : decode prog_1_method_11_code 19 = .ok (.i2c, 1) := by decide +kernel
theorem dF_code_20 : decode prog_1_method_11_code 20 = .ok (.invokevirtual 68, 3) := by decide +kernel
theorem dF_code_23 : decode prog_1_method_11_code 23 = .ok (.istore_n 2, 1) := by decide +kernel
theorem dF_code_24 : decode prog_1_method_11_code 24 = .ok (.iload_n 2, 1) := by decide +kernel
theorem dF_code_25 : decode prog_1_method_11_code 25 = .ok (.ifCond .ge 7, 3) := by decide +kernel
theorem dF_code_28 : decode prog_1_method_11_code 28 = .ok (.iconst 0, 1) := by decide +kernel
theorem dF_code_29 : decode prog_1_method_11_code 29 = .ok (.goto 4, 3) := by decide +kernel
theorem dF_code_32 : decode prog_1_method_11_code 32 = .ok (.iload_n 2, 1) := by decide +kernel
theorem dF_code_33 : decode prog_1_method_11_code 33 = .ok (.ireturn, 1) := by decide +kernel
theorem dF_init_0 : decode prog_1_method_1_code 0 = .ok (.aload_n 0, 1) := by decide +kernel
theorem dF_init_1 : decode prog_1_method_1_code 1 = .ok (.invokespecial 5, 3) := by decide +kernel
theorem dF_init_4 : decode prog_1_method_1_code 4 = .ok (.aload_n 0, 1) := by decide +kernel
theorem dF_init_5 : decode prog_1_method_1_code 5 = .ok (.bipush 16, 2) := by decide +kernel
theorem dF_init_7 : decode prog_1_method_1_code 7 = .ok (.newarray .int, 2) := by decide +kernel
theorem dF_init_9 : decode prog_1_method_1_code 9 = .ok (.putfield 11, 3) := by decide +kernel
theorem dF_init_12 : decode prog_1_method_1_code 12 = .ok (.return_, 1) := by decide +kernel
end
section
theorem dM_isRegister_0 : decode prog_3_method_3_code 0 = .ok (.iload_n 0, 1) := by decide +kernel
theorem dM_isRegister_1 : decode prog_3_method_3_code 1 = .ok (.ifCond .lt 13, 3) := by decide +kernel
theorem dM_isRegister_4 : decode prog_3_method_3_code 4 = .ok (.iload_n 0, 1) := by decide +kernel
theorem dM_isRegister_5 : decode prog_3_method_3_code 5 = .ok (.bipush 16, 2) := by decide +kernel
theorem dM_isRegister_7 : decode prog_3_method_3_code 7 = .ok (.if_icmp .ge 7, 3) := by decide +kernel
theorem dM_isRegister_10 : decode prog_3_method_3_code 10 = .ok (.iconst 1, 1) := by decide +kernel
theorem dM_isRegister_11 : decode prog_3_method_3_code 11 = .ok (.goto 4, 3) := by decide +kernel
theorem dM_isRegister_14 : decode prog_3_method_3_code 14 = .ok (.iconst 0, 1) := by decide +kernel
theorem dM_isRegister_15 : decode prog_3_method_3_code 15 = .ok (.ireturn, 1) := by decide +kernel
theorem dM_is_0 : decode prog_3_method_4_code 0 = .ok (.iload_n 0, 1) := by decide +kernel
theorem dM_is_1 : decode prog_3_method_4_code 1 = .ok (.ifCond .lt 33, 3) := by decide +kernel
theorem dM_is_4 : decode prog_3_method_4_code 4 = .ok (.iload_n 0, 1) := by decide +kernel
theorem dM_is_5 : decode prog_3_method_4_code 5 = .ok (.bipush 48, 2) := by decide +kernel
theorem dM_is_7 : decode prog_3_method_4_code 7 = .ok (.if_icmp .ge 27, 3) := by decide +kernel
theorem dM_is_10 : decode prog_3_method_4_code 10 = .ok (.iload_n 0, 1) := by decide +kernel
theorem dM_is_11 : decode prog_3_method_4_code 11 = .ok (.bipush 8, 2) := by decide +kernel
theorem dM_is_13 : decode prog_3_method_4_code 13 = .ok (.irem, 1) := by decide +kernel
theorem dM_is_14 : decode prog_3_method_4_code 14 = .ok (.bipush 6, 2) := by decide +kernel
theorem dM_is_16 : decode prog_3_method_4_code 16 = .ok (.if_icmp .ge 18, 3) := by decide +kernel
theorem dM_is_19 : decode prog_3_method_4_code 19 = .ok (.iload_n 0, 1) := by decide +kernel
theorem dM_is_20 : decode prog_3_method_4_code 20 = .ok (.bipush 8, 2) := by decide +kernel
theorem dM_is_22 : decode prog_3_method_4_code 22 = .ok (.idiv, 1) := by decide +kernel
theorem dM_is_23 : decode prog_3_method_4_code 23 = .ok (.iload_n 0, 1) := by decide +kernel
theorem dM_is_24 : decode prog_3_method_4_code 24 = .ok (.bipush 8, 2) := by decide +kernel
theorem dM_is_26 : decode prog_3_method_4_code 26 = .ok (.irem, 1) := by decide +kernel
theorem dM_is_27 : decode prog_3_method_4_code 27 = .ok (.if_icmp .gt 7, 3) := by decide +kernel
theorem dM_is_30 : decode prog_3_method_4_code 30 = .ok (.iconst 1, 1) := by decide +kernel
theorem dM_is_31 : decode prog_3_method_4_code 31 = .ok (.goto 4, 3) := by decide +kernel
theorem dM_is_34 : decode prog_3_method_4_code 34 = .ok (.iconst 0, 1) := by decide +kernel
theorem dM_is_35 : decode prog_3_method_4_code 35 = .ok (.ireturn, 1) := by decide +kernel
theorem dM_first_0 : decode prog_3_method_5_code 0 = .ok (.iload_n 0, 1) := by decide +kernel
theorem dM_first_1 : decode prog_3_method_5_code 1 = .ok (.bipush 8, 2) := by decide +kernel
theorem dM_first_3 : decode prog_3_method_5_code 3 = .ok (.if_icmp .ge 7, 3) := by decide +kernel
theorem dM_first_6 : decode prog_3_method_5_code 6 = .ok (.iconst 1, 1) := by decide +kernel
theorem dM_first_7 : decode prog_3_method_5_code 7 = .ok (.goto 7, 3) := by decide +kernel
theorem dM_first_10 : decode prog_3_method_5_code 10 = .ok (.iload_n 0, 1) := by decide +kernel
theorem dM_first_11 : decode prog_3_method_5_code 11 = .ok (.bipush 8, 2) := by decide +kernel
theorem dM_first_13 : decode prog_3_method_5_code 13 = .ok (.idiv, 1) := by decide +kernel
theorem dM_first_14 : decode prog_3_method_5_code 14 = .ok (.ireturn, 1) := by decide +kernel
theorem dM_may_0 : decode prog_3_method_10_code 0 = .ok (.iload_n 1, 1) := by decide +kernel
theorem dM_may_1 : decode prog_3_method_10_code 1 = .ok (.invokestatic 24, 3) := by decide +kernel
theorem dM_may_4 : decode prog_3_method_10_code 4 = .ok (.ifCond .eq 21, 3) := by decide +kernel
theorem dM_may_7 : decode prog_3_method_10_code 7 = .ok (.iload_n 2, 1) := by decide +kernel
theorem dM_may_8 : decode prog_3_method_10_code 8 = .ok (.invokestatic 24, 3) := by decide +kernel
theorem dM_may_11 : decode prog_3_method_10_code 11 = .ok (.ifCond .eq 14, 3) := by decide +kernel
theorem dM_may_14 : decode prog_3_method_10_code 14 = .ok (.iload_n 3, 1) := by decide +kernel
theorem dM_may_15 : decode prog_3_method_10_code 15 = .ok (.invokestatic 35, 3) := by decide +kernel
theorem dM_may_18 : decode prog_3_method_10_code 18 = .ok (.ifCond .eq 7, 3) := by decide +kernel
theorem dM_may_21 : decode prog_3_method_10_code 21 = .ok (.iconst 1, 1) := by decide +kernel
theorem dM_may_22 : decode prog_3_method_10_code 22 = .ok (.goto 4, 3) := by decide +kernel
theorem dM_may_25 : decode prog_3_method_10_code 25 = .ok (.iconst 0, 1) := by decide +kernel
theorem dM_may_26 : decode prog_3_method_10_code 26 = .ok (.ireturn, 1) := by decide +kernel
theorem dM_isField_0 : decode prog_3_method_15_code 0 = .ok (.iload_n 1, 1) := by decide +kernel
theorem dM_isField_1 : decode prog_3_method_15_code 1 = .ok (.invokestatic 35, 3) := by decide +kernel
theorem dM_isField_4 : decode prog_3_method_15_code 4 = .ok (.ireturn, 1) := by decide +kernel
theorem dM_number_0 : decode prog_3_method_7_code 0 = .ok (.iconst 0, 1) := by decide +kernel
theorem dM_number_1 : decode prog_3_method_7_code 1 = .ok (.istore 4, 2) := by decide +kernel
theorem dM_number_3 : decode prog_3_method_7_code 3 = .ok (.iload_n 2, 1) := by decide +kernel
theorem dM_number_4 : decode prog_3_method_7_code 4 = .ok (.istore 5, 2) := by decide +kernel
theorem dM_number_6 : decode prog_3_method_7_code 6 = .ok (.iload 5, 2) := by decide +kernel
theorem dM_number_8 : decode prog_3_method_7_code 8 = .ok (.iload_n 3, 1) := by decide +kernel
theorem dM_number_9 : decode prog_3_method_7_code 9 = .ok (.if_icmp .gt 29, 3) := by decide +kernel
theorem dM_number_12 : decode prog_3_method_7_code 12 = .ok (.bipush 64, 2) := by decide +kernel
theorem dM_number_14 : decode prog_3_method_7_code 14 = .ok (.iload 4, 2) := by decide +kernel
theorem dM_number_16 : decode prog_3_method_7_code 16 = .ok (.imul, 1) := by decide +kernel
theorem dM_number_17 : decode prog_3_method_7_code 17 = .ok (.aload_n 0, 1) := by decide +kernel
theorem dM_number_18 : decode prog_3_method_7_code 18 = .ok (.getfield 13, 3) := by decide +kernel
theorem dM_number_21 : decode prog_3_method_7_code 21 = .ok (.bipush 6, 2) := by decide +kernel
theorem dM_number_23 : decode prog_3_method_7_code 23 = .ok (.iload_n 1, 1) := by decide +kernel
theorem dM_number_24 : decode prog_3_method_7_code 24 = .ok (.imul, 1) := by decide +kernel
theorem dM_number_25 : decode prog_3_method_7_code 25 = .ok (.iload 5, 2) := by decide +kernel
theorem dM_number_27 : decode prog_3_method_7_code 27 = .ok (.iadd, 1) := by decide +kernel
theorem dM_number_28 : decode prog_3_method_7_code 28 = .ok (.iaload, 1) := by decide +kernel
theorem dM_number_29 : decode prog_3_method_7_code 29 = .ok (.iadd, 1) := by decide +kernel
theorem dM_number_30 : decode prog_3_method_7_code 30 = .ok (.istore 4, 2) := by decide +kernel
theorem dM_number_32 : decode prog_3_method_7_code 32 = .ok (.iinc 5 1, 3) := by decide +kernel
theorem dM_number_35 : decode prog_3_method_7_code 35 = .ok (.goto (-29), 3) := by decide +kernel
theorem dM_number_38 : decode prog_3_method_7_code 38 = .ok (.iload 4, 2) := by decide +kernel
theorem dM_number_40 : decode prog_3_method_7_code 40 = .ok (.ireturn, 1) := by decide +kernel
theorem dM_value_0 : decode prog_3_method_8_code 0 = .ok (.iload_n 1, 1) := by decide +kernel
theorem dM_value_1 : decode prog_3_method_8_code 1 = .ok (.invokestatic 24, 3) := by decide +kernel
theorem dM_value_4 : decode prog_3_method_8_code 4 = .ok (.ifCond .ne 6, 3) := by decide +kernel
theorem dM_value_7 : decode prog_3_method_8_code 7 = .ok (.ldc 29, 2) := by decide +kernel
theorem dM_value_9 : decode prog_3_method_8_code 9 = .ok (.ireturn, 1) := by decide +kernel
theorem dM_value_10 : decode prog_3_method_8_code 10 = .ok (.aload_n 0, 1) := by decide +kernel
theorem dM_value_11 : decode prog_3_method_8_code 11 = .ok (.iload_n 1, 1) := by decide +kernel
theorem dM_value_12 : decode prog_3_method_8_code 12 = .ok (.iconst 1, 1) := by decide +kernel
theorem dM_value_13 : decode prog_3_method_8_code 13 = .ok (.iconst 5, 1) := by decide +kernel
theorem dM_value_14 : decode prog_3_method_8_code 14 = .ok (.invokevirtual 30, 3) := by decide +kernel
theorem dM_value_17 : decode prog_3_method_8_code 17 = .ok (.istore_n 2, 1) := by decide +kernel
theorem dM_value_18 : decode prog_3_method_8_code 18 = .ok (.aload_n 0, 1) := by decide +kernel
theorem dM_value_19 : decode prog_3_method_8_code 19 = .ok (.getfield 7, 3) := by decide +kernel
theorem dM_value_22 : decode prog_3_method_8_code 22 = .ok (.iload_n 1, 1) := by decide +kernel
theorem dM_value_23 : decode prog_3_method_8_code 23 = .ok (.baload, 1) := by decide +kernel
theorem dM_value_24 : decode prog_3_method_8_code 24 = .ok (.ifCond .ne 7, 3) := by decide +kernel
theorem dM_value_27 : decode prog_3_method_8_code 27 = .ok (.iload_n 2, 1) := by decide +kernel
theorem dM_value_28 : decode prog_3_method_8_code 28 = .ok (.goto 14, 3) := by decide +kernel
theorem dM_value_31 : decode prog_3_method_8_code 31 = .ok (.iload_n 2, 1) := by decide +kernel
theorem dM_value_32 : decode prog_3_method_8_code 32 = .ok (.ifCond .ne 8, 3) := by decide +kernel
theorem dM_value_35 : decode prog_3_method_8_code 35 = .ok (.ldc 34, 2) := by decide +kernel
theorem dM_value_37 : decode prog_3_method_8_code 37 = .ok (.goto 5, 3) := by decide +kernel
theorem dM_value_40 : decode prog_3_method_8_code 40 = .ok (.iload_n 2, 1) := by decide +kernel
theorem dM_value_41 : decode prog_3_method_8_code 41 = .ok (.ineg, 1) := by decide +kernel
theorem dM_value_42 : decode prog_3_method_8_code 42 = .ok (.ireturn, 1) := by decide +kernel
theorem dM_byteOf_0 : decode prog_3_method_9_code 0 = .ok (.iload_n 1, 1) := by decide +kernel
theorem dM_byteOf_1 : decode prog_3_method_9_code 1 = .ok (.invokestatic 24, 3) := by decide +kernel
theorem dM_byteOf_4 : decode prog_3_method_9_code 4 = .ok (.ifCond .eq 12, 3) := by decide +kernel
theorem dM_byteOf_7 : decode prog_3_method_9_code 7 = .ok (.iload_n 2, 1) := by decide +kernel
theorem dM_byteOf_8 : decode prog_3_method_9_code 8 = .ok (.ifCond .lt 8, 3) := by decide +kernel
theorem dM_byteOf_11 : decode prog_3_method_9_code 11 = .ok (.iload_n 2, 1) := by decide +kernel
theorem dM_byteOf_12 : decode prog_3_method_9_code 12 = .ok (.iconst 5, 1) := by decide +kernel
theorem dM_byteOf_13 : decode prog_3_method_9_code 13 = .ok (.if_icmp .le 5, 3) := by decide +kernel
theorem dM_byteOf_16 : decode prog_3_method_9_code 16 = .ok (.iconst (-1), 1) := by decide +kernel
theorem dM_byteOf_17 : decode prog_3_method_9_code 17 = .ok (.ireturn, 1) := by decide +kernel
theorem dM_byteOf_18 : decode prog_3_method_9_code 18 = .ok (.iload_n 2, 1) := by decide +kernel
theorem dM_byteOf_19 : decode prog_3_method_9_code 19 = .ok (.ifCond .le 17, 3) := by decide +kernel
theorem dM_byteOf_22 : decode prog_3_method_9_code 22 = .ok (.aload_n 0, 1) := by decide +kernel
theorem dM_byteOf_23 : decode prog_3_method_9_code 23 = .ok (.getfield 13, 3) := by decide +kernel
theorem dM_byteOf_26 : decode prog_3_method_9_code 26 = .ok (.bipush 6, 2) := by decide +kernel
theorem dM_byteOf_28 : decode prog_3_method_9_code 28 = .ok (.iload_n 1, 1) := by decide +kernel
theorem dM_byteOf_29 : decode prog_3_method_9_code 29 = .ok (.imul, 1) := by decide +kernel
theorem dM_byteOf_30 : decode prog_3_method_9_code 30 = .ok (.iload_n 2, 1) := by decide +kernel
theorem dM_byteOf_31 : decode prog_3_method_9_code 31 = .ok (.iadd, 1) := by decide +kernel
theorem dM_byteOf_32 : decode prog_3_method_9_code 32 = .ok (.iaload, 1) := by decide +kernel
theorem dM_byteOf_33 : decode prog_3_method_9_code 33 = .ok (.goto 17, 3) := by decide +kernel
theorem dM_byteOf_36 : decode prog_3_method_9_code 36 = .ok (.aload_n 0, 1) := by decide +kernel
theorem dM_byteOf_37 : decode prog_3_method_9_code 37 = .ok (.getfield 7, 3) := by decide +kernel
theorem dM_byteOf_40 : decode prog_3_method_9_code 40 = .ok (.iload_n 1, 1) := by decide +kernel
theorem dM_byteOf_41 : decode prog_3_method_9_code 41 = .ok (.baload, 1) := by decide +kernel
theorem dM_byteOf_42 : decode prog_3_method_9_code 42 = .ok (.ifCond .eq 7, 3) := by decide +kernel
theorem dM_byteOf_45 : decode prog_3_method_9_code 45 = .ok (.iconst 1, 1) := by decide +kernel
theorem dM_byteOf_46 : decode prog_3_method_9_code 46 = .ok (.goto 4, 3) := by decide +kernel
theorem dM_byteOf_49 : decode prog_3_method_9_code 49 = .ok (.iconst 0, 1) := by decide +kernel
theorem dM_byteOf_50 : decode prog_3_method_9_code 50 = .ok (.ireturn, 1) := by decide +kernel
theorem dM_compare_0 : decode prog_3_method_14_code 0 = .ok (.aload_n 0, 1) := by decide +kernel
theorem dM_compare_1 : decode prog_3_method_14_code 1 = .ok (.iload_n 1, 1) := by decide +kernel
theorem dM_compare_2 : decode prog_3_method_14_code 2 = .ok (.iload_n 2, 1) := by decide +kernel
theorem dM_compare_3 : decode prog_3_method_14_code 3 = .ok (.iload_n 3, 1) := by decide +kernel
theorem dM_compare_4 : decode prog_3_method_14_code 4 = .ok (.invokevirtual 38, 3) := by decide +kernel
theorem dM_compare_7 : decode prog_3_method_14_code 7 = .ok (.ifCond .ne 6, 3) := by decide +kernel
theorem dM_compare_10 : decode prog_3_method_14_code 10 = .ok (.bipush (-2), 2) := by decide +kernel
theorem dM_compare_12 : decode prog_3_method_14_code 12 = .ok (.ireturn, 1) := by decide +kernel
theorem dM_compare_13 : decode prog_3_method_14_code 13 = .ok (.aload_n 0, 1) := by decide +kernel
theorem dM_compare_14 : decode prog_3_method_14_code 14 = .ok (.iload_n 1, 1) := by decide +kernel
theorem dM_compare_15 : decode prog_3_method_14_code 15 = .ok (.iload_n 3, 1) := by decide +kernel
theorem dM_compare_16 : decode prog_3_method_14_code 16 = .ok (.invokestatic 42, 3) := by decide +kernel
theorem dM_compare_19 : decode prog_3_method_14_code 19 = .ok (.iload_n 3, 1) := by decide +kernel
theorem dM_compare_20 : decode prog_3_method_14_code 20 = .ok (.bipush 8, 2) := by decide +kernel
theorem dM_compare_22 : decode prog_3_method_14_code 22 = .ok (.irem, 1) := by decide +kernel
theorem dM_compare_23 : decode prog_3_method_14_code 23 = .ok (.invokevirtual 30, 3) := by decide +kernel
theorem dM_compare_26 : decode prog_3_method_14_code 26 = .ok (.istore 4, 2) := by decide +kernel
theorem dM_compare_28 : decode prog_3_method_14_code 28 = .ok (.aload_n 0, 1) := by decide +kernel
theorem dM_compare_29 : decode prog_3_method_14_code 29 = .ok (.iload_n 2, 1) := by decide +kernel
theorem dM_compare_30 : decode prog_3_method_14_code 30 = .ok (.iload_n 3, 1) := by decide +kernel
theorem dM_compare_31 : decode prog_3_method_14_code 31 = .ok (.invokestatic 42, 3) := by decide +kernel
theorem dM_compare_34 : decode prog_3_method_14_code 34 = .ok (.iload_n 3, 1) := by decide +kernel
theorem dM_compare_35 : decode prog_3_method_14_code 35 = .ok (.bipush 8, 2) := by decide +kernel
theorem dM_compare_37 : decode prog_3_method_14_code 37 = .ok (.irem, 1) := by decide +kernel
theorem dM_compare_38 : decode prog_3_method_14_code 38 = .ok (.invokevirtual 30, 3) := by decide +kernel
theorem dM_compare_41 : decode prog_3_method_14_code 41 = .ok (.istore 5, 2) := by decide +kernel
theorem dM_compare_43 : decode prog_3_method_14_code 43 = .ok (.iload_n 3, 1) := by decide +kernel
theorem dM_compare_44 : decode prog_3_method_14_code 44 = .ok (.bipush 8, 2) := by decide +kernel
theorem dM_compare_46 : decode prog_3_method_14_code 46 = .ok (.if_icmp .ge 18, 3) := by decide +kernel
theorem dM_compare_49 : decode prog_3_method_14_code 49 = .ok (.aload_n 0, 1) := by decide +kernel
theorem dM_compare_50 : decode prog_3_method_14_code 50 = .ok (.getfield 7, 3) := by decide +kernel
theorem dM_compare_53 : decode prog_3_method_14_code 53 = .ok (.iload_n 1, 1) := by decide +kernel
theorem dM_compare_54 : decode prog_3_method_14_code 54 = .ok (.baload, 1) := by decide +kernel
theorem dM_compare_55 : decode prog_3_method_14_code 55 = .ok (.ifCond .eq 9, 3) := by decide +kernel
theorem dM_compare_58 : decode prog_3_method_14_code 58 = .ok (.iload 4, 2) := by decide +kernel
theorem dM_compare_60 : decode prog_3_method_14_code 60 = .ok (.ineg, 1) := by decide +kernel
theorem dM_compare_61 : decode prog_3_method_14_code 61 = .ok (.goto 5, 3) := by decide +kernel
theorem dM_compare_64 : decode prog_3_method_14_code 64 = .ok (.iload 4, 2) := by decide +kernel
theorem dM_compare_66 : decode prog_3_method_14_code 66 = .ok (.istore 4, 2) := by decide +kernel
theorem dM_compare_68 : decode prog_3_method_14_code 68 = .ok (.iload_n 3, 1) := by decide +kernel
theorem dM_compare_69 : decode prog_3_method_14_code 69 = .ok (.bipush 8, 2) := by decide +kernel
theorem dM_compare_71 : decode prog_3_method_14_code 71 = .ok (.if_icmp .ge 18, 3) := by decide +kernel
theorem dM_compare_74 : decode prog_3_method_14_code 74 = .ok (.aload_n 0, 1) := by decide +kernel
theorem dM_compare_75 : decode prog_3_method_14_code 75 = .ok (.getfield 7, 3) := by decide +kernel
theorem dM_compare_78 : decode prog_3_method_14_code 78 = .ok (.iload_n 2, 1) := by decide +kernel
theorem dM_compare_79 : decode prog_3_method_14_code 79 = .ok (.baload, 1) := by decide +kernel
theorem dM_compare_80 : decode prog_3_method_14_code 80 = .ok (.ifCond .eq 9, 3) := by decide +kernel
theorem dM_compare_83 : decode prog_3_method_14_code 83 = .ok (.iload 5, 2) := by decide +kernel
theorem dM_compare_85 : decode prog_3_method_14_code 85 = .ok (.ineg, 1) := by decide +kernel
theorem dM_compare_86 : decode prog_3_method_14_code 86 = .ok (.goto 5, 3) := by decide +kernel
theorem dM_compare_89 : decode prog_3_method_14_code 89 = .ok (.iload 5, 2) := by decide +kernel
theorem dM_compare_91 : decode prog_3_method_14_code 91 = .ok (.istore 5, 2) := by decide +kernel
theorem dM_compare_93 : decode prog_3_method_14_code 93 = .ok (.iload 4, 2) := by decide +kernel
theorem dM_compare_95 : decode prog_3_method_14_code 95 = .ok (.iload 5, 2) := by decide +kernel
theorem dM_compare_97 : decode prog_3_method_14_code 97 = .ok (.if_icmp .ge 7, 3) := by decide +kernel
theorem dM_compare_100 : decode prog_3_method_14_code 100 = .ok (.iconst (-1), 1) := by decide +kernel
theorem dM_compare_101 : decode prog_3_method_14_code 101 = .ok (.goto 15, 3) := by decide +kernel
theorem dM_compare_104 : decode prog_3_method_14_code 104 = .ok (.iload 4, 2) := by decide +kernel
theorem dM_compare_106 : decode prog_3_method_14_code 106 = .ok (.iload 5, 2) := by decide +kernel
theorem dM_compare_108 : decode prog_3_method_14_code 108 = .ok (.if_icmp .le 7, 3) := by decide +kernel
theorem dM_compare_111 : decode prog_3_method_14_code 111 = .ok (.iconst 1, 1) := by decide +kernel
theorem dM_compare_112 : decode prog_3_method_14_code 112 = .ok (.goto 4, 3) := by decide +kernel
theorem dM_compare_115 : decode prog_3_method_14_code 115 = .ok (.iconst 0, 1) := by decide +kernel
theorem dM_compare_116 : decode prog_3_method_14_code 116 = .ok (.ireturn, 1) := by decide +kernel
theorem dM_letter_0 : decode prog_3_method_16_code 0 = .ok (.iload_n 1, 1) := by decide +kernel
theorem dM_letter_1 : decode prog_3_method_16_code 1 = .ok (.ifCond .lt 9, 3) := by decide +kernel
theorem dM_letter_4 : decode prog_3_method_16_code 4 = .ok (.iload_n 1, 1) := by decide +kernel
theorem dM_letter_5 : decode prog_3_method_16_code 5 = .ok (.bipush 63, 2) := by decide +kernel
theorem dM_letter_7 : decode prog_3_method_16_code 7 = .ok (.if_icmp .le 7, 3) := by decide +kernel
theorem dM_letter_10 : decode prog_3_method_16_code 10 = .ok (.iconst (-1), 1) := by decide +kernel
theorem dM_letter_11 : decode prog_3_method_16_code 11 = .ok (.goto 20, 3) := by decide +kernel
theorem dM_letter_14 : decode prog_3_method_16_code 14 = .ok (.iload_n 1, 1) := by decide +kernel
theorem dM_letter_15 : decode prog_3_method_16_code 15 = .ok (.bipush 56, 2) := by decide +kernel
theorem dM_letter_17 : decode prog_3_method_16_code 17 = .ok (.if_icmp .ge 12, 3) := by decide +kernel
theorem dM_letter_20 : decode prog_3_method_16_code 20 = .ok (.aload_n 0, 1) := by decide +kernel
theorem dM_letter_21 : decode prog_3_method_16_code 21 = .ok (.getfield 17, 3) := by decide +kernel
theorem dM_letter_24 : decode prog_3_method_16_code 24 = .ok (.iload_n 1, 1) := by decide +kernel
theorem dM_letter_25 : decode prog_3_method_16_code 25 = .ok (.iaload, 1) := by decide +kernel
theorem dM_letter_26 : decode prog_3_method_16_code 26 = .ok (.goto 5, 3) := by decide +kernel
theorem dM_letter_29 : decode prog_3_method_16_code 29 = .ok (.bipush 63, 2) := by decide +kernel
theorem dM_letter_31 : decode prog_3_method_16_code 31 = .ok (.ireturn, 1) := by decide +kernel
theorem dM_turn_0 : decode prog_3_method_13_code 0 = .ok (.iload_n 1, 1) := by decide +kernel
theorem dM_turn_1 : decode prog_3_method_13_code 1 = .ok (.invokestatic 24, 3) := by decide +kernel
theorem dM_turn_4 : decode prog_3_method_13_code 4 = .ok (.ifCond .ne 5, 3) := by decide +kernel
theorem dM_turn_7 : decode prog_3_method_13_code 7 = .ok (.iconst 0, 1) := by decide +kernel
theorem dM_turn_8 : decode prog_3_method_13_code 8 = .ok (.ireturn, 1) := by decide +kernel
theorem dM_turn_9 : decode prog_3_method_13_code 9 = .ok (.aload_n 0, 1) := by decide +kernel
theorem dM_turn_10 : decode prog_3_method_13_code 10 = .ok (.getfield 7, 3) := by decide +kernel
theorem dM_turn_13 : decode prog_3_method_13_code 13 = .ok (.iload_n 1, 1) := by decide +kernel
theorem dM_turn_14 : decode prog_3_method_13_code 14 = .ok (.aload_n 0, 1) := by decide +kernel
theorem dM_turn_15 : decode prog_3_method_13_code 15 = .ok (.getfield 7, 3) := by decide +kernel
theorem dM_turn_18 : decode prog_3_method_13_code 18 = .ok (.iload_n 1, 1) := by decide +kernel
theorem dM_turn_19 : decode prog_3_method_13_code 19 = .ok (.baload, 1) := by decide +kernel
theorem dM_turn_20 : decode prog_3_method_13_code 20 = .ok (.ifCond .ne 7, 3) := by decide +kernel
theorem dM_turn_23 : decode prog_3_method_13_code 23 = .ok (.iconst 1, 1) := by decide +kernel
theorem dM_turn_24 : decode prog_3_method_13_code 24 = .ok (.goto 4, 3) := by decide +kernel
theorem dM_turn_27 : decode prog_3_method_13_code 27 = .ok (.iconst 0, 1) := by decide +kernel
theorem dM_turn_28 : decode prog_3_method_13_code 28 = .ok (.bastore, 1) := by decide +kernel
theorem dM_turn_29 : decode prog_3_method_13_code 29 = .ok (.iconst 1, 1) := by decide +kernel
theorem dM_turn_30 : decode prog_3_method_13_code 30 = .ok (.ireturn, 1) := by decide +kernel
theorem dM_set_0 : decode prog_3_method_6_code 0 = .ok (.ldc 23, 2) := by decide +kernel
theorem dM_set_2 : decode prog_3_method_6_code 2 = .ok (.istore 4, 2) := by decide +kernel
theorem dM_set_4 : decode prog_3_method_6_code 4 = .ok (.iload_n 1, 1) := by decide +kernel
theorem dM_set_5 : decode prog_3_method_6_code 5 = .ok (.invokestatic 24, 3) := by decide +kernel
theorem dM_set_8 : decode prog_3_method_6_code 8 = .ok (.ifCond .eq 15, 3) := by decide +kernel
theorem dM_set_11 : decode prog_3_method_6_code 11 = .ok (.iload_n 2, 1) := by decide +kernel
theorem dM_set_12 : decode prog_3_method_6_code 12 = .ok (.iload 4, 2) := by decide +kernel
theorem dM_set_14 : decode prog_3_method_6_code 14 = .ok (.if_icmp .le 9, 3) := by decide +kernel
theorem dM_set_17 : decode prog_3_method_6_code 17 = .ok (.iload_n 2, 1) := by decide +kernel
theorem dM_set_18 : decode prog_3_method_6_code 18 = .ok (.ldc 28, 2) := by decide +kernel
theorem dM_set_20 : decode prog_3_method_6_code 20 = .ok (.if_icmp .lt 5, 3) := by decide +kernel
theorem dM_set_23 : decode prog_3_method_6_code 23 = .ok (.iconst 0, 1) := by decide +kernel
theorem dM_set_24 : decode prog_3_method_6_code 24 = .ok (.ireturn, 1) := by decide +kernel
theorem dM_set_25 : decode prog_3_method_6_code 25 = .ok (.aload_n 0, 1) := by decide +kernel
theorem dM_set_26 : decode prog_3_method_6_code 26 = .ok (.getfield 7, 3) := by decide +kernel
theorem dM_set_29 : decode prog_3_method_6_code 29 = .ok (.iload_n 1, 1) := by decide +kernel
theorem dM_set_30 : decode prog_3_method_6_code 30 = .ok (.iload_n 2, 1) := by decide +kernel
theorem dM_set_31 : decode prog_3_method_6_code 31 = .ok (.ifCond .lt 11, 3) := by decide +kernel
theorem dM_set_34 : decode prog_3_method_6_code 34 = .ok (.iload_n 2, 1) := by decide +kernel
theorem dM_set_35 : decode prog_3_method_6_code 35 = .ok (.ifCond .ne 11, 3) := by decide +kernel
theorem dM_set_38 : decode prog_3_method_6_code 38 = .ok (.iload_n 3, 1) := by decide +kernel
theorem dM_set_39 : decode prog_3_method_6_code 39 = .ok (.ifCond .eq 7, 3) := by decide +kernel
theorem dM_set_42 : decode prog_3_method_6_code 42 = .ok (.iconst 1, 1) := by decide +kernel
theorem dM_set_43 : decode prog_3_method_6_code 43 = .ok (.goto 4, 3) := by decide +kernel
theorem dM_set_46 : decode prog_3_method_6_code 46 = .ok (.iconst 0, 1) := by decide +kernel
theorem dM_set_47 : decode prog_3_method_6_code 47 = .ok (.bastore, 1) := by decide +kernel
theorem dM_set_48 : decode prog_3_method_6_code 48 = .ok (.iload_n 2, 1) := by decide +kernel
theorem dM_set_49 : decode prog_3_method_6_code 49 = .ok (.ifCond .ge 8, 3) := by decide +kernel
theorem dM_set_52 : decode prog_3_method_6_code 52 = .ok (.iload_n 2, 1) := by decide +kernel
theorem dM_set_53 : decode prog_3_method_6_code 53 = .ok (.ineg, 1) := by decide +kernel
theorem dM_set_54 : decode prog_3_method_6_code 54 = .ok (.goto 4, 3) := by decide +kernel
theorem dM_set_57 : decode prog_3_method_6_code 57 = .ok (.iload_n 2, 1) := by decide +kernel
theorem dM_set_58 : decode prog_3_method_6_code 58 = .ok (.istore 5, 2) := by decide +kernel
theorem dM_set_60 : decode prog_3_method_6_code 60 = .ok (.iconst 5, 1) := by decide +kernel
theorem dM_set_61 : decode prog_3_method_6_code 61 = .ok (.istore 6, 2) := by decide +kernel
theorem dM_set_63 : decode prog_3_method_6_code 63 = .ok (.iload 6, 2) := by decide +kernel
theorem dM_set_65 : decode prog_3_method_6_code 65 = .ok (.ifCond .le 33, 3) := by decide +kernel
theorem dM_set_68 : decode prog_3_method_6_code 68 = .ok (.aload_n 0, 1) := by decide +kernel
theorem dM_set_69 : decode prog_3_method_6_code 69 = .ok (.getfield 13, 3) := by decide +kernel
theorem dM_set_72 : decode prog_3_method_6_code 72 = .ok (.bipush 6, 2) := by decide +kernel
theorem dM_set_74 : decode prog_3_method_6_code 74 = .ok (.iload_n 1, 1) := by decide +kernel
theorem dM_set_75 : decode prog_3_method_6_code 75 = .ok (.imul, 1) := by decide +kernel
theorem dM_set_76 : decode prog_3_method_6_code 76 = .ok (.iload 6, 2) := by decide +kernel
theorem dM_set_78 : decode prog_3_method_6_code 78 = .ok (.iadd, 1) := by decide +kernel
theorem dM_set_79 : decode prog_3_method_6_code 79 = .ok (.iload 5, 2) := by decide +kernel
theorem dM_set_81 : decode prog_3_method_6_code 81 = .ok (.bipush 64, 2) := by decide +kernel
theorem dM_set_83 : decode prog_3_method_6_code 83 = .ok (.irem, 1) := by decide +kernel
theorem dM_set_84 : decode prog_3_method_6_code 84 = .ok (.iastore, 1) := by decide +kernel
theorem dM_set_85 : decode prog_3_method_6_code 85 = .ok (.iload 5, 2) := by decide +kernel
theorem dM_set_87 : decode prog_3_method_6_code 87 = .ok (.bipush 64, 2) := by decide +kernel
theorem dM_set_89 : decode prog_3_method_6_code 89 = .ok (.idiv, 1) := by decide +kernel
theorem dM_set_90 : decode prog_3_method_6_code 90 = .ok (.istore 5, 2) := by decide +kernel
theorem dM_set_92 : decode prog_3_method_6_code 92 = .ok (.iinc 6 (-1), 3) := by decide +kernel
theorem dM_set_95 : decode prog_3_method_6_code 95 = .ok (.goto (-32), 3) := by decide +kernel
theorem dM_set_98 : decode prog_3_method_6_code 98 = .ok (.iconst 1, 1) := by decide +kernel
theorem dM_set_99 : decode prog_3_method_6_code 99 = .ok (.ireturn, 1) := by decide +kernel
theorem dM_load_0 : decode prog_3_method_11_code 0 = .ok (.aload_n 0, 1) := by decide +kernel
theorem dM_load_1 : decode prog_3_method_11_code 1 = .ok (.iload_n 1, 1) := by decide +kernel
theorem dM_load_2 : decode prog_3_method_11_code 2 = .ok (.iload_n 2, 1) := by decide +kernel
theorem dM_load_3 : decode prog_3_method_11_code 3 = .ok (.iload_n 3, 1) := by decide +kernel
theorem dM_load_4 : decode prog_3_method_11_code 4 = .ok (.invokevirtual 38, 3) := by decide +kernel
theorem dM_load_7 : decode prog_3_method_11_code 7 = .ok (.ifCond .ne 5, 3) := by decide +kernel
theorem dM_load_10 : decode prog_3_method_11_code 10 = .ok (.iconst 0, 1) := by decide +kernel
theorem dM_load_11 : decode prog_3_method_11_code 11 = .ok (.ireturn, 1) := by decide +kernel
theorem dM_load_12 : decode prog_3_method_11_code 12 = .ok (.iconst 1, 1) := by decide +kernel
theorem dM_load_13 : decode prog_3_method_11_code 13 = .ok (.istore 4, 2) := by decide +kernel
theorem dM_load_15 : decode prog_3_method_11_code 15 = .ok (.iload 4, 2) := by decide +kernel
theorem dM_load_17 : decode prog_3_method_11_code 17 = .ok (.bipush 6, 2) := by decide +kernel
theorem dM_load_19 : decode prog_3_method_11_code 19 = .ok (.if_icmp .ge 52, 3) := by decide +kernel
theorem dM_load_22 : decode prog_3_method_11_code 22 = .ok (.iload 4, 2) := by decide +kernel
theorem dM_load_24 : decode prog_3_method_11_code 24 = .ok (.iconst 5, 1) := by decide +kernel
theorem dM_load_25 : decode prog_3_method_11_code 25 = .ok (.isub, 1) := by decide +kernel
theorem dM_load_26 : decode prog_3_method_11_code 26 = .ok (.iload_n 3, 1) := by decide +kernel
theorem dM_load_27 : decode prog_3_method_11_code 27 = .ok (.bipush 8, 2) := by decide +kernel
theorem dM_load_29 : decode prog_3_method_11_code 29 = .ok (.irem, 1) := by decide +kernel
theorem dM_load_30 : decode prog_3_method_11_code 30 = .ok (.iadd, 1) := by decide +kernel
theorem dM_load_31 : decode prog_3_method_11_code 31 = .ok (.istore 5, 2) := by decide +kernel
theorem dM_load_33 : decode prog_3_method_11_code 33 = .ok (.aload_n 0, 1) := by decide +kernel
theorem dM_load_34 : decode prog_3_method_11_code 34 = .ok (.getfield 20, 3) := by decide +kernel
theorem dM_load_37 : decode prog_3_method_11_code 37 = .ok (.iload 4, 2) := by decide +kernel
theorem dM_load_39 : decode prog_3_method_11_code 39 = .ok (.iload 5, 2) := by decide +kernel
theorem dM_load_41 : decode prog_3_method_11_code 41 = .ok (.iload_n 3, 1) := by decide +kernel
theorem dM_load_42 : decode prog_3_method_11_code 42 = .ok (.invokestatic 42, 3) := by decide +kernel
theorem dM_load_45 : decode prog_3_method_11_code 45 = .ok (.if_icmp .lt 18, 3) := by decide +kernel
theorem dM_load_48 : decode prog_3_method_11_code 48 = .ok (.aload_n 0, 1) := by decide +kernel
theorem dM_load_49 : decode prog_3_method_11_code 49 = .ok (.getfield 13, 3) := by decide +kernel
theorem dM_load_52 : decode prog_3_method_11_code 52 = .ok (.bipush 6, 2) := by decide +kernel
theorem dM_load_54 : decode prog_3_method_11_code 54 = .ok (.iload_n 2, 1) := by decide +kernel
theorem dM_load_55 : decode prog_3_method_11_code 55 = .ok (.imul, 1) := by decide +kernel
theorem dM_load_56 : decode prog_3_method_11_code 56 = .ok (.iload 5, 2) := by decide +kernel
theorem dM_load_58 : decode prog_3_method_11_code 58 = .ok (.iadd, 1) := by decide +kernel
theorem dM_load_59 : decode prog_3_method_11_code 59 = .ok (.iaload, 1) := by decide +kernel
theorem dM_load_60 : decode prog_3_method_11_code 60 = .ok (.goto 4, 3) := by decide +kernel
theorem dM_load_63 : decode prog_3_method_11_code 63 = .ok (.iconst 0, 1) := by decide +kernel
theorem dM_load_64 : decode prog_3_method_11_code 64 = .ok (.iastore, 1) := by decide +kernel
theorem dM_load_65 : decode prog_3_method_11_code 65 = .ok (.iinc 4 1, 3) := by decide +kernel
theorem dM_load_68 : decode prog_3_method_11_code 68 = .ok (.goto (-53), 3) := by decide +kernel
theorem dM_load_71 : decode prog_3_method_11_code 71 = .ok (.iconst 1, 1) := by decide +kernel
theorem dM_load_72 : decode prog_3_method_11_code 72 = .ok (.istore 4, 2) := by decide +kernel
theorem dM_load_74 : decode prog_3_method_11_code 74 = .ok (.iload 4, 2) := by decide +kernel
theorem dM_load_76 : decode prog_3_method_11_code 76 = .ok (.bipush 6, 2) := by decide +kernel
theorem dM_load_78 : decode prog_3_method_11_code 78 = .ok (.if_icmp .ge 28, 3) := by decide +kernel
theorem dM_load_81 : decode prog_3_method_11_code 81 = .ok (.aload_n 0, 1) := by decide +kernel
theorem dM_load_82 : decode prog_3_method_11_code 82 = .ok (.getfield 13, 3) := by decide +kernel
theorem dM_load_85 : decode prog_3_method_11_code 85 = .ok (.bipush 6, 2) := by decide +kernel
theorem dM_load_87 : decode prog_3_method_11_code 87 = .ok (.iload_n 1, 1) := by decide +kernel
theorem dM_load_88 : decode prog_3_method_11_code 88 = .ok (.imul, 1) := by decide +kernel
theorem dM_load_89 : decode prog_3_method_11_code 89 = .ok (.iload 4, 2) := by decide +kernel
theorem dM_load_91 : decode prog_3_method_11_code 91 = .ok (.iadd, 1) := by decide +kernel
theorem dM_load_92 : decode prog_3_method_11_code 92 = .ok (.aload_n 0, 1) := by decide +kernel
theorem dM_load_93 : decode prog_3_method_11_code 93 = .ok (.getfield 20, 3) := by decide +kernel
theorem dM_load_96 : decode prog_3_method_11_code 96 = .ok (.iload 4, 2) := by decide +kernel
theorem dM_load_98 : decode prog_3_method_11_code 98 = .ok (.iaload, 1) := by decide +kernel
theorem dM_load_99 : decode prog_3_method_11_code 99 = .ok (.iastore, 1) := by decide +kernel
theorem dM_load_100 : decode prog_3_method_11_code 100 = .ok (.iinc 4 1, 3) := by decide +kernel
theorem dM_load_103 : decode prog_3_method_11_code 103 = .ok (.goto (-29), 3) := by decide +kernel
theorem dM_load_106 : decode prog_3_method_11_code 106 = .ok (.aload_n 0, 1) := by decide +kernel
theorem dM_load_107 : decode prog_3_method_11_code 107 = .ok (.getfield 7, 3) := by decide +kernel
theorem dM_load_110 : decode prog_3_method_11_code 110 = .ok (.iload_n 1, 1) := by decide +kernel
theorem dM_load_111 : decode prog_3_method_11_code 111 = .ok (.iload_n 3, 1) := by decide +kernel
theorem dM_load_112 : decode prog_3_method_11_code 112 = .ok (.bipush 8, 2) := by decide +kernel
theorem dM_load_114 : decode prog_3_method_11_code 114 = .ok (.if_icmp .ge 16, 3) := by decide +kernel
theorem dM_load_117 : decode prog_3_method_11_code 117 = .ok (.aload_n 0, 1) := by decide +kernel
theorem dM_load_118 : decode prog_3_method_11_code 118 = .ok (.getfield 7, 3) := by decide +kernel
theorem dM_load_121 : decode prog_3_method_11_code 121 = .ok (.iload_n 2, 1) := by decide +kernel
theorem dM_load_122 : decode prog_3_method_11_code 122 = .ok (.baload, 1) := by decide +kernel
theorem dM_load_123 : decode prog_3_method_11_code 123 = .ok (.ifCond .eq 7, 3) := by decide +kernel
theorem dM_load_126 : decode prog_3_method_11_code 126 = .ok (.iconst 1, 1) := by decide +kernel
theorem dM_load_127 : decode prog_3_method_11_code 127 = .ok (.goto 4, 3) := by decide +kernel
theorem dM_load_130 : decode prog_3_method_11_code 130 = .ok (.iconst 0, 1) := by decide +kernel
theorem dM_load_131 : decode prog_3_method_11_code 131 = .ok (.bastore, 1) := by decide +kernel
theorem dM_load_132 : decode prog_3_method_11_code 132 = .ok (.iconst 1, 1) := by decide +kernel
theorem dM_load_133 : decode prog_3_method_11_code 133 = .ok (.ireturn, 1) := by decide +kernel
theorem dM_store_0 : decode prog_3_method_12_code 0 = .ok (.aload_n 0, 1) := by decide +kernel
theorem dM_store_1 : decode prog_3_method_12_code 1 = .ok (.iload_n 1, 1) := by decide +kernel
theorem dM_store_2 : decode prog_3_method_12_code 2 = .ok (.iload_n 2, 1) := by decide +kernel
theorem dM_store_3 : decode prog_3_method_12_code 3 = .ok (.iload_n 3, 1) := by decide +kernel
theorem dM_store_4 : decode prog_3_method_12_code 4 = .ok (.invokevirtual 38, 3) := by decide +kernel
theorem dM_store_7 : decode prog_3_method_12_code 7 = .ok (.ifCond .ne 5, 3) := by decide +kernel
theorem dM_store_10 : decode prog_3_method_12_code 10 = .ok (.iconst 0, 1) := by decide +kernel
theorem dM_store_11 : decode prog_3_method_12_code 11 = .ok (.ireturn, 1) := by decide +kernel
theorem dM_store_12 : decode prog_3_method_12_code 12 = .ok (.iconst 1, 1) := by decide +kernel
theorem dM_store_13 : decode prog_3_method_12_code 13 = .ok (.istore 4, 2) := by decide +kernel
theorem dM_store_15 : decode prog_3_method_12_code 15 = .ok (.iload 4, 2) := by decide +kernel
theorem dM_store_17 : decode prog_3_method_12_code 17 = .ok (.bipush 6, 2) := by decide +kernel
theorem dM_store_19 : decode prog_3_method_12_code 19 = .ok (.if_icmp .ge 80, 3) := by decide +kernel
theorem dM_store_22 : decode prog_3_method_12_code 22 = .ok (.iload 4, 2) := by decide +kernel
theorem dM_store_24 : decode prog_3_method_12_code 24 = .ok (.iload_n 3, 1) := by decide +kernel
theorem dM_store_25 : decode prog_3_method_12_code 25 = .ok (.invokestatic 42, 3) := by decide +kernel
theorem dM_store_28 : decode prog_3_method_12_code 28 = .ok (.if_icmp .lt 16, 3) := by decide +kernel
theorem dM_store_31 : decode prog_3_method_12_code 31 = .ok (.iload 4, 2) := by decide +kernel
theorem dM_store_33 : decode prog_3_method_12_code 33 = .ok (.iload_n 3, 1) := by decide +kernel
theorem dM_store_34 : decode prog_3_method_12_code 34 = .ok (.bipush 8, 2) := by decide +kernel
theorem dM_store_36 : decode prog_3_method_12_code 36 = .ok (.irem, 1) := by decide +kernel
theorem dM_store_37 : decode prog_3_method_12_code 37 = .ok (.if_icmp .gt 7, 3) := by decide +kernel
theorem dM_store_40 : decode prog_3_method_12_code 40 = .ok (.iconst 1, 1) := by decide +kernel
theorem dM_store_41 : decode prog_3_method_12_code 41 = .ok (.goto 4, 3) := by decide +kernel
theorem dM_store_44 : decode prog_3_method_12_code 44 = .ok (.iconst 0, 1) := by decide +kernel
theorem dM_store_45 : decode prog_3_method_12_code 45 = .ok (.istore 5, 2) := by decide +kernel
theorem dM_store_47 : decode prog_3_method_12_code 47 = .ok (.aload_n 0, 1) := by decide +kernel
theorem dM_store_48 : decode prog_3_method_12_code 48 = .ok (.getfield 20, 3) := by decide +kernel
theorem dM_store_51 : decode prog_3_method_12_code 51 = .ok (.iload 4, 2) := by decide +kernel
theorem dM_store_53 : decode prog_3_method_12_code 53 = .ok (.iload 5, 2) := by decide +kernel
theorem dM_store_55 : decode prog_3_method_12_code 55 = .ok (.ifCond .eq 25, 3) := by decide +kernel
theorem dM_store_58 : decode prog_3_method_12_code 58 = .ok (.aload_n 0, 1) := by decide +kernel
theorem dM_store_59 : decode prog_3_method_12_code 59 = .ok (.getfield 13, 3) := by decide +kernel
theorem dM_store_62 : decode prog_3_method_12_code 62 = .ok (.bipush 6, 2) := by decide +kernel
theorem dM_store_64 : decode prog_3_method_12_code 64 = .ok (.iload_n 2, 1) := by decide +kernel
theorem dM_store_65 : decode prog_3_method_12_code 65 = .ok (.imul, 1) := by decide +kernel
theorem dM_store_66 : decode prog_3_method_12_code 66 = .ok (.iload 4, 2) := by decide +kernel
theorem dM_store_68 : decode prog_3_method_12_code 68 = .ok (.iadd, 1) := by decide +kernel
theorem dM_store_69 : decode prog_3_method_12_code 69 = .ok (.iconst 5, 1) := by decide +kernel
theorem dM_store_70 : decode prog_3_method_12_code 70 = .ok (.iadd, 1) := by decide +kernel
theorem dM_store_71 : decode prog_3_method_12_code 71 = .ok (.iload_n 3, 1) := by decide +kernel
theorem dM_store_72 : decode prog_3_method_12_code 72 = .ok (.bipush 8, 2) := by decide +kernel
theorem dM_store_74 : decode prog_3_method_12_code 74 = .ok (.irem, 1) := by decide +kernel
theorem dM_store_75 : decode prog_3_method_12_code 75 = .ok (.isub, 1) := by decide +kernel
theorem dM_store_76 : decode prog_3_method_12_code 76 = .ok (.iaload, 1) := by decide +kernel
theorem dM_store_77 : decode prog_3_method_12_code 77 = .ok (.goto 15, 3) := by decide +kernel
theorem dM_store_80 : decode prog_3_method_12_code 80 = .ok (.aload_n 0, 1) := by decide +kernel
theorem dM_store_81 : decode prog_3_method_12_code 81 = .ok (.getfield 13, 3) := by decide +kernel
theorem dM_store_84 : decode prog_3_method_12_code 84 = .ok (.bipush 6, 2) := by decide +kernel
theorem dM_store_86 : decode prog_3_method_12_code 86 = .ok (.iload_n 1, 1) := by decide +kernel
theorem dM_store_87 : decode prog_3_method_12_code 87 = .ok (.imul, 1) := by decide +kernel
theorem dM_store_88 : decode prog_3_method_12_code 88 = .ok (.iload 4, 2) := by decide +kernel
theorem dM_store_90 : decode prog_3_method_12_code 90 = .ok (.iadd, 1) := by decide +kernel
theorem dM_store_91 : decode prog_3_method_12_code 91 = .ok (.iaload, 1) := by decide +kernel
theorem dM_store_92 : decode prog_3_method_12_code 92 = .ok (.iastore, 1) := by decide +kernel
theorem dM_store_93 : decode prog_3_method_12_code 93 = .ok (.iinc 4 1, 3) := by decide +kernel
theorem dM_store_96 : decode prog_3_method_12_code 96 = .ok (.goto (-81), 3) := by decide +kernel
theorem dM_store_99 : decode prog_3_method_12_code 99 = .ok (.iconst 1, 1) := by decide +kernel
theorem dM_store_100 : decode prog_3_method_12_code 100 = .ok (.istore 4, 2) := by decide +kernel
theorem dM_store_102 : decode prog_3_method_12_code 102 = .ok (.iload 4, 2) := by decide +kernel
theorem dM_store_104 : decode prog_3_method_12_code 104 = .ok (.bipush 6, 2) := by decide +kernel
theorem dM_store_106 : decode prog_3_method_12_code 106 = .ok (.if_icmp .ge 28, 3) := by decide +kernel
theorem dM_store_109 : decode prog_3_method_12_code 109 = .ok (.aload_n 0, 1) := by decide +kernel
theorem dM_store_110 : decode prog_3_method_12_code 110 = .ok (.getfield 13, 3) := by decide +kernel
theorem dM_store_113 : decode prog_3_method_12_code 113 = .ok (.bipush 6, 2) := by decide +kernel
theorem dM_store_115 : decode prog_3_method_12_code 115 = .ok (.iload_n 1, 1) := by decide +kernel
theorem dM_store_116 : decode prog_3_method_12_code 116 = .ok (.imul, 1) := by decide +kernel
theorem dM_store_117 : decode prog_3_method_12_code 117 = .ok (.iload 4, 2) := by decide +kernel
theorem dM_store_119 : decode prog_3_method_12_code 119 = .ok (.iadd, 1) := by decide +kernel
theorem dM_store_120 : decode prog_3_method_12_code 120 = .ok (.aload_n 0, 1) := by decide +kernel
theorem dM_store_121 : decode prog_3_method_12_code 121 = .ok (.getfield 20, 3) := by decide +kernel
theorem dM_store_124 : decode prog_3_method_12_code 124 = .ok (.iload 4, 2) := by decide +kernel
theorem dM_store_126 : decode prog_3_method_12_code 126 = .ok (.iaload, 1) := by decide +kernel
theorem dM_store_127 : decode prog_3_method_12_code 127 = .ok (.iastore, 1) := by decide +kernel
theorem dM_store_128 : decode prog_3_method_12_code 128 = .ok (.iinc 4 1, 3) := by decide +kernel
theorem dM_store_131 : decode prog_3_method_12_code 131 = .ok (.goto (-29), 3) := by decide +kernel
theorem dM_store_134 : decode prog_3_method_12_code 134 = .ok (.aload_n 0, 1) := by decide +kernel
theorem dM_store_135 : decode prog_3_method_12_code 135 = .ok (.getfield 7, 3) := by decide +kernel
theorem dM_store_138 : decode prog_3_method_12_code 138 = .ok (.iload_n 1, 1) := by decide +kernel
theorem dM_store_139 : decode prog_3_method_12_code 139 = .ok (.iload_n 3, 1) := by decide +kernel
theorem dM_store_140 : decode prog_3_method_12_code 140 = .ok (.bipush 8, 2) := by decide +kernel
theorem dM_store_142 : decode prog_3_method_12_code 142 = .ok (.if_icmp .ge 12, 3) := by decide +kernel
theorem dM_store_145 : decode prog_3_method_12_code 145 = .ok (.aload_n 0, 1) := by decide +kernel
theorem dM_store_146 : decode prog_3_method_12_code 146 = .ok (.getfield 7, 3) := by decide +kernel
theorem dM_store_149 : decode prog_3_method_12_code 149 = .ok (.iload_n 2, 1) := by decide +kernel
theorem dM_store_150 : decode prog_3_method_12_code 150 = .ok (.baload, 1) := by decide +kernel
theorem dM_store_151 : decode prog_3_method_12_code 151 = .ok (.goto 9, 3) := by decide +kernel
theorem dM_store_154 : decode prog_3_method_12_code 154 = .ok (.aload_n 0, 1) := by decide +kernel
theorem dM_store_155 : decode prog_3_method_12_code 155 = .ok (.getfield 7, 3) := by decide +kernel
theorem dM_store_158 : decode prog_3_method_12_code 158 = .ok (.iload_n 1, 1) := by decide +kernel
theorem dM_store_159 : decode prog_3_method_12_code 159 = .ok (.baload, 1) := by decide +kernel
theorem dM_store_160 : decode prog_3_method_12_code 160 = .ok (.bastore, 1) := by decide +kernel
theorem dM_store_161 : decode prog_3_method_12_code 161 = .ok (.iconst 1, 1) := by decide +kernel
theorem dM_store_162 : decode prog_3_method_12_code 162 = .ok (.ireturn, 1) := by decide +kernel
theorem dM_code_0 : decode prog_3_method_17_code 0 = .ok (.iload_n 1, 1) := by decide +kernel
theorem dM_code_1 : decode prog_3_method_17_code 1 = .ok (.ifCond .lt 10, 3) := by decide +kernel
theorem dM_code_4 : decode prog_3_method_17_code 4 = .ok (.iload_n 1, 1) := by decide +kernel
theorem dM_code_5 : decode prog_3_method_17_code 5 = .ok (.sipush 255, 3) := by decide +kernel
theorem dM_code_8 : decode prog_3_method_17_code 8 = .ok (.if_icmp .le 5, 3) := by decide +kernel
theorem dM_code_11 : decode prog_3_method_17_code 11 = .ok (.iconst (-1), 1) := by decide +kernel
theorem dM_code_12 : decode prog_3_method_17_code 12 = .ok (.ireturn, 1) := by decide +kernel
theorem dM_code_13 : decode prog_3_method_17_code 13 = .ok (.iload_n 1, 1) := by decide +kernel
theorem dM_code_14 : decode prog_3_method_17_code 14 = .ok (.bipush 97, 2) := by decide +kernel
theorem dM_code_16 : decode prog_3_method_17_code 16 = .ok (.if_icmp .lt 16, 3) := by decide +kernel
theorem dM_code_19 : decode prog_3_method_17_code 19 = .ok (.iload_n 1, 1) := by decide +kernel
theorem dM_code_20 : decode prog_3_method_17_code 20 = .ok (.bipush 122, 2) := by decide +kernel
theorem dM_code_22 : decode prog_3_method_17_code 22 = .ok (.if_icmp .gt 10, 3) := by decide +kernel
theorem dM_code_25 : decode prog_3_method_17_code 25 = .ok (.iload_n 1, 1) := by decide +kernel
theorem dM_code_26 : decode prog_3_method_17_code 26 = .ok (.bipush 32, 2) := by decide +kernel
theorem dM_code_28 : decode prog_3_method_17_code 28 = .ok (.isub, 1) := by decide +kernel
theorem dM_code_29 : decode prog_3_method_17_code 29 = .ok (.goto 4, 3) := by decide +kernel
theorem dM_code_32 : decode prog_3_method_17_code 32 = .ok (.iload_n 1, 1) := by decide +kernel
theorem dM_code_33 : decode prog_3_method_17_code 33 = .ok (.istore_n 2, 1) := by decide +kernel
theorem dM_code_34 : decode prog_3_method_17_code 34 = .ok (.iconst 0, 1) := by decide +kernel
theorem dM_code_35 : decode prog_3_method_17_code 35 = .ok (.istore_n 3, 1) := by decide +kernel
theorem dM_code_36 : decode prog_3_method_17_code 36 = .ok (.iconst 0, 1) := by decide +kernel
theorem dM_code_37 : decode prog_3_method_17_code 37 = .ok (.istore 4, 2) := by decide +kernel
theorem dM_code_39 : decode prog_3_method_17_code 39 = .ok (.iload 4, 2) := by decide +kernel
theorem dM_code_41 : decode prog_3_method_17_code 41 = .ok (.bipush 56, 2) := by decide +kernel
theorem dM_code_43 : decode prog_3_method_17_code 43 = .ok (.if_icmp .ge 27, 3) := by decide +kernel
theorem dM_code_46 : decode prog_3_method_17_code 46 = .ok (.aload_n 0, 1) := by decide +kernel
theorem dM_code_47 : decode prog_3_method_17_code 47 = .ok (.getfield 17, 3) := by decide +kernel
theorem dM_code_50 : decode prog_3_method_17_code 50 = .ok (.iload 4, 2) := by decide +kernel
theorem dM_code_52 : decode prog_3_method_17_code 52 = .ok (.iaload, 1) := by decide +kernel
theorem dM_code_53 : decode prog_3_method_17_code 53 = .ok (.iload_n 2, 1) := by decide +kernel
theorem dM_code_54 : decode prog_3_method_17_code 54 = .ok (.if_icmp .ne 8, 3) := by decide +kernel
theorem dM_code_57 : decode prog_3_method_17_code 57 = .ok (.iload 4, 2) := by decide +kernel
theorem dM_code_59 : decode prog_3_method_17_code 59 = .ok (.goto 4, 3) := by decide +kernel
theorem dM_code_62 : decode prog_3_method_17_code 62 = .ok (.iload_n 3, 1) := by decide +kernel
theorem dM_code_63 : decode prog_3_method_17_code 63 = .ok (.istore_n 3, 1) := by decide +kernel
theorem dM_code_64 : decode prog_3_method_17_code 64 = .ok (.iinc 4 1, 3) := by decide +kernel
theorem dM_code_67 : decode prog_3_method_17_code 67 = .ok (.goto (-28), 3) := by decide +kernel
theorem dM_code_70 : decode prog_3_method_17_code 70 = .ok (.iload_n 3, 1) := by decide +kernel
theorem dM_code_71 : decode prog_3_method_17_code 71 = .ok (.ireturn, 1) := by decide +kernel
theorem dM_init_0 : decode prog_3_method_1_code 0 = .ok (.aload_n 0, 1) := by decide +kernel
theorem dM_init_1 : decode prog_3_method_1_code 1 = .ok (.invokespecial 1, 3) := by decide +kernel
theorem dM_init_4 : decode prog_3_method_1_code 4 = .ok (.aload_n 0, 1) := by decide +kernel
theorem dM_init_5 : decode prog_3_method_1_code 5 = .ok (.bipush 16, 2) := by decide +kernel
theorem dM_init_7 : decode prog_3_method_1_code 7 = .ok (.newarray .boolean, 2) := by decide +kernel
theorem dM_init_9 : decode prog_3_method_1_code 9 = .ok (.putfield 7, 3) := by decide +kernel
theorem dM_init_12 : decode prog_3_method_1_code 12 = .ok (.aload_n 0, 1) := by decide +kernel
theorem dM_init_13 : decode prog_3_method_1_code 13 = .ok (.bipush 96, 2) := by decide +kernel
theorem dM_init_15 : decode prog_3_method_1_code 15 = .ok (.newarray .int, 2) := by decide +kernel
theorem dM_init_17 : decode prog_3_method_1_code 17 = .ok (.putfield 13, 3) := by decide +kernel
theorem dM_init_20 : decode prog_3_method_1_code 20 = .ok (.aload_n 0, 1) := by decide +kernel
theorem dM_init_21 : decode prog_3_method_1_code 21 = .ok (.bipush 56, 2) := by decide +kernel
theorem dM_init_23 : decode prog_3_method_1_code 23 = .ok (.newarray .int, 2) := by decide +kernel
theorem dM_init_25 : decode prog_3_method_1_code 25 = .ok (.dup, 1) := by decide +kernel
theorem dM_init_26 : decode prog_3_method_1_code 26 = .ok (.iconst 0, 1) := by decide +kernel
theorem dM_init_27 : decode prog_3_method_1_code 27 = .ok (.bipush 32, 2) := by decide +kernel
theorem dM_init_29 : decode prog_3_method_1_code 29 = .ok (.iastore, 1) := by decide +kernel
theorem dM_init_30 : decode prog_3_method_1_code 30 = .ok (.dup, 1) := by decide +kernel
theorem dM_init_31 : decode prog_3_method_1_code 31 = .ok (.iconst 1, 1) := by decide +kernel
theorem dM_init_32 : decode prog_3_method_1_code 32 = .ok (.bipush 65, 2) := by decide +kernel
theorem dM_init_34 : decode prog_3_method_1_code 34 = .ok (.iastore, 1) := by decide +kernel
theorem dM_init_35 : decode prog_3_method_1_code 35 = .ok (.dup, 1) := by decide +kernel
theorem dM_init_36 : decode prog_3_method_1_code 36 = .ok (.iconst 2, 1) := by decide +kernel
theorem dM_init_37 : decode prog_3_method_1_code 37 = .ok (.bipush 66, 2) := by decide +kernel
theorem dM_init_39 : decode prog_3_method_1_code 39 = .ok (.iastore, 1) := by decide +kernel
theorem dM_init_40 : decode prog_3_method_1_code 40 = .ok (.dup, 1) := by decide +kernel
theorem dM_init_41 : decode prog_3_method_1_code 41 = .ok (.iconst 3, 1) := by decide +kernel
theorem dM_init_42 : decode prog_3_method_1_code 42 = .ok (.bipush 67, 2) := by decide +kernel
theorem dM_init_44 : decode prog_3_method_1_code 44 = .ok (.iastore, 1) := by decide +kernel
theorem dM_init_45 : decode prog_3_method_1_code 45 = .ok (.dup, 1) := by decide +kernel
theorem dM_init_46 : decode prog_3_method_1_code 46 = .ok (.iconst 4, 1) := by decide +kernel
theorem dM_init_47 : decode prog_3_method_1_code 47 = .ok (.bipush 68, 2) := by decide +kernel
theorem dM_init_49 : decode prog_3_method_1_code 49 = .ok (.iastore, 1) := by decide +kernel
theorem dM_init_50 : decode prog_3_method_1_code 50 = .ok (.dup, 1) := by decide +kernel
theorem dM_init_51 : decode prog_3_method_1_code 51 = .ok (.iconst 5, 1) := by decide +kernel
theorem dM_init_52 : decode prog_3_method_1_code 52 = .ok (.bipush 69, 2) := by decide +kernel
theorem dM_init_54 : decode prog_3_method_1_code 54 = .ok (.iastore, 1) := by decide +kernel
theorem dM_init_55 : decode prog_3_method_1_code 55 = .ok (.dup, 1) := by decide +kernel
theorem dM_init_56 : decode prog_3_method_1_code 56 = .ok (.bipush 6, 2) := by decide +kernel
theorem dM_init_58 : decode prog_3_method_1_code 58 = .ok (.bipush 70, 2) := by decide +kernel
theorem dM_init_60 : decode prog_3_method_1_code 60 = .ok (.iastore, 1) := by decide +kernel
theorem dM_init_61 : decode prog_3_method_1_code 61 = .ok (.dup, 1) := by decide +kernel
theorem dM_init_62 : decode prog_3_method_1_code 62 = .ok (.bipush 7, 2) := by decide +kernel
theorem dM_init_64 : decode prog_3_method_1_code 64 = .ok (.bipush 71, 2) := by decide +kernel
theorem dM_init_66 : decode prog_3_method_1_code 66 = .ok (.iastore, 1) := by decide +kernel
theorem dM_init_67 : decode prog_3_method_1_code 67 = .ok (.dup, 1) := by decide +kernel
theorem dM_init_68 : decode prog_3_method_1_code 68 = .ok (.bipush 8, 2) := by decide +kernel
theorem dM_init_70 : decode prog_3_method_1_code 70 = .ok (.bipush 72, 2) := by decide +kernel
theorem dM_init_72 : decode prog_3_method_1_code 72 = .ok (.iastore, 1) := by decide +kernel
theorem dM_init_73 : decode prog_3_method_1_code 73 = .ok (.dup, 1) := by decide +kernel
theorem dM_init_74 : decode prog_3_method_1_code 74 = .ok (.bipush 9, 2) := by decide +kernel
theorem dM_init_76 : decode prog_3_method_1_code 76 = .ok (.bipush 73, 2) := by decide +kernel
theorem dM_init_78 : decode prog_3_method_1_code 78 = .ok (.iastore, 1) := by decide +kernel
theorem dM_init_79 : decode prog_3_method_1_code 79 = .ok (.dup, 1) := by decide +kernel
theorem dM_init_80 : decode prog_3_method_1_code 80 = .ok (.bipush 10, 2) := by decide +kernel
theorem dM_init_82 : decode prog_3_method_1_code 82 = .ok (.bipush 126, 2) := by decide +kernel
theorem dM_init_84 : decode prog_3_method_1_code 84 = .ok (.iastore, 1) := by decide +kernel
theorem dM_init_85 : decode prog_3_method_1_code 85 = .ok (.dup, 1) := by decide +kernel
theorem dM_init_86 : decode prog_3_method_1_code 86 = .ok (.bipush 11, 2) := by decide +kernel
theorem dM_init_88 : decode prog_3_method_1_code 88 = .ok (.bipush 74, 2) := by decide +kernel
theorem dM_init_90 : decode prog_3_method_1_code 90 = .ok (.iastore, 1) := by decide +kernel
theorem dM_init_91 : decode prog_3_method_1_code 91 = .ok (.dup, 1) := by decide +kernel
theorem dM_init_92 : decode prog_3_method_1_code 92 = .ok (.bipush 12, 2) := by decide +kernel
theorem dM_init_94 : decode prog_3_method_1_code 94 = .ok (.bipush 75, 2) := by decide +kernel
theorem dM_init_96 : decode prog_3_method_1_code 96 = .ok (.iastore, 1) := by decide +kernel
theorem dM_init_97 : decode prog_3_method_1_code 97 = .ok (.dup, 1) := by decide +kernel
theorem dM_init_98 : decode prog_3_method_1_code 98 = .ok (.bipush 13, 2) := by decide +kernel
theorem dM_init_100 : decode prog_3_method_1_code 100 = .ok (.bipush 76, 2) := by decide +kernel
theorem dM_init_102 : decode prog_3_method_1_code 102 = .ok (.iastore, 1) := by decide +kernel
theorem dM_init_103 : decode prog_3_method_1_code 103 = .ok (.dup, 1) := by decide +kernel
theorem dM_init_104 : decode prog_3_method_1_code 104 = .ok (.bipush 14, 2) := by decide +kernel
theorem dM_init_106 : decode prog_3_method_1_code 106 = .ok (.bipush 77, 2) := by decide +kernel
theorem dM_init_108 : decode prog_3_method_1_code 108 = .ok (.iastore, 1) := by decide +kernel
theorem dM_init_109 : decode prog_3_method_1_code 109 = .ok (.dup, 1) := by decide +kernel
theorem dM_init_110 : decode prog_3_method_1_code 110 = .ok (.bipush 15, 2) := by decide +kernel
theorem dM_init_112 : decode prog_3_method_1_code 112 = .ok (.bipush 78, 2) := by decide +kernel
theorem dM_init_114 : decode prog_3_method_1_code 114 = .ok (.iastore, 1) := by decide +kernel
theorem dM_init_115 : decode prog_3_method_1_code 115 = .ok (.dup, 1) := by decide +kernel
theorem dM_init_116 : decode prog_3_method_1_code 116 = .ok (.bipush 16, 2) := by decide +kernel
theorem dM_init_118 : decode prog_3_method_1_code 118 = .ok (.bipush 79, 2) := by decide +kernel
theorem dM_init_120 : decode prog_3_method_1_code 120 = .ok (.iastore, 1) := by decide +kernel
theorem dM_init_121 : decode prog_3_method_1_code 121 = .ok (.dup, 1) := by decide +kernel
theorem dM_init_122 : decode prog_3_method_1_code 122 = .ok (.bipush 17, 2) := by decide +kernel
theorem dM_init_124 : decode prog_3_method_1_code 124 = .ok (.bipush 80, 2) := by decide +kernel
theorem dM_init_126 : decode prog_3_method_1_code 126 = .ok (.iastore, 1) := by decide +kernel
theorem dM_init_127 : decode prog_3_method_1_code 127 = .ok (.dup, 1) := by decide +kernel
theorem dM_init_128 : decode prog_3_method_1_code 128 = .ok (.bipush 18, 2) := by decide +kernel
theorem dM_init_130 : decode prog_3_method_1_code 130 = .ok (.bipush 81, 2) := by decide +kernel
theorem dM_init_132 : decode prog_3_method_1_code 132 = .ok (.iastore, 1) := by decide +kernel
theorem dM_init_133 : decode prog_3_method_1_code 133 = .ok (.dup, 1) := by decide +kernel
theorem dM_init_134 : decode prog_3_method_1_code 134 = .ok (.bipush 19, 2) := by decide +kernel
theorem dM_init_136 : decode prog_3_method_1_code 136 = .ok (.bipush 82, 2) := by decide +kernel
theorem dM_init_138 : decode prog_3_method_1_code 138 = .ok (.iastore, 1) := by decide +kernel
theorem dM_init_139 : decode prog_3_method_1_code 139 = .ok (.dup, 1) := by decide +kernel
theorem dM_init_140 : decode prog_3_method_1_code 140 = .ok (.bipush 20, 2) := by decide +kernel
theorem dM_init_142 : decode prog_3_method_1_code 142 = .ok (.bipush 91, 2) := by decide +kernel
theorem dM_init_144 : decode prog_3_method_1_code 144 = .ok (.iastore, 1) := by decide +kernel
theorem dM_init_145 : decode prog_3_method_1_code 145 = .ok (.dup, 1) := by decide +kernel
theorem dM_init_146 : decode prog_3_method_1_code 146 = .ok (.bipush 21, 2) := by decide +kernel
theorem dM_init_148 : decode prog_3_method_1_code 148 = .ok (.bipush 35, 2) := by decide +kernel
theorem dM_init_150 : decode prog_3_method_1_code 150 = .ok (.iastore, 1) := by decide +kernel
theorem dM_init_151 : decode prog_3_method_1_code 151 = .ok (.dup, 1) := by decide +kernel
theorem dM_init_152 : decode prog_3_method_1_code 152 = .ok (.bipush 22, 2) := by decide +kernel
theorem dM_init_154 : decode prog_3_method_1_code 154 = .ok (.bipush 83, 2) := by decide +kernel
theorem dM_init_156 : decode prog_3_method_1_code 156 = .ok (.iastore, 1) := by decide +kernel
theorem dM_init_157 : decode prog_3_method_1_code 157 = .ok (.dup, 1) := by decide +kernel
theorem dM_init_158 : decode prog_3_method_1_code 158 = .ok (.bipush 23, 2) := by decide +kernel
theorem dM_init_160 : decode prog_3_method_1_code 160 = .ok (.bipush 84, 2) := by decide +kernel
theorem dM_init_162 : decode prog_3_method_1_code 162 = .ok (.iastore, 1) := by decide +kernel
theorem dM_init_163 : decode prog_3_method_1_code 163 = .ok (.dup, 1) := by decide +kernel
theorem dM_init_164 : decode prog_3_method_1_code 164 = .ok (.bipush 24, 2) := by decide +kernel
theorem dM_init_166 : decode prog_3_method_1_code 166 = .ok (.bipush 85, 2) := by decide +kernel
theorem dM_init_168 : decode prog_3_method_1_code 168 = .ok (.iastore, 1) := by decide +kernel
theorem dM_init_169 : decode prog_3_method_1_code 169 = .ok (.dup, 1) := by decide +kernel
theorem dM_init_170 : decode prog_3_method_1_code 170 = .ok (.bipush 25, 2) := by decide +kernel
theorem dM_init_172 : decode prog_3_method_1_code 172 = .ok (.bipush 86, 2) := by decide +kernel
theorem dM_init_174 : decode prog_3_method_1_code 174 = .ok (.iastore, 1) := by decide +kernel
theorem dM_init_175 : decode prog_3_method_1_code 175 = .ok (.dup, 1) := by decide +kernel
theorem dM_init_176 : decode prog_3_method_1_code 176 = .ok (.bipush 26, 2) := by decide +kernel
theorem dM_init_178 : decode prog_3_method_1_code 178 = .ok (.bipush 87, 2) := by decide +kernel
theorem dM_init_180 : decode prog_3_method_1_code 180 = .ok (.iastore, 1) := by decide +kernel
theorem dM_init_181 : decode prog_3_method_1_code 181 = .ok (.dup, 1) := by decide +kernel
theorem dM_init_182 : decode prog_3_method_1_code 182 = .ok (.bipush 27, 2) := by decide +kernel
theorem dM_init_184 : decode prog_3_method_1_code 184 = .ok (.bipush 88, 2) := by decide +kernel
theorem dM_init_186 : decode prog_3_method_1_code 186 = .ok (.iastore, 1) := by decide +kernel
theorem dM_init_187 : decode prog_3_method_1_code 187 = .ok (.dup, 1) := by decide +kernel
theorem dM_init_188 : decode prog_3_method_1_code 188 = .ok (.bipush 28, 2) := by decide +kernel
theorem dM_init_190 : decode prog_3_method_1_code 190 = .ok (.bipush 89, 2) := by decide +kernel
theorem dM_init_192 : decode prog_3_method_1_code 192 = .ok (.iastore, 1) := by decide +kernel
theorem dM_init_193 : decode prog_3_method_1_code 193 = .ok (.dup, 1) := by decide +kernel
theorem dM_init_194 : decode prog_3_method_1_code 194 = .ok (.bipush 29, 2) := by decide +kernel
theorem dM_init_196 : decode prog_3_method_1_code 196 = .ok (.bipush 90, 2) := by decide +kernel
theorem dM_init_198 : decode prog_3_method_1_code 198 = .ok (.iastore, 1) := by decide +kernel
theorem dM_init_199 : decode prog_3_method_1_code 199 = .ok (.dup, 1) := by decide +kernel
theorem dM_init_200 : decode prog_3_method_1_code 200 = .ok (.bipush 30, 2) := by decide +kernel
theorem dM_init_202 : decode prog_3_method_1_code 202 = .ok (.bipush 48, 2) := by decide +kernel
theorem dM_init_204 : decode prog_3_method_1_code 204 = .ok (.iastore, 1) := by decide +kernel
theorem dM_init_205 : decode prog_3_method_1_code 205 = .ok (.dup, 1) := by decide +kernel
theorem dM_init_206 : decode prog_3_method_1_code 206 = .ok (.bipush 31, 2) := by decide +kernel
theorem dM_init_208 : decode prog_3_method_1_code 208 = .ok (.bipush 49, 2) := by decide +kernel
theorem dM_init_210 : decode prog_3_method_1_code 210 = .ok (.iastore, 1) := by decide +kernel
theorem dM_init_211 : decode prog_3_method_1_code 211 = .ok (.dup, 1) := by decide +kernel
theorem dM_init_212 : decode prog_3_method_1_code 212 = .ok (.bipush 32, 2) := by decide +kernel
theorem dM_init_214 : decode prog_3_method_1_code 214 = .ok (.bipush 50, 2) := by decide +kernel
theorem dM_init_216 : decode prog_3_method_1_code 216 = .ok (.iastore, 1) := by decide +kernel
theorem dM_init_217 : decode prog_3_method_1_code 217 = .ok (.dup, 1) := by decide +kernel
theorem dM_init_218 : decode prog_3_method_1_code 218 = .ok (.bipush 33, 2) := by decide +kernel
theorem dM_init_220 : decode prog_3_method_1_code 220 = .ok (.bipush 51, 2) := by decide +kernel
theorem dM_init_222 : decode prog_3_method_1_code 222 = .ok (.iastore, 1) := by decide +kernel
theorem dM_init_223 : decode prog_3_method_1_code 223 = .ok (.dup, 1) := by decide +kernel
theorem dM_init_224 : decode prog_3_method_1_code 224 = .ok (.bipush 34, 2) := by decide +kernel
theorem dM_init_226 : decode prog_3_method_1_code 226 = .ok (.bipush 52, 2) := by decide +kernel
theorem dM_init_228 : decode prog_3_method_1_code 228 = .ok (.iastore, 1) := by decide +kernel
theorem dM_init_229 : decode prog_3_method_1_code 229 = .ok (.dup, 1) := by decide +kernel
theorem dM_init_230 : decode prog_3_method_1_code 230 = .ok (.bipush 35, 2) := by decide +kernel
theorem dM_init_232 : decode prog_3_method_1_code 232 = .ok (.bipush 53, 2) := by decide +kernel
theorem dM_init_234 : decode prog_3_method_1_code 234 = .ok (.iastore, 1) := by decide +kernel
theorem dM_init_235 : decode prog_3_method_1_code 235 = .ok (.dup, 1) := by decide +kernel
theorem dM_init_236 : decode prog_3_method_1_code 236 = .ok (.bipush 36, 2) := by decide +kernel
theorem dM_init_238 : decode prog_3_method_1_code 238 = .ok (.bipush 54, 2) := by decide +kernel
theorem dM_init_240 : decode prog_3_method_1_code 240 = .ok (.iastore, 1) := by decide +kernel
theorem dM_init_241 : decode prog_3_method_1_code 241 = .ok (.dup, 1) := by decide +kernel
theorem dM_init_242 : decode prog_3_method_1_code 242 = .ok (.bipush 37, 2) := by decide +kernel
theorem dM_init_244 : decode prog_3_method_1_code 244 = .ok (.bipush 55, 2) := by decide +kernel
theorem dM_init_246 : decode prog_3_method_1_code 246 = .ok (.iastore, 1) := by decide +kernel
theorem dM_init_247 : decode prog_3_method_1_code 247 = .ok (.dup, 1) := by decide +kernel
theorem dM_init_248 : decode prog_3_method_1_code 248 = .ok (.bipush 38, 2) := by decide +kernel
theorem dM_init_250 : decode prog_3_method_1_code 250 = .ok (.bipush 56, 2) := by decide +kernel
theorem dM_init_252 : decode prog_3_method_1_code 252 = .ok (.iastore, 1) := by decide +kernel
theorem dM_init_253 : decode prog_3_method_1_code 253 = .ok (.dup, 1) := by decide +kernel
theorem dM_init_254 : decode prog_3_method_1_code 254 = .ok (.bipush 39, 2) := by decide +kernel
theorem dM_init_256 : decode prog_3_method_1_code 256 = .ok (.bipush 57, 2) := by decide +kernel
theorem dM_init_258 : decode prog_3_method_1_code 258 = .ok (.iastore, 1) := by decide +kernel
theorem dM_init_259 : decode prog_3_method_1_code 259 = .ok (.dup, 1) := by decide +kernel
theorem dM_init_260 : decode prog_3_method_1_code 260 = .ok (.bipush 40, 2) := by decide +kernel
theorem dM_init_262 : decode prog_3_method_1_code 262 = .ok (.bipush 46, 2) := by decide +kernel
theorem dM_init_264 : decode prog_3_method_1_code 264 = .ok (.iastore, 1) := by decide +kernel
theorem dM_init_265 : decode prog_3_method_1_code 265 = .ok (.dup, 1) := by decide +kernel
theorem dM_init_266 : decode prog_3_method_1_code 266 = .ok (.bipush 41, 2) := by decide +kernel
theorem dM_init_268 : decode prog_3_method_1_code 268 = .ok (.bipush 44, 2) := by decide +kernel
theorem dM_init_270 : decode prog_3_method_1_code 270 = .ok (.iastore, 1) := by decide +kernel
theorem dM_init_271 : decode prog_3_method_1_code 271 = .ok (.dup, 1) := by decide +kernel
theorem dM_init_272 : decode prog_3_method_1_code 272 = .ok (.bipush 42, 2) := by decide +kernel
theorem dM_init_274 : decode prog_3_method_1_code 274 = .ok (.bipush 40, 2) := by decide +kernel
theorem dM_init_276 : decode prog_3_method_1_code 276 = .ok (.iastore, 1) := by decide +kernel
theorem dM_init_277 : decode prog_3_method_1_code 277 = .ok (.dup, 1) := by decide +kernel
theorem dM_init_278 : decode prog_3_method_1_code 278 = .ok (.bipush 43, 2) := by decide +kernel
theorem dM_init_280 : decode prog_3_method_1_code 280 = .ok (.bipush 41, 2) := by decide +kernel
theorem dM_init_282 : decode prog_3_method_1_code 282 = .ok (.iastore, 1) := by decide +kernel
theorem dM_init_283 : decode prog_3_method_1_code 283 = .ok (.dup, 1) := by decide +kernel
theorem dM_init_284 : decode prog_3_method_1_code 284 = .ok (.bipush 44, 2) := by decide +kernel
theorem dM_init_286 : decode prog_3_method_1_code 286 = .ok (.bipush 43, 2) := by decide +kernel
theorem dM_init_288 : decode prog_3_method_1_code 288 = .ok (.iastore, 1) := by decide +kernel
theorem dM_init_289 : decode prog_3_method_1_code 289 = .ok (.dup, 1) := by decide +kernel
theorem dM_init_290 : decode prog_3_method_1_code 290 = .ok (.bipush 45, 2) := by decide +kernel
theorem dM_init_292 : decode prog_3_method_1_code 292 = .ok (.bipush 45, 2) := by decide +kernel
theorem dM_init_294 : decode prog_3_method_1_code 294 = .ok (.iastore, 1) := by decide +kernel
theorem dM_init_295 : decode prog_3_method_1_code 295 = .ok (.dup, 1) := by decide +kernel
theorem dM_init_296 : decode prog_3_method_1_code 296 = .ok (.bipush 46, 2) := by decide +kernel
theorem dM_init_298 : decode prog_3_method_1_code 298 = .ok (.bipush 42, 2) := by decide +kernel
theorem dM_init_300 : decode prog_3_method_1_code 300 = .ok (.iastore, 1) := by decide +kernel
theorem dM_init_301 : decode prog_3_method_1_code 301 = .ok (.dup, 1) := by decide +kernel
theorem dM_init_302 : decode prog_3_method_1_code 302 = .ok (.bipush 47, 2) := by decide +kernel
theorem dM_init_304 : decode prog_3_method_1_code 304 = .ok (.bipush 47, 2) := by decide +kernel
theorem dM_init_306 : decode prog_3_method_1_code 306 = .ok (.iastore, 1) := by decide +kernel
theorem dM_init_307 : decode prog_3_method_1_code 307 = .ok (.dup, 1) := by decide +kernel
theorem dM_init_308 : decode prog_3_method_1_code 308 = .ok (.bipush 48, 2) := by decide +kernel
theorem dM_init_310 : decode prog_3_method_1_code 310 = .ok (.bipush 61, 2) := by decide +kernel
theorem dM_init_312 : decode prog_3_method_1_code 312 = .ok (.iastore, 1) := by decide +kernel
theorem dM_init_313 : decode prog_3_method_1_code 313 = .ok (.dup, 1) := by decide +kernel
theorem dM_init_314 : decode prog_3_method_1_code 314 = .ok (.bipush 49, 2) := by decide +kernel
theorem dM_init_316 : decode prog_3_method_1_code 316 = .ok (.bipush 36, 2) := by decide +kernel
theorem dM_init_318 : decode prog_3_method_1_code 318 = .ok (.iastore, 1) := by decide +kernel
theorem dM_init_319 : decode prog_3_method_1_code 319 = .ok (.dup, 1) := by decide +kernel
theorem dM_init_320 : decode prog_3_method_1_code 320 = .ok (.bipush 50, 2) := by decide +kernel
theorem dM_init_322 : decode prog_3_method_1_code 322 = .ok (.bipush 60, 2) := by decide +kernel
theorem dM_init_324 : decode prog_3_method_1_code 324 = .ok (.iastore, 1) := by decide +kernel
theorem dM_init_325 : decode prog_3_method_1_code 325 = .ok (.dup, 1) := by decide +kernel
theorem dM_init_326 : decode prog_3_method_1_code 326 = .ok (.bipush 51, 2) := by decide +kernel
theorem dM_init_328 : decode prog_3_method_1_code 328 = .ok (.bipush 62, 2) := by decide +kernel
theorem dM_init_330 : decode prog_3_method_1_code 330 = .ok (.iastore, 1) := by decide +kernel
theorem dM_init_331 : decode prog_3_method_1_code 331 = .ok (.dup, 1) := by decide +kernel
theorem dM_init_332 : decode prog_3_method_1_code 332 = .ok (.bipush 52, 2) := by decide +kernel
theorem dM_init_334 : decode prog_3_method_1_code 334 = .ok (.bipush 64, 2) := by decide +kernel
theorem dM_init_336 : decode prog_3_method_1_code 336 = .ok (.iastore, 1) := by decide +kernel
theorem dM_init_337 : decode prog_3_method_1_code 337 = .ok (.dup, 1) := by decide +kernel
theorem dM_init_338 : decode prog_3_method_1_code 338 = .ok (.bipush 53, 2) := by decide +kernel
theorem dM_init_340 : decode prog_3_method_1_code 340 = .ok (.bipush 59, 2) := by decide +kernel
theorem dM_init_342 : decode prog_3_method_1_code 342 = .ok (.iastore, 1) := by decide +kernel
theorem dM_init_343 : decode prog_3_method_1_code 343 = .ok (.dup, 1) := by decide +kernel
theorem dM_init_344 : decode prog_3_method_1_code 344 = .ok (.bipush 54, 2) := by decide +kernel
theorem dM_init_346 : decode prog_3_method_1_code 346 = .ok (.bipush 58, 2) := by decide +kernel
theorem dM_init_348 : decode prog_3_method_1_code 348 = .ok (.iastore, 1) := by decide +kernel
theorem dM_init_349 : decode prog_3_method_1_code 349 = .ok (.dup, 1) := by decide +kernel
theorem dM_init_350 : decode prog_3_method_1_code 350 = .ok (.bipush 55, 2) := by decide +kernel
theorem dM_init_352 : decode prog_3_method_1_code 352 = .ok (.bipush 39, 2) := by decide +kernel
theorem dM_init_354 : decode prog_3_method_1_code 354 = .ok (.iastore, 1) := by decide +kernel
theorem dM_init_355 : decode prog_3_method_1_code 355 = .ok (.putfield 17, 3) := by decide +kernel
theorem dM_init_358 : decode prog_3_method_1_code 358 = .ok (.aload_n 0, 1) := by decide +kernel
theorem dM_init_359 : decode prog_3_method_1_code 359 = .ok (.bipush 6, 2) := by decide +kernel
theorem dM_init_361 : decode prog_3_method_1_code 361 = .ok (.newarray .int, 2) := by decide +kernel
theorem dM_init_363 : decode prog_3_method_1_code 363 = .ok (.putfield 20, 3) := by decide +kernel
theorem dM_init_366 : decode prog_3_method_1_code 366 = .ok (.return_, 1) := by decide +kernel
end
section
theorem dL_law_0 : decode code 0 = .ok (.new 7, 3) := by decide +kernel
theorem dL_law_3 : decode code 3 = .ok (.dup, 1) := by decide +kernel
theorem dL_law_4 : decode code 4 = .ok (.invokespecial 9, 3) := by decide +kernel
theorem dL_law_7 : decode code 7 = .ok (.astore_n 1, 1) := by decide +kernel
theorem dL_law_8 : decode code 8 = .ok (.new 10, 3) := by decide +kernel
theorem dL_law_11 : decode code 11 = .ok (.dup, 1) := by decide +kernel
theorem dL_law_12 : decode code 12 = .ok (.invokespecial 12, 3) := by decide +kernel
theorem dL_law_15 : decode code 15 = .ok (.astore_n 2, 1) := by decide +kernel
theorem dL_law_16 : decode code 16 = .ok (.iconst 0, 1) := by decide +kernel
theorem dL_law_17 : decode code 17 = .ok (.istore_n 3, 1) := by decide +kernel
theorem dL_law_18 : decode code 18 = .ok (.iload_n 3, 1) := by decide +kernel
theorem dL_law_19 : decode code 19 = .ok (.aload_n 0, 1) := by decide +kernel
theorem dL_law_20 : decode code 20 = .ok (.arraylength, 1) := by decide +kernel
theorem dL_law_21 : decode code 21 = .ok (.iconst 4, 1) := by decide +kernel
theorem dL_law_22 : decode code 22 = .ok (.isub, 1) := by decide +kernel
theorem dL_law_23 : decode code 23 = .ok (.if_icmp .gt 407, 3) := by decide +kernel
theorem dL_law_26 : decode code 26 = .ok (.aload_n 0, 1) := by decide +kernel
theorem dL_law_27 : decode code 27 = .ok (.iload_n 3, 1) := by decide +kernel
theorem dL_law_28 : decode code 28 = .ok (.iaload, 1) := by decide +kernel
theorem dL_law_29 : decode code 29 = .ok (.bipush 15, 2) := by decide +kernel
theorem dL_law_31 : decode code 31 = .ok (.iand, 1) := by decide +kernel
theorem dL_law_32 : decode code 32 = .ok (.tableswitch 392 0 9 #[56, 115, 138, 171, 214, 257, 280, 323, 346, 369], 56) := by decide +kernel
theorem dL_law_88 : decode code 88 = .ok (.aload_n 1, 1) := by decide +kernel
theorem dL_law_89 : decode code 89 = .ok (.aload_n 0, 1) := by decide +kernel
theorem dL_law_90 : decode code 90 = .ok (.iload_n 3, 1) := by decide +kernel
theorem dL_law_91 : decode code 91 = .ok (.iconst 1, 1) := by decide +kernel
theorem dL_law_92 : decode code 92 = .ok (.iadd, 1) := by decide +kernel
theorem dL_law_93 : decode code 93 = .ok (.iaload, 1) := by decide +kernel
theorem dL_law_94 : decode code 94 = .ok (.aload_n 0, 1) := by decide +kernel
theorem dL_law_95 : decode code 95 = .ok (.iload_n 3, 1) := by decide +kernel
theorem dL_law_96 : decode code 96 = .ok (.iconst 2, 1) := by decide +kernel
theorem dL_law_97 : decode code 97 = .ok (.iadd, 1) := by decide +kernel
theorem dL_law_98 : decode code 98 = .ok (.iaload, 1) := by decide +kernel
theorem dL_law_99 : decode code 99 = .ok (.aload_n 0, 1) := by decide +kernel
theorem dL_law_100 : decode code 100 = .ok (.iload_n 3, 1) := by decide +kernel
theorem dL_law_101 : decode code 101 = .ok (.iconst 3, 1) := by decide +kernel
theorem dL_law_102 : decode code 102 = .ok (.iadd, 1) := by decide +kernel
theorem dL_law_103 : decode code 103 = .ok (.iaload, 1) := by decide +kernel
theorem dL_law_104 : decode code 104 = .ok (.ifCond .eq 7, 3) := by decide +kernel
theorem dL_law_107 : decode code 107 = .ok (.iconst 1, 1) := by decide +kernel
theorem dL_law_108 : decode code 108 = .ok (.goto 4, 3) := by decide +kernel
theorem dL_law_111 : decode code 111 = .ok (.iconst 0, 1) := by decide +kernel
theorem dL_law_112 : decode code 112 = .ok (.invokevirtual 13, 3) := by decide +kernel
theorem dL_law_115 : decode code 115 = .ok (.aload_n 2, 1) := by decide +kernel
theorem dL_law_116 : decode code 116 = .ok (.aload_n 0, 1) := by decide +kernel
theorem dL_law_117 : decode code 117 = .ok (.iload_n 3, 1) := by decide +kernel
theorem dL_law_118 : decode code 118 = .ok (.iconst 1, 1) := by decide +kernel
theorem dL_law_119 : decode code 119 = .ok (.iadd, 1) := by decide +kernel
theorem dL_law_120 : decode code 120 = .ok (.iaload, 1) := by decide +kernel
theorem dL_law_121 : decode code 121 = .ok (.aload_n 0, 1) := by decide +kernel
theorem dL_law_122 : decode code 122 = .ok (.iload_n 3, 1) := by decide +kernel
theorem dL_law_123 : decode code 123 = .ok (.iconst 2, 1) := by decide +kernel
theorem dL_law_124 : decode code 124 = .ok (.iadd, 1) := by decide +kernel
theorem dL_law_125 : decode code 125 = .ok (.iaload, 1) := by decide +kernel
theorem dL_law_126 : decode code 126 = .ok (.aload_n 0, 1) := by decide +kernel
theorem dL_law_127 : decode code 127 = .ok (.iload_n 3, 1) := by decide +kernel
theorem dL_law_128 : decode code 128 = .ok (.iconst 3, 1) := by decide +kernel
theorem dL_law_129 : decode code 129 = .ok (.iadd, 1) := by decide +kernel
theorem dL_law_130 : decode code 130 = .ok (.iaload, 1) := by decide +kernel
theorem dL_law_131 : decode code 131 = .ok (.ifCond .eq 7, 3) := by decide +kernel
theorem dL_law_134 : decode code 134 = .ok (.iconst 1, 1) := by decide +kernel
theorem dL_law_135 : decode code 135 = .ok (.goto 4, 3) := by decide +kernel
theorem dL_law_138 : decode code 138 = .ok (.iconst 0, 1) := by decide +kernel
theorem dL_law_139 : decode code 139 = .ok (.invokevirtual 17, 3) := by decide +kernel
theorem dL_law_142 : decode code 142 = .ok (.if_icmp .eq 282, 3) := by decide +kernel
theorem dL_law_145 : decode code 145 = .ok (.iconst 0, 1) := by decide +kernel
theorem dL_law_146 : decode code 146 = .ok (.ireturn, 1) := by decide +kernel
theorem dL_law_147 : decode code 147 = .ok (.aload_n 1, 1) := by decide +kernel
theorem dL_law_148 : decode code 148 = .ok (.aload_n 0, 1) := by decide +kernel
theorem dL_law_149 : decode code 149 = .ok (.iload_n 3, 1) := by decide +kernel
theorem dL_law_150 : decode code 150 = .ok (.iconst 1, 1) := by decide +kernel
theorem dL_law_151 : decode code 151 = .ok (.iadd, 1) := by decide +kernel
theorem dL_law_152 : decode code 152 = .ok (.iaload, 1) := by decide +kernel
theorem dL_law_153 : decode code 153 = .ok (.invokevirtual 18, 3) := by decide +kernel
theorem dL_law_156 : decode code 156 = .ok (.aload_n 2, 1) := by decide +kernel
theorem dL_law_157 : decode code 157 = .ok (.aload_n 0, 1) := by decide +kernel
theorem dL_law_158 : decode code 158 = .ok (.iload_n 3, 1) := by decide +kernel
theorem dL_law_159 : decode code 159 = .ok (.iconst 1, 1) := by decide +kernel
theorem dL_law_160 : decode code 160 = .ok (.iadd, 1) := by decide +kernel
theorem dL_law_161 : decode code 161 = .ok (.iaload, 1) := by decide +kernel
theorem dL_law_162 : decode code 162 = .ok (.invokevirtual 22, 3) := by decide +kernel
theorem dL_law_165 : decode code 165 = .ok (.if_icmp .eq 259, 3) := by decide +kernel
theorem dL_law_168 : decode code 168 = .ok (.iconst 0, 1) := by decide +kernel
theorem dL_law_169 : decode code 169 = .ok (.ireturn, 1) := by decide +kernel
theorem dL_law_170 : decode code 170 = .ok (.aload_n 1, 1) := by decide +kernel
theorem dL_law_171 : decode code 171 = .ok (.aload_n 0, 1) := by decide +kernel
theorem dL_law_172 : decode code 172 = .ok (.iload_n 3, 1) := by decide +kernel
theorem dL_law_173 : decode code 173 = .ok (.iconst 1, 1) := by decide +kernel
theorem dL_law_174 : decode code 174 = .ok (.iadd, 1) := by decide +kernel
theorem dL_law_175 : decode code 175 = .ok (.iaload, 1) := by decide +kernel
theorem dL_law_176 : decode code 176 = .ok (.aload_n 0, 1) := by decide +kernel
theorem dL_law_177 : decode code 177 = .ok (.iload_n 3, 1) := by decide +kernel
theorem dL_law_178 : decode code 178 = .ok (.iconst 2, 1) := by decide +kernel
theorem dL_law_179 : decode code 179 = .ok (.iadd, 1) := by decide +kernel
theorem dL_law_180 : decode code 180 = .ok (.iaload, 1) := by decide +kernel
theorem dL_law_181 : decode code 181 = .ok (.invokevirtual 23, 3) := by decide +kernel
theorem dL_law_184 : decode code 184 = .ok (.aload_n 2, 1) := by decide +kernel
theorem dL_law_185 : decode code 185 = .ok (.aload_n 0, 1) := by decide +kernel
theorem dL_law_186 : decode code 186 = .ok (.iload_n 3, 1) := by decide +kernel
theorem dL_law_187 : decode code 187 = .ok (.iconst 1, 1) := by decide +kernel
theorem dL_law_188 : decode code 188 = .ok (.iadd, 1) := by decide +kernel
theorem dL_law_189 : decode code 189 = .ok (.iaload, 1) := by decide +kernel
theorem dL_law_190 : decode code 190 = .ok (.aload_n 0, 1) := by decide +kernel
theorem dL_law_191 : decode code 191 = .ok (.iload_n 3, 1) := by decide +kernel
theorem dL_law_192 : decode code 192 = .ok (.iconst 2, 1) := by decide +kernel
theorem dL_law_193 : decode code 193 = .ok (.iadd, 1) := by decide +kernel
theorem dL_law_194 : decode code 194 = .ok (.iaload, 1) := by decide +kernel
theorem dL_law_195 : decode code 195 = .ok (.invokevirtual 27, 3) := by decide +kernel
theorem dL_law_198 : decode code 198 = .ok (.if_icmp .eq 226, 3) := by decide +kernel
theorem dL_law_201 : decode code 201 = .ok (.iconst 0, 1) := by decide +kernel
theorem dL_law_202 : decode code 202 = .ok (.ireturn, 1) := by decide +kernel
theorem dL_law_203 : decode code 203 = .ok (.aload_n 1, 1) := by decide +kernel
theorem dL_law_204 : decode code 204 = .ok (.aload_n 0, 1) := by decide +kernel
theorem dL_law_205 : decode code 205 = .ok (.iload_n 3, 1) := by decide +kernel
theorem dL_law_206 : decode code 206 = .ok (.iconst 1, 1) := by decide +kernel
theorem dL_law_207 : decode code 207 = .ok (.iadd, 1) := by decide +kernel
theorem dL_law_208 : decode code 208 = .ok (.iaload, 1) := by decide +kernel
theorem dL_law_209 : decode code 209 = .ok (.aload_n 0, 1) := by decide +kernel
theorem dL_law_210 : decode code 210 = .ok (.iload_n 3, 1) := by decide +kernel
theorem dL_law_211 : decode code 211 = .ok (.iconst 2, 1) := by decide +kernel
theorem dL_law_212 : decode code 212 = .ok (.iadd, 1) := by decide +kernel
theorem dL_law_213 : decode code 213 = .ok (.iaload, 1) := by decide +kernel
theorem dL_law_214 : decode code 214 = .ok (.aload_n 0, 1) := by decide +kernel
theorem dL_law_215 : decode code 215 = .ok (.iload_n 3, 1) := by decide +kernel
theorem dL_law_216 : decode code 216 = .ok (.iconst 3, 1) := by decide +kernel
theorem dL_law_217 : decode code 217 = .ok (.iadd, 1) := by decide +kernel
theorem dL_law_218 : decode code 218 = .ok (.iaload, 1) := by decide +kernel
theorem dL_law_219 : decode code 219 = .ok (.invokevirtual 28, 3) := by decide +kernel
theorem dL_law_222 : decode code 222 = .ok (.aload_n 2, 1) := by decide +kernel
theorem dL_law_223 : decode code 223 = .ok (.aload_n 0, 1) := by decide +kernel
theorem dL_law_224 : decode code 224 = .ok (.iload_n 3, 1) := by decide +kernel
theorem dL_law_225 : decode code 225 = .ok (.iconst 1, 1) := by decide +kernel
theorem dL_law_226 : decode code 226 = .ok (.iadd, 1) := by decide +kernel
theorem dL_law_227 : decode code 227 = .ok (.iaload, 1) := by decide +kernel
theorem dL_law_228 : decode code 228 = .ok (.aload_n 0, 1) := by decide +kernel
theorem dL_law_229 : decode code 229 = .ok (.iload_n 3, 1) := by decide +kernel
theorem dL_law_230 : decode code 230 = .ok (.iconst 2, 1) := by decide +kernel
theorem dL_law_231 : decode code 231 = .ok (.iadd, 1) := by decide +kernel
theorem dL_law_232 : decode code 232 = .ok (.iaload, 1) := by decide +kernel
theorem dL_law_233 : decode code 233 = .ok (.aload_n 0, 1) := by decide +kernel
theorem dL_law_234 : decode code 234 = .ok (.iload_n 3, 1) := by decide +kernel
theorem dL_law_235 : decode code 235 = .ok (.iconst 3, 1) := by decide +kernel
theorem dL_law_236 : decode code 236 = .ok (.iadd, 1) := by decide +kernel
theorem dL_law_237 : decode code 237 = .ok (.iaload, 1) := by decide +kernel
theorem dL_law_238 : decode code 238 = .ok (.invokevirtual 32, 3) := by decide +kernel
theorem dL_law_241 : decode code 241 = .ok (.if_icmp .eq 183, 3) := by decide +kernel
theorem dL_law_244 : decode code 244 = .ok (.iconst 0, 1) := by decide +kernel
theorem dL_law_245 : decode code 245 = .ok (.ireturn, 1) := by decide +kernel
theorem dL_law_246 : decode code 246 = .ok (.aload_n 1, 1) := by decide +kernel
theorem dL_law_247 : decode code 247 = .ok (.aload_n 0, 1) := by decide +kernel
theorem dL_law_248 : decode code 248 = .ok (.iload_n 3, 1) := by decide +kernel
theorem dL_law_249 : decode code 249 = .ok (.iconst 1, 1) := by decide +kernel
theorem dL_law_250 : decode code 250 = .ok (.iadd, 1) := by decide +kernel
theorem dL_law_251 : decode code 251 = .ok (.iaload, 1) := by decide +kernel
theorem dL_law_252 : decode code 252 = .ok (.aload_n 0, 1) := by decide +kernel
theorem dL_law_253 : decode code 253 = .ok (.iload_n 3, 1) := by decide +kernel
theorem dL_law_254 : decode code 254 = .ok (.iconst 2, 1) := by decide +kernel
theorem dL_law_255 : decode code 255 = .ok (.iadd, 1) := by decide +kernel
theorem dL_law_256 : decode code 256 = .ok (.iaload, 1) := by decide +kernel
theorem dL_law_257 : decode code 257 = .ok (.aload_n 0, 1) := by decide +kernel
theorem dL_law_258 : decode code 258 = .ok (.iload_n 3, 1) := by decide +kernel
theorem dL_law_259 : decode code 259 = .ok (.iconst 3, 1) := by decide +kernel
theorem dL_law_260 : decode code 260 = .ok (.iadd, 1) := by decide +kernel
theorem dL_law_261 : decode code 261 = .ok (.iaload, 1) := by decide +kernel
theorem dL_law_262 : decode code 262 = .ok (.invokevirtual 33, 3) := by decide +kernel
theorem dL_law_265 : decode code 265 = .ok (.aload_n 2, 1) := by decide +kernel
theorem dL_law_266 : decode code 266 = .ok (.aload_n 0, 1) := by decide +kernel
theorem dL_law_267 : decode code 267 = .ok (.iload_n 3, 1) := by decide +kernel
theorem dL_law_268 : decode code 268 = .ok (.iconst 1, 1) := by decide +kernel
theorem dL_law_269 : decode code 269 = .ok (.iadd, 1) := by decide +kernel
theorem dL_law_270 : decode code 270 = .ok (.iaload, 1) := by decide +kernel
theorem dL_law_271 : decode code 271 = .ok (.aload_n 0, 1) := by decide +kernel
theorem dL_law_272 : decode code 272 = .ok (.iload_n 3, 1) := by decide +kernel
theorem dL_law_273 : decode code 273 = .ok (.iconst 2, 1) := by decide +kernel
theorem dL_law_274 : decode code 274 = .ok (.iadd, 1) := by decide +kernel
theorem dL_law_275 : decode code 275 = .ok (.iaload, 1) := by decide +kernel
theorem dL_law_276 : decode code 276 = .ok (.aload_n 0, 1) := by decide +kernel
theorem dL_law_277 : decode code 277 = .ok (.iload_n 3, 1) := by decide +kernel
theorem dL_law_278 : decode code 278 = .ok (.iconst 3, 1) := by decide +kernel
theorem dL_law_279 : decode code 279 = .ok (.iadd, 1) := by decide +kernel
theorem dL_law_280 : decode code 280 = .ok (.iaload, 1) := by decide +kernel
theorem dL_law_281 : decode code 281 = .ok (.invokevirtual 36, 3) := by decide +kernel
theorem dL_law_284 : decode code 284 = .ok (.if_icmp .eq 140, 3) := by decide +kernel
theorem dL_law_287 : decode code 287 = .ok (.iconst 0, 1) := by decide +kernel
theorem dL_law_288 : decode code 288 = .ok (.ireturn, 1) := by decide +kernel
theorem dL_law_289 : decode code 289 = .ok (.aload_n 1, 1) := by decide +kernel
theorem dL_law_290 : decode code 290 = .ok (.aload_n 0, 1) := by decide +kernel
theorem dL_law_291 : decode code 291 = .ok (.iload_n 3, 1) := by decide +kernel
theorem dL_law_292 : decode code 292 = .ok (.iconst 1, 1) := by decide +kernel
theorem dL_law_293 : decode code 293 = .ok (.iadd, 1) := by decide +kernel
theorem dL_law_294 : decode code 294 = .ok (.iaload, 1) := by decide +kernel
theorem dL_law_295 : decode code 295 = .ok (.invokevirtual 37, 3) := by decide +kernel
theorem dL_law_298 : decode code 298 = .ok (.aload_n 2, 1) := by decide +kernel
theorem dL_law_299 : decode code 299 = .ok (.aload_n 0, 1) := by decide +kernel
theorem dL_law_300 : decode code 300 = .ok (.iload_n 3, 1) := by decide +kernel
theorem dL_law_301 : decode code 301 = .ok (.iconst 1, 1) := by decide +kernel
theorem dL_law_302 : decode code 302 = .ok (.iadd, 1) := by decide +kernel
theorem dL_law_303 : decode code 303 = .ok (.iaload, 1) := by decide +kernel
theorem dL_law_304 : decode code 304 = .ok (.invokevirtual 41, 3) := by decide +kernel
theorem dL_law_307 : decode code 307 = .ok (.if_icmp .eq 117, 3) := by decide +kernel
theorem dL_law_310 : decode code 310 = .ok (.iconst 0, 1) := by decide +kernel
theorem dL_law_311 : decode code 311 = .ok (.ireturn, 1) := by decide +kernel
theorem dL_law_312 : decode code 312 = .ok (.aload_n 1, 1) := by decide +kernel
theorem dL_law_313 : decode code 313 = .ok (.aload_n 0, 1) := by decide +kernel
theorem dL_law_314 : decode code 314 = .ok (.iload_n 3, 1) := by decide +kernel
theorem dL_law_315 : decode code 315 = .ok (.iconst 1, 1) := by decide +kernel
theorem dL_law_316 : decode code 316 = .ok (.iadd, 1) := by decide +kernel
theorem dL_law_317 : decode code 317 = .ok (.iaload, 1) := by decide +kernel
theorem dL_law_318 : decode code 318 = .ok (.aload_n 0, 1) := by decide +kernel
theorem dL_law_319 : decode code 319 = .ok (.iload_n 3, 1) := by decide +kernel
theorem dL_law_320 : decode code 320 = .ok (.iconst 2, 1) := by decide +kernel
theorem dL_law_321 : decode code 321 = .ok (.iadd, 1) := by decide +kernel
theorem dL_law_322 : decode code 322 = .ok (.iaload, 1) := by decide +kernel
theorem dL_law_323 : decode code 323 = .ok (.aload_n 0, 1) := by decide +kernel
theorem dL_law_324 : decode code 324 = .ok (.iload_n 3, 1) := by decide +kernel
theorem dL_law_325 : decode code 325 = .ok (.iconst 3, 1) := by decide +kernel
theorem dL_law_326 : decode code 326 = .ok (.iadd, 1) := by decide +kernel
theorem dL_law_327 : decode code 327 = .ok (.iaload, 1) := by decide +kernel
theorem dL_law_328 : decode code 328 = .ok (.invokevirtual 42, 3) := by decide +kernel
theorem dL_law_331 : decode code 331 = .ok (.aload_n 2, 1) := by decide +kernel
theorem dL_law_332 : decode code 332 = .ok (.aload_n 0, 1) := by decide +kernel
theorem dL_law_333 : decode code 333 = .ok (.iload_n 3, 1) := by decide +kernel
theorem dL_law_334 : decode code 334 = .ok (.iconst 1, 1) := by decide +kernel
theorem dL_law_335 : decode code 335 = .ok (.iadd, 1) := by decide +kernel
theorem dL_law_336 : decode code 336 = .ok (.iaload, 1) := by decide +kernel
theorem dL_law_337 : decode code 337 = .ok (.aload_n 0, 1) := by decide +kernel
theorem dL_law_338 : decode code 338 = .ok (.iload_n 3, 1) := by decide +kernel
theorem dL_law_339 : decode code 339 = .ok (.iconst 2, 1) := by decide +kernel
theorem dL_law_340 : decode code 340 = .ok (.iadd, 1) := by decide +kernel
theorem dL_law_341 : decode code 341 = .ok (.iaload, 1) := by decide +kernel
theorem dL_law_342 : decode code 342 = .ok (.aload_n 0, 1) := by decide +kernel
theorem dL_law_343 : decode code 343 = .ok (.iload_n 3, 1) := by decide +kernel
theorem dL_law_344 : decode code 344 = .ok (.iconst 3, 1) := by decide +kernel
theorem dL_law_345 : decode code 345 = .ok (.iadd, 1) := by decide +kernel
theorem dL_law_346 : decode code 346 = .ok (.iaload, 1) := by decide +kernel
theorem dL_law_347 : decode code 347 = .ok (.invokevirtual 46, 3) := by decide +kernel
theorem dL_law_350 : decode code 350 = .ok (.if_icmp .eq 74, 3) := by decide +kernel
theorem dL_law_353 : decode code 353 = .ok (.iconst 0, 1) := by decide +kernel
theorem dL_law_354 : decode code 354 = .ok (.ireturn, 1) := by decide +kernel
theorem dL_law_355 : decode code 355 = .ok (.aload_n 1, 1) := by decide +kernel
theorem dL_law_356 : decode code 356 = .ok (.aload_n 0, 1) := by decide +kernel
theorem dL_law_357 : decode code 357 = .ok (.iload_n 3, 1) := by decide +kernel
theorem dL_law_358 : decode code 358 = .ok (.iconst 1, 1) := by decide +kernel
theorem dL_law_359 : decode code 359 = .ok (.iadd, 1) := by decide +kernel
theorem dL_law_360 : decode code 360 = .ok (.iaload, 1) := by decide +kernel
theorem dL_law_361 : decode code 361 = .ok (.invokevirtual 47, 3) := by decide +kernel
theorem dL_law_364 : decode code 364 = .ok (.aload_n 2, 1) := by decide +kernel
theorem dL_law_365 : decode code 365 = .ok (.aload_n 0, 1) := by decide +kernel
theorem dL_law_366 : decode code 366 = .ok (.iload_n 3, 1) := by decide +kernel
theorem dL_law_367 : decode code 367 = .ok (.iconst 1, 1) := by decide +kernel
theorem dL_law_368 : decode code 368 = .ok (.iadd, 1) := by decide +kernel
theorem dL_law_369 : decode code 369 = .ok (.iaload, 1) := by decide +kernel
theorem dL_law_370 : decode code 370 = .ok (.invokevirtual 50, 3) := by decide +kernel
theorem dL_law_373 : decode code 373 = .ok (.if_icmp .eq 51, 3) := by decide +kernel
theorem dL_law_376 : decode code 376 = .ok (.iconst 0, 1) := by decide +kernel
theorem dL_law_377 : decode code 377 = .ok (.ireturn, 1) := by decide +kernel
theorem dL_law_378 : decode code 378 = .ok (.aload_n 1, 1) := by decide +kernel
theorem dL_law_379 : decode code 379 = .ok (.aload_n 0, 1) := by decide +kernel
theorem dL_law_380 : decode code 380 = .ok (.iload_n 3, 1) := by decide +kernel
theorem dL_law_381 : decode code 381 = .ok (.iconst 1, 1) := by decide +kernel
theorem dL_law_382 : decode code 382 = .ok (.iadd, 1) := by decide +kernel
theorem dL_law_383 : decode code 383 = .ok (.iaload, 1) := by decide +kernel
theorem dL_law_384 : decode code 384 = .ok (.invokevirtual 51, 3) := by decide +kernel
theorem dL_law_387 : decode code 387 = .ok (.aload_n 2, 1) := by decide +kernel
theorem dL_law_388 : decode code 388 = .ok (.aload_n 0, 1) := by decide +kernel
theorem dL_law_389 : decode code 389 = .ok (.iload_n 3, 1) := by decide +kernel
theorem dL_law_390 : decode code 390 = .ok (.iconst 1, 1) := by decide +kernel
theorem dL_law_391 : decode code 391 = .ok (.iadd, 1) := by decide +kernel
theorem dL_law_392 : decode code 392 = .ok (.iaload, 1) := by decide +kernel
theorem dL_law_393 : decode code 393 = .ok (.invokevirtual 54, 3) := by decide +kernel
theorem dL_law_396 : decode code 396 = .ok (.if_icmp .eq 28, 3) := by decide +kernel
theorem dL_law_399 : decode code 399 = .ok (.iconst 0, 1) := by decide +kernel
theorem dL_law_400 : decode code 400 = .ok (.ireturn, 1) := by decide +kernel
theorem dL_law_401 : decode code 401 = .ok (.aload_n 1, 1) := by decide +kernel
theorem dL_law_402 : decode code 402 = .ok (.aload_n 0, 1) := by decide +kernel
theorem dL_law_403 : decode code 403 = .ok (.iload_n 3, 1) := by decide +kernel
theorem dL_law_404 : decode code 404 = .ok (.iconst 1, 1) := by decide +kernel
theorem dL_law_405 : decode code 405 = .ok (.iadd, 1) := by decide +kernel
theorem dL_law_406 : decode code 406 = .ok (.iaload, 1) := by decide +kernel
theorem dL_law_407 : decode code 407 = .ok (.invokevirtual 55, 3) := by decide +kernel
theorem dL_law_410 : decode code 410 = .ok (.aload_n 2, 1) := by decide +kernel
theorem dL_law_411 : decode code 411 = .ok (.aload_n 0, 1) := by decide +kernel
theorem dL_law_412 : decode code 412 = .ok (.iload_n 3, 1) := by decide +kernel
theorem dL_law_413 : decode code 413 = .ok (.iconst 1, 1) := by decide +kernel
theorem dL_law_414 : decode code 414 = .ok (.iadd, 1) := by decide +kernel
theorem dL_law_415 : decode code 415 = .ok (.iaload, 1) := by decide +kernel
theorem dL_law_416 : decode code 416 = .ok (.invokevirtual 58, 3) := by decide +kernel
theorem dL_law_419 : decode code 419 = .ok (.if_icmp .eq 5, 3) := by decide +kernel
theorem dL_law_422 : decode code 422 = .ok (.iconst 0, 1) := by decide +kernel
theorem dL_law_423 : decode code 423 = .ok (.ireturn, 1) := by decide +kernel
theorem dL_law_424 : decode code 424 = .ok (.iinc 3 4, 3) := by decide +kernel
theorem dL_law_427 : decode code 427 = .ok (.goto (-409), 3) := by decide +kernel
theorem dL_law_430 : decode code 430 = .ok (.iconst 1, 1) := by decide +kernel
theorem dL_law_431 : decode code 431 = .ok (.ireturn, 1) := by decide +kernel
end
section
/-! the worlds: the class's cells, the reference's cells, both -/
abbrev wsF (h0 q1 : Nat) (k1 : ClassId) (f : Nat → Int32) : va_W := [(h0, .inr (0, [.ref q1])), (q1, .inl (k1, 16, .inl f))]
abbrev wsM (h0 q1 q2 q3 q4 : Nat) (k1 k2 k3 k4 : ClassId) (g b t w : Nat → Int32) : va_W := [(h0, .inr (1, [.ref q1, .ref q2, .ref q3, .ref q4])), (q1, .inl (k1, 16, .inl g)), (q2, .inl (k2, 96, .inl b)), (q3, .inl (k3, 56, .inl t)), (q4, .inl (k4, 6, .inl w))]
abbrev wsL (hF qF : Nat) (kF : ClassId) (hM q1 q2 q3 q4 : Nat) (k1 k2 k3 k4 : ClassId) (f g b t w : Nat → Int32) : va_W := [(hF, .inr (0, [.ref qF])), (qF, .inl (kF, 16, .inl f)), (hM, .inr (1, [.ref q1, .ref q2, .ref q3, .ref q4])), (q1, .inl (k1, 16, .inl g)), (q2, .inl (k2, 96, .inl b)), (q3, .inl (k3, 56, .inl t)), (q4, .inl (k4, 6, .inl w))]
/-! the class's one text: where it lies, what it holds -/
def tx_let : String := " ABCDEFGHI~JKLMNOPQR[#STUVWXYZ0123456789.,()+-*/=$<>@;:'"
def ltL : List Int32 := [32, 65, 66, 67, 68, 69, 70, 71, 72, 73, 126, 74, 75, 76, 77, 78, 79, 80, 81, 82, 91, 35, 83, 84, 85, 86, 87, 88, 89, 90, 48, 49, 50, 51, 52, 53, 54, 55, 56, 57, 46, 44, 40, 41, 43, 45, 42, 47, 61, 36, 60, 62, 64, 59, 58, 39]
def sby (j : Nat) : Int32 := ltL.getD j 0
def sOK (sK sV : Nat) (A : Nat → Prop) (U : State) (H : Heap) : Prop :=
  va_O "java/lang/String" sK A U H ∧ va_OF "java/lang/String" "coder" "B" (.int 0) sK A U H ∧ va_OF "java/lang/String" "value" "[B" (.ref sV) sK A U H ∧ va_T .byte sV 56 (fun j => .int (sby j)) A U H ∧ va_Z "java/lang/String" "COMPACT_STRINGS" "Z" (.int 1) A U H ∧ va_Zq "jdk/internal/util/Preconditions" "SIOOBE_FORMATTER" "Ljava/util/function/BiFunction;" A U H ∧ vk_R "WordFields" 53 tx_let sK U
theorem sOK.bl {sK sV : Nat} {A : Nat → Prop} {U : State} {g : JFrame} {mk : MethodId} {a : Array Value} (h : sOK sK sV A U U.heap) : sOK sK sV A (U.calling g mk a) (U.calling g mk a).heap :=
  ⟨va_O.moved (Vm.Alike.refl U.vm) h.1, va_OF.moved (Vm.Alike.refl U.vm) h.2.1, va_OF.moved (Vm.Alike.refl U.vm) h.2.2.1, va_T.moved (Vm.Alike.refl U.vm) h.2.2.2.1, va_Z.moved (Vm.Alike.refl U.vm) h.2.2.2.2.1, va_Zq.moved (Vm.Alike.refl U.vm) h.2.2.2.2.2.1, vk_R.same rfl h.2.2.2.2.2.2⟩
theorem sOK.go {sK sV : Nat} {A : Nat → Prop} {s U : State} {H : Heap} {locs : List Loc} (h : sOK sK sV A s s.heap) (hS : va_S A s.heap H locs) (hU : U.heap = H) (hW : s.WarmedH U.vm) : sOK sK sV (fun _ => False) U U.heap := by
  rw [hU]
  exact ⟨((va_O.moved hW.alike h.1).kept hS.2.1).narrow (fun _ z => z.elim), ((va_OF.moved hW.alike h.2.1).kept hS.2.1).narrow (fun _ z => z.elim), ((va_OF.moved hW.alike h.2.2.1).kept hS.2.1).narrow (fun _ z => z.elim), ((va_T.moved hW.alike h.2.2.2.1).kept hS.2.1).narrow (fun _ z => z.elim), ((va_Z.moved hW.alike h.2.2.2.2.1).kept hS.2.1).narrow (fun _ z => z.elim), ((va_Zq.moved hW.alike h.2.2.2.2.2.1).kept hS.2.1).narrow (fun _ z => z.elim), vk_R.warm hW h.2.2.2.2.2.2⟩
theorem sOK.zq {sK sV : Nat} {A : Nat → Prop} {U : State} {H : Heap} (h : sOK sK sV A U H) : va_Z "jdk/internal/util/Preconditions" "SIOOBE_FORMATTER" "Ljava/util/function/BiFunction;" .null A U H ∨ ∃ t : Nat, va_Z "jdk/internal/util/Preconditions" "SIOOBE_FORMATTER" "Ljava/util/function/BiFunction;" (.ref t) A U H := h.2.2.2.2.2.1
theorem sOK.rc {sK sV : Nat} {A : Nat → Prop} {s : State} {H : Heap} {locs : List Loc} (h : sOK sK sV A s s.heap) (hS : va_S A s.heap H locs) : ∃ cell : Cell, H[sK]? = some cell ∧ cell.vm.isStatics = false ∧ s.vm.findClass "java/lang/String" = some cell.cls := by
  obtain ⟨cell, h1, h2, h3, -⟩ := h.1.kept hS.2.1
  exact ⟨cell, h1, h2, h3⟩
def ixF (c : Int32) : Nat → Nat → Int32
  | 0, _ => -1
  | n + 1, k => if sby k = c then nI k else ixF c n (k + 1)
def cdS (t : Nat → Int32) (c : Int32) : Nat → Int32
  | 0 => 0
  | k + 1 => if t k = c then nI k else cdS t c k
theorem lt_56 {k : Nat} (hk : k ≤ 56) (h : ¬ (56 : Int32) ≤ nI k) : k < 56 := by
  rw [show (56 : Int32) = nI 56 from rfl, nI_leI (by decide) (by omega)] at h
  omega
theorem eq_56 {k : Nat} (hk : k ≤ 56) (h : (56 : Int32) ≤ nI k) : k = 56 := by
  rw [show (56 : Int32) = nI 56 from rfl, nI_leI (by decide) (by omega)] at h
  omega
theorem ixF_s {c : Int32} {k : Nat} (hk : k < 56) (h : ¬ sby k = c) : ixF c (56 - k) k = ixF c (56 - (k + 1)) (k + 1) := by
  rw [show 56 - k = (56 - (k + 1)) + 1 by omega]
  show (if sby k = c then nI k else ixF c (56 - (k + 1)) (k + 1)) = _
  rw [if_neg h]
theorem ixF_h {c : Int32} {k : Nat} (hk : k < 56) (h : sby k = c) : ixF c (56 - k) k = nI k := by
  rw [show 56 - k = (56 - (k + 1)) + 1 by omega]
  show (if sby k = c then nI k else ixF c (56 - (k + 1)) (k + 1)) = _
  rw [if_pos h]
theorem ixF_e {c : Int32} {k : Nat} (hk : k ≤ 56) (h : (56 : Int32) ≤ nI k) : ixF c (56 - k) k = (-1 : Int32) := by
  rw [eq_56 hk h]
  rfl
theorem in_n0 {a : Int32} (h : vp_in a 56) : ¬ a < 0 := fun q => h (Or.inl q)
theorem in_n56 {a : Int32} (h : vp_in a 56) : a < (56 : Int32) := by
  rw [vp_in_iff] at h
  rw [Int32.lt_iff_toInt_lt]
  have e1 : (56 : Int32).toInt = 56 := by decide
  omega
/-- the reference's letters as they are laid one by one -/
def ltS : Nat → (Nat → Int32)
  | 0 => fun _ => 0
  | k + 1 => upd (ltS k) k (sby k)
/-! my own rows over the kit: a join of two roads, a call that changes nothing -/
section KK
variable {p : Program} {l : Launch} {e : Env} {R : Room} {s : State} {m : MethodId} {args : Array Value} {below : List Frame} {meth : Method} {c : Code} {H : Heap} {locs : List Loc} {cells slots : Nat} {Q : State → Prop}
variable {pc : Nat} {ls : Array Slot} {rest st0 : List Value} {a : Array Value} {A0 : Nat → Prop} {H0 : Heap}
theorem kk_mrg {pc' : Nat} {ls' : Array Slot} {rest' : List Value} {x : Int32} {g : JFrame}
    (h : (∀ v : Int32, v = x → W p l e R s m args below meth c H locs cells slots Q (F0 m pc' ls' (.int v :: rest'))) → W p l e R s m args below meth c H locs cells slots Q g)
    (k : ∀ v : Int32, v = x → W p l e R s m args below meth c H locs cells slots Q (F0 m pc' ls' (.int v :: rest'))) : W p l e R s m args below meth c H locs cells slots Q g := h k
theorem kk_top {x y : Int32} (h : x = y) (k : W p l e R s m args below meth c H locs cells slots Q (F0 m pc ls (.int y :: rest))) : W p l e R s m args below meth c H locs cells slots Q (F0 m pc ls (.int x :: rest)) := by
  subst h
  exact k
theorem kk_call0 {v : Int32} (hr : va_Run p l e R s m args below meth c H locs cells slots 0 0 (F0 m pc ls st0) rest (va_Qi (fun (r : Int32) (_ : Unit) => r = v) (fun _ _ => True) (fun _ => False) a) (fun _ => False)) (hS : va_S A0 H0 H locs)
    (kk : ∀ (H1 : Heap) (locs1 : List Loc), va_S A0 H0 H1 locs1 → W p l e R s m args below meth c H1 locs1 cells slots Q (F0 m (pc + 3) ls (.int v :: rest))) : W p l e R s m args below meth c H locs cells slots Q (F0 m pc ls st0) :=
  va_calli hr hS (fun _ _ h => h.elim) (fun _ h => h.elim) (fun r u t H1 locs1 ht hvm hw hB hz hk hS1 => by
    subst hw
    exact kk H1 locs1 hS1)
theorem kk_callP {D : va_G} {cl : List vw_C} {ws : va_W} {v : Int32} (hr : va_Run p l e R s m args below meth c H locs cells slots 0 0 (F0 m pc ls st0) rest (va_Qi (fun (r : Int32) (_ : Unit) => r = v) (fun _ _ => True) (fun _ => False) a) (fun _ => False)) (hS : va_S A0 H0 H locs) (hP : va_P D cl ws H)
    (kk : ∀ (H1 : Heap) (locs1 : List Loc), va_S A0 H0 H1 locs1 → va_P D cl ws H1 → W p l e R s m args below meth c H1 locs1 cells slots Q (F0 m (pc + 3) ls (.int v :: rest))) : W p l e R s m args below meth c H locs cells slots Q (F0 m pc ls st0) :=
  va_calli hr hS (fun _ _ h => h.elim) (fun _ h => h.elim) (fun r u t H1 locs1 ht hvm hw hB hz hk hS1 => by
    subst hw
    exact kk H1 locs1 hS1 (hP.kept (fun k q hq => hk q.1 (hP k q hq).lt (fun z => z))))
theorem kk_callv0 (hr : va_Run p l e R s m args below meth c H locs cells slots 0 0 (F0 m pc ls st0) rest (va_Qv (fun _ : Unit => True) (fun _ _ => True) (fun _ => False) a) (fun _ => False)) (hS : va_S A0 H0 H locs)
    (kk : ∀ (H1 : Heap) (locs1 : List Loc), va_S A0 H0 H1 locs1 → W p l e R s m args below meth c H1 locs1 cells slots Q (F0 m (pc + 3) ls rest)) : W p l e R s m args below meth c H locs cells slots Q (F0 m pc ls st0) :=
  va_callv hr hS (fun _ _ h => h.elim) (fun _ h => h.elim) (fun u t H1 locs1 ht hvm hw hB hz hk hS1 => kk H1 locs1 hS1)
/-- a counted loop: from k to N, a number carried along -/
theorem kk_ind {st : List Value} (I : Nat → Int32 → Array Slot → Prop) (N : Nat)
    (step : ∀ (k : Nat) (fd : Int32) (ls : Array Slot), k ≤ N → I k fd ls → (∀ (fd' : Int32) (ls' : Array Slot), k < N → I (k + 1) fd' ls' → W p l e R s m args below meth c H locs cells slots Q (F0 m pc ls' st)) → W p l e R s m args below meth c H locs cells slots Q (F0 m pc ls st)) :
    ∀ (k : Nat) (fd : Int32) (ls : Array Slot), k ≤ N → I k fd ls → W p l e R s m args below meth c H locs cells slots Q (F0 m pc ls st) := by
  have key : ∀ (n k : Nat) (fd : Int32) (ls : Array Slot), k + n = N → I k fd ls → W p l e R s m args below meth c H locs cells slots Q (F0 m pc ls st) := by
    intro n
    induction n with
    | zero => intro k fd ls hk hI; exact step k fd ls (by omega) hI (fun _ _ h => absurd h (by omega))
    | succ n ih => intro k fd ls hk hI; exact step k fd ls (by omega) hI (fun fd' ls' _ h => ih (k + 1) fd' ls' (by omega) h)
  intro k fd ls hk hI
  exact key (N - k) k fd ls (by omega) hI
end KK
section KW
variable {p : Program} {l : Launch} {e : Env} {R : Room} {s : State} {m : MethodId} {args : Array Value} {below : List Frame} {meth : Method} {c : Code} {H : Heap} {locs : List Loc} {cells slots : Nat} {Q : State → Prop}
variable {pc : Nat} {ls : Array Slot} {rest st0 : List Value} {a : Array Value} {A0 : Nat → Prop} {H0 : Heap}
/-- a call that writes a part of the world: the rest stays -/
theorem kk_callW {D : va_G} {cl : List vw_C} {ws wc wr w1 w2 : va_W} {v : Int32} (hr : va_Run p l e R s m args below meth c H locs cells slots 0 0 (F0 m pc ls st0) rest (va_Qi (fun (r : Int32) (_ : Unit) => r = v) (fun _ t => va_P D cl w1 t.heap ∧ va_D (va_A wc H.size) w1) (va_A wc H.size) a) (va_A wc H.size)) (hS : va_S A0 H0 H locs) (hP : va_P D cl ws H) (hD : va_D A0 ws) (hA : ∀ q, H0.size ≤ q → A0 q)
    (isC isR : List Nat) (hC : isC.map (fun i => ws[i]?) = wc.map some) (hR : isR.map (fun i => ws[i]?) = wr.map some) (hn : va_nd isR = true) (hdis : ∀ i ∈ isR, i ∉ isC) (is2 : List Nat) (h2 : is2.map (fun i => (wr ++ w1)[i]?) = w2.map some) (h3 : is2.filterMap (fun i => (wr ++ w1)[i]?) = w2) (hn2 : va_nd is2 = true)
    (kk : ∀ (H1 : Heap) (locs1 : List Loc), va_S A0 H0 H1 locs1 → va_P D cl w2 H1 → va_D A0 w2 → W p l e R s m args below meth c H1 locs1 cells slots Q (F0 m (pc + 3) ls (.int v :: rest))) : W p l e R s m args below meth c H locs cells slots Q (F0 m pc ls st0) := by
  have hF := va_free (wc := wc) hD hS hA isC hC
  refine va_calli hr hS (fun q _ h => hF q h) hF (fun r u t H1 locs1 ht hvm hw hB hz hk hS1 => ?_)
  subst hw
  obtain ⟨hP1, hD1⟩ := hB
  rw [ht] at hP1
  obtain ⟨hP2, hD2⟩ := va_join hP hD isC isR hC hR hn hdis hk hF hP1 hD1
  exact kk H1 locs1 hS1 (hP2.sub is2 h3) (hD2.sub is2 hn2 h2)
end KW
end
section
def f_F_isRegister (a1 : Int32) : Int32 := (if a1 < 0 then (0 : Int32) else (if (16 : Int32) ≤ a1 then (0 : Int32) else (1 : Int32)))
def f_F_isMinus (a1 : Int32) : Int32 := (if (a1 &&& (1073741824 : Int32)) = 0 then (0 : Int32) else (1 : Int32))
def f_F_number (a1 : Int32) : Int32 := (if (f_F_isMinus a1) = 0 then (a1 &&& (1073741823 : Int32)) else (-(a1 &&& (1073741823 : Int32))))
def f_F_firstByte (a1 : Int32) : Int32 := (a1 >>> ((3 : Int32) &&& 31))
def f_F_lastByte (a1 : Int32) : Int32 := (a1 &&& (7 : Int32))
def f_F_bitsRightOf (a1 : Int32) : Int32 := ((6 : Int32) * ((5 : Int32) - a1))
def f_F_rightMask (a1 : Int32) : Int32 := (((1 : Int32) <<< (((6 : Int32) * (((f_F_lastByte a1) - (if (f_F_firstByte a1) < (1 : Int32) then (1 : Int32) else (f_F_firstByte a1))) + (1 : Int32))) &&& 31)) - (1 : Int32))
def f_F_signMask (a1 : Int32) : Int32 := (if (f_F_firstByte a1) = 0 then (1073741824 : Int32) else (0 : Int32))
def f_F_fieldOf (a1 a2 : Int32) : Int32 := (((a1 >>> ((f_F_bitsRightOf (f_F_lastByte a2)) &&& 31)) &&& (f_F_rightMask a2)) ||| (a1 &&& (f_F_signMask a2)))
def f_F_greatLetter (a1 : Int32) : Int32 := (if a1 < (97 : Int32) then a1 else (if (122 : Int32) < a1 then a1 else ((a1 - (97 : Int32)) + (65 : Int32))))
def f_F_isField (a1 : Int32) : Int32 := (if a1 < 0 then (0 : Int32) else (if (f_F_lastByte a1) < (f_F_firstByte a1) then (0 : Int32) else (if (5 : Int32) < (f_F_lastByte a1) then (0 : Int32) else (1 : Int32))))
def f_F_value (f : Nat → Int32) (a1 : Int32) : Int32 := (if (f_F_isRegister a1) = 0 then (2147483647 : Int32) else (if (f a1.toNatClampNeg) = (1073741824 : Int32) then (-2147483648 : Int32) else (f_F_number (f a1.toNatClampNeg))))
def f_F_byteOf (f : Nat → Int32) (a1 a2 : Int32) : Int32 := (if (f_F_isRegister a1) = 0 then (-1 : Int32) else (if a2 < 0 then (-1 : Int32) else (if a2 ≤ (5 : Int32) then (if a2 = 0 then (if (f_F_isMinus (f a1.toNatClampNeg)) = 0 then (0 : Int32) else (1 : Int32)) else (((f a1.toNatClampNeg) >>> ((f_F_bitsRightOf a2) &&& 31)) &&& (63 : Int32))) else (-1 : Int32))))
def f_F_compare (f : Nat → Int32) (a1 a2 a3 : Int32) : Int32 := (if (f_F_isRegister a1) = 0 then (-2 : Int32) else (if (f_F_isRegister a2) = 0 then (-2 : Int32) else (if (f_F_isField a3) = 0 then (-2 : Int32) else (if (f_F_number (f_F_fieldOf (f a2.toNatClampNeg) a3)) ≤ (f_F_number (f_F_fieldOf (f a1.toNatClampNeg) a3)) then (if (f_F_number (f_F_fieldOf (f a1.toNatClampNeg) a3)) ≤ (f_F_number (f_F_fieldOf (f a2.toNatClampNeg) a3)) then (0 : Int32) else (1 : Int32)) else (-1 : Int32)))))
def f_F_set (f : Nat → Int32) (a1 a2 a3 : Int32) : Int32 := (if (f_F_isRegister a1) = 0 then (0 : Int32) else (if (1073741823 : Int32) < a2 then (0 : Int32) else (if (-1073741823 : Int32) ≤ a2 then (1 : Int32) else (0 : Int32))))
def u_F_set_f (f : Nat → Int32) (a1 a2 a3 : Int32) : Nat → Int32 := (if (f_F_isRegister a1) = 0 then f else (if (1073741823 : Int32) < a2 then f else (if (-1073741823 : Int32) ≤ a2 then upd f a1.toNatClampNeg ((if 0 ≤ a2 then a2 else (-a2)) ||| (if (if a2 < 0 then (1 : Int32) else (if a2 = 0 then (if a3 = 0 then (0 : Int32) else (1 : Int32)) else (0 : Int32))) = 0 then (0 : Int32) else (1073741824 : Int32))) else f)))
def f_F_load (f : Nat → Int32) (a1 a2 a3 : Int32) : Int32 := (if (f_F_isRegister a1) = 0 then (0 : Int32) else (if (f_F_isRegister a2) = 0 then (0 : Int32) else (if (f_F_isField a3) = 0 then (0 : Int32) else (1 : Int32))))
def u_F_load_f (f : Nat → Int32) (a1 a2 a3 : Int32) : Nat → Int32 := (if (f_F_isRegister a1) = 0 then f else (if (f_F_isRegister a2) = 0 then f else (if (f_F_isField a3) = 0 then f else upd f a1.toNatClampNeg (f_F_fieldOf (f a2.toNatClampNeg) a3))))
def f_F_store (f : Nat → Int32) (a1 a2 a3 : Int32) : Int32 := (if (f_F_isRegister a1) = 0 then (0 : Int32) else (if (f_F_isRegister a2) = 0 then (0 : Int32) else (if (f_F_isField a3) = 0 then (0 : Int32) else (1 : Int32))))
def u_F_store_f (f : Nat → Int32) (a1 a2 a3 : Int32) : Nat → Int32 := (if (f_F_isRegister a1) = 0 then f else (if (f_F_isRegister a2) = 0 then f else (if (f_F_isField a3) = 0 then f else upd f a1.toNatClampNeg ((((f a1.toNatClampNeg) &&& ((((f_F_rightMask a3) <<< ((f_F_bitsRightOf (f_F_lastByte a3)) &&& 31)) ||| (f_F_signMask a3)) ^^^ (-1 : Int32))) ||| (((f a2.toNatClampNeg) &&& (f_F_rightMask a3)) <<< ((f_F_bitsRightOf (f_F_lastByte a3)) &&& 31))) ||| ((f a2.toNatClampNeg) &&& (f_F_signMask a3))))))
def f_F_turn (f : Nat → Int32) (a1 : Int32) : Int32 := (if (f_F_isRegister a1) = 0 then (0 : Int32) else (1 : Int32))
def u_F_turn_f (f : Nat → Int32) (a1 : Int32) : Nat → Int32 := (if (f_F_isRegister a1) = 0 then f else upd f a1.toNatClampNeg ((f a1.toNatClampNeg) ^^^ (1073741824 : Int32)))
def f_M_isRegister (a1 : Int32) : Int32 := (if a1 < 0 then (0 : Int32) else (if (16 : Int32) ≤ a1 then (0 : Int32) else (1 : Int32)))
def f_M_is (a1 : Int32) : Int32 := (if a1 < 0 then (0 : Int32) else (if (48 : Int32) ≤ a1 then (0 : Int32) else (if (6 : Int32) ≤ (a1 - a1 / (8 : Int32) * (8 : Int32)) then (0 : Int32) else (if (a1 - a1 / (8 : Int32) * (8 : Int32)) < (a1 / (8 : Int32)) then (0 : Int32) else (1 : Int32)))))
def f_M_first (a1 : Int32) : Int32 := (if (8 : Int32) ≤ a1 then (a1 / (8 : Int32)) else (1 : Int32))
def f_M_may (a1 a2 a3 : Int32) : Int32 := (if (f_M_isRegister a1) = 0 then (0 : Int32) else (if (f_M_isRegister a2) = 0 then (0 : Int32) else (if (f_M_is a3) = 0 then (0 : Int32) else (1 : Int32))))
def f_M_isField (a1 : Int32) : Int32 := (f_M_is a1)
def f_M_number (g : Nat → Int32) (b : Nat → Int32) (t : Nat → Int32) (w : Nat → Int32) (a1 a2 a3 : Int32) : Int32 := (if a3 < a2 then (0 : Int32) else (if a3 < (a2 + (1 : Int32)) then (((64 : Int32) * (0 : Int32)) + (b (((6 : Int32) * a1) + a2).toNatClampNeg)) else (if a3 < ((a2 + (1 : Int32)) + (1 : Int32)) then (((64 : Int32) * (((64 : Int32) * (0 : Int32)) + (b (((6 : Int32) * a1) + a2).toNatClampNeg))) + (b (((6 : Int32) * a1) + (a2 + (1 : Int32))).toNatClampNeg)) else (if a3 < (((a2 + (1 : Int32)) + (1 : Int32)) + (1 : Int32)) then (((64 : Int32) * (((64 : Int32) * (((64 : Int32) * (0 : Int32)) + (b (((6 : Int32) * a1) + a2).toNatClampNeg))) + (b (((6 : Int32) * a1) + (a2 + (1 : Int32))).toNatClampNeg))) + (b (((6 : Int32) * a1) + ((a2 + (1 : Int32)) + (1 : Int32))).toNatClampNeg)) else (if a3 < ((((a2 + (1 : Int32)) + (1 : Int32)) + (1 : Int32)) + (1 : Int32)) then (((64 : Int32) * (((64 : Int32) * (((64 : Int32) * (((64 : Int32) * (0 : Int32)) + (b (((6 : Int32) * a1) + a2).toNatClampNeg))) + (b (((6 : Int32) * a1) + (a2 + (1 : Int32))).toNatClampNeg))) + (b (((6 : Int32) * a1) + ((a2 + (1 : Int32)) + (1 : Int32))).toNatClampNeg))) + (b (((6 : Int32) * a1) + (((a2 + (1 : Int32)) + (1 : Int32)) + (1 : Int32))).toNatClampNeg)) else (((64 : Int32) * (((64 : Int32) * (((64 : Int32) * (((64 : Int32) * (((64 : Int32) * (0 : Int32)) + (b (((6 : Int32) * a1) + a2).toNatClampNeg))) + (b (((6 : Int32) * a1) + (a2 + (1 : Int32))).toNatClampNeg))) + (b (((6 : Int32) * a1) + ((a2 + (1 : Int32)) + (1 : Int32))).toNatClampNeg))) + (b (((6 : Int32) * a1) + (((a2 + (1 : Int32)) + (1 : Int32)) + (1 : Int32))).toNatClampNeg))) + (b (((6 : Int32) * a1) + ((((a2 + (1 : Int32)) + (1 : Int32)) + (1 : Int32)) + (1 : Int32))).toNatClampNeg)))))))
def f_M_value (g : Nat → Int32) (b : Nat → Int32) (t : Nat → Int32) (w : Nat → Int32) (a1 : Int32) : Int32 := (if (f_M_isRegister a1) = 0 then (2147483647 : Int32) else (if (g a1.toNatClampNeg) = 0 then (f_M_number g b t w a1 (1 : Int32) (5 : Int32)) else (if (f_M_number g b t w a1 (1 : Int32) (5 : Int32)) = 0 then (-2147483648 : Int32) else (-(f_M_number g b t w a1 (1 : Int32) (5 : Int32))))))
def f_M_byteOf (g : Nat → Int32) (b : Nat → Int32) (t : Nat → Int32) (w : Nat → Int32) (a1 a2 : Int32) : Int32 := (if (f_M_isRegister a1) = 0 then (-1 : Int32) else (if a2 < 0 then (-1 : Int32) else (if a2 ≤ (5 : Int32) then (if a2 ≤ 0 then (if (g a1.toNatClampNeg) = 0 then (0 : Int32) else (1 : Int32)) else (b (((6 : Int32) * a1) + a2).toNatClampNeg)) else (-1 : Int32))))
def f_M_compare (g : Nat → Int32) (b : Nat → Int32) (t : Nat → Int32) (w : Nat → Int32) (a1 a2 a3 : Int32) : Int32 := (if (f_M_may a1 a2 a3) = 0 then (-2 : Int32) else (if (if (8 : Int32) ≤ a3 then (f_M_number g b t w a2 (f_M_first a3) (a3 - a3 / (8 : Int32) * (8 : Int32))) else (if (g a2.toNatClampNeg) = 0 then (f_M_number g b t w a2 (f_M_first a3) (a3 - a3 / (8 : Int32) * (8 : Int32))) else (-(f_M_number g b t w a2 (f_M_first a3) (a3 - a3 / (8 : Int32) * (8 : Int32)))))) ≤ (if (8 : Int32) ≤ a3 then (f_M_number g b t w a1 (f_M_first a3) (a3 - a3 / (8 : Int32) * (8 : Int32))) else (if (g a1.toNatClampNeg) = 0 then (f_M_number g b t w a1 (f_M_first a3) (a3 - a3 / (8 : Int32) * (8 : Int32))) else (-(f_M_number g b t w a1 (f_M_first a3) (a3 - a3 / (8 : Int32) * (8 : Int32)))))) then (if (if (8 : Int32) ≤ a3 then (f_M_number g b t w a1 (f_M_first a3) (a3 - a3 / (8 : Int32) * (8 : Int32))) else (if (g a1.toNatClampNeg) = 0 then (f_M_number g b t w a1 (f_M_first a3) (a3 - a3 / (8 : Int32) * (8 : Int32))) else (-(f_M_number g b t w a1 (f_M_first a3) (a3 - a3 / (8 : Int32) * (8 : Int32)))))) ≤ (if (8 : Int32) ≤ a3 then (f_M_number g b t w a2 (f_M_first a3) (a3 - a3 / (8 : Int32) * (8 : Int32))) else (if (g a2.toNatClampNeg) = 0 then (f_M_number g b t w a2 (f_M_first a3) (a3 - a3 / (8 : Int32) * (8 : Int32))) else (-(f_M_number g b t w a2 (f_M_first a3) (a3 - a3 / (8 : Int32) * (8 : Int32)))))) then (0 : Int32) else (1 : Int32)) else (-1 : Int32)))
def f_M_letter (g : Nat → Int32) (b : Nat → Int32) (t : Nat → Int32) (w : Nat → Int32) (a1 : Int32) : Int32 := (if a1 < 0 then (-1 : Int32) else (if a1 ≤ (63 : Int32) then (if (56 : Int32) ≤ a1 then (63 : Int32) else (t a1.toNatClampNeg)) else (-1 : Int32)))
def f_M_turn (g : Nat → Int32) (b : Nat → Int32) (t : Nat → Int32) (w : Nat → Int32) (a1 : Int32) : Int32 := (if (f_M_isRegister a1) = 0 then (0 : Int32) else (1 : Int32))
def u_M_turn_g (g : Nat → Int32) (b : Nat → Int32) (t : Nat → Int32) (w : Nat → Int32) (a1 : Int32) : Nat → Int32 := (if (f_M_isRegister a1) = 0 then g else upd g a1.toNatClampNeg (vp_nar .boolean (if (g a1.toNatClampNeg) = 0 then (1 : Int32) else (0 : Int32))))
def f_M_set (g : Nat → Int32) (b : Nat → Int32) (t : Nat → Int32) (w : Nat → Int32) (a1 a2 a3 : Int32) : Int32 := (if (f_M_isRegister a1) = 0 then (0 : Int32) else (if a2 ≤ (-1073741824 : Int32) then (0 : Int32) else (if a2 < (1073741824 : Int32) then (1 : Int32) else (0 : Int32))))
def u_M_set_g (g : Nat → Int32) (b : Nat → Int32) (t : Nat → Int32) (w : Nat → Int32) (a1 a2 a3 : Int32) : Nat → Int32 := (if (f_M_isRegister a1) = 0 then g else (if a2 ≤ (-1073741824 : Int32) then g else (if a2 < (1073741824 : Int32) then upd g a1.toNatClampNeg (vp_nar .boolean (if a2 < 0 then (1 : Int32) else (if a2 = 0 then (if a3 = 0 then (0 : Int32) else (1 : Int32)) else (0 : Int32)))) else g)))
def u_M_set_b (g : Nat → Int32) (b : Nat → Int32) (t : Nat → Int32) (w : Nat → Int32) (a1 a2 a3 : Int32) : Nat → Int32 := (if (f_M_isRegister a1) = 0 then b else (if a2 ≤ (-1073741824 : Int32) then b else (if a2 < (1073741824 : Int32) then upd (upd (upd (upd (upd b (((6 : Int32) * a1) + (5 : Int32)).toNatClampNeg ((if 0 ≤ a2 then a2 else (-a2)) - (if 0 ≤ a2 then a2 else (-a2)) / (64 : Int32) * (64 : Int32))) (((6 : Int32) * a1) + (4 : Int32)).toNatClampNeg (((if 0 ≤ a2 then a2 else (-a2)) / (64 : Int32)) - ((if 0 ≤ a2 then a2 else (-a2)) / (64 : Int32)) / (64 : Int32) * (64 : Int32))) (((6 : Int32) * a1) + (3 : Int32)).toNatClampNeg ((((if 0 ≤ a2 then a2 else (-a2)) / (64 : Int32)) / (64 : Int32)) - (((if 0 ≤ a2 then a2 else (-a2)) / (64 : Int32)) / (64 : Int32)) / (64 : Int32) * (64 : Int32))) (((6 : Int32) * a1) + (2 : Int32)).toNatClampNeg (((((if 0 ≤ a2 then a2 else (-a2)) / (64 : Int32)) / (64 : Int32)) / (64 : Int32)) - ((((if 0 ≤ a2 then a2 else (-a2)) / (64 : Int32)) / (64 : Int32)) / (64 : Int32)) / (64 : Int32) * (64 : Int32))) (((6 : Int32) * a1) + (1 : Int32)).toNatClampNeg ((((((if 0 ≤ a2 then a2 else (-a2)) / (64 : Int32)) / (64 : Int32)) / (64 : Int32)) / (64 : Int32)) - (((((if 0 ≤ a2 then a2 else (-a2)) / (64 : Int32)) / (64 : Int32)) / (64 : Int32)) / (64 : Int32)) / (64 : Int32) * (64 : Int32)) else b)))
def f_M_load (g : Nat → Int32) (b : Nat → Int32) (t : Nat → Int32) (w : Nat → Int32) (a1 a2 a3 : Int32) : Int32 := (if (f_M_may a1 a2 a3) = 0 then (0 : Int32) else (1 : Int32))
def u_M_load_g (g : Nat → Int32) (b : Nat → Int32) (t : Nat → Int32) (w : Nat → Int32) (a1 a2 a3 : Int32) : Nat → Int32 := (if (f_M_may a1 a2 a3) = 0 then g else upd g a1.toNatClampNeg (vp_nar .boolean (if (8 : Int32) ≤ a3 then (0 : Int32) else (if (g a2.toNatClampNeg) = 0 then (0 : Int32) else (1 : Int32)))))
def u_M_load_b (g : Nat → Int32) (b : Nat → Int32) (t : Nat → Int32) (w : Nat → Int32) (a1 a2 a3 : Int32) : Nat → Int32 := (if (f_M_may a1 a2 a3) = 0 then b else upd (upd (upd (upd (upd b (((6 : Int32) * a1) + (1 : Int32)).toNatClampNeg (if (((1 : Int32) - (5 : Int32)) + (a3 - a3 / (8 : Int32) * (8 : Int32))) < (f_M_first a3) then (0 : Int32) else (b (((6 : Int32) * a2) + (((1 : Int32) - (5 : Int32)) + (a3 - a3 / (8 : Int32) * (8 : Int32)))).toNatClampNeg))) (((6 : Int32) * a1) + (2 : Int32)).toNatClampNeg (if (((2 : Int32) - (5 : Int32)) + (a3 - a3 / (8 : Int32) * (8 : Int32))) < (f_M_first a3) then (0 : Int32) else (b (((6 : Int32) * a2) + (((2 : Int32) - (5 : Int32)) + (a3 - a3 / (8 : Int32) * (8 : Int32)))).toNatClampNeg))) (((6 : Int32) * a1) + (3 : Int32)).toNatClampNeg (if (((3 : Int32) - (5 : Int32)) + (a3 - a3 / (8 : Int32) * (8 : Int32))) < (f_M_first a3) then (0 : Int32) else (b (((6 : Int32) * a2) + (((3 : Int32) - (5 : Int32)) + (a3 - a3 / (8 : Int32) * (8 : Int32)))).toNatClampNeg))) (((6 : Int32) * a1) + (4 : Int32)).toNatClampNeg (if (((4 : Int32) - (5 : Int32)) + (a3 - a3 / (8 : Int32) * (8 : Int32))) < (f_M_first a3) then (0 : Int32) else (b (((6 : Int32) * a2) + (((4 : Int32) - (5 : Int32)) + (a3 - a3 / (8 : Int32) * (8 : Int32)))).toNatClampNeg))) (((6 : Int32) * a1) + (5 : Int32)).toNatClampNeg (if (((5 : Int32) - (5 : Int32)) + (a3 - a3 / (8 : Int32) * (8 : Int32))) < (f_M_first a3) then (0 : Int32) else (b (((6 : Int32) * a2) + (((5 : Int32) - (5 : Int32)) + (a3 - a3 / (8 : Int32) * (8 : Int32)))).toNatClampNeg)))
def u_M_load_w (g : Nat → Int32) (b : Nat → Int32) (t : Nat → Int32) (w : Nat → Int32) (a1 a2 a3 : Int32) : Nat → Int32 := (if (f_M_may a1 a2 a3) = 0 then w else upd (upd (upd (upd (upd w 1 (if (((1 : Int32) - (5 : Int32)) + (a3 - a3 / (8 : Int32) * (8 : Int32))) < (f_M_first a3) then (0 : Int32) else (b (((6 : Int32) * a2) + (((1 : Int32) - (5 : Int32)) + (a3 - a3 / (8 : Int32) * (8 : Int32)))).toNatClampNeg))) 2 (if (((2 : Int32) - (5 : Int32)) + (a3 - a3 / (8 : Int32) * (8 : Int32))) < (f_M_first a3) then (0 : Int32) else (b (((6 : Int32) * a2) + (((2 : Int32) - (5 : Int32)) + (a3 - a3 / (8 : Int32) * (8 : Int32)))).toNatClampNeg))) 3 (if (((3 : Int32) - (5 : Int32)) + (a3 - a3 / (8 : Int32) * (8 : Int32))) < (f_M_first a3) then (0 : Int32) else (b (((6 : Int32) * a2) + (((3 : Int32) - (5 : Int32)) + (a3 - a3 / (8 : Int32) * (8 : Int32)))).toNatClampNeg))) 4 (if (((4 : Int32) - (5 : Int32)) + (a3 - a3 / (8 : Int32) * (8 : Int32))) < (f_M_first a3) then (0 : Int32) else (b (((6 : Int32) * a2) + (((4 : Int32) - (5 : Int32)) + (a3 - a3 / (8 : Int32) * (8 : Int32)))).toNatClampNeg))) 5 (if (((5 : Int32) - (5 : Int32)) + (a3 - a3 / (8 : Int32) * (8 : Int32))) < (f_M_first a3) then (0 : Int32) else (b (((6 : Int32) * a2) + (((5 : Int32) - (5 : Int32)) + (a3 - a3 / (8 : Int32) * (8 : Int32)))).toNatClampNeg)))
def f_M_store (g : Nat → Int32) (b : Nat → Int32) (t : Nat → Int32) (w : Nat → Int32) (a1 a2 a3 : Int32) : Int32 := (if (f_M_may a1 a2 a3) = 0 then (0 : Int32) else (1 : Int32))
def u_M_store_g (g : Nat → Int32) (b : Nat → Int32) (t : Nat → Int32) (w : Nat → Int32) (a1 a2 a3 : Int32) : Nat → Int32 := (if (f_M_may a1 a2 a3) = 0 then g else upd g a1.toNatClampNeg (vp_nar .boolean (if (8 : Int32) ≤ a3 then (g a1.toNatClampNeg) else (g a2.toNatClampNeg))))
def u_M_store_b (g : Nat → Int32) (b : Nat → Int32) (t : Nat → Int32) (w : Nat → Int32) (a1 a2 a3 : Int32) : Nat → Int32 := (if (f_M_may a1 a2 a3) = 0 then b else upd (upd (upd (upd (upd b (((6 : Int32) * a1) + (1 : Int32)).toNatClampNeg (if (if (1 : Int32) < (f_M_first a3) then (0 : Int32) else (if (a3 - a3 / (8 : Int32) * (8 : Int32)) < (1 : Int32) then (0 : Int32) else (1 : Int32))) = 0 then (b (((6 : Int32) * a1) + (1 : Int32)).toNatClampNeg) else (b (((((6 : Int32) * a2) + (1 : Int32)) + (5 : Int32)) - (a3 - a3 / (8 : Int32) * (8 : Int32))).toNatClampNeg))) (((6 : Int32) * a1) + (2 : Int32)).toNatClampNeg (if (if (2 : Int32) < (f_M_first a3) then (0 : Int32) else (if (a3 - a3 / (8 : Int32) * (8 : Int32)) < (2 : Int32) then (0 : Int32) else (1 : Int32))) = 0 then (b (((6 : Int32) * a1) + (2 : Int32)).toNatClampNeg) else (b (((((6 : Int32) * a2) + (2 : Int32)) + (5 : Int32)) - (a3 - a3 / (8 : Int32) * (8 : Int32))).toNatClampNeg))) (((6 : Int32) * a1) + (3 : Int32)).toNatClampNeg (if (if (3 : Int32) < (f_M_first a3) then (0 : Int32) else (if (a3 - a3 / (8 : Int32) * (8 : Int32)) < (3 : Int32) then (0 : Int32) else (1 : Int32))) = 0 then (b (((6 : Int32) * a1) + (3 : Int32)).toNatClampNeg) else (b (((((6 : Int32) * a2) + (3 : Int32)) + (5 : Int32)) - (a3 - a3 / (8 : Int32) * (8 : Int32))).toNatClampNeg))) (((6 : Int32) * a1) + (4 : Int32)).toNatClampNeg (if (if (4 : Int32) < (f_M_first a3) then (0 : Int32) else (if (a3 - a3 / (8 : Int32) * (8 : Int32)) < (4 : Int32) then (0 : Int32) else (1 : Int32))) = 0 then (b (((6 : Int32) * a1) + (4 : Int32)).toNatClampNeg) else (b (((((6 : Int32) * a2) + (4 : Int32)) + (5 : Int32)) - (a3 - a3 / (8 : Int32) * (8 : Int32))).toNatClampNeg))) (((6 : Int32) * a1) + (5 : Int32)).toNatClampNeg (if (if (5 : Int32) < (f_M_first a3) then (0 : Int32) else (if (a3 - a3 / (8 : Int32) * (8 : Int32)) < (5 : Int32) then (0 : Int32) else (1 : Int32))) = 0 then (b (((6 : Int32) * a1) + (5 : Int32)).toNatClampNeg) else (b (((((6 : Int32) * a2) + (5 : Int32)) + (5 : Int32)) - (a3 - a3 / (8 : Int32) * (8 : Int32))).toNatClampNeg)))
def u_M_store_w (g : Nat → Int32) (b : Nat → Int32) (t : Nat → Int32) (w : Nat → Int32) (a1 a2 a3 : Int32) : Nat → Int32 := (if (f_M_may a1 a2 a3) = 0 then w else upd (upd (upd (upd (upd w 1 (if (if (1 : Int32) < (f_M_first a3) then (0 : Int32) else (if (a3 - a3 / (8 : Int32) * (8 : Int32)) < (1 : Int32) then (0 : Int32) else (1 : Int32))) = 0 then (b (((6 : Int32) * a1) + (1 : Int32)).toNatClampNeg) else (b (((((6 : Int32) * a2) + (1 : Int32)) + (5 : Int32)) - (a3 - a3 / (8 : Int32) * (8 : Int32))).toNatClampNeg))) 2 (if (if (2 : Int32) < (f_M_first a3) then (0 : Int32) else (if (a3 - a3 / (8 : Int32) * (8 : Int32)) < (2 : Int32) then (0 : Int32) else (1 : Int32))) = 0 then (b (((6 : Int32) * a1) + (2 : Int32)).toNatClampNeg) else (b (((((6 : Int32) * a2) + (2 : Int32)) + (5 : Int32)) - (a3 - a3 / (8 : Int32) * (8 : Int32))).toNatClampNeg))) 3 (if (if (3 : Int32) < (f_M_first a3) then (0 : Int32) else (if (a3 - a3 / (8 : Int32) * (8 : Int32)) < (3 : Int32) then (0 : Int32) else (1 : Int32))) = 0 then (b (((6 : Int32) * a1) + (3 : Int32)).toNatClampNeg) else (b (((((6 : Int32) * a2) + (3 : Int32)) + (5 : Int32)) - (a3 - a3 / (8 : Int32) * (8 : Int32))).toNatClampNeg))) 4 (if (if (4 : Int32) < (f_M_first a3) then (0 : Int32) else (if (a3 - a3 / (8 : Int32) * (8 : Int32)) < (4 : Int32) then (0 : Int32) else (1 : Int32))) = 0 then (b (((6 : Int32) * a1) + (4 : Int32)).toNatClampNeg) else (b (((((6 : Int32) * a2) + (4 : Int32)) + (5 : Int32)) - (a3 - a3 / (8 : Int32) * (8 : Int32))).toNatClampNeg))) 5 (if (if (5 : Int32) < (f_M_first a3) then (0 : Int32) else (if (a3 - a3 / (8 : Int32) * (8 : Int32)) < (5 : Int32) then (0 : Int32) else (1 : Int32))) = 0 then (b (((6 : Int32) * a1) + (5 : Int32)).toNatClampNeg) else (b (((((6 : Int32) * a2) + (5 : Int32)) + (5 : Int32)) - (a3 - a3 / (8 : Int32) * (8 : Int32))).toNatClampNeg)))
def f_M_code (g : Nat → Int32) (b : Nat → Int32) (t : Nat → Int32) (w : Nat → Int32) (a1 : Int32) : Int32 := (if a1 < 0 then (-1 : Int32) else (if a1 ≤ (255 : Int32) then cdS t (if a1 < (97 : Int32) then a1 else (if (122 : Int32) < a1 then a1 else (a1 - (32 : Int32)))) 56 else (-1 : Int32)))
def f_Q_checkIndex (a1 : Int32) : Int32 := a1
def f_Q_checkIndexR (a1 : Int32) : Int32 := a1
def f_Z_charAt (a1 : Int32) : Int32 := (((sby a1.toNatClampNeg) &&& (255 : Int32)).toUInt32 % 65536).toInt32
def f_S_charAt (a1 : Int32) : Int32 := (f_Z_charAt a1)
def f_Z_canEncode (a1 : Int32) : Int32 := (if a1 < 0 then (0 : Int32) else (if (255 : Int32) < a1 then (0 : Int32) else (1 : Int32)))
def f_Z_indexOfChar (a1 : Int32) : Int32 := ixF a1.toInt8.toInt32 56 0
def f_Z_indexOf (a1 : Int32) : Int32 := (if (f_Z_canEncode a1) = 0 then (-1 : Int32) else (f_Z_indexOfChar a1))
def f_S_indexOf2 (a1 : Int32) : Int32 := (f_Z_indexOf a1)
def f_S_indexOf (a1 : Int32) : Int32 := (f_S_indexOf2 a1)
def f_F_letter (a1 : Int32) : Int32 := (if a1 < 0 then (-1 : Int32) else (if a1 ≤ (63 : Int32) then (if (56 : Int32) ≤ a1 then (63 : Int32) else (f_S_charAt a1)) else (-1 : Int32)))
def f_F_code (a1 : Int32) : Int32 := (if a1 < 0 then (-1 : Int32) else (if a1 ≤ (255 : Int32) then (if 0 ≤ (f_S_indexOf ((f_F_greatLetter a1).toUInt32 % 65536).toInt32) then (f_S_indexOf ((f_F_greatLetter a1).toUInt32 % 65536).toInt32) else (0 : Int32)) else (-1 : Int32)))
theorem in_F {a : Int32} (h : ¬ f_F_isRegister a = 0) : vp_in a 16 := by
  rw [vp_in_iff]
  unfold f_F_isRegister at h
  split at h
  · exact absurd rfl h
  · rename_i h0
    split at h
    · exact absurd rfl h
    · rename_i h1
      rw [Int32.lt_iff_toInt_lt] at h0
      rw [Int32.le_iff_toInt_le] at h1
      have e1 : (16 : Int32).toInt = 16 := by decide
      have e0 : (0 : Int32).toInt = 0 := by decide
      omega
theorem in_M {a : Int32} (h : ¬ f_M_isRegister a = 0) : vp_in a 16 := by
  rw [vp_in_iff]
  unfold f_M_isRegister at h
  split at h
  · exact absurd rfl h
  · rename_i h0
    split at h
    · exact absurd rfl h
    · rename_i h1
      rw [Int32.lt_iff_toInt_lt] at h0
      rw [Int32.le_iff_toInt_le] at h1
      have e1 : (16 : Int32).toInt = 16 := by decide
      have e0 : (0 : Int32).toInt = 0 := by decide
      omega
theorem ix_e {j k : Nat} (hj : j < 16) (hk : k < 6) : (((6 : Int32) * nI j) + nI k).toNatClampNeg = 6 * j + k := by
  have e : (6 : Int32) * nI j + nI k = nI (6 * j + k) := by
    rw [show (6 : Int32) = nI 6 from rfl, pk_mul, nI_add]
  rw [e, nI_clamp (by omega)]
theorem in_96 {a k : Int32} (h : ¬ f_M_isRegister a = 0) (hk : vp_in k 6) : vp_in (((6 : Int32) * a) + k) 96 := by
  obtain ⟨j, hj, rfl⟩ := vp_in_of (in_M h) (by decide)
  obtain ⟨i, hi, rfl⟩ := vp_in_of hk (by decide)
  have e : (6 : Int32) * nI j + nI i = nI (6 * j + i) := by
    rw [show (6 : Int32) = nI 6 from rfl, pk_mul, nI_add]
  rw [e]
  exact vp_in_nI (by omega) (by decide)
theorem in_6 {k : Int32} (h0 : ¬ k < 0) (h5 : k ≤ (5 : Int32)) : vp_in k 6 := by
  rw [vp_in_iff]
  rw [Int32.lt_iff_toInt_lt] at h0
  rw [Int32.le_iff_toInt_le] at h5
  have e1 : (5 : Int32).toInt = 5 := by decide
  have e0 : (0 : Int32).toInt = 0 := by decide
  omega
theorem in_56 {k : Int32} (h0 : ¬ k < 0) (h5 : ¬ (56 : Int32) ≤ k) : vp_in k 56 := by
  rw [vp_in_iff]
  rw [Int32.lt_iff_toInt_lt] at h0
  rw [Int32.le_iff_toInt_le] at h5
  have e1 : (56 : Int32).toInt = 56 := by decide
  have e0 : (0 : Int32).toInt = 0 := by decide
  omega
def nQ (j : Nat) (k : Int32) : Prop := ∃ i : Nat, k = nI i ∧ j ≤ i ∧ i < 2 ^ 31
theorem n_1 {a : Int32} (h : ¬ a < 1) : nQ 1 a := by
  rw [Int32.lt_iff_toInt_lt] at h
  have e1 : (1 : Int32).toInt = 1 := by decide
  have h0 : ¬ a < 0 := by
    rw [Int32.lt_iff_toInt_lt]
    have e0 : (0 : Int32).toInt = 0 := by decide
    omega
  obtain ⟨j, hj, rfl⟩ := nI_of h0
  rw [nI_toInt hj] at h
  exact ⟨j, rfl, by omega, hj⟩
theorem n_5 {i : Nat} {a3 : Int32} (hi : i < 2 ^ 31) (hc : ¬ a3 < nI i) (h3 : ¬ (5 : Int32) < a3) : i ≤ 5 := by
  rw [Int32.lt_iff_toInt_lt] at hc h3
  rw [nI_toInt hi] at hc
  have e1 : (5 : Int32).toInt = 5 := by decide
  omega
theorem n_s {j : Nat} {k a3 k' : Int32} (h : nQ j k) (hc : ¬ a3 < k) (h3 : ¬ (5 : Int32) < a3) (e : k' = (k + (1 : Int32))) : nQ (j + 1) k' := by
  obtain ⟨i, rfl, h1, h2⟩ := h
  have h5 := n_5 h2 hc h3
  exact ⟨i + 1, by rw [e, nI_1], by omega, by omega⟩
theorem n_in {j : Nat} {k a3 : Int32} (h : nQ j k) (hc : ¬ a3 < k) (h3 : ¬ (5 : Int32) < a3) : vp_in k 6 := by
  obtain ⟨i, rfl, h1, h2⟩ := h
  have h5 := n_5 h2 hc h3
  exact vp_in_nI (by omega) (by decide)
theorem n_e {k a3 : Int32} (h : nQ 6 k) (h3 : ¬ (5 : Int32) < a3) : a3 < k := by
  obtain ⟨i, rfl, h1, h2⟩ := h
  rw [Int32.lt_iff_toInt_lt] at h3 ⊢
  rw [nI_toInt h2]
  have e1 : (5 : Int32).toInt = 5 := by decide
  omega
theorem may_1 {a b c : Int32} (h : ¬ f_M_may a b c = 0) : ¬ f_M_isRegister a = 0 := by
  intro q
  apply h
  unfold f_M_may
  rw [if_pos q]
theorem may_2 {a b c : Int32} (h : ¬ f_M_may a b c = 0) : ¬ f_M_isRegister b = 0 := by
  intro q
  apply h
  unfold f_M_may
  rw [if_neg (may_1 h), if_pos q]
theorem may_3 {a b c : Int32} (h : ¬ f_M_may a b c = 0) : ¬ f_M_is c = 0 := by
  intro q
  apply h
  unfold f_M_may
  rw [if_neg (may_1 h), if_neg (may_2 h), if_pos q]
theorem rem_8 {n : Nat} (h : n < 2 ^ 31) : nI n - nI n / (8 : Int32) * (8 : Int32) = nI (n % 8) := pk_rem (d := 8) h (by decide) (by decide)
theorem div_8 {n : Nat} (h : n < 2 ^ 31) : nI n / (8 : Int32) = nI (n / 8) := pk_div (d := 8) h (by decide) (by decide)
theorem is_of {c : Int32} (h : ¬ f_M_is c = 0) : ∃ L R : Nat, L ≤ R ∧ R ≤ 5 ∧ c = nI (8 * L + R) := by
  unfold f_M_is at h
  split at h
  · exact absurd rfl h
  rename_i h0
  obtain ⟨n, hn, rfl⟩ := nI_of h0
  rw [rem_8 hn, div_8 hn] at h
  split at h
  · exact absurd rfl h
  rename_i h1
  split at h
  · exact absurd rfl h
  rename_i h2
  split at h
  · exact absurd rfl h
  rename_i h3
  rw [show (48 : Int32) = nI 48 from rfl, nI_leI (by decide) hn] at h1
  rw [show (6 : Int32) = nI 6 from rfl, nI_leI (by decide) (by omega)] at h2
  rw [nI_ltI (by omega) (by omega)] at h3
  exact ⟨n / 8, n % 8, by omega, by omega, by rw [show 8 * (n / 8) + n % 8 = n by omega]⟩
theorem f_e {L R : Nat} (hR : R ≤ 5) (hL : L ≤ 5) : f_M_first (nI (8 * L + R)) = nI (if L = 0 then 1 else L) := by
  unfold f_M_first
  rw [div_8 (by omega), show (8 : Int32) = nI 8 from rfl]
  by_cases h : L = 0
  · subst h
    rw [if_neg (by rw [nI_leI (by decide) (by omega)]; omega), if_pos rfl]
    rfl
  · rw [if_pos (by rw [nI_leI (by decide) (by omega)]; omega), if_neg h, show (8 * L + R) / 8 = L by omega]
theorem r_e {L R : Nat} (hR : R ≤ 5) (hL : L ≤ 5) : nI (8 * L + R) - nI (8 * L + R) / (8 : Int32) * (8 : Int32) = nI R := by
  rw [rem_8 (by omega), show (8 * L + R) % 8 = R by omega]
theorem may_f {a b c : Int32} (h : ¬ f_M_may a b c = 0) : ¬ f_M_first c < 1 := by
  obtain ⟨L, R, h1, h2, rfl⟩ := is_of (may_3 h)
  rw [f_e h2 (by omega), show (1 : Int32) = nI 1 from rfl, nI_ltI (by split <;> omega) (by decide)]
  split <;> omega
theorem may_l {a b c : Int32} (h : ¬ f_M_may a b c = 0) : ¬ (5 : Int32) < (c - c / (8 : Int32) * (8 : Int32)) := by
  obtain ⟨L, R, h1, h2, rfl⟩ := is_of (may_3 h)
  rw [r_e h2 (by omega), show (5 : Int32) = nI 5 from rfl, nI_ltI (by decide) (by omega)]
  omega
theorem tb_L1 : ∀ k, k < 6 → ∀ R, R < 6 → ∀ F, F < 6 → (decide (((nI k - (5 : Int32)) + nI R) < nI F) = decide (k + R < 5 + F) ∨ F = 0) := by decide +kernel
theorem tb_L2 : ∀ k, k < 6 → ∀ R, R < 6 → ((nI k - (5 : Int32)) + nI R = nI (k + R - 5) ∨ k + R < 5) := by decide +kernel
theorem tb_L (k : Nat) (hk : k < 6) (R : Nat) (hR : R < 6) (F : Nat) (hF : F < 6) (h0 : 0 < F) : (((nI k - (5 : Int32)) + nI R) < nI F ↔ k + R < 5 + F) ∧ (5 ≤ k + R → (nI k - (5 : Int32)) + nI R = nI (k + R - 5)) := by
  refine ⟨?_, fun h => (tb_L2 k hk R hR).resolve_right (by omega)⟩
  exact decide_eq_decide.mp ((tb_L1 k hk R hR F hF).resolve_right (by omega))
theorem in_96L {a b fl x k : Int32} (h : ¬ f_M_may a b fl = 0) (hk : vp_in k 6) (ex : x = ((k - (5 : Int32)) + (fl - fl / (8 : Int32) * (8 : Int32)))) (hc : ¬ x < (f_M_first fl)) : vp_in (((6 : Int32) * b) + x) 96 := by
  have hb := may_2 h
  obtain ⟨L, R, h1, h2, rfl⟩ := is_of (may_3 h)
  obtain ⟨j, hj, rfl⟩ := vp_in_of hk (by decide)
  rw [r_e h2 (by omega)] at ex
  rw [f_e h2 (by omega)] at hc
  have t := tb_L j hj R (by omega) (if L = 0 then 1 else L) (by split <;> omega) (by split <;> omega)
  rw [ex, t.1] at hc
  have hF : 0 < (if L = 0 then 1 else L) := by split <;> omega
  have e := t.2 (by omega)
  rw [ex, e]
  exact in_96 hb (vp_in_nI (by omega) (by decide))
theorem in_96S {a b fl v k : Int32} (h : ¬ f_M_may a b fl = 0) (hk : vp_in k 6) (ev : v = (if k < (f_M_first fl) then (0 : Int32) else (if (fl - fl / (8 : Int32) * (8 : Int32)) < k then (0 : Int32) else (1 : Int32)))) (hc : ¬ v = 0) : vp_in (((((6 : Int32) * b) + k) + (5 : Int32)) - (fl - fl / (8 : Int32) * (8 : Int32))) 96 := by
  have hb := may_2 h
  obtain ⟨L, R, h1, h2, rfl⟩ := is_of (may_3 h)
  obtain ⟨j, hj, rfl⟩ := vp_in_of hk (by decide)
  obtain ⟨i, hi, rfl⟩ := vp_in_of (in_M hb) (by decide)
  rw [r_e h2 (by omega)] at ev ⊢
  rw [ev] at hc
  split at hc
  · exact absurd rfl hc
  split at hc
  · exact absurd rfl hc
  rename_i q1 q2
  rw [nI_ltI (by omega) (by omega)] at q2
  have e : (6 : Int32) * nI i + nI j + (5 : Int32) - nI R = nI (6 * i + j + 5 - R) := by
    rw [show (6 : Int32) = nI 6 from rfl, show (5 : Int32) = nI 5 from rfl, pk_mul, nI_add, nI_add, pk_sub (by omega)]
  rw [e]
  exact vp_in_nI (by omega) (by decide)
theorem nar_is (x : Int32) : narrow .boolean (.int (f_M_is x)) = .int (f_M_is x) := by
  unfold f_M_is
  repeat' split
  all_goals rfl
end
section
set_option maxHeartbeats 4000000 in
set_option maxRecDepth 100000 in
theorem c_F_isRegister (l : Launch) (a1 : Int32) : Met l yF_isRegister wsF_isRegister ({ frames := 0, cells := 0, slots := 0, locals := 0 }) (va_Pc [.int a1] (fun _ => True)) (va_Qi (fun (r : Int32) (_ : Unit) => r = f_F_isRegister a1) (fun _ _ => True) (fun _ => False)) 0 0 (fun _ => False) := by
  refine Met.ofW (cc := prog_1_method_12_code) (maxL := 1) (ret := (some .boolean)) (by decide) rfl ?_
  intro p e s m args below meth c s₁ B hml hv
  obtain ⟨rfl, -⟩ := hv
  have hx := B.exec
  have hb := B.bytes
  have hr := B.returns
  have hts := fun (w : Cond) (h : w ∈ gw) => atoms_spec (ws := wsF_isRegister) B.pre w (List.mem_cons_of_mem _ h)
  have hown : s.vm.findClass RF = some m.cls := findClass_of_methodNamed B.named
  have hlocks := B.notSynchronized
  have hS : va_S (fun _ => False) s.heap s.heap [] := va_S.rf
  have hl := lv_entry ([.int a1]) (n := 1) (Nat.le_of_ble_eq_true rfl)
  rw [lg_entry_eq]
  generalize (lg_sl ([.int a1]) ++ List.replicate (1 - (lg_sl ([.int a1])).length) Slot.unset).toArray = ls at hl ⊢
  have hl : lv_has ls 1 [(0, .int a1)] := hl
  refine lv_iload_n hx hb dF_isRegister_0 rfl (lv_at hl 0 rfl) ?_
  refine lv_if_lt (tgt := 14) hx hb dF_isRegister_1 (by decide) (fun c_1 => ?_) (fun c_1 => ?_)
  · refine lv_iconst (v := (0 : Int32)) hx hb dF_isRegister_14 (by decide) ?_
    exact W.zret (v := (0 : Int32)) hx hb hr (by decide) (fun t ht hW => ⟨⟨(0 : Int32), (), rfl, (by unfold f_F_isRegister; rw [if_pos c_1]), trivial⟩, hS.F ht⟩) hS.2.2 dF_isRegister_15
  · refine lv_iload_n hx hb dF_isRegister_4 rfl (lv_at hl 0 rfl) ?_
    refine lv_bipush (v := (16 : Int32)) hx hb dF_isRegister_5 (by decide) ?_
    refine lv_icmp_ge (tgt := 14) hx hb dF_isRegister_7 (by decide) (fun c_2 => ?_) (fun c_2 => ?_)
    · refine lv_iconst (v := (0 : Int32)) hx hb dF_isRegister_14 (by decide) ?_
      exact W.zret (v := (0 : Int32)) hx hb hr (by decide) (fun t ht hW => ⟨⟨(0 : Int32), (), rfl, (by unfold f_F_isRegister; rw [if_neg c_1, if_pos c_2]), trivial⟩, hS.F ht⟩) hS.2.2 dF_isRegister_15
    · refine lv_iconst (v := (1 : Int32)) hx hb dF_isRegister_10 (by decide) ?_
      refine lv_goto (tgt := 15) hx hb dF_isRegister_11 (by decide) ?_
      exact W.zret (v := (1 : Int32)) hx hb hr (by decide) (fun t ht hW => ⟨⟨(1 : Int32), (), rfl, (by unfold f_F_isRegister; rw [if_neg c_1, if_neg c_2]), trivial⟩, hS.F ht⟩) hS.2.2 dF_isRegister_15

set_option maxHeartbeats 4000000 in
set_option maxRecDepth 100000 in
theorem c_F_isMinus (l : Launch) (a1 : Int32) : Met l yF_isMinus wsF_isMinus ({ frames := 0, cells := 0, slots := 0, locals := 0 }) (va_Pc [.int a1] (fun _ => True)) (va_Qi (fun (r : Int32) (_ : Unit) => r = f_F_isMinus a1) (fun _ _ => True) (fun _ => False)) 0 0 (fun _ => False) := by
  refine Met.ofW (cc := prog_1_method_13_code) (maxL := 1) (ret := (some .boolean)) (by decide) rfl ?_
  intro p e s m args below meth c s₁ B hml hv
  obtain ⟨rfl, -⟩ := hv
  have hx := B.exec
  have hb := B.bytes
  have hr := B.returns
  have hts := fun (w : Cond) (h : w ∈ gw) => atoms_spec (ws := wsF_isMinus) B.pre w (List.mem_cons_of_mem _ h)
  have hown : s.vm.findClass RF = some m.cls := findClass_of_methodNamed B.named
  have hlocks := B.notSynchronized
  have hS : va_S (fun _ => False) s.heap s.heap [] := va_S.rf
  have hl := lv_entry ([.int a1]) (n := 1) (Nat.le_of_ble_eq_true rfl)
  rw [lg_entry_eq]
  generalize (lg_sl ([.int a1]) ++ List.replicate (1 - (lg_sl ([.int a1])).length) Slot.unset).toArray = ls at hl ⊢
  have hl : lv_has ls 1 [(0, .int a1)] := hl
  refine lv_iload_n hx hb dF_isMinus_0 rfl (lv_at hl 0 rfl) ?_
  refine lv_ldc (v := (1073741824 : Int32)) hx hb hown (hts _ tw_31) dF_isMinus_1 ?_
  refine lv_iand hx hb dF_isMinus_3 ?_
  refine lv_if_eq (tgt := 11) hx hb dF_isMinus_4 (by decide) (fun c_1 => ?_) (fun c_1 => ?_)
  · refine lv_iconst (v := (0 : Int32)) hx hb dF_isMinus_11 (by decide) ?_
    exact W.zret (v := (0 : Int32)) hx hb hr (by decide) (fun t ht hW => ⟨⟨(0 : Int32), (), rfl, (by unfold f_F_isMinus; rw [if_pos c_1]), trivial⟩, hS.F ht⟩) hS.2.2 dF_isMinus_12
  · refine lv_iconst (v := (1 : Int32)) hx hb dF_isMinus_7 (by decide) ?_
    refine lv_goto (tgt := 12) hx hb dF_isMinus_8 (by decide) ?_
    exact W.zret (v := (1 : Int32)) hx hb hr (by decide) (fun t ht hW => ⟨⟨(1 : Int32), (), rfl, (by unfold f_F_isMinus; rw [if_neg c_1]), trivial⟩, hS.F ht⟩) hS.2.2 dF_isMinus_12

set_option maxHeartbeats 4000000 in
set_option maxRecDepth 100000 in
theorem c_F_number (l : Launch) (a1 : Int32) : Met l yF_number wsF_number ({ frames := 1, cells := 0, slots := 0, locals := 20 }) (va_Pc [.int a1] (fun _ => True)) (va_Qi (fun (r : Int32) (_ : Unit) => r = f_F_number a1) (fun _ _ => True) (fun _ => False)) 0 0 (fun _ => False) := by
  refine Met.ofW (cc := prog_1_method_14_code) (maxL := 2) (ret := (some .int)) (by decide) rfl ?_
  intro p e s m args below meth c s₁ B hml hv
  obtain ⟨rfl, -⟩ := hv
  have hx := B.exec
  have hb := B.bytes
  have hr := B.returns
  have hts := fun (w : Cond) (h : w ∈ gw) => atoms_spec (ws := wsF_number) B.pre w (List.mem_cons_of_mem _ h)
  have hown : s.vm.findClass RF = some m.cls := findClass_of_methodNamed B.named
  have hlocks := B.notSynchronized
  have hS : va_S (fun _ => False) s.heap s.heap [] := va_S.rf
  have hl := lv_entry ([.int a1]) (n := 2) (Nat.le_of_ble_eq_true rfl)
  rw [lg_entry_eq]
  generalize (lg_sl ([.int a1]) ++ List.replicate (2 - (lg_sl ([.int a1])).length) Slot.unset).toArray = ls at hl ⊢
  have hl : lv_has ls 2 [(0, .int a1)] := hl
  refine lv_iload_n hx hb dF_number_0 rfl (lv_at hl 0 rfl) ?_
  refine lv_ldc (v := (1073741823 : Int32)) hx hb hown (hts _ tw_29) dF_number_1 ?_
  refine lv_iand hx hb dF_number_3 ?_
  refine lv_topi (fun x_1 ex_1 => ?_)
  refine lv_istore_n (lv' := [(1, .int x_1), (0, .int a1)]) hx hb dF_number_4 rfl hl (by decide) rfl (fun ls hl => ?_)
  refine lv_iload_n hx hb dF_number_5 rfl (lv_at hl 1 rfl) ?_
  refine kk_call0 (va_runS (As := [.int a1]) (rest := []) ⟨hx, hb, hml, hown, hts⟩ (c_F_isMinus l a1) (va_cwS 1 hts (gS tw_41 tw_42 tw_1 tw_43) rfl rfl rfl (by decide +kernel) ⟨Nat.le_of_ble_eq_true rfl, Nat.le_of_ble_eq_true rfl⟩) ⟨fun _ _ _ _ q => q, fun _ _ _ => ⟨rfl, trivial⟩⟩ rfl rfl hl.1 rfl (lv_room (Nat.le_of_ble_eq_true rfl)) dF_number_6 ⟨Nat.le_of_ble_eq_true rfl, Nat.le_of_ble_eq_true rfl⟩) hS (fun H locs hS => ?_)
  refine lv_if_eq (tgt := 17) hx hb dF_number_9 (by decide) (fun c_2 => ?_) (fun c_2 => ?_)
  · refine lv_iload_n hx hb dF_number_17 rfl (lv_at hl 0 rfl) ?_
    exact W.iret (v := x_1) hx hb hr (fun t ht hW => ⟨⟨x_1, (), rfl, (by subst ex_1; unfold f_F_number; rw [if_pos c_2]), trivial⟩, hS.F ht⟩) hS.2.2 dF_number_18
  · refine lv_iload_n hx hb dF_number_12 rfl (lv_at hl 0 rfl) ?_
    refine lv_ineg hx hb dF_number_13 ?_
    refine lv_goto (tgt := 18) hx hb dF_number_14 (by decide) ?_
    exact W.iret (v := (-x_1)) hx hb hr (fun t ht hW => ⟨⟨(-x_1), (), rfl, (by subst ex_1; unfold f_F_number; rw [if_neg c_2]), trivial⟩, hS.F ht⟩) hS.2.2 dF_number_18

set_option maxHeartbeats 4000000 in
set_option maxRecDepth 100000 in
theorem c_F_firstByte (l : Launch) (a1 : Int32) : Met l yF_firstByte wsF_firstByte ({ frames := 0, cells := 0, slots := 0, locals := 0 }) (va_Pc [.int a1] (fun _ => True)) (va_Qi (fun (r : Int32) (_ : Unit) => r = f_F_firstByte a1) (fun _ _ => True) (fun _ => False)) 0 0 (fun _ => False) := by
  refine Met.ofW (cc := prog_1_method_15_code) (maxL := 1) (ret := (some .int)) (by decide) rfl ?_
  intro p e s m args below meth c s₁ B hml hv
  obtain ⟨rfl, -⟩ := hv
  have hx := B.exec
  have hb := B.bytes
  have hr := B.returns
  have hts := fun (w : Cond) (h : w ∈ gw) => atoms_spec (ws := wsF_firstByte) B.pre w (List.mem_cons_of_mem _ h)
  have hown : s.vm.findClass RF = some m.cls := findClass_of_methodNamed B.named
  have hlocks := B.notSynchronized
  have hS : va_S (fun _ => False) s.heap s.heap [] := va_S.rf
  have hl := lv_entry ([.int a1]) (n := 1) (Nat.le_of_ble_eq_true rfl)
  rw [lg_entry_eq]
  generalize (lg_sl ([.int a1]) ++ List.replicate (1 - (lg_sl ([.int a1])).length) Slot.unset).toArray = ls at hl ⊢
  have hl : lv_has ls 1 [(0, .int a1)] := hl
  refine lv_iload_n hx hb dF_firstByte_0 rfl (lv_at hl 0 rfl) ?_
  refine lv_iconst (v := (3 : Int32)) hx hb dF_firstByte_1 (by decide) ?_
  refine lv_ishr hx hb dF_firstByte_2 ?_
  exact W.iret (v := (a1 >>> ((3 : Int32) &&& 31))) hx hb hr (fun t ht hW => ⟨⟨(a1 >>> ((3 : Int32) &&& 31)), (), rfl, (by rfl), trivial⟩, hS.F ht⟩) hS.2.2 dF_firstByte_3

set_option maxHeartbeats 4000000 in
set_option maxRecDepth 100000 in
theorem c_F_lastByte (l : Launch) (a1 : Int32) : Met l yF_lastByte wsF_lastByte ({ frames := 0, cells := 0, slots := 0, locals := 0 }) (va_Pc [.int a1] (fun _ => True)) (va_Qi (fun (r : Int32) (_ : Unit) => r = f_F_lastByte a1) (fun _ _ => True) (fun _ => False)) 0 0 (fun _ => False) := by
  refine Met.ofW (cc := prog_1_method_16_code) (maxL := 1) (ret := (some .int)) (by decide) rfl ?_
  intro p e s m args below meth c s₁ B hml hv
  obtain ⟨rfl, -⟩ := hv
  have hx := B.exec
  have hb := B.bytes
  have hr := B.returns
  have hts := fun (w : Cond) (h : w ∈ gw) => atoms_spec (ws := wsF_lastByte) B.pre w (List.mem_cons_of_mem _ h)
  have hown : s.vm.findClass RF = some m.cls := findClass_of_methodNamed B.named
  have hlocks := B.notSynchronized
  have hS : va_S (fun _ => False) s.heap s.heap [] := va_S.rf
  have hl := lv_entry ([.int a1]) (n := 1) (Nat.le_of_ble_eq_true rfl)
  rw [lg_entry_eq]
  generalize (lg_sl ([.int a1]) ++ List.replicate (1 - (lg_sl ([.int a1])).length) Slot.unset).toArray = ls at hl ⊢
  have hl : lv_has ls 1 [(0, .int a1)] := hl
  refine lv_iload_n hx hb dF_lastByte_0 rfl (lv_at hl 0 rfl) ?_
  refine lv_bipush (v := (7 : Int32)) hx hb dF_lastByte_1 (by decide) ?_
  refine lv_iand hx hb dF_lastByte_3 ?_
  exact W.iret (v := (a1 &&& (7 : Int32))) hx hb hr (fun t ht hW => ⟨⟨(a1 &&& (7 : Int32)), (), rfl, (by rfl), trivial⟩, hS.F ht⟩) hS.2.2 dF_lastByte_4

set_option maxHeartbeats 4000000 in
set_option maxRecDepth 100000 in
theorem c_F_bitsRightOf (l : Launch) (a1 : Int32) : Met l yF_bitsRightOf wsF_bitsRightOf ({ frames := 0, cells := 0, slots := 0, locals := 0 }) (va_Pc [.int a1] (fun _ => True)) (va_Qi (fun (r : Int32) (_ : Unit) => r = f_F_bitsRightOf a1) (fun _ _ => True) (fun _ => False)) 0 0 (fun _ => False) := by
  refine Met.ofW (cc := prog_1_method_17_code) (maxL := 1) (ret := (some .int)) (by decide) rfl ?_
  intro p e s m args below meth c s₁ B hml hv
  obtain ⟨rfl, -⟩ := hv
  have hx := B.exec
  have hb := B.bytes
  have hr := B.returns
  have hts := fun (w : Cond) (h : w ∈ gw) => atoms_spec (ws := wsF_bitsRightOf) B.pre w (List.mem_cons_of_mem _ h)
  have hown : s.vm.findClass RF = some m.cls := findClass_of_methodNamed B.named
  have hlocks := B.notSynchronized
  have hS : va_S (fun _ => False) s.heap s.heap [] := va_S.rf
  have hl := lv_entry ([.int a1]) (n := 1) (Nat.le_of_ble_eq_true rfl)
  rw [lg_entry_eq]
  generalize (lg_sl ([.int a1]) ++ List.replicate (1 - (lg_sl ([.int a1])).length) Slot.unset).toArray = ls at hl ⊢
  have hl : lv_has ls 1 [(0, .int a1)] := hl
  refine lv_bipush (v := (6 : Int32)) hx hb dF_bitsRightOf_0 (by decide) ?_
  refine lv_iconst (v := (5 : Int32)) hx hb dF_bitsRightOf_2 (by decide) ?_
  refine lv_iload_n hx hb dF_bitsRightOf_3 rfl (lv_at hl 0 rfl) ?_
  refine lv_isub hx hb dF_bitsRightOf_4 ?_
  refine lv_imul hx hb dF_bitsRightOf_5 ?_
  exact W.iret (v := ((6 : Int32) * ((5 : Int32) - a1))) hx hb hr (fun t ht hW => ⟨⟨((6 : Int32) * ((5 : Int32) - a1)), (), rfl, (by rfl), trivial⟩, hS.F ht⟩) hS.2.2 dF_bitsRightOf_6

set_option maxHeartbeats 4000000 in
set_option maxRecDepth 100000 in
theorem c_F_rightMask (l : Launch) (a1 : Int32) : Met l yF_rightMask wsF_rightMask ({ frames := 1, cells := 0, slots := 0, locals := 20 }) (va_Pc [.int a1] (fun _ => True)) (va_Qi (fun (r : Int32) (_ : Unit) => r = f_F_rightMask a1) (fun _ _ => True) (fun _ => False)) 0 0 (fun _ => False) := by
  refine Met.ofW (cc := prog_1_method_18_code) (maxL := 2) (ret := (some .int)) (by decide) rfl ?_
  intro p e s m args below meth c s₁ B hml hv
  obtain ⟨rfl, -⟩ := hv
  have hx := B.exec
  have hb := B.bytes
  have hr := B.returns
  have hts := fun (w : Cond) (h : w ∈ gw) => atoms_spec (ws := wsF_rightMask) B.pre w (List.mem_cons_of_mem _ h)
  have hown : s.vm.findClass RF = some m.cls := findClass_of_methodNamed B.named
  have hlocks := B.notSynchronized
  have hS : va_S (fun _ => False) s.heap s.heap [] := va_S.rf
  have hl := lv_entry ([.int a1]) (n := 2) (Nat.le_of_ble_eq_true rfl)
  rw [lg_entry_eq]
  generalize (lg_sl ([.int a1]) ++ List.replicate (2 - (lg_sl ([.int a1])).length) Slot.unset).toArray = ls at hl ⊢
  have hl : lv_has ls 2 [(0, .int a1)] := hl
  refine lv_iload_n hx hb dF_rightMask_0 rfl (lv_at hl 0 rfl) ?_
  refine kk_call0 (va_runS (As := [.int a1]) (rest := []) ⟨hx, hb, hml, hown, hts⟩ (c_F_lastByte l a1) (va_cwS 1 hts (gS tw_62 tw_63 tw_1 tw_64) rfl rfl rfl (by decide +kernel) ⟨Nat.le_of_ble_eq_true rfl, Nat.le_of_ble_eq_true rfl⟩) ⟨fun _ _ _ _ q => q, fun _ _ _ => ⟨rfl, trivial⟩⟩ rfl rfl hl.1 rfl (lv_room (Nat.le_of_ble_eq_true rfl)) dF_rightMask_1 ⟨Nat.le_of_ble_eq_true rfl, Nat.le_of_ble_eq_true rfl⟩) hS (fun H locs hS => ?_)
  refine lv_iload_n hx hb dF_rightMask_4 rfl (lv_at hl 0 rfl) ?_
  refine kk_call0 (va_runS (As := [.int a1]) (rest := [.int (f_F_lastByte a1)]) ⟨hx, hb, hml, hown, hts⟩ (c_F_firstByte l a1) (va_cwS 1 hts (gS tw_59 tw_60 tw_1 tw_61) rfl rfl rfl (by decide +kernel) ⟨Nat.le_of_ble_eq_true rfl, Nat.le_of_ble_eq_true rfl⟩) ⟨fun _ _ _ _ q => q, fun _ _ _ => ⟨rfl, trivial⟩⟩ rfl rfl hl.1 rfl (lv_room (Nat.le_of_ble_eq_true rfl)) dF_rightMask_5 ⟨Nat.le_of_ble_eq_true rfl, Nat.le_of_ble_eq_true rfl⟩) hS (fun H locs hS => ?_)
  refine lv_iconst (v := (1 : Int32)) hx hb dF_rightMask_8 (by decide) ?_
  refine va_mmax hx hb (hml.trans hl.1.symm) hown (hts _ tw_71) (hts _ tw_72) (hts _ tw_3) (hts _ tw_mmax) (Nat.le_of_ble_eq_true rfl) (Nat.le_of_ble_eq_true rfl) (Nat.le_of_ble_eq_true rfl) (Nat.le_of_ble_eq_true rfl) dF_rightMask_9 ?_
  refine lv_isub hx hb dF_rightMask_12 ?_
  refine lv_iconst (v := (1 : Int32)) hx hb dF_rightMask_13 (by decide) ?_
  refine lv_iadd hx hb dF_rightMask_14 ?_
  refine lv_topi (fun x_1 ex_1 => ?_)
  refine lv_istore_n (lv' := [(1, .int x_1), (0, .int a1)]) hx hb dF_rightMask_15 rfl hl (by decide) rfl (fun ls hl => ?_)
  refine lv_iconst (v := (1 : Int32)) hx hb dF_rightMask_16 (by decide) ?_
  refine lv_bipush (v := (6 : Int32)) hx hb dF_rightMask_17 (by decide) ?_
  refine lv_iload_n hx hb dF_rightMask_19 rfl (lv_at hl 0 rfl) ?_
  refine lv_imul hx hb dF_rightMask_20 ?_
  refine lv_ishl hx hb dF_rightMask_21 ?_
  refine lv_iconst (v := (1 : Int32)) hx hb dF_rightMask_22 (by decide) ?_
  refine lv_isub hx hb dF_rightMask_23 ?_
  exact W.iret (v := (((1 : Int32) <<< (((6 : Int32) * x_1) &&& 31)) - (1 : Int32))) hx hb hr (fun t ht hW => ⟨⟨(((1 : Int32) <<< (((6 : Int32) * x_1) &&& 31)) - (1 : Int32)), (), rfl, (by subst ex_1; rfl), trivial⟩, hS.F ht⟩) hS.2.2 dF_rightMask_24

set_option maxHeartbeats 4000000 in
set_option maxRecDepth 100000 in
theorem c_F_signMask (l : Launch) (a1 : Int32) : Met l yF_signMask wsF_signMask ({ frames := 1, cells := 0, slots := 0, locals := 20 }) (va_Pc [.int a1] (fun _ => True)) (va_Qi (fun (r : Int32) (_ : Unit) => r = f_F_signMask a1) (fun _ _ => True) (fun _ => False)) 0 0 (fun _ => False) := by
  refine Met.ofW (cc := prog_1_method_19_code) (maxL := 1) (ret := (some .int)) (by decide) rfl ?_
  intro p e s m args below meth c s₁ B hml hv
  obtain ⟨rfl, -⟩ := hv
  have hx := B.exec
  have hb := B.bytes
  have hr := B.returns
  have hts := fun (w : Cond) (h : w ∈ gw) => atoms_spec (ws := wsF_signMask) B.pre w (List.mem_cons_of_mem _ h)
  have hown : s.vm.findClass RF = some m.cls := findClass_of_methodNamed B.named
  have hlocks := B.notSynchronized
  have hS : va_S (fun _ => False) s.heap s.heap [] := va_S.rf
  have hl := lv_entry ([.int a1]) (n := 1) (Nat.le_of_ble_eq_true rfl)
  rw [lg_entry_eq]
  generalize (lg_sl ([.int a1]) ++ List.replicate (1 - (lg_sl ([.int a1])).length) Slot.unset).toArray = ls at hl ⊢
  have hl : lv_has ls 1 [(0, .int a1)] := hl
  refine lv_iload_n hx hb dF_signMask_0 rfl (lv_at hl 0 rfl) ?_
  refine kk_call0 (va_runS (As := [.int a1]) (rest := []) ⟨hx, hb, hml, hown, hts⟩ (c_F_firstByte l a1) (va_cwS 1 hts (gS tw_59 tw_60 tw_1 tw_61) rfl rfl rfl (by decide +kernel) ⟨Nat.le_of_ble_eq_true rfl, Nat.le_of_ble_eq_true rfl⟩) ⟨fun _ _ _ _ q => q, fun _ _ _ => ⟨rfl, trivial⟩⟩ rfl rfl hl.1 rfl (lv_room (Nat.le_of_ble_eq_true rfl)) dF_signMask_1 ⟨Nat.le_of_ble_eq_true rfl, Nat.le_of_ble_eq_true rfl⟩) hS (fun H locs hS => ?_)
  refine lv_if_ne (tgt := 12) hx hb dF_signMask_4 (by decide) (fun c_1 => ?_) (fun c_1 => ?_)
  · refine lv_iconst (v := (0 : Int32)) hx hb dF_signMask_12 (by decide) ?_
    exact W.iret (v := (0 : Int32)) hx hb hr (fun t ht hW => ⟨⟨(0 : Int32), (), rfl, (by unfold f_F_signMask; rw [if_neg c_1]), trivial⟩, hS.F ht⟩) hS.2.2 dF_signMask_13
  · refine lv_ldc (v := (1073741824 : Int32)) hx hb hown (hts _ tw_31) dF_signMask_7 ?_
    refine lv_goto (tgt := 13) hx hb dF_signMask_9 (by decide) ?_
    exact W.iret (v := (1073741824 : Int32)) hx hb hr (fun t ht hW => ⟨⟨(1073741824 : Int32), (), rfl, (by unfold f_F_signMask; rw [if_pos c_1]), trivial⟩, hS.F ht⟩) hS.2.2 dF_signMask_13

set_option maxHeartbeats 4000000 in
set_option maxRecDepth 100000 in
theorem c_F_fieldOf (l : Launch) (a1 a2 : Int32) : Met l yF_fieldOf wsF_fieldOf ({ frames := 2, cells := 0, slots := 0, locals := 41 }) (va_Pc [.int a1, .int a2] (fun _ => True)) (va_Qi (fun (r : Int32) (_ : Unit) => r = f_F_fieldOf a1 a2) (fun _ _ => True) (fun _ => False)) 0 0 (fun _ => False) := by
  refine Met.ofW (cc := prog_1_method_20_code) (maxL := 3) (ret := (some .int)) (by decide) rfl ?_
  intro p e s m args below meth c s₁ B hml hv
  obtain ⟨rfl, -⟩ := hv
  have hx := B.exec
  have hb := B.bytes
  have hr := B.returns
  have hts := fun (w : Cond) (h : w ∈ gw) => atoms_spec (ws := wsF_fieldOf) B.pre w (List.mem_cons_of_mem _ h)
  have hown : s.vm.findClass RF = some m.cls := findClass_of_methodNamed B.named
  have hlocks := B.notSynchronized
  have hS : va_S (fun _ => False) s.heap s.heap [] := va_S.rf
  have hl := lv_entry ([.int a1, .int a2]) (n := 3) (Nat.le_of_ble_eq_true rfl)
  rw [lg_entry_eq]
  generalize (lg_sl ([.int a1, .int a2]) ++ List.replicate (3 - (lg_sl ([.int a1, .int a2])).length) Slot.unset).toArray = ls at hl ⊢
  have hl : lv_has ls 3 [(0, .int a1), (1, .int a2)] := hl
  refine lv_iload_n hx hb dF_fieldOf_0 rfl (lv_at hl 0 rfl) ?_
  refine lv_iload_n hx hb dF_fieldOf_1 rfl (lv_at hl 1 rfl) ?_
  refine kk_call0 (va_runS (As := [.int a2]) (rest := [.int a1]) ⟨hx, hb, hml, hown, hts⟩ (c_F_lastByte l a2) (va_cwS 1 hts (gS tw_62 tw_63 tw_1 tw_64) rfl rfl rfl (by decide +kernel) ⟨Nat.le_of_ble_eq_true rfl, Nat.le_of_ble_eq_true rfl⟩) ⟨fun _ _ _ _ q => q, fun _ _ _ => ⟨rfl, trivial⟩⟩ rfl rfl hl.1 rfl (lv_room (Nat.le_of_ble_eq_true rfl)) dF_fieldOf_2 ⟨Nat.le_of_ble_eq_true rfl, Nat.le_of_ble_eq_true rfl⟩) hS (fun H locs hS => ?_)
  refine kk_call0 (va_runS (As := [.int (f_F_lastByte a2)]) (rest := [.int a1]) ⟨hx, hb, hml, hown, hts⟩ (c_F_bitsRightOf l (f_F_lastByte a2)) (va_cwS 1 hts (gS tw_48 tw_49 tw_1 tw_50) rfl rfl rfl (by decide +kernel) ⟨Nat.le_of_ble_eq_true rfl, Nat.le_of_ble_eq_true rfl⟩) ⟨fun _ _ _ _ q => q, fun _ _ _ => ⟨rfl, trivial⟩⟩ rfl rfl hl.1 rfl (lv_room (Nat.le_of_ble_eq_true rfl)) dF_fieldOf_5 ⟨Nat.le_of_ble_eq_true rfl, Nat.le_of_ble_eq_true rfl⟩) hS (fun H locs hS => ?_)
  refine lv_ishr hx hb dF_fieldOf_8 ?_
  refine lv_iload_n hx hb dF_fieldOf_9 rfl (lv_at hl 1 rfl) ?_
  refine kk_call0 (va_runS (As := [.int a2]) (rest := [.int (a1 >>> ((f_F_bitsRightOf (f_F_lastByte a2)) &&& 31))]) ⟨hx, hb, hml, hown, hts⟩ (c_F_rightMask l a2) (va_cwS 1 hts (gS tw_68 tw_69 tw_1 tw_70) rfl rfl rfl (by decide +kernel) ⟨Nat.le_of_ble_eq_true rfl, Nat.le_of_ble_eq_true rfl⟩) ⟨fun _ _ _ _ q => q, fun _ _ _ => ⟨rfl, trivial⟩⟩ rfl rfl hl.1 rfl (lv_room (Nat.le_of_ble_eq_true rfl)) dF_fieldOf_10 ⟨Nat.le_of_ble_eq_true rfl, Nat.le_of_ble_eq_true rfl⟩) hS (fun H locs hS => ?_)
  refine lv_iand hx hb dF_fieldOf_13 ?_
  refine lv_topi (fun x_1 ex_1 => ?_)
  refine lv_istore_n (lv' := [(2, .int x_1), (0, .int a1), (1, .int a2)]) hx hb dF_fieldOf_14 rfl hl (by decide) rfl (fun ls hl => ?_)
  refine lv_iload_n hx hb dF_fieldOf_15 rfl (lv_at hl 0 rfl) ?_
  refine lv_iload_n hx hb dF_fieldOf_16 rfl (lv_at hl 1 rfl) ?_
  refine lv_iload_n hx hb dF_fieldOf_17 rfl (lv_at hl 2 rfl) ?_
  refine kk_call0 (va_runS (As := [.int a2]) (rest := [.int a1, .int x_1]) ⟨hx, hb, hml, hown, hts⟩ (c_F_signMask l a2) (va_cwS 1 hts (gS tw_74 tw_75 tw_1 tw_76) rfl rfl rfl (by decide +kernel) ⟨Nat.le_of_ble_eq_true rfl, Nat.le_of_ble_eq_true rfl⟩) ⟨fun _ _ _ _ q => q, fun _ _ _ => ⟨rfl, trivial⟩⟩ rfl rfl hl.1 rfl (lv_room (Nat.le_of_ble_eq_true rfl)) dF_fieldOf_18 ⟨Nat.le_of_ble_eq_true rfl, Nat.le_of_ble_eq_true rfl⟩) hS (fun H locs hS => ?_)
  refine lv_iand hx hb dF_fieldOf_21 ?_
  refine lv_ior hx hb dF_fieldOf_22 ?_
  exact W.iret (v := (x_1 ||| (a1 &&& (f_F_signMask a2)))) hx hb hr (fun t ht hW => ⟨⟨(x_1 ||| (a1 &&& (f_F_signMask a2))), (), rfl, (by subst ex_1; rfl), trivial⟩, hS.F ht⟩) hS.2.2 dF_fieldOf_23

set_option maxHeartbeats 4000000 in
set_option maxRecDepth 100000 in
theorem c_F_greatLetter (l : Launch) (a1 : Int32) : Met l yF_greatLetter wsF_greatLetter ({ frames := 0, cells := 0, slots := 0, locals := 0 }) (va_Pc [.int a1] (fun _ => True)) (va_Qi (fun (r : Int32) (_ : Unit) => r = f_F_greatLetter a1) (fun _ _ => True) (fun _ => False)) 0 0 (fun _ => False) := by
  refine Met.ofW (cc := prog_1_method_21_code) (maxL := 1) (ret := (some .int)) (by decide) rfl ?_
  intro p e s m args below meth c s₁ B hml hv
  obtain ⟨rfl, -⟩ := hv
  have hx := B.exec
  have hb := B.bytes
  have hr := B.returns
  have hts := fun (w : Cond) (h : w ∈ gw) => atoms_spec (ws := wsF_greatLetter) B.pre w (List.mem_cons_of_mem _ h)
  have hown : s.vm.findClass RF = some m.cls := findClass_of_methodNamed B.named
  have hlocks := B.notSynchronized
  have hS : va_S (fun _ => False) s.heap s.heap [] := va_S.rf
  have hl := lv_entry ([.int a1]) (n := 1) (Nat.le_of_ble_eq_true rfl)
  rw [lg_entry_eq]
  generalize (lg_sl ([.int a1]) ++ List.replicate (1 - (lg_sl ([.int a1])).length) Slot.unset).toArray = ls at hl ⊢
  have hl : lv_has ls 1 [(0, .int a1)] := hl
  refine lv_iload_n hx hb dF_greatLetter_0 rfl (lv_at hl 0 rfl) ?_
  refine lv_bipush (v := (97 : Int32)) hx hb dF_greatLetter_1 (by decide) ?_
  refine lv_icmp_lt (tgt := 22) hx hb dF_greatLetter_3 (by decide) (fun c_1 => ?_) (fun c_1 => ?_)
  · refine lv_iload_n hx hb dF_greatLetter_22 rfl (lv_at hl 0 rfl) ?_
    exact W.iret (v := a1) hx hb hr (fun t ht hW => ⟨⟨a1, (), rfl, (by unfold f_F_greatLetter; rw [if_pos c_1]), trivial⟩, hS.F ht⟩) hS.2.2 dF_greatLetter_23
  · refine lv_iload_n hx hb dF_greatLetter_6 rfl (lv_at hl 0 rfl) ?_
    refine lv_bipush (v := (122 : Int32)) hx hb dF_greatLetter_7 (by decide) ?_
    refine lv_icmp_gt (tgt := 22) hx hb dF_greatLetter_9 (by decide) (fun c_2 => ?_) (fun c_2 => ?_)
    · refine lv_iload_n hx hb dF_greatLetter_22 rfl (lv_at hl 0 rfl) ?_
      exact W.iret (v := a1) hx hb hr (fun t ht hW => ⟨⟨a1, (), rfl, (by unfold f_F_greatLetter; rw [if_neg c_1, if_pos c_2]), trivial⟩, hS.F ht⟩) hS.2.2 dF_greatLetter_23
    · refine lv_iload_n hx hb dF_greatLetter_12 rfl (lv_at hl 0 rfl) ?_
      refine lv_bipush (v := (97 : Int32)) hx hb dF_greatLetter_13 (by decide) ?_
      refine lv_isub hx hb dF_greatLetter_15 ?_
      refine lv_bipush (v := (65 : Int32)) hx hb dF_greatLetter_16 (by decide) ?_
      refine lv_iadd hx hb dF_greatLetter_18 ?_
      refine lv_goto (tgt := 23) hx hb dF_greatLetter_19 (by decide) ?_
      exact W.iret (v := ((a1 - (97 : Int32)) + (65 : Int32))) hx hb hr (fun t ht hW => ⟨⟨((a1 - (97 : Int32)) + (65 : Int32)), (), rfl, (by unfold f_F_greatLetter; rw [if_neg c_1, if_neg c_2]), trivial⟩, hS.F ht⟩) hS.2.2 dF_greatLetter_23

set_option maxHeartbeats 4000000 in
set_option maxRecDepth 100000 in
theorem c_F_isField (l : Launch) (h0 : Nat) (a1 : Int32) : Met l yF_isField wsF_isField ({ frames := 1, cells := 0, slots := 0, locals := 20 }) (va_Pc [.ref h0, .int a1] (fun _ => True)) (va_Qi (fun (r : Int32) (_ : Unit) => r = f_F_isField a1) (fun _ _ => True) (fun _ => False)) 0 0 (fun _ => False) := by
  refine Met.ofW (cc := prog_1_method_9_code) (maxL := 2) (ret := (some .boolean)) (by decide) rfl ?_
  intro p e s m args below meth c s₁ B hml hv
  obtain ⟨rfl, -⟩ := hv
  have hx := B.exec
  have hb := B.bytes
  have hr := B.returns
  have hts := fun (w : Cond) (h : w ∈ gw) => atoms_spec (ws := wsF_isField) B.pre w (List.mem_cons_of_mem _ h)
  have hown : s.vm.findClass RF = some m.cls := findClass_of_methodNamed B.named
  have hlocks := B.notSynchronized
  have hS : va_S (fun _ => False) s.heap s.heap [] := va_S.rf
  have hl := lv_entry ([.ref h0, .int a1]) (n := 2) (Nat.le_of_ble_eq_true rfl)
  rw [lg_entry_eq]
  generalize (lg_sl ([.ref h0, .int a1]) ++ List.replicate (2 - (lg_sl ([.ref h0, .int a1])).length) Slot.unset).toArray = ls at hl ⊢
  have hl : lv_has ls 2 [(0, .ref h0), (1, .int a1)] := hl
  refine lv_iload_n hx hb dF_isField_0 rfl (lv_at hl 1 rfl) ?_
  refine lv_if_lt (tgt := 27) hx hb dF_isField_1 (by decide) (fun c_1 => ?_) (fun c_1 => ?_)
  · refine lv_iconst (v := (0 : Int32)) hx hb dF_isField_27 (by decide) ?_
    exact W.zret (v := (0 : Int32)) hx hb hr (by decide) (fun t ht hW => ⟨⟨(0 : Int32), (), rfl, (by unfold f_F_isField; rw [if_pos c_1]), trivial⟩, hS.F ht⟩) hS.2.2 dF_isField_28
  · refine lv_iload_n hx hb dF_isField_4 rfl (lv_at hl 1 rfl) ?_
    refine kk_call0 (va_runS (As := [.int a1]) (rest := []) ⟨hx, hb, hml, hown, hts⟩ (c_F_firstByte l a1) (va_cwS 1 hts (gS tw_59 tw_60 tw_1 tw_61) rfl rfl rfl (by decide +kernel) ⟨Nat.le_of_ble_eq_true rfl, Nat.le_of_ble_eq_true rfl⟩) ⟨fun _ _ _ _ q => q, fun _ _ _ => ⟨rfl, trivial⟩⟩ rfl rfl hl.1 rfl (lv_room (Nat.le_of_ble_eq_true rfl)) dF_isField_5 ⟨Nat.le_of_ble_eq_true rfl, Nat.le_of_ble_eq_true rfl⟩) hS (fun H locs hS => ?_)
    refine lv_iload_n hx hb dF_isField_8 rfl (lv_at hl 1 rfl) ?_
    refine kk_call0 (va_runS (As := [.int a1]) (rest := [.int (f_F_firstByte a1)]) ⟨hx, hb, hml, hown, hts⟩ (c_F_lastByte l a1) (va_cwS 1 hts (gS tw_62 tw_63 tw_1 tw_64) rfl rfl rfl (by decide +kernel) ⟨Nat.le_of_ble_eq_true rfl, Nat.le_of_ble_eq_true rfl⟩) ⟨fun _ _ _ _ q => q, fun _ _ _ => ⟨rfl, trivial⟩⟩ rfl rfl hl.1 rfl (lv_room (Nat.le_of_ble_eq_true rfl)) dF_isField_9 ⟨Nat.le_of_ble_eq_true rfl, Nat.le_of_ble_eq_true rfl⟩) hS (fun H locs hS => ?_)
    refine lv_icmp_gt (tgt := 27) hx hb dF_isField_12 (by decide) (fun c_2 => ?_) (fun c_2 => ?_)
    · refine lv_iconst (v := (0 : Int32)) hx hb dF_isField_27 (by decide) ?_
      exact W.zret (v := (0 : Int32)) hx hb hr (by decide) (fun t ht hW => ⟨⟨(0 : Int32), (), rfl, (by unfold f_F_isField; rw [if_neg c_1, if_pos c_2]), trivial⟩, hS.F ht⟩) hS.2.2 dF_isField_28
    · refine lv_iload_n hx hb dF_isField_15 rfl (lv_at hl 1 rfl) ?_
      refine kk_call0 (va_runS (As := [.int a1]) (rest := []) ⟨hx, hb, hml, hown, hts⟩ (c_F_lastByte l a1) (va_cwS 1 hts (gS tw_62 tw_63 tw_1 tw_64) rfl rfl rfl (by decide +kernel) ⟨Nat.le_of_ble_eq_true rfl, Nat.le_of_ble_eq_true rfl⟩) ⟨fun _ _ _ _ q => q, fun _ _ _ => ⟨rfl, trivial⟩⟩ rfl rfl hl.1 rfl (lv_room (Nat.le_of_ble_eq_true rfl)) dF_isField_16 ⟨Nat.le_of_ble_eq_true rfl, Nat.le_of_ble_eq_true rfl⟩) hS (fun H locs hS => ?_)
      refine lv_iconst (v := (5 : Int32)) hx hb dF_isField_19 (by decide) ?_
      refine lv_icmp_gt (tgt := 27) hx hb dF_isField_20 (by decide) (fun c_3 => ?_) (fun c_3 => ?_)
      · refine lv_iconst (v := (0 : Int32)) hx hb dF_isField_27 (by decide) ?_
        exact W.zret (v := (0 : Int32)) hx hb hr (by decide) (fun t ht hW => ⟨⟨(0 : Int32), (), rfl, (by unfold f_F_isField; rw [if_neg c_1, if_neg c_2, if_pos c_3]), trivial⟩, hS.F ht⟩) hS.2.2 dF_isField_28
      · refine lv_iconst (v := (1 : Int32)) hx hb dF_isField_23 (by decide) ?_
        refine lv_goto (tgt := 28) hx hb dF_isField_24 (by decide) ?_
        exact W.zret (v := (1 : Int32)) hx hb hr (by decide) (fun t ht hW => ⟨⟨(1 : Int32), (), rfl, (by unfold f_F_isField; rw [if_neg c_1, if_neg c_2, if_neg c_3]), trivial⟩, hS.F ht⟩) hS.2.2 dF_isField_28
end
