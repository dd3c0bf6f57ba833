-- ===== PART A: goes FIRST, ahead of the names: the tables' words, and 'selects' of the private methods out of them =====
/-- a private method of a class that the tables say can be made, by its rows of tables_1 -/
def lw_okq (q : MethodName × Nat) : Prop := (q.1.cls ≠ "java/lang/invoke/MethodHandle" ∧ q.1.cls ≠ "java/lang/invoke/VarHandle") ∧ Cond.instantiable q.1.cls q.2 ∈ tables_1 ∧ Cond.privateMethod q.1 ∈ tables_1 ∧ Cond.instanceMethod q.1 ∈ tables_1
theorem lw_p0 : lw_okq (⟨"PackageRows2$Coming", "faultOfLine", "(I)I"⟩, 4) := ⟨⟨by decide +kernel, by decide +kernel⟩, List.mem_of_getElem? (i := 44) (by decide +kernel), List.mem_of_getElem? (i := 255) (by decide +kernel), List.mem_of_getElem? (i := 256) (by decide +kernel)⟩
theorem lw_p1 : lw_okq (⟨"PackageRows2$Coming", "firstLine", "(LPackageRows2$Row;)I"⟩, 4) := ⟨⟨by decide +kernel, by decide +kernel⟩, List.mem_of_getElem? (i := 44) (by decide +kernel), List.mem_of_getElem? (i := 259) (by decide +kernel), List.mem_of_getElem? (i := 260) (by decide +kernel)⟩
theorem lw_p2 : lw_okq (⟨"PackageRows2$Coming", "firstFile", "(LPackageRows2$Row;)I"⟩, 4) := ⟨⟨by decide +kernel, by decide +kernel⟩, List.mem_of_getElem? (i := 44) (by decide +kernel), List.mem_of_getElem? (i := 271) (by decide +kernel), List.mem_of_getElem? (i := 272) (by decide +kernel)⟩
theorem lw_p3 : lw_okq (⟨"PackageRows2$Coming", "faultOfFile", "(I)I"⟩, 4) := ⟨⟨by decide +kernel, by decide +kernel⟩, List.mem_of_getElem? (i := 44) (by decide +kernel), List.mem_of_getElem? (i := 280) (by decide +kernel), List.mem_of_getElem? (i := 281) (by decide +kernel)⟩
theorem lw_p4 : lw_okq (⟨"PackageRows2", "versionOrNull", "(I)LPackageRows2$Version;"⟩, 7) := ⟨⟨by decide +kernel, by decide +kernel⟩, List.mem_of_getElem? (i := 19) (by decide +kernel), List.mem_of_getElem? (i := 296) (by decide +kernel), List.mem_of_getElem? (i := 297) (by decide +kernel)⟩
theorem lw_p5 : lw_okq (⟨"PackageRows2", "entryOrNull", "(II)LPackageRows2$Entry;"⟩, 7) := ⟨⟨by decide +kernel, by decide +kernel⟩, List.mem_of_getElem? (i := 19) (by decide +kernel), List.mem_of_getElem? (i := 363) (by decide +kernel), List.mem_of_getElem? (i := 364) (by decide +kernel)⟩
theorem lw_p6 : lw_okq (⟨"java/lang/Throwable", "fillInStackTrace", "(I)Ljava/lang/Throwable;"⟩, 6) := ⟨⟨by decide +kernel, by decide +kernel⟩, List.mem_of_getElem? (i := 482) (by decide +kernel), List.mem_of_getElem? (i := 480) (by decide +kernel), List.mem_of_getElem? (i := 481) (by decide +kernel)⟩
theorem lw_p7 : lw_okq (⟨"PackageRows2Model", "isPath", "()Z"⟩, 25) := ⟨⟨by decide +kernel, by decide +kernel⟩, List.mem_of_getElem? (i := 545) (by decide +kernel), List.mem_of_getElem? (i := 640) (by decide +kernel), List.mem_of_getElem? (i := 641) (by decide +kernel)⟩
theorem lw_p8 : lw_okq (⟨"PackageRows2Model", "lay", "(I)V"⟩, 25) := ⟨⟨by decide +kernel, by decide +kernel⟩, List.mem_of_getElem? (i := 545) (by decide +kernel), List.mem_of_getElem? (i := 650) (by decide +kernel), List.mem_of_getElem? (i := 651) (by decide +kernel)⟩
theorem lw_p9 : lw_okq (⟨"PackageRows2Model", "lineFault", "(I)I"⟩, 25) := ⟨⟨by decide +kernel, by decide +kernel⟩, List.mem_of_getElem? (i := 545) (by decide +kernel), List.mem_of_getElem? (i := 667) (by decide +kernel), List.mem_of_getElem? (i := 668) (by decide +kernel)⟩
theorem lw_p10 : lw_okq (⟨"PackageRows2Model", "first", "(III)I"⟩, 25) := ⟨⟨by decide +kernel, by decide +kernel⟩, List.mem_of_getElem? (i := 545) (by decide +kernel), List.mem_of_getElem? (i := 671) (by decide +kernel), List.mem_of_getElem? (i := 672) (by decide +kernel)⟩
theorem lw_p11 : lw_okq (⟨"PackageRows2Model", "order", "(II)I"⟩, 25) := ⟨⟨by decide +kernel, by decide +kernel⟩, List.mem_of_getElem? (i := 545) (by decide +kernel), List.mem_of_getElem? (i := 675) (by decide +kernel), List.mem_of_getElem? (i := 676) (by decide +kernel)⟩
theorem lw_p12 : lw_okq (⟨"PackageRows2Model", "sumOf", "(I)I"⟩, 25) := ⟨⟨by decide +kernel, by decide +kernel⟩, List.mem_of_getElem? (i := 545) (by decide +kernel), List.mem_of_getElem? (i := 679) (by decide +kernel), List.mem_of_getElem? (i := 680) (by decide +kernel)⟩
theorem lw_p13 : lw_okq (⟨"PackageRows2Model", "blame", "(II)V"⟩, 25) := ⟨⟨by decide +kernel, by decide +kernel⟩, List.mem_of_getElem? (i := 545) (by decide +kernel), List.mem_of_getElem? (i := 683) (by decide +kernel), List.mem_of_getElem? (i := 684) (by decide +kernel)⟩
theorem lw_p14 : lw_okq (⟨"PackageRows2Model", "fileFault", "(I)I"⟩, 25) := ⟨⟨by decide +kernel, by decide +kernel⟩, List.mem_of_getElem? (i := 545) (by decide +kernel), List.mem_of_getElem? (i := 687) (by decide +kernel), List.mem_of_getElem? (i := 688) (by decide +kernel)⟩
theorem lw_p15 : lw_okq (⟨"PackageRows2Model", "copy", "(II)V"⟩, 25) := ⟨⟨by decide +kernel, by decide +kernel⟩, List.mem_of_getElem? (i := 545) (by decide +kernel), List.mem_of_getElem? (i := 700) (by decide +kernel), List.mem_of_getElem? (i := 701) (by decide +kernel)⟩
def lw_privs_1 : List (MethodName × Nat) := [(⟨"PackageRows2$Coming", "faultOfLine", "(I)I"⟩, 4), (⟨"PackageRows2$Coming", "firstLine", "(LPackageRows2$Row;)I"⟩, 4), (⟨"PackageRows2$Coming", "firstFile", "(LPackageRows2$Row;)I"⟩, 4), (⟨"PackageRows2$Coming", "faultOfFile", "(I)I"⟩, 4), (⟨"PackageRows2", "versionOrNull", "(I)LPackageRows2$Version;"⟩, 7), (⟨"PackageRows2", "entryOrNull", "(II)LPackageRows2$Entry;"⟩, 7), (⟨"java/lang/Throwable", "fillInStackTrace", "(I)Ljava/lang/Throwable;"⟩, 6), (⟨"PackageRows2Model", "isPath", "()Z"⟩, 25), (⟨"PackageRows2Model", "lay", "(I)V"⟩, 25), (⟨"PackageRows2Model", "lineFault", "(I)I"⟩, 25), (⟨"PackageRows2Model", "first", "(III)I"⟩, 25), (⟨"PackageRows2Model", "order", "(II)I"⟩, 25), (⟨"PackageRows2Model", "sumOf", "(I)I"⟩, 25), (⟨"PackageRows2Model", "blame", "(II)V"⟩, 25), (⟨"PackageRows2Model", "fileFault", "(I)I"⟩, 25), (⟨"PackageRows2Model", "copy", "(II)V"⟩, 25)]
theorem lw_r1 : ∀ q ∈ lw_privs_1, lw_okq q := List.forall_mem_cons.mpr ⟨lw_p0, List.forall_mem_cons.mpr ⟨lw_p1, List.forall_mem_cons.mpr ⟨lw_p2, List.forall_mem_cons.mpr ⟨lw_p3, List.forall_mem_cons.mpr ⟨lw_p4, List.forall_mem_cons.mpr ⟨lw_p5, List.forall_mem_cons.mpr ⟨lw_p6, List.forall_mem_cons.mpr ⟨lw_p7, List.forall_mem_cons.mpr ⟨lw_p8, List.forall_mem_cons.mpr ⟨lw_p9, List.forall_mem_cons.mpr ⟨lw_p10, List.forall_mem_cons.mpr ⟨lw_p11, List.forall_mem_cons.mpr ⟨lw_p12, List.forall_mem_cons.mpr ⟨lw_p13, List.forall_mem_cons.mpr ⟨lw_p14, List.forall_mem_cons.mpr ⟨lw_p15, fun _ h => absurd h List.not_mem_nil⟩⟩⟩⟩⟩⟩⟩⟩⟩⟩⟩⟩⟩⟩⟩⟩
theorem lw_p16 : lw_okq (⟨"PackageRows2Model", "alike", "(II)Z"⟩, 25) := ⟨⟨by decide +kernel, by decide +kernel⟩, List.mem_of_getElem? (i := 545) (by decide +kernel), List.mem_of_getElem? (i := 704) (by decide +kernel), List.mem_of_getElem? (i := 705) (by decide +kernel)⟩
theorem lw_p17 : lw_okq (⟨"PackageRows2Model", "isVersion", "(I)Z"⟩, 25) := ⟨⟨by decide +kernel, by decide +kernel⟩, List.mem_of_getElem? (i := 545) (by decide +kernel), List.mem_of_getElem? (i := 716) (by decide +kernel), List.mem_of_getElem? (i := 717) (by decide +kernel)⟩
theorem lw_p18 : lw_okq (⟨"PackageRows2Model", "isFile", "(II)Z"⟩, 25) := ⟨⟨by decide +kernel, by decide +kernel⟩, List.mem_of_getElem? (i := 545) (by decide +kernel), List.mem_of_getElem? (i := 724) (by decide +kernel), List.mem_of_getElem? (i := 725) (by decide +kernel)⟩
theorem lw_p19 : lw_okq (⟨"PackageRows2Model", "lacking", "(Z)I"⟩, 25) := ⟨⟨by decide +kernel, by decide +kernel⟩, List.mem_of_getElem? (i := 545) (by decide +kernel), List.mem_of_getElem? (i := 752) (by decide +kernel), List.mem_of_getElem? (i := 753) (by decide +kernel)⟩
def lw_privs_2 : List (MethodName × Nat) := [(⟨"PackageRows2Model", "alike", "(II)Z"⟩, 25), (⟨"PackageRows2Model", "isVersion", "(I)Z"⟩, 25), (⟨"PackageRows2Model", "isFile", "(II)Z"⟩, 25), (⟨"PackageRows2Model", "lacking", "(Z)I"⟩, 25)]
theorem lw_r2 : ∀ q ∈ lw_privs_2, lw_okq q := List.forall_mem_cons.mpr ⟨lw_p16, List.forall_mem_cons.mpr ⟨lw_p17, List.forall_mem_cons.mpr ⟨lw_p18, List.forall_mem_cons.mpr ⟨lw_p19, fun _ h => absurd h List.not_mem_nil⟩⟩⟩⟩
def lw_privs : List (MethodName × Nat) := lw_privs_1 ++ (lw_privs_2)
def lw_tbl : List Cond := k2_sels lw_privs ++ tables_1
theorem lw_privs_ok : ∀ q ∈ lw_privs, lw_okq q := by
  show ∀ q ∈ lw_privs_1 ++ (lw_privs_2), lw_okq q
  exact List.forall_mem_append.mpr ⟨lw_r1, lw_r2⟩
-- ===== end of PART A; then your names; then what follows =====
def RX0 : String := "PackageRows2$Coming"
def TX0 : u_T := fun k => match k with
  | 0 => ("PackageRows2$Coming", "entries", "[LPackageRows2$Entry;", true)
  | 1 => ("PackageRows2$Coming", "entryCount", "I", false)
  | 2 => ("PackageRows2$Coming", "lines", "[LPackageRows2$Line;", true)
  | _ => ("PackageRows2$Coming", "lineCount", "I", false)
def tyX0 : Nat → FieldType := fun k => match k with
  | 0 => .array (.object "PackageRows2$Entry")
  | 1 => .int
  | 2 => .array (.object "PackageRows2$Line")
  | _ => .int
abbrev wsX00 : List Cond := u_ws RX0 TX0 4
theorem nmX0 : ∀ a, a < 4 → ∀ b, b < 4 → a ≠ b → (TX0 a).2.1 ≠ (TX0 b).2.1 := by decide +kernel
theorem tyX0_ok : ∀ k, k < 4 → parseFieldDescriptor (TX0 k).2.2.1 = some (tyX0 k) := by decide +kernel
abbrev cX0_init : ByteArray := prog_2_method_1_code
def yX0_init : MethodName := ⟨RX0, "<init>", "()V"⟩
abbrev cX0_fileCount : ByteArray := prog_2_method_2_code
def yX0_fileCount : MethodName := ⟨RX0, "fileCount", "()I"⟩
abbrev cX0_lineCount : ByteArray := prog_2_method_3_code
def yX0_lineCount : MethodName := ⟨RX0, "lineCount", "()I"⟩
abbrev cX0_clear : ByteArray := prog_2_method_4_code
def yX0_clear : MethodName := ⟨RX0, "clear", "()V"⟩
abbrev cX0_takeFile : ByteArray := prog_2_method_5_code
def yX0_takeFile : MethodName := ⟨RX0, "takeFile", "(LPackageRows2$Row;LPackageRows2$Row;)I"⟩
abbrev cX0_takeLine : ByteArray := prog_2_method_6_code
def yX0_takeLine : MethodName := ⟨RX0, "takeLine", "(LPackageRows2$Row;II)I"⟩
abbrev cX0_tellFaults : ByteArray := prog_2_method_7_code
def yX0_tellFaults : MethodName := ⟨RX0, "tellFaults", "(LPackageRows2$Faults;)V"⟩
abbrev cX0_faultOfLine : ByteArray := prog_2_method_8_code
def yX0_faultOfLine : MethodName := ⟨RX0, "faultOfLine", "(I)I"⟩
abbrev cX0_faultOfFile : ByteArray := prog_2_method_9_code
def yX0_faultOfFile : MethodName := ⟨RX0, "faultOfFile", "(I)I"⟩
abbrev cX0_firstLine : ByteArray := prog_2_method_10_code
def yX0_firstLine : MethodName := ⟨RX0, "firstLine", "(LPackageRows2$Row;)I"⟩
abbrev cX0_firstFile : ByteArray := prog_2_method_11_code
def yX0_firstFile : MethodName := ⟨RX0, "firstFile", "(LPackageRows2$Row;)I"⟩
abbrev cX0_toVersion : ByteArray := prog_2_method_12_code
def yX0_toVersion : MethodName := ⟨RX0, "toVersion", "(ILPackageRows2$Version;)LPackageRows2$Version;"⟩
abbrev cX0_sharedOrNew : ByteArray := prog_2_method_13_code
def yX0_sharedOrNew : MethodName := ⟨RX0, "sharedOrNew", "(LPackageRows2$Entry;ILPackageRows2$Version;)LPackageRows2$Entry;"⟩
def RX1 : String := "PackageRows2$Entry"
def TX1 : u_T := fun k => match k with
  | 0 => ("PackageRows2$Entry", "name", "LPackageRows2$Row;", true)
  | 1 => ("PackageRows2$Entry", "bytes", "LPackageRows2$Row;", true)
  | 2 => ("PackageRows2$Entry", "sumOfAll", "I", true)
  | _ => ("PackageRows2$Entry", "firstVersion", "I", false)
def tyX1 : Nat → FieldType := fun k => match k with
  | 0 => .object "PackageRows2$Row"
  | 1 => .object "PackageRows2$Row"
  | 2 => .int
  | _ => .int
abbrev wsX10 : List Cond := u_ws RX1 TX1 4
theorem nmX1 : ∀ a, a < 4 → ∀ b, b < 4 → a ≠ b → (TX1 a).2.1 ≠ (TX1 b).2.1 := by decide +kernel
theorem tyX1_ok : ∀ k, k < 4 → parseFieldDescriptor (TX1 k).2.2.1 = some (tyX1 k) := by decide +kernel
abbrev cX1_init : ByteArray := prog_3_method_1_code
def yX1_init : MethodName := ⟨RX1, "<init>", "(LPackageRows2$Row;LPackageRows2$Row;)V"⟩
def RX2 : String := "PackageRows2$Faults"
def TX2 : u_T := fun k => match k with
  | 0 => ("PackageRows2$Faults", "kinds", "[I", true)
  | 1 => ("PackageRows2$Faults", "numbers", "[I", true)
  | _ => ("PackageRows2$Faults", "count", "I", false)
def tyX2 : Nat → FieldType := fun k => match k with
  | 0 => .array .int
  | 1 => .array .int
  | _ => .int
abbrev wsX20 : List Cond := u_ws RX2 TX2 3
theorem nmX2 : ∀ a, a < 3 → ∀ b, b < 3 → a ≠ b → (TX2 a).2.1 ≠ (TX2 b).2.1 := by decide +kernel
theorem tyX2_ok : ∀ k, k < 3 → parseFieldDescriptor (TX2 k).2.2.1 = some (tyX2 k) := by decide +kernel
abbrev cX2_init : ByteArray := prog_4_method_1_code
def yX2_init : MethodName := ⟨RX2, "<init>", "()V"⟩
abbrev cX2_clear : ByteArray := prog_4_method_2_code
def yX2_clear : MethodName := ⟨RX2, "clear", "()V"⟩
abbrev cX2_note : ByteArray := prog_4_method_3_code
def yX2_note : MethodName := ⟨RX2, "note", "(II)V"⟩
abbrev cX2_size : ByteArray := prog_4_method_4_code
def yX2_size : MethodName := ⟨RX2, "size", "()I"⟩
abbrev cX2_has : ByteArray := prog_4_method_5_code
def yX2_has : MethodName := ⟨RX2, "has", "(I)Z"⟩
abbrev cX2_kindOf : ByteArray := prog_4_method_6_code
def yX2_kindOf : MethodName := ⟨RX2, "kindOf", "(I)I"⟩
abbrev cX2_numberOf : ByteArray := prog_4_method_7_code
def yX2_numberOf : MethodName := ⟨RX2, "numberOf", "(I)I"⟩
def RX3 : String := "PackageRows2$Line"
def TX3 : u_T := fun k => match k with
  | 0 => ("PackageRows2$Line", "name", "LPackageRows2$Row;", true)
  | 1 => ("PackageRows2$Line", "toldSize", "I", true)
  | _ => ("PackageRows2$Line", "toldSum", "I", true)
def tyX3 : Nat → FieldType := fun k => match k with
  | 0 => .object "PackageRows2$Row"
  | 1 => .int
  | _ => .int
abbrev wsX30 : List Cond := u_ws RX3 TX3 3
theorem nmX3 : ∀ a, a < 3 → ∀ b, b < 3 → a ≠ b → (TX3 a).2.1 ≠ (TX3 b).2.1 := by decide +kernel
theorem tyX3_ok : ∀ k, k < 3 → parseFieldDescriptor (TX3 k).2.2.1 = some (tyX3 k) := by decide +kernel
abbrev cX3_init : ByteArray := prog_5_method_1_code
def yX3_init : MethodName := ⟨RX3, "<init>", "(LPackageRows2$Row;II)V"⟩
def RX4 : String := "PackageRows2$PathRules"
def TX4 : u_T := fun k => match k with
  | _ => ("", "", "", false)
def tyX4 : Nat → FieldType := fun k => match k with
  | _ => .int
abbrev wsX40 : List Cond := u_ws RX4 TX4 0
theorem nmX4 : ∀ a, a < 0 → ∀ b, b < 0 → a ≠ b → (TX4 a).2.1 ≠ (TX4 b).2.1 := by decide +kernel
theorem tyX4_ok : ∀ k, k < 0 → parseFieldDescriptor (TX4 k).2.2.1 = some (tyX4 k) := by decide +kernel
abbrev cX4_allow : ByteArray := prog_6_method_2_code
def yX4_allow : MethodName := ⟨RX4, "allow", "(LPackageRows2$Row;)Z"⟩
abbrev cX4_allowInPart : ByteArray := prog_6_method_3_code
def yX4_allowInPart : MethodName := ⟨RX4, "allowInPart", "(I)Z"⟩
abbrev cX4_allowPart : ByteArray := prog_6_method_4_code
def yX4_allowPart : MethodName := ⟨RX4, "allowPart", "(LPackageRows2$Row;II)Z"⟩
def RX5 : String := "PackageRows2$Row"
def TX5 : u_T := fun k => match k with
  | 0 => ("PackageRows2$Row", "cells", "[I", true)
  | _ => ("PackageRows2$Row", "count", "I", false)
def tyX5 : Nat → FieldType := fun k => match k with
  | 0 => .array .int
  | _ => .int
abbrev wsX50 : List Cond := u_ws RX5 TX5 2
theorem nmX5 : ∀ a, a < 2 → ∀ b, b < 2 → a ≠ b → (TX5 a).2.1 ≠ (TX5 b).2.1 := by decide +kernel
theorem tyX5_ok : ∀ k, k < 2 → parseFieldDescriptor (TX5 k).2.2.1 = some (tyX5 k) := by decide +kernel
abbrev cX5_init : ByteArray := prog_7_method_1_code
def yX5_init : MethodName := ⟨RX5, "<init>", "(I)V"⟩
abbrev cX5_append : ByteArray := prog_7_method_2_code
def yX5_append : MethodName := ⟨RX5, "append", "(I)V"⟩
abbrev cX5_clear : ByteArray := prog_7_method_3_code
def yX5_clear : MethodName := ⟨RX5, "clear", "()V"⟩
abbrev cX5_size : ByteArray := prog_7_method_4_code
def yX5_size : MethodName := ⟨RX5, "size", "()I"⟩
abbrev cX5_has : ByteArray := prog_7_method_5_code
def yX5_has : MethodName := ⟨RX5, "has", "(I)Z"⟩
abbrev cX5_cell : ByteArray := prog_7_method_6_code
def yX5_cell : MethodName := ⟨RX5, "cell", "(I)I"⟩
abbrev cX5_copy : ByteArray := prog_7_method_7_code
def yX5_copy : MethodName := ⟨RX5, "copy", "()LPackageRows2$Row;"⟩
abbrev cX5_sumOfBytes : ByteArray := prog_7_method_8_code
def yX5_sumOfBytes : MethodName := ⟨RX5, "sumOfBytes", "()I"⟩
abbrev cX5_order : ByteArray := prog_7_method_9_code
def yX5_order : MethodName := ⟨RX5, "order", "(LPackageRows2$Row;)I"⟩
abbrev cX5_alike : ByteArray := prog_7_method_10_code
def yX5_alike : MethodName := ⟨RX5, "alike", "(LPackageRows2$Row;)Z"⟩
def RX6 : String := "PackageRows2$Transfer"
def TX6 : u_T := fun k => match k with
  | 0 => ("PackageRows2$Transfer", "source", "LPackageRows2$Version;", false)
  | 1 => ("PackageRows2$Transfer", "came", "[Z", true)
  | 2 => ("PackageRows2$Transfer", "pieceCount", "I", false)
  | _ => ("PackageRows2$Transfer", "missingCount", "I", false)
def tyX6 : Nat → FieldType := fun k => match k with
  | 0 => .object "PackageRows2$Version"
  | 1 => .array .boolean
  | 2 => .int
  | _ => .int
abbrev wsX60 : List Cond := u_ws RX6 TX6 4
theorem nmX6 : ∀ a, a < 4 → ∀ b, b < 4 → a ≠ b → (TX6 a).2.1 ≠ (TX6 b).2.1 := by decide +kernel
theorem tyX6_ok : ∀ k, k < 4 → parseFieldDescriptor (TX6 k).2.2.1 = some (tyX6 k) := by decide +kernel
abbrev cX6_init : ByteArray := prog_8_method_1_code
def yX6_init : MethodName := ⟨RX6, "<init>", "()V"⟩
abbrev cX6_begin : ByteArray := prog_8_method_2_code
def yX6_begin : MethodName := ⟨RX6, "begin", "(LPackageRows2$Version;I)I"⟩
abbrev cX6_take : ByteArray := prog_8_method_3_code
def yX6_take : MethodName := ⟨RX6, "take", "(IZ)I"⟩
abbrev cX6_firstMissing : ByteArray := prog_8_method_4_code
def yX6_firstMissing : MethodName := ⟨RX6, "firstMissing", "()I"⟩
abbrev cX6_joinedByte : ByteArray := prog_8_method_5_code
def yX6_joinedByte : MethodName := ⟨RX6, "joinedByte", "(I)I"⟩
def RX7 : String := "PackageRows2$Version"
def TX7 : u_T := fun k => match k with
  | 0 => ("PackageRows2$Version", "entries", "[LPackageRows2$Entry;", true)
  | _ => ("PackageRows2$Version", "count", "I", false)
def tyX7 : Nat → FieldType := fun k => match k with
  | 0 => .array (.object "PackageRows2$Entry")
  | _ => .int
abbrev wsX70 : List Cond := u_ws RX7 TX7 2
theorem nmX7 : ∀ a, a < 2 → ∀ b, b < 2 → a ≠ b → (TX7 a).2.1 ≠ (TX7 b).2.1 := by decide +kernel
theorem tyX7_ok : ∀ k, k < 2 → parseFieldDescriptor (TX7 k).2.2.1 = some (tyX7 k) := by decide +kernel
abbrev cX7_init : ByteArray := prog_9_method_1_code
def yX7_init : MethodName := ⟨RX7, "<init>", "()V"⟩
abbrev cX7_size : ByteArray := prog_9_method_2_code
def yX7_size : MethodName := ⟨RX7, "size", "()I"⟩
abbrev cX7_entryOrNull : ByteArray := prog_9_method_3_code
def yX7_entryOrNull : MethodName := ⟨RX7, "entryOrNull", "(I)LPackageRows2$Entry;"⟩
abbrev cX7_insert : ByteArray := prog_9_method_4_code
def yX7_insert : MethodName := ⟨RX7, "insert", "(LPackageRows2$Entry;)V"⟩
abbrev cX7_placeOf : ByteArray := prog_9_method_5_code
def yX7_placeOf : MethodName := ⟨RX7, "placeOf", "(LPackageRows2$Row;)I"⟩
abbrev cX7_entryOfPath : ByteArray := prog_9_method_6_code
def yX7_entryOfPath : MethodName := ⟨RX7, "entryOfPath", "(LPackageRows2$Row;)LPackageRows2$Entry;"⟩
abbrev cX7_countAlike : ByteArray := prog_9_method_7_code
def yX7_countAlike : MethodName := ⟨RX7, "countAlike", "(LPackageRows2$Version;)I"⟩
abbrev cX7_byteCount : ByteArray := prog_9_method_8_code
def yX7_byteCount : MethodName := ⟨RX7, "byteCount", "()I"⟩
abbrev cX7_byteInAll : ByteArray := prog_9_method_9_code
def yX7_byteInAll : MethodName := ⟨RX7, "byteInAll", "(I)I"⟩
def RX8 : String := "PackageRows2"
def TX8 : u_T := fun k => match k with
  | 0 => ("PackageRows2", "pathSigns", "LPackageRows2$Row;", true)
  | 1 => ("PackageRows2", "octets", "LPackageRows2$Row;", true)
  | 2 => ("PackageRows2", "coming", "LPackageRows2$Coming;", true)
  | 3 => ("PackageRows2", "faults", "LPackageRows2$Faults;", true)
  | 4 => ("PackageRows2", "versions", "[LPackageRows2$Version;", true)
  | 5 => ("PackageRows2", "versionCount", "I", false)
  | _ => ("PackageRows2", "transfer", "LPackageRows2$Transfer;", true)
def tyX8 : Nat → FieldType := fun k => match k with
  | 0 => .object "PackageRows2$Row"
  | 1 => .object "PackageRows2$Row"
  | 2 => .object "PackageRows2$Coming"
  | 3 => .object "PackageRows2$Faults"
  | 4 => .array (.object "PackageRows2$Version")
  | 5 => .int
  | _ => .object "PackageRows2$Transfer"
abbrev wsX80 : List Cond := u_ws RX8 TX8 7
theorem nmX8 : ∀ a, a < 7 → ∀ b, b < 7 → a ≠ b → (TX8 a).2.1 ≠ (TX8 b).2.1 := by decide +kernel
theorem tyX8_ok : ∀ k, k < 7 → parseFieldDescriptor (TX8 k).2.2.1 = some (tyX8 k) := by decide +kernel
abbrev cX8_init : ByteArray := prog_1_method_1_code
def yX8_init : MethodName := ⟨RX8, "<init>", "()V"⟩
abbrev cX8_path : ByteArray := prog_1_method_2_code
def yX8_path : MethodName := ⟨RX8, "path", "(I)V"⟩
abbrev cX8_octet : ByteArray := prog_1_method_3_code
def yX8_octet : MethodName := ⟨RX8, "octet", "(I)V"⟩
abbrev cX8_file : ByteArray := prog_1_method_4_code
def yX8_file : MethodName := ⟨RX8, "file", "()I"⟩
abbrev cX8_line : ByteArray := prog_1_method_5_code
def yX8_line : MethodName := ⟨RX8, "line", "(II)I"⟩
abbrev cX8_sum : ByteArray := prog_1_method_6_code
def yX8_sum : MethodName := ⟨RX8, "sum", "()I"⟩
abbrev cX8_check : ByteArray := prog_1_method_7_code
def yX8_check : MethodName := ⟨RX8, "check", "()I"⟩
abbrev cX8_fault : ByteArray := prog_1_method_8_code
def yX8_fault : MethodName := ⟨RX8, "fault", "(II)I"⟩
abbrev cX8_accept : ByteArray := prog_1_method_9_code
def yX8_accept : MethodName := ⟨RX8, "accept", "()I"⟩
abbrev cX8_drop : ByteArray := prog_1_method_10_code
def yX8_drop : MethodName := ⟨RX8, "drop", "()I"⟩
abbrev cX8_files : ByteArray := prog_1_method_11_code
def yX8_files : MethodName := ⟨RX8, "files", "(I)I"⟩
abbrev cX8_about : ByteArray := prog_1_method_12_code
def yX8_about : MethodName := ⟨RX8, "about", "(III)I"⟩
abbrev cX8_sign : ByteArray := prog_1_method_13_code
def yX8_sign : MethodName := ⟨RX8, "sign", "(III)I"⟩
abbrev cX8_at : ByteArray := prog_1_method_14_code
def yX8_at : MethodName := ⟨RX8, "at", "(III)I"⟩
abbrev cX8_find : ByteArray := prog_1_method_15_code
def yX8_find : MethodName := ⟨RX8, "find", "(I)I"⟩
abbrev cX8_same : ByteArray := prog_1_method_16_code
def yX8_same : MethodName := ⟨RX8, "same", "(II)I"⟩
abbrev cX8_split : ByteArray := prog_1_method_17_code
def yX8_split : MethodName := ⟨RX8, "split", "(II)I"⟩
abbrev cX8_piece : ByteArray := prog_1_method_18_code
def yX8_piece : MethodName := ⟨RX8, "piece", "(IZ)I"⟩
abbrev cX8_missing : ByteArray := prog_1_method_19_code
def yX8_missing : MethodName := ⟨RX8, "missing", "()I"⟩
abbrev cX8_joined : ByteArray := prog_1_method_20_code
def yX8_joined : MethodName := ⟨RX8, "joined", "(I)I"⟩
abbrev cX8_versionOrNull : ByteArray := prog_1_method_21_code
def yX8_versionOrNull : MethodName := ⟨RX8, "versionOrNull", "(I)LPackageRows2$Version;"⟩
abbrev cX8_entryOrNull : ByteArray := prog_1_method_22_code
def yX8_entryOrNull : MethodName := ⟨RX8, "entryOrNull", "(II)LPackageRows2$Entry;"⟩
def RX9 : String := "PackageRows2Model"
def TX9 : u_T := fun k => match k with
  | 0 => ("PackageRows2Model", "thrown", "I", false)
  | 1 => ("PackageRows2Model", "signs", "I", false)
  | 2 => ("PackageRows2Model", "path", "[B", true)
  | 3 => ("PackageRows2Model", "octets", "I", false)
  | 4 => ("PackageRows2Model", "bytes", "[B", true)
  | 5 => ("PackageRows2Model", "came", "I", false)
  | 6 => ("PackageRows2Model", "lines", "I", false)
  | 7 => ("PackageRows2Model", "pathSize", "[I", true)
  | 8 => ("PackageRows2Model", "paths", "[B", true)
  | 9 => ("PackageRows2Model", "size", "[I", true)
  | 10 => ("PackageRows2Model", "content", "[B", true)
  | 11 => ("PackageRows2Model", "lineSize", "[I", true)
  | 12 => ("PackageRows2Model", "lineSum", "[I", true)
  | 13 => ("PackageRows2Model", "versions", "I", false)
  | 14 => ("PackageRows2Model", "many", "[I", true)
  | 15 => ("PackageRows2Model", "shared", "[I", true)
  | 16 => ("PackageRows2Model", "faults", "I", false)
  | 17 => ("PackageRows2Model", "fault", "[I", true)
  | 18 => ("PackageRows2Model", "faultOf", "[I", true)
  | 19 => ("PackageRows2Model", "transfer", "Z", false)
  | 20 => ("PackageRows2Model", "total", "I", false)
  | 21 => ("PackageRows2Model", "pieceSize", "I", false)
  | 22 => ("PackageRows2Model", "pieces", "I", false)
  | 23 => ("PackageRows2Model", "here", "[Z", true)
  | _ => ("PackageRows2Model", "joined", "[B", true)
def tyX9 : Nat → FieldType := fun k => match k with
  | 0 => .int
  | 1 => .int
  | 2 => .array .byte
  | 3 => .int
  | 4 => .array .byte
  | 5 => .int
  | 6 => .int
  | 7 => .array .int
  | 8 => .array .byte
  | 9 => .array .int
  | 10 => .array .byte
  | 11 => .array .int
  | 12 => .array .int
  | 13 => .int
  | 14 => .array .int
  | 15 => .array .int
  | 16 => .int
  | 17 => .array .int
  | 18 => .array .int
  | 19 => .boolean
  | 20 => .int
  | 21 => .int
  | 22 => .int
  | 23 => .array .boolean
  | _ => .array .byte
abbrev wsX90 : List Cond := u_ws RX9 TX9 25
theorem nmX9 : ∀ a, a < 25 → ∀ b, b < 25 → a ≠ b → (TX9 a).2.1 ≠ (TX9 b).2.1 := by decide +kernel
theorem tyX9_ok : ∀ k, k < 25 → parseFieldDescriptor (TX9 k).2.2.1 = some (tyX9 k) := by decide +kernel
abbrev cX9_init : ByteArray := prog_11_method_1_code
def yX9_init : MethodName := ⟨RX9, "<init>", "()V"⟩
abbrev cX9_in : ByteArray := prog_11_method_3_code
def yX9_in : MethodName := ⟨RX9, "in", "(III)Z"⟩
abbrev cX9_path : ByteArray := prog_11_method_4_code
def yX9_path : MethodName := ⟨RX9, "path", "(I)V"⟩
abbrev cX9_octet : ByteArray := prog_11_method_5_code
def yX9_octet : MethodName := ⟨RX9, "octet", "(I)V"⟩
abbrev cX9_isSign : ByteArray := prog_11_method_6_code
def yX9_isSign : MethodName := ⟨RX9, "isSign", "(I)Z"⟩
abbrev cX9_isPath : ByteArray := prog_11_method_7_code
def yX9_isPath : MethodName := ⟨RX9, "isPath", "()Z"⟩
abbrev cX9_lay : ByteArray := prog_11_method_8_code
def yX9_lay : MethodName := ⟨RX9, "lay", "(I)V"⟩
abbrev cX9_file : ByteArray := prog_11_method_9_code
def yX9_file : MethodName := ⟨RX9, "file", "()I"⟩
abbrev cX9_line : ByteArray := prog_11_method_10_code
def yX9_line : MethodName := ⟨RX9, "line", "(II)I"⟩
abbrev cX9_sum : ByteArray := prog_11_method_11_code
def yX9_sum : MethodName := ⟨RX9, "sum", "()I"⟩
abbrev cX9_sumOf : ByteArray := prog_11_method_12_code
def yX9_sumOf : MethodName := ⟨RX9, "sumOf", "(I)I"⟩
abbrev cX9_order : ByteArray := prog_11_method_13_code
def yX9_order : MethodName := ⟨RX9, "order", "(II)I"⟩
abbrev cX9_first : ByteArray := prog_11_method_14_code
def yX9_first : MethodName := ⟨RX9, "first", "(III)I"⟩
abbrev cX9_lineFault : ByteArray := prog_11_method_15_code
def yX9_lineFault : MethodName := ⟨RX9, "lineFault", "(I)I"⟩
abbrev cX9_fileFault : ByteArray := prog_11_method_16_code
def yX9_fileFault : MethodName := ⟨RX9, "fileFault", "(I)I"⟩
abbrev cX9_check : ByteArray := prog_11_method_17_code
def yX9_check : MethodName := ⟨RX9, "check", "()I"⟩
abbrev cX9_blame : ByteArray := prog_11_method_18_code
def yX9_blame : MethodName := ⟨RX9, "blame", "(II)V"⟩
abbrev cX9_fault : ByteArray := prog_11_method_19_code
def yX9_fault : MethodName := ⟨RX9, "fault", "(II)I"⟩
abbrev cX9_copy : ByteArray := prog_11_method_20_code
def yX9_copy : MethodName := ⟨RX9, "copy", "(II)V"⟩
abbrev cX9_alike : ByteArray := prog_11_method_21_code
def yX9_alike : MethodName := ⟨RX9, "alike", "(II)Z"⟩
abbrev cX9_accept : ByteArray := prog_11_method_22_code
def yX9_accept : MethodName := ⟨RX9, "accept", "()I"⟩
abbrev cX9_drop : ByteArray := prog_11_method_23_code
def yX9_drop : MethodName := ⟨RX9, "drop", "()I"⟩
abbrev cX9_isVersion : ByteArray := prog_11_method_24_code
def yX9_isVersion : MethodName := ⟨RX9, "isVersion", "(I)Z"⟩
abbrev cX9_files : ByteArray := prog_11_method_25_code
def yX9_files : MethodName := ⟨RX9, "files", "(I)I"⟩
abbrev cX9_isFile : ByteArray := prog_11_method_26_code
def yX9_isFile : MethodName := ⟨RX9, "isFile", "(II)Z"⟩
abbrev cX9_about : ByteArray := prog_11_method_27_code
def yX9_about : MethodName := ⟨RX9, "about", "(III)I"⟩
abbrev cX9_sign : ByteArray := prog_11_method_28_code
def yX9_sign : MethodName := ⟨RX9, "sign", "(III)I"⟩
abbrev cX9_at : ByteArray := prog_11_method_29_code
def yX9_at : MethodName := ⟨RX9, "at", "(III)I"⟩
abbrev cX9_find : ByteArray := prog_11_method_30_code
def yX9_find : MethodName := ⟨RX9, "find", "(I)I"⟩
abbrev cX9_same : ByteArray := prog_11_method_31_code
def yX9_same : MethodName := ⟨RX9, "same", "(II)I"⟩
abbrev cX9_split : ByteArray := prog_11_method_32_code
def yX9_split : MethodName := ⟨RX9, "split", "(II)I"⟩
abbrev cX9_lacking : ByteArray := prog_11_method_33_code
def yX9_lacking : MethodName := ⟨RX9, "lacking", "(Z)I"⟩
abbrev cX9_piece : ByteArray := prog_11_method_34_code
def yX9_piece : MethodName := ⟨RX9, "piece", "(IZ)I"⟩
abbrev cX9_missing : ByteArray := prog_11_method_35_code
def yX9_missing : MethodName := ⟨RX9, "missing", "()I"⟩
abbrev cX9_joined : ByteArray := prog_11_method_36_code
def yX9_joined : MethodName := ⟨RX9, "joined", "(I)I"⟩
def RJx00060 : String := "java/lang/ArrayIndexOutOfBoundsException"
def TJx00060 : u_T := fun k => match k with
  | 0 => ("java/lang/Throwable", "cause", "Ljava/lang/Throwable;", false)
  | 1 => ("java/lang/Throwable", "stackTrace", "[Ljava/lang/StackTraceElement;", false)
  | 2 => ("java/lang/Throwable", "suppressedExceptions", "Ljava/util/List;", false)
  | 3 => ("java/lang/Throwable", "detailMessage", "Ljava/lang/String;", false)
  | 4 => ("java/lang/Throwable", "backtrace", "Ljava/lang/Object;", false)
  | _ => ("java/lang/Throwable", "depth", "I", false)
def tyJx00060 : Nat → FieldType := fun k => match k with
  | 0 => .object "java/lang/Throwable"
  | 1 => .array (.object "java/lang/StackTraceElement")
  | 2 => .object "java/util/List"
  | 3 => .object "java/lang/String"
  | 4 => .object "java/lang/Object"
  | _ => .int
abbrev wsJx000600 : List Cond := u_ws RJx00060 TJx00060 6
theorem nmJx00060 : ∀ a, a < 6 → ∀ b, b < 6 → a ≠ b → (TJx00060 a).2.1 ≠ (TJx00060 b).2.1 := by decide +kernel
theorem tyJx00060_ok : ∀ k, k < 6 → parseFieldDescriptor (TJx00060 k).2.2.1 = some (tyJx00060 k) := by decide +kernel
abbrev cJx00060_init_da8c8 : ByteArray := prog_12_method_1_code
def yJx00060_init_da8c8 : MethodName := ⟨RJx00060, "<init>", "()V"⟩
def RJ9 : String := "java/lang/Math"
def TJ9 : u_T := fun k => match k with
  | _ => ("", "", "", false)
def tyJ9 : Nat → FieldType := fun k => match k with
  | _ => .int
abbrev wsJ90 : List Cond := u_ws RJ9 TJ9 0
theorem nmJ9 : ∀ a, a < 0 → ∀ b, b < 0 → a ≠ b → (TJ9 a).2.1 ≠ (TJ9 b).2.1 := by decide +kernel
theorem tyJ9_ok : ∀ k, k < 0 → parseFieldDescriptor (TJ9 k).2.2.1 = some (tyJ9 k) := by decide +kernel
abbrev cJ9_max_7cf53 : ByteArray := prog_15_method_65_code
def yJ9_max_7cf53 : MethodName := ⟨RJ9, "max", "(II)I"⟩
abbrev cJ9_min_7cf53 : ByteArray := prog_15_method_69_code
def yJ9_min_7cf53 : MethodName := ⟨RJ9, "min", "(II)I"⟩
def RL : String := "PackageRows2Law"
def wsX0_init : List Cond := .code yX0_init cX0_init 1 none :: ([.methodLink RX0 3 objectInit, .instanceMethod objectInit, .code objectInit ⟨#[0xb1]⟩ 1 none, .classLink RX0 9 RX1, .fieldLink RX0 11 "PackageRows2$Coming" "entries" "[LPackageRows2$Entry;", .fieldLink RX0 17 "PackageRows2$Coming" "entryCount" "I", .classLink RX0 21 RX3, .fieldLink RX0 23 "PackageRows2$Coming" "lines" "[LPackageRows2$Line;", .fieldLink RX0 27 "PackageRows2$Coming" "lineCount" "I"] ++ wsX00)
def wsX0_fileCount : List Cond := .code yX0_fileCount cX0_fileCount 1 (some .int) :: ([.fieldLink RX0 17 "PackageRows2$Coming" "entryCount" "I"] ++ wsX00)
def wsX0_lineCount : List Cond := .code yX0_lineCount cX0_lineCount 1 (some .int) :: ([.fieldLink RX0 27 "PackageRows2$Coming" "lineCount" "I"] ++ wsX00)
def wsX0_clear : List Cond := .code yX0_clear cX0_clear 1 none :: ([.fieldLink RX0 17 "PackageRows2$Coming" "entryCount" "I", .fieldLink RX0 27 "PackageRows2$Coming" "lineCount" "I"] ++ wsX00)
def wsX5_size : List Cond := .code yX5_size cX5_size 1 (some .int) :: ([.fieldLink RX5 21 "PackageRows2$Row" "count" "I"] ++ wsX50)
def wsX5_has : List Cond := .code yX5_has cX5_has 2 (some .boolean) :: ([.fieldLink RX5 21 "PackageRows2$Row" "count" "I"] ++ wsX50)
def wsX5_cell : List Cond := .code yX5_cell cX5_cell 2 (some .int) :: ([.fieldLink RX5 15 "PackageRows2$Row" "cells" "[I", .methodLink RX5 25 yX5_has, .instanceMethod yX5_has, .selects RX5 yX5_has yX5_has, .initialized RX5, .code yX5_has cX5_has 2 (some .boolean), .fieldLink RX5 21 "PackageRows2$Row" "count" "I"] ++ wsX50)
def wsX4_allowPart : List Cond := .code yX4_allowPart cX4_allowPart 4 (some .boolean) :: ([.methodLink RX4 15 yX5_cell, .instanceMethod yX5_cell, .selects RX5 yX5_cell yX5_cell, .initialized RX5, .code yX5_cell cX5_cell 2 (some .int), .fieldLink RX5 15 "PackageRows2$Row" "cells" "[I", .methodLink RX5 25 yX5_has, .instanceMethod yX5_has, .selects RX5 yX5_has yX5_has, .code yX5_has cX5_has 2 (some .boolean), .fieldLink RX5 21 "PackageRows2$Row" "count" "I"] ++ wsX50)
def wsX4_allowInPart : List Cond := .code yX4_allowInPart cX4_allowInPart 1 (some .boolean) :: ([])
def wsX4_allow : List Cond := .code yX4_allow cX4_allow 5 (some .boolean) :: ([.methodLink RX4 9 yX5_size, .instanceMethod yX5_size, .selects RX5 yX5_size yX5_size, .initialized RX5, .code yX5_size cX5_size 1 (some .int), .fieldLink RX5 21 "PackageRows2$Row" "count" "I", .methodLink RX4 15 yX5_cell, .instanceMethod yX5_cell, .selects RX5 yX5_cell yX5_cell, .code yX5_cell cX5_cell 2 (some .int), .fieldLink RX5 15 "PackageRows2$Row" "cells" "[I", .methodLink RX5 25 yX5_has, .instanceMethod yX5_has, .selects RX5 yX5_has yX5_has, .code yX5_has cX5_has 2 (some .boolean), .methodLink RX4 19 yX4_allowPart, .static yX4_allowPart, .initialized RX4, .code yX4_allowPart cX4_allowPart 4 (some .boolean), .methodLink RX4 25 yX4_allowInPart, .static yX4_allowInPart, .code yX4_allowInPart cX4_allowInPart 1 (some .boolean)] ++ wsX50)
def wsX5_init : List Cond := .code yX5_init cX5_init 2 none :: ([.methodLink RX5 3 objectInit, .instanceMethod objectInit, .code objectInit ⟨#[0xb1]⟩ 1 none, .methodLink RX5 9 Lib.Math.max.name, .static Lib.Math.max.name, .initialized "java/lang/Math", .code Lib.Math.max.name Lib.Math.max.code 2 (some .int), .arrayClass .int, .fieldLink RX5 15 "PackageRows2$Row" "cells" "[I", .fieldLink RX5 21 "PackageRows2$Row" "count" "I"] ++ wsX50)
def wsX5_append : List Cond := .code yX5_append cX5_append 2 none :: ([.fieldLink RX5 21 "PackageRows2$Row" "count" "I", .fieldLink RX5 15 "PackageRows2$Row" "cells" "[I"] ++ wsX50)
def wsX5_copy : List Cond := .code yX5_copy cX5_copy 3 (some (.object "PackageRows2$Row")) :: ([.classLink RX5 16 RX5, .instantiable RX5 2, .initialized RX5, .fieldLink RX5 21 "PackageRows2$Row" "count" "I", .fieldLink RX5 15 "PackageRows2$Row" "cells" "[I", .methodLink RX5 29 yX5_init, .instanceMethod yX5_init, .code yX5_init cX5_init 2 none, .methodLink RX5 3 objectInit, .instanceMethod objectInit, .code objectInit ⟨#[0xb1]⟩ 1 none, .methodLink RX5 9 Lib.Math.max.name, .static Lib.Math.max.name, .initialized "java/lang/Math", .code Lib.Math.max.name Lib.Math.max.code 2 (some .int), .arrayClass .int, .methodLink RX5 32 yX5_append, .instanceMethod yX5_append, .selects RX5 yX5_append yX5_append, .code yX5_append cX5_append 2 none] ++ wsX50)
def wsX5_sumOfBytes : List Cond := .code yX5_sumOfBytes cX5_sumOfBytes 3 (some .int) :: ([.fieldLink RX5 21 "PackageRows2$Row" "count" "I", .constant RX5 35 (65599), .fieldLink RX5 15 "PackageRows2$Row" "cells" "[I"] ++ wsX50)
def wsX1_init : List Cond := .code yX1_init cX1_init 3 none :: ([.methodLink RX1 3 objectInit, .instanceMethod objectInit, .code objectInit ⟨#[0xb1]⟩ 1 none, .fieldLink RX1 9 "PackageRows2$Entry" "name" "LPackageRows2$Row;", .fieldLink RX1 15 "PackageRows2$Entry" "bytes" "LPackageRows2$Row;", .fieldLink RX1 24 "PackageRows2$Entry" "sumOfAll" "I", .fieldLink RX1 28 "PackageRows2$Entry" "firstVersion" "I", .methodLink RX1 18 yX5_sumOfBytes, .instanceMethod yX5_sumOfBytes, .selects RX5 yX5_sumOfBytes yX5_sumOfBytes, .initialized RX5, .code yX5_sumOfBytes cX5_sumOfBytes 3 (some .int), .fieldLink RX5 21 "PackageRows2$Row" "count" "I", .constant RX5 35 (65599), .fieldLink RX5 15 "PackageRows2$Row" "cells" "[I"] ++ wsX10 ++ wsX50)
def wsX0_takeFile_r1 : List Cond := [Cond.fieldLink RX0 17 "PackageRows2$Coming" "entryCount" "I", Cond.fieldLink RX0 11 "PackageRows2$Coming" "entries" "[LPackageRows2$Entry;", Cond.classLink RX0 9 RX1, Cond.instantiable RX1 4, Cond.initialized RX1, Cond.methodLink RX0 30 yX4_allow, Cond.static yX4_allow, Cond.initialized RX4, Cond.code yX4_allow cX4_allow 5 (some .boolean), Cond.methodLink RX4 9 yX5_size, Cond.instanceMethod yX5_size, Cond.selects RX5 yX5_size yX5_size, Cond.initialized RX5, Cond.code yX5_size cX5_size 1 (some .int), Cond.fieldLink RX5 21 "PackageRows2$Row" "count" "I", Cond.methodLink RX4 15 yX5_cell, Cond.instanceMethod yX5_cell, Cond.selects RX5 yX5_cell yX5_cell, Cond.code yX5_cell cX5_cell 2 (some .int), Cond.fieldLink RX5 15 "PackageRows2$Row" "cells" "[I", Cond.methodLink RX5 25 yX5_has, Cond.instanceMethod yX5_has, Cond.selects RX5 yX5_has yX5_has, Cond.code yX5_has cX5_has 2 (some .boolean)]
def wsX0_takeFile_r2 : List Cond := [Cond.methodLink RX4 19 yX4_allowPart, Cond.static yX4_allowPart, Cond.code yX4_allowPart cX4_allowPart 4 (some .boolean), Cond.methodLink RX4 25 yX4_allowInPart, Cond.static yX4_allowInPart, Cond.code yX4_allowInPart cX4_allowInPart 1 (some .boolean), Cond.methodLink RX0 36 yX5_copy, Cond.instanceMethod yX5_copy, Cond.selects RX5 yX5_copy yX5_copy, Cond.code yX5_copy cX5_copy 3 (some (.object "PackageRows2$Row")), Cond.classLink RX5 16 RX5, Cond.instantiable RX5 2, Cond.methodLink RX5 29 yX5_init, Cond.instanceMethod yX5_init, Cond.code yX5_init cX5_init 2 none, Cond.methodLink RX5 3 objectInit, Cond.instanceMethod objectInit, Cond.code objectInit ⟨#[0xb1]⟩ 1 none, Cond.methodLink RX5 9 Lib.Math.max.name, Cond.static Lib.Math.max.name, Cond.initialized "java/lang/Math", Cond.code Lib.Math.max.name Lib.Math.max.code 2 (some .int), Cond.arrayClass .int, Cond.methodLink RX5 32 yX5_append]
def wsX0_takeFile_r3 : List Cond := [Cond.instanceMethod yX5_append, Cond.selects RX5 yX5_append yX5_append, Cond.code yX5_append cX5_append 2 none, Cond.methodLink RX0 42 yX1_init, Cond.instanceMethod yX1_init, Cond.code yX1_init cX1_init 3 none, Cond.methodLink RX1 3 objectInit, Cond.fieldLink RX1 9 "PackageRows2$Entry" "name" "LPackageRows2$Row;", Cond.fieldLink RX1 15 "PackageRows2$Entry" "bytes" "LPackageRows2$Row;", Cond.fieldLink RX1 24 "PackageRows2$Entry" "sumOfAll" "I", Cond.fieldLink RX1 28 "PackageRows2$Entry" "firstVersion" "I", Cond.methodLink RX1 18 yX5_sumOfBytes, Cond.instanceMethod yX5_sumOfBytes, Cond.selects RX5 yX5_sumOfBytes yX5_sumOfBytes, Cond.code yX5_sumOfBytes cX5_sumOfBytes 3 (some .int), Cond.constant RX5 35 (65599)]
def wsX0_takeFile : List Cond := .code yX0_takeFile cX0_takeFile 3 (some .int) :: ((wsX0_takeFile_r1 ++ (wsX0_takeFile_r2 ++ wsX0_takeFile_r3)) ++ wsX00 ++ wsX10 ++ wsX50)
def wsX3_init : List Cond := .code yX3_init cX3_init 4 none :: ([.methodLink RX3 1 objectInit, .instanceMethod objectInit, .code objectInit ⟨#[0xb1]⟩ 1 none, .fieldLink RX3 7 "PackageRows2$Line" "name" "LPackageRows2$Row;", .fieldLink RX3 13 "PackageRows2$Line" "toldSize" "I", .fieldLink RX3 17 "PackageRows2$Line" "toldSum" "I"] ++ wsX30)
def wsX0_takeLine_r1 : List Cond := [Cond.fieldLink RX0 27 "PackageRows2$Coming" "lineCount" "I", Cond.fieldLink RX0 23 "PackageRows2$Coming" "lines" "[LPackageRows2$Line;", Cond.classLink RX0 21 RX3, Cond.instantiable RX3 3, Cond.initialized RX3, Cond.methodLink RX0 30 yX4_allow, Cond.static yX4_allow, Cond.initialized RX4, Cond.code yX4_allow cX4_allow 5 (some .boolean), Cond.methodLink RX4 9 yX5_size, Cond.instanceMethod yX5_size, Cond.selects RX5 yX5_size yX5_size, Cond.initialized RX5, Cond.code yX5_size cX5_size 1 (some .int), Cond.fieldLink RX5 21 "PackageRows2$Row" "count" "I", Cond.methodLink RX4 15 yX5_cell, Cond.instanceMethod yX5_cell, Cond.selects RX5 yX5_cell yX5_cell, Cond.code yX5_cell cX5_cell 2 (some .int), Cond.fieldLink RX5 15 "PackageRows2$Row" "cells" "[I", Cond.methodLink RX5 25 yX5_has, Cond.instanceMethod yX5_has, Cond.selects RX5 yX5_has yX5_has, Cond.code yX5_has cX5_has 2 (some .boolean)]
def wsX0_takeLine_r2 : List Cond := [Cond.methodLink RX4 19 yX4_allowPart, Cond.static yX4_allowPart, Cond.code yX4_allowPart cX4_allowPart 4 (some .boolean), Cond.methodLink RX4 25 yX4_allowInPart, Cond.static yX4_allowInPart, Cond.code yX4_allowInPart cX4_allowInPart 1 (some .boolean), Cond.methodLink RX0 36 yX5_copy, Cond.instanceMethod yX5_copy, Cond.selects RX5 yX5_copy yX5_copy, Cond.code yX5_copy cX5_copy 3 (some (.object "PackageRows2$Row")), Cond.classLink RX5 16 RX5, Cond.instantiable RX5 2, Cond.methodLink RX5 29 yX5_init, Cond.instanceMethod yX5_init, Cond.code yX5_init cX5_init 2 none, Cond.methodLink RX5 3 objectInit, Cond.instanceMethod objectInit, Cond.code objectInit ⟨#[0xb1]⟩ 1 none, Cond.methodLink RX5 9 Lib.Math.max.name, Cond.static Lib.Math.max.name, Cond.initialized "java/lang/Math", Cond.code Lib.Math.max.name Lib.Math.max.code 2 (some .int), Cond.arrayClass .int, Cond.methodLink RX5 32 yX5_append]
def wsX0_takeLine_r3 : List Cond := [Cond.instanceMethod yX5_append, Cond.selects RX5 yX5_append yX5_append, Cond.code yX5_append cX5_append 2 none, Cond.methodLink RX0 45 yX3_init, Cond.instanceMethod yX3_init, Cond.code yX3_init cX3_init 4 none, Cond.methodLink RX3 1 objectInit, Cond.fieldLink RX3 7 "PackageRows2$Line" "name" "LPackageRows2$Row;", Cond.fieldLink RX3 13 "PackageRows2$Line" "toldSize" "I", Cond.fieldLink RX3 17 "PackageRows2$Line" "toldSum" "I"]
def wsX0_takeLine : List Cond := .code yX0_takeLine cX0_takeLine 4 (some .int) :: ((wsX0_takeLine_r1 ++ (wsX0_takeLine_r2 ++ wsX0_takeLine_r3)) ++ wsX00 ++ wsX30 ++ wsX50)
def wsX2_clear : List Cond := .code yX2_clear cX2_clear 1 none :: ([.fieldLink RX2 18 "PackageRows2$Faults" "count" "I"] ++ wsX20)
def wsX5_order : List Cond := .code yX5_order cX5_order 3 (some .int) :: ([.fieldLink RX5 21 "PackageRows2$Row" "count" "I", .fieldLink RX5 15 "PackageRows2$Row" "cells" "[I"] ++ wsX50)
def wsX5_alike : List Cond := .code yX5_alike cX5_alike 2 (some .boolean) :: ([.fieldLink RX5 21 "PackageRows2$Row" "count" "I", .methodLink RX5 36 yX5_order, .instanceMethod yX5_order, .selects RX5 yX5_order yX5_order, .initialized RX5, .code yX5_order cX5_order 3 (some .int), .fieldLink RX5 15 "PackageRows2$Row" "cells" "[I"] ++ wsX50)
def wsX0_firstLine : List Cond := .code yX0_firstLine cX0_firstLine 3 (some .int) :: ([.fieldLink RX0 27 "PackageRows2$Coming" "lineCount" "I", .fieldLink RX0 23 "PackageRows2$Coming" "lines" "[LPackageRows2$Line;", .fieldLink RX0 64 "PackageRows2$Line" "name" "LPackageRows2$Row;", .methodLink RX0 92 yX5_alike, .instanceMethod yX5_alike, .selects RX5 yX5_alike yX5_alike, .initialized RX5, .code yX5_alike cX5_alike 2 (some .boolean), .fieldLink RX5 21 "PackageRows2$Row" "count" "I", .methodLink RX5 36 yX5_order, .instanceMethod yX5_order, .selects RX5 yX5_order yX5_order, .code yX5_order cX5_order 3 (some .int), .fieldLink RX5 15 "PackageRows2$Row" "cells" "[I"] ++ wsX00 ++ wsX30 ++ wsX50)
def wsX0_firstFile : List Cond := .code yX0_firstFile cX0_firstFile 3 (some .int) :: ([.fieldLink RX0 17 "PackageRows2$Coming" "entryCount" "I", .fieldLink RX0 11 "PackageRows2$Coming" "entries" "[LPackageRows2$Entry;", .fieldLink RX0 91 "PackageRows2$Entry" "name" "LPackageRows2$Row;", .methodLink RX0 92 yX5_alike, .instanceMethod yX5_alike, .selects RX5 yX5_alike yX5_alike, .initialized RX5, .code yX5_alike cX5_alike 2 (some .boolean), .fieldLink RX5 21 "PackageRows2$Row" "count" "I", .methodLink RX5 36 yX5_order, .instanceMethod yX5_order, .selects RX5 yX5_order yX5_order, .code yX5_order cX5_order 3 (some .int), .fieldLink RX5 15 "PackageRows2$Row" "cells" "[I"] ++ wsX00 ++ wsX10 ++ wsX50)
def wsX0_faultOfLine_r1 : List Cond := [Cond.fieldLink RX0 23 "PackageRows2$Coming" "lines" "[LPackageRows2$Line;", Cond.fieldLink RX0 64 "PackageRows2$Line" "name" "LPackageRows2$Row;", Cond.fieldLink RX0 17 "PackageRows2$Coming" "entryCount" "I", Cond.fieldLink RX0 11 "PackageRows2$Coming" "entries" "[LPackageRows2$Entry;", Cond.fieldLink RX0 75 "PackageRows2$Entry" "bytes" "LPackageRows2$Row;", Cond.fieldLink RX0 82 "PackageRows2$Line" "toldSize" "I", Cond.fieldLink RX0 85 "PackageRows2$Entry" "sumOfAll" "I", Cond.fieldLink RX0 88 "PackageRows2$Line" "toldSum" "I", Cond.methodLink RX0 68 yX0_firstLine, Cond.instanceMethod yX0_firstLine, Cond.selects RX0 yX0_firstLine yX0_firstLine, Cond.initialized RX0, Cond.code yX0_firstLine cX0_firstLine 3 (some .int), Cond.fieldLink RX0 27 "PackageRows2$Coming" "lineCount" "I", Cond.methodLink RX0 92 yX5_alike, Cond.instanceMethod yX5_alike, Cond.selects RX5 yX5_alike yX5_alike, Cond.initialized RX5, Cond.code yX5_alike cX5_alike 2 (some .boolean), Cond.fieldLink RX5 21 "PackageRows2$Row" "count" "I", Cond.methodLink RX5 36 yX5_order, Cond.instanceMethod yX5_order, Cond.selects RX5 yX5_order yX5_order, Cond.code yX5_order cX5_order 3 (some .int)]
def wsX0_faultOfLine_r2 : List Cond := [Cond.fieldLink RX5 15 "PackageRows2$Row" "cells" "[I", Cond.methodLink RX0 72 yX0_firstFile, Cond.instanceMethod yX0_firstFile, Cond.selects RX0 yX0_firstFile yX0_firstFile, Cond.code yX0_firstFile cX0_firstFile 3 (some .int), Cond.fieldLink RX0 91 "PackageRows2$Entry" "name" "LPackageRows2$Row;", Cond.methodLink RX0 78 yX5_size, Cond.instanceMethod yX5_size, Cond.selects RX5 yX5_size yX5_size, Cond.code yX5_size cX5_size 1 (some .int)]
def wsX0_faultOfLine : List Cond := .code yX0_faultOfLine cX0_faultOfLine 5 (some .int) :: ((wsX0_faultOfLine_r1 ++ wsX0_faultOfLine_r2) ++ wsX00 ++ wsX30 ++ wsX10 ++ wsX50)
def wsX2_note : List Cond := .code yX2_note cX2_note 3 none :: ([.fieldLink RX2 18 "PackageRows2$Faults" "count" "I", .fieldLink RX2 9 "PackageRows2$Faults" "kinds" "[I", .fieldLink RX2 15 "PackageRows2$Faults" "numbers" "[I"] ++ wsX20)
def wsX0_faultOfFile_r1 : List Cond := [Cond.fieldLink RX0 11 "PackageRows2$Coming" "entries" "[LPackageRows2$Entry;", Cond.fieldLink RX0 91 "PackageRows2$Entry" "name" "LPackageRows2$Row;", Cond.fieldLink RX0 27 "PackageRows2$Coming" "lineCount" "I", Cond.methodLink RX0 72 yX0_firstFile, Cond.instanceMethod yX0_firstFile, Cond.selects RX0 yX0_firstFile yX0_firstFile, Cond.initialized RX0, Cond.code yX0_firstFile cX0_firstFile 3 (some .int), Cond.fieldLink RX0 17 "PackageRows2$Coming" "entryCount" "I", Cond.methodLink RX0 92 yX5_alike, Cond.instanceMethod yX5_alike, Cond.selects RX5 yX5_alike yX5_alike, Cond.initialized RX5, Cond.code yX5_alike cX5_alike 2 (some .boolean), Cond.fieldLink RX5 21 "PackageRows2$Row" "count" "I", Cond.methodLink RX5 36 yX5_order, Cond.instanceMethod yX5_order, Cond.selects RX5 yX5_order yX5_order, Cond.code yX5_order cX5_order 3 (some .int), Cond.fieldLink RX5 15 "PackageRows2$Row" "cells" "[I", Cond.methodLink RX0 68 yX0_firstLine, Cond.instanceMethod yX0_firstLine, Cond.selects RX0 yX0_firstLine yX0_firstLine, Cond.code yX0_firstLine cX0_firstLine 3 (some .int)]
def wsX0_faultOfFile_r2 : List Cond := [Cond.fieldLink RX0 23 "PackageRows2$Coming" "lines" "[LPackageRows2$Line;", Cond.fieldLink RX0 64 "PackageRows2$Line" "name" "LPackageRows2$Row;"]
def wsX0_faultOfFile : List Cond := .code yX0_faultOfFile cX0_faultOfFile 3 (some .int) :: ((wsX0_faultOfFile_r1 ++ wsX0_faultOfFile_r2) ++ wsX00 ++ wsX10 ++ wsX50 ++ wsX30)
def wsX0_tellFaults_r1 : List Cond := [Cond.fieldLink RX0 27 "PackageRows2$Coming" "lineCount" "I", Cond.fieldLink RX0 17 "PackageRows2$Coming" "entryCount" "I", Cond.methodLink RX0 48 yX2_clear, Cond.instanceMethod yX2_clear, Cond.selects RX2 yX2_clear yX2_clear, Cond.initialized RX2, Cond.code yX2_clear cX2_clear 1 none, Cond.fieldLink RX2 18 "PackageRows2$Faults" "count" "I", Cond.methodLink RX0 53 yX0_faultOfLine, Cond.instanceMethod yX0_faultOfLine, Cond.selects RX0 yX0_faultOfLine yX0_faultOfLine, Cond.initialized RX0, Cond.code yX0_faultOfLine cX0_faultOfLine 5 (some .int), Cond.fieldLink RX0 23 "PackageRows2$Coming" "lines" "[LPackageRows2$Line;", Cond.fieldLink RX0 64 "PackageRows2$Line" "name" "LPackageRows2$Row;", Cond.fieldLink RX0 11 "PackageRows2$Coming" "entries" "[LPackageRows2$Entry;", Cond.fieldLink RX0 75 "PackageRows2$Entry" "bytes" "LPackageRows2$Row;", Cond.fieldLink RX0 82 "PackageRows2$Line" "toldSize" "I", Cond.fieldLink RX0 85 "PackageRows2$Entry" "sumOfAll" "I", Cond.fieldLink RX0 88 "PackageRows2$Line" "toldSum" "I", Cond.methodLink RX0 68 yX0_firstLine, Cond.instanceMethod yX0_firstLine, Cond.selects RX0 yX0_firstLine yX0_firstLine, Cond.code yX0_firstLine cX0_firstLine 3 (some .int)]
def wsX0_tellFaults_r2 : List Cond := [Cond.methodLink RX0 92 yX5_alike, Cond.instanceMethod yX5_alike, Cond.selects RX5 yX5_alike yX5_alike, Cond.initialized RX5, Cond.code yX5_alike cX5_alike 2 (some .boolean), Cond.fieldLink RX5 21 "PackageRows2$Row" "count" "I", Cond.methodLink RX5 36 yX5_order, Cond.instanceMethod yX5_order, Cond.selects RX5 yX5_order yX5_order, Cond.code yX5_order cX5_order 3 (some .int), Cond.fieldLink RX5 15 "PackageRows2$Row" "cells" "[I", Cond.methodLink RX0 72 yX0_firstFile, Cond.instanceMethod yX0_firstFile, Cond.selects RX0 yX0_firstFile yX0_firstFile, Cond.code yX0_firstFile cX0_firstFile 3 (some .int), Cond.fieldLink RX0 91 "PackageRows2$Entry" "name" "LPackageRows2$Row;", Cond.methodLink RX0 78 yX5_size, Cond.instanceMethod yX5_size, Cond.selects RX5 yX5_size yX5_size, Cond.code yX5_size cX5_size 1 (some .int), Cond.methodLink RX0 57 yX2_note, Cond.instanceMethod yX2_note, Cond.selects RX2 yX2_note yX2_note, Cond.code yX2_note cX2_note 3 none]
def wsX0_tellFaults_r3 : List Cond := [Cond.fieldLink RX2 9 "PackageRows2$Faults" "kinds" "[I", Cond.fieldLink RX2 15 "PackageRows2$Faults" "numbers" "[I", Cond.methodLink RX0 61 yX0_faultOfFile, Cond.instanceMethod yX0_faultOfFile, Cond.selects RX0 yX0_faultOfFile yX0_faultOfFile, Cond.code yX0_faultOfFile cX0_faultOfFile 3 (some .int)]
def wsX0_tellFaults : List Cond := .code yX0_tellFaults cX0_tellFaults 3 none :: ((wsX0_tellFaults_r1 ++ (wsX0_tellFaults_r2 ++ wsX0_tellFaults_r3)) ++ wsX00 ++ wsX20 ++ wsX30 ++ wsX10 ++ wsX50)
def wsX7_init : List Cond := .code yX7_init cX7_init 1 none :: ([.methodLink RX7 3 objectInit, .instanceMethod objectInit, .code objectInit ⟨#[0xb1]⟩ 1 none, .classLink RX7 9 RX1, .fieldLink RX7 11 "PackageRows2$Version" "entries" "[LPackageRows2$Entry;", .fieldLink RX7 17 "PackageRows2$Version" "count" "I"] ++ wsX70)
def wsX7_placeOf : List Cond := .code yX7_placeOf cX7_placeOf 3 (some .int) :: ([.fieldLink RX7 17 "PackageRows2$Version" "count" "I", .fieldLink RX7 11 "PackageRows2$Version" "entries" "[LPackageRows2$Entry;", .fieldLink RX7 21 "PackageRows2$Entry" "name" "LPackageRows2$Row;", .methodLink RX7 31 yX5_alike, .instanceMethod yX5_alike, .selects RX5 yX5_alike yX5_alike, .initialized RX5, .code yX5_alike cX5_alike 2 (some .boolean), .fieldLink RX5 21 "PackageRows2$Row" "count" "I", .methodLink RX5 36 yX5_order, .instanceMethod yX5_order, .selects RX5 yX5_order yX5_order, .code yX5_order cX5_order 3 (some .int), .fieldLink RX5 15 "PackageRows2$Row" "cells" "[I"] ++ wsX70 ++ wsX10 ++ wsX50)
def wsX7_entryOrNull : List Cond := .code yX7_entryOrNull cX7_entryOrNull 2 (some (.object "PackageRows2$Entry")) :: ([.fieldLink RX7 17 "PackageRows2$Version" "count" "I", .fieldLink RX7 11 "PackageRows2$Version" "entries" "[LPackageRows2$Entry;"] ++ wsX70)
def wsX7_entryOfPath : List Cond := .code yX7_entryOfPath cX7_entryOfPath 2 (some (.object "PackageRows2$Entry")) :: ([.methodLink RX7 35 yX7_placeOf, .instanceMethod yX7_placeOf, .selects RX7 yX7_placeOf yX7_placeOf, .initialized RX7, .code yX7_placeOf cX7_placeOf 3 (some .int), .fieldLink RX7 17 "PackageRows2$Version" "count" "I", .fieldLink RX7 11 "PackageRows2$Version" "entries" "[LPackageRows2$Entry;", .fieldLink RX7 21 "PackageRows2$Entry" "name" "LPackageRows2$Row;", .methodLink RX7 31 yX5_alike, .instanceMethod yX5_alike, .selects RX5 yX5_alike yX5_alike, .initialized RX5, .code yX5_alike cX5_alike 2 (some .boolean), .fieldLink RX5 21 "PackageRows2$Row" "count" "I", .methodLink RX5 36 yX5_order, .instanceMethod yX5_order, .selects RX5 yX5_order yX5_order, .code yX5_order cX5_order 3 (some .int), .fieldLink RX5 15 "PackageRows2$Row" "cells" "[I", .methodLink RX7 38 yX7_entryOrNull, .instanceMethod yX7_entryOrNull, .selects RX7 yX7_entryOrNull yX7_entryOrNull, .code yX7_entryOrNull cX7_entryOrNull 2 (some (.object "PackageRows2$Entry"))] ++ wsX70 ++ wsX10 ++ wsX50)
def wsX0_sharedOrNew_r1 : List Cond := [Cond.fieldLink RX0 91 "PackageRows2$Entry" "name" "LPackageRows2$Row;", Cond.fieldLink RX0 75 "PackageRows2$Entry" "bytes" "LPackageRows2$Row;", Cond.fieldLink RX0 110 "PackageRows2$Entry" "firstVersion" "I", Cond.methodLink RX0 106 yX7_entryOfPath, Cond.instanceMethod yX7_entryOfPath, Cond.selects RX7 yX7_entryOfPath yX7_entryOfPath, Cond.initialized RX7, Cond.code yX7_entryOfPath cX7_entryOfPath 2 (some (.object "PackageRows2$Entry")), Cond.methodLink RX7 35 yX7_placeOf, Cond.instanceMethod yX7_placeOf, Cond.selects RX7 yX7_placeOf yX7_placeOf, Cond.code yX7_placeOf cX7_placeOf 3 (some .int), Cond.fieldLink RX7 17 "PackageRows2$Version" "count" "I", Cond.fieldLink RX7 11 "PackageRows2$Version" "entries" "[LPackageRows2$Entry;", Cond.fieldLink RX7 21 "PackageRows2$Entry" "name" "LPackageRows2$Row;", Cond.methodLink RX7 31 yX5_alike, Cond.instanceMethod yX5_alike, Cond.selects RX5 yX5_alike yX5_alike, Cond.initialized RX5, Cond.code yX5_alike cX5_alike 2 (some .boolean), Cond.fieldLink RX5 21 "PackageRows2$Row" "count" "I", Cond.methodLink RX5 36 yX5_order, Cond.instanceMethod yX5_order, Cond.selects RX5 yX5_order yX5_order]
def wsX0_sharedOrNew_r2 : List Cond := [Cond.code yX5_order cX5_order 3 (some .int), Cond.fieldLink RX5 15 "PackageRows2$Row" "cells" "[I", Cond.methodLink RX7 38 yX7_entryOrNull, Cond.instanceMethod yX7_entryOrNull, Cond.selects RX7 yX7_entryOrNull yX7_entryOrNull, Cond.code yX7_entryOrNull cX7_entryOrNull 2 (some (.object "PackageRows2$Entry")), Cond.methodLink RX0 92 yX5_alike]
def wsX0_sharedOrNew : List Cond := .code yX0_sharedOrNew cX0_sharedOrNew 4 (some (.object "PackageRows2$Entry")) :: ((wsX0_sharedOrNew_r1 ++ wsX0_sharedOrNew_r2) ++ wsX10 ++ wsX70 ++ wsX50)
def wsX7_insert : List Cond := .code yX7_insert cX7_insert 3 none :: ([.fieldLink RX7 17 "PackageRows2$Version" "count" "I", .fieldLink RX7 11 "PackageRows2$Version" "entries" "[LPackageRows2$Entry;", .fieldLink RX7 21 "PackageRows2$Entry" "name" "LPackageRows2$Row;", .methodLink RX7 25 yX5_order, .instanceMethod yX5_order, .selects RX5 yX5_order yX5_order, .initialized RX5, .code yX5_order cX5_order 3 (some .int), .fieldLink RX5 21 "PackageRows2$Row" "count" "I", .fieldLink RX5 15 "PackageRows2$Row" "cells" "[I"] ++ wsX70 ++ wsX10 ++ wsX50)
def wsX0_toVersion_r1 : List Cond := [Cond.classLink RX0 95 RX7, Cond.instantiable RX7 2, Cond.initialized RX7, Cond.fieldLink RX0 17 "PackageRows2$Coming" "entryCount" "I", Cond.fieldLink RX0 11 "PackageRows2$Coming" "entries" "[LPackageRows2$Entry;", Cond.methodLink RX0 97 yX7_init, Cond.instanceMethod yX7_init, Cond.code yX7_init cX7_init 1 none, Cond.methodLink RX7 3 objectInit, Cond.instanceMethod objectInit, Cond.code objectInit ⟨#[0xb1]⟩ 1 none, Cond.classLink RX7 9 RX1, Cond.fieldLink RX7 11 "PackageRows2$Version" "entries" "[LPackageRows2$Entry;", Cond.fieldLink RX7 17 "PackageRows2$Version" "count" "I", Cond.methodLink RX0 98 yX0_sharedOrNew, Cond.static yX0_sharedOrNew, Cond.initialized RX0, Cond.code yX0_sharedOrNew cX0_sharedOrNew 4 (some (.object "PackageRows2$Entry")), Cond.fieldLink RX0 91 "PackageRows2$Entry" "name" "LPackageRows2$Row;", Cond.fieldLink RX0 75 "PackageRows2$Entry" "bytes" "LPackageRows2$Row;", Cond.fieldLink RX0 110 "PackageRows2$Entry" "firstVersion" "I", Cond.methodLink RX0 106 yX7_entryOfPath, Cond.instanceMethod yX7_entryOfPath, Cond.selects RX7 yX7_entryOfPath yX7_entryOfPath]
def wsX0_toVersion_r2 : List Cond := [Cond.code yX7_entryOfPath cX7_entryOfPath 2 (some (.object "PackageRows2$Entry")), Cond.methodLink RX7 35 yX7_placeOf, Cond.instanceMethod yX7_placeOf, Cond.selects RX7 yX7_placeOf yX7_placeOf, Cond.code yX7_placeOf cX7_placeOf 3 (some .int), Cond.fieldLink RX7 21 "PackageRows2$Entry" "name" "LPackageRows2$Row;", Cond.methodLink RX7 31 yX5_alike, Cond.instanceMethod yX5_alike, Cond.selects RX5 yX5_alike yX5_alike, Cond.initialized RX5, Cond.code yX5_alike cX5_alike 2 (some .boolean), Cond.fieldLink RX5 21 "PackageRows2$Row" "count" "I", Cond.methodLink RX5 36 yX5_order, Cond.instanceMethod yX5_order, Cond.selects RX5 yX5_order yX5_order, Cond.code yX5_order cX5_order 3 (some .int), Cond.fieldLink RX5 15 "PackageRows2$Row" "cells" "[I", Cond.methodLink RX7 38 yX7_entryOrNull, Cond.instanceMethod yX7_entryOrNull, Cond.selects RX7 yX7_entryOrNull yX7_entryOrNull, Cond.code yX7_entryOrNull cX7_entryOrNull 2 (some (.object "PackageRows2$Entry")), Cond.methodLink RX0 92 yX5_alike, Cond.methodLink RX0 102 yX7_insert, Cond.instanceMethod yX7_insert]
def wsX0_toVersion_r3 : List Cond := [Cond.selects RX7 yX7_insert yX7_insert, Cond.code yX7_insert cX7_insert 3 none, Cond.methodLink RX7 25 yX5_order]
def wsX0_toVersion : List Cond := .code yX0_toVersion cX0_toVersion 5 (some (.object "PackageRows2$Version")) :: ((wsX0_toVersion_r1 ++ (wsX0_toVersion_r2 ++ wsX0_toVersion_r3)) ++ wsX70 ++ wsX00 ++ wsX10 ++ wsX50)
def wsX2_init : List Cond := .code yX2_init cX2_init 1 none :: ([.methodLink RX2 3 objectInit, .instanceMethod objectInit, .code objectInit ⟨#[0xb1]⟩ 1 none, .arrayClass .int, .fieldLink RX2 9 "PackageRows2$Faults" "kinds" "[I", .fieldLink RX2 15 "PackageRows2$Faults" "numbers" "[I", .fieldLink RX2 18 "PackageRows2$Faults" "count" "I"] ++ wsX20)
def wsX2_size : List Cond := .code yX2_size cX2_size 1 (some .int) :: ([.fieldLink RX2 18 "PackageRows2$Faults" "count" "I"] ++ wsX20)
def wsX2_has : List Cond := .code yX2_has cX2_has 2 (some .boolean) :: ([.fieldLink RX2 18 "PackageRows2$Faults" "count" "I"] ++ wsX20)
def wsX2_kindOf : List Cond := .code yX2_kindOf cX2_kindOf 2 (some .int) :: ([.fieldLink RX2 9 "PackageRows2$Faults" "kinds" "[I", .methodLink RX2 22 yX2_has, .instanceMethod yX2_has, .selects RX2 yX2_has yX2_has, .initialized RX2, .code yX2_has cX2_has 2 (some .boolean), .fieldLink RX2 18 "PackageRows2$Faults" "count" "I"] ++ wsX20)
def wsX2_numberOf : List Cond := .code yX2_numberOf cX2_numberOf 2 (some .int) :: ([.fieldLink RX2 15 "PackageRows2$Faults" "numbers" "[I", .methodLink RX2 22 yX2_has, .instanceMethod yX2_has, .selects RX2 yX2_has yX2_has, .initialized RX2, .code yX2_has cX2_has 2 (some .boolean), .fieldLink RX2 18 "PackageRows2$Faults" "count" "I"] ++ wsX20)
def wsX5_clear : List Cond := .code yX5_clear cX5_clear 1 none :: ([.fieldLink RX5 21 "PackageRows2$Row" "count" "I"] ++ wsX50)
def wsX6_init : List Cond := .code yX6_init cX6_init 1 none :: ([.methodLink RX6 3 objectInit, .instanceMethod objectInit, .code objectInit ⟨#[0xb1]⟩ 1 none, .fieldLink RX6 9 "PackageRows2$Transfer" "source" "LPackageRows2$Version;", .arrayClass .boolean, .fieldLink RX6 15 "PackageRows2$Transfer" "came" "[Z", .fieldLink RX6 19 "PackageRows2$Transfer" "pieceCount" "I", .fieldLink RX6 23 "PackageRows2$Transfer" "missingCount" "I"] ++ wsX60)
def wsX7_byteCount : List Cond := .code yX7_byteCount cX7_byteCount 3 (some .int) :: ([.fieldLink RX7 17 "PackageRows2$Version" "count" "I", .fieldLink RX7 11 "PackageRows2$Version" "entries" "[LPackageRows2$Entry;", .fieldLink RX7 46 "PackageRows2$Entry" "bytes" "LPackageRows2$Row;", .methodLink RX7 49 yX5_size, .instanceMethod yX5_size, .selects RX5 yX5_size yX5_size, .initialized RX5, .code yX5_size cX5_size 1 (some .int), .fieldLink RX5 21 "PackageRows2$Row" "count" "I"] ++ wsX70 ++ wsX10 ++ wsX50)
def wsX6_begin : List Cond := .code yX6_begin cX6_begin 4 (some .int) :: ([.fieldLink RX6 9 "PackageRows2$Transfer" "source" "LPackageRows2$Version;", .fieldLink RX6 15 "PackageRows2$Transfer" "came" "[Z", .methodLink RX6 32 Lib.Math.min.name, .static Lib.Math.min.name, .initialized "java/lang/Math", .code Lib.Math.min.name Lib.Math.min.code 2 (some .int), .fieldLink RX6 19 "PackageRows2$Transfer" "pieceCount" "I", .fieldLink RX6 23 "PackageRows2$Transfer" "missingCount" "I", .methodLink RX6 26 yX7_byteCount, .instanceMethod yX7_byteCount, .selects RX7 yX7_byteCount yX7_byteCount, .initialized RX7, .code yX7_byteCount cX7_byteCount 3 (some .int), .fieldLink RX7 17 "PackageRows2$Version" "count" "I", .fieldLink RX7 11 "PackageRows2$Version" "entries" "[LPackageRows2$Entry;", .fieldLink RX7 46 "PackageRows2$Entry" "bytes" "LPackageRows2$Row;", .methodLink RX7 49 yX5_size, .instanceMethod yX5_size, .selects RX5 yX5_size yX5_size, .initialized RX5, .code yX5_size cX5_size 1 (some .int), .fieldLink RX5 21 "PackageRows2$Row" "count" "I"] ++ wsX60 ++ wsX70 ++ wsX10 ++ wsX50)
def wsX6_take : List Cond := .code yX6_take cX6_take 3 (some .int) :: ([.fieldLink RX6 19 "PackageRows2$Transfer" "pieceCount" "I", .fieldLink RX6 15 "PackageRows2$Transfer" "came" "[Z", .fieldLink RX6 23 "PackageRows2$Transfer" "missingCount" "I"] ++ wsX60)
def wsX6_firstMissing : List Cond := .code yX6_firstMissing cX6_firstMissing 2 (some .int) :: ([.fieldLink RX6 19 "PackageRows2$Transfer" "pieceCount" "I", .fieldLink RX6 15 "PackageRows2$Transfer" "came" "[Z"] ++ wsX60)
def wsX7_byteInAll : List Cond := .code yX7_byteInAll cX7_byteInAll 5 (some .int) :: ([.fieldLink RX7 17 "PackageRows2$Version" "count" "I", .fieldLink RX7 11 "PackageRows2$Version" "entries" "[LPackageRows2$Entry;", .fieldLink RX7 46 "PackageRows2$Entry" "bytes" "LPackageRows2$Row;", .methodLink RX7 49 yX5_size, .instanceMethod yX5_size, .selects RX5 yX5_size yX5_size, .initialized RX5, .code yX5_size cX5_size 1 (some .int), .fieldLink RX5 21 "PackageRows2$Row" "count" "I", .methodLink RX7 53 yX5_cell, .instanceMethod yX5_cell, .selects RX5 yX5_cell yX5_cell, .code yX5_cell cX5_cell 2 (some .int), .fieldLink RX5 15 "PackageRows2$Row" "cells" "[I", .methodLink RX5 25 yX5_has, .instanceMethod yX5_has, .selects RX5 yX5_has yX5_has, .code yX5_has cX5_has 2 (some .boolean)] ++ wsX70 ++ wsX10 ++ wsX50)
def wsX6_joinedByte_r1 : List Cond := [Cond.fieldLink RX6 9 "PackageRows2$Transfer" "source" "LPackageRows2$Version;", Cond.fieldLink RX6 23 "PackageRows2$Transfer" "missingCount" "I", Cond.methodLink RX6 38 yX7_byteInAll, Cond.instanceMethod yX7_byteInAll, Cond.selects RX7 yX7_byteInAll yX7_byteInAll, Cond.initialized RX7, Cond.code yX7_byteInAll cX7_byteInAll 5 (some .int), Cond.fieldLink RX7 17 "PackageRows2$Version" "count" "I", Cond.fieldLink RX7 11 "PackageRows2$Version" "entries" "[LPackageRows2$Entry;", Cond.fieldLink RX7 46 "PackageRows2$Entry" "bytes" "LPackageRows2$Row;", Cond.methodLink RX7 49 yX5_size, Cond.instanceMethod yX5_size, Cond.selects RX5 yX5_size yX5_size, Cond.initialized RX5, Cond.code yX5_size cX5_size 1 (some .int), Cond.fieldLink RX5 21 "PackageRows2$Row" "count" "I", Cond.methodLink RX7 53 yX5_cell, Cond.instanceMethod yX5_cell, Cond.selects RX5 yX5_cell yX5_cell, Cond.code yX5_cell cX5_cell 2 (some .int), Cond.fieldLink RX5 15 "PackageRows2$Row" "cells" "[I", Cond.methodLink RX5 25 yX5_has, Cond.instanceMethod yX5_has, Cond.selects RX5 yX5_has yX5_has]
def wsX6_joinedByte_r2 : List Cond := [Cond.code yX5_has cX5_has 2 (some .boolean)]
def wsX6_joinedByte : List Cond := .code yX6_joinedByte cX6_joinedByte 2 (some .int) :: ((wsX6_joinedByte_r1 ++ wsX6_joinedByte_r2) ++ wsX60 ++ wsX70 ++ wsX10 ++ wsX50)
def wsX7_size : List Cond := .code yX7_size cX7_size 1 (some .int) :: ([.fieldLink RX7 17 "PackageRows2$Version" "count" "I"] ++ wsX70)
def wsX7_countAlike_r1 : List Cond := [Cond.fieldLink RX7 17 "PackageRows2$Version" "count" "I", Cond.fieldLink RX7 11 "PackageRows2$Version" "entries" "[LPackageRows2$Entry;", Cond.fieldLink RX7 21 "PackageRows2$Entry" "name" "LPackageRows2$Row;", Cond.fieldLink RX7 46 "PackageRows2$Entry" "bytes" "LPackageRows2$Row;", Cond.methodLink RX7 42 yX7_entryOfPath, Cond.instanceMethod yX7_entryOfPath, Cond.selects RX7 yX7_entryOfPath yX7_entryOfPath, Cond.initialized RX7, Cond.code yX7_entryOfPath cX7_entryOfPath 2 (some (.object "PackageRows2$Entry")), Cond.methodLink RX7 35 yX7_placeOf, Cond.instanceMethod yX7_placeOf, Cond.selects RX7 yX7_placeOf yX7_placeOf, Cond.code yX7_placeOf cX7_placeOf 3 (some .int), Cond.methodLink RX7 31 yX5_alike, Cond.instanceMethod yX5_alike, Cond.selects RX5 yX5_alike yX5_alike, Cond.initialized RX5, Cond.code yX5_alike cX5_alike 2 (some .boolean), Cond.fieldLink RX5 21 "PackageRows2$Row" "count" "I", Cond.methodLink RX5 36 yX5_order, Cond.instanceMethod yX5_order, Cond.selects RX5 yX5_order yX5_order, Cond.code yX5_order cX5_order 3 (some .int), Cond.fieldLink RX5 15 "PackageRows2$Row" "cells" "[I"]
def wsX7_countAlike_r2 : List Cond := [Cond.methodLink RX7 38 yX7_entryOrNull, Cond.instanceMethod yX7_entryOrNull, Cond.selects RX7 yX7_entryOrNull yX7_entryOrNull, Cond.code yX7_entryOrNull cX7_entryOrNull 2 (some (.object "PackageRows2$Entry"))]
def wsX7_countAlike : List Cond := .code yX7_countAlike cX7_countAlike 5 (some .int) :: ((wsX7_countAlike_r1 ++ wsX7_countAlike_r2) ++ wsX70 ++ wsX10 ++ wsX50)
def wsX8_init_r1 : List Cond := [Cond.methodLink RX8 1 objectInit, Cond.instanceMethod objectInit, Cond.code objectInit ⟨#[0xb1]⟩ 1 none, Cond.classLink RX8 7 RX5, Cond.instantiable RX5 2, Cond.initialized RX5, Cond.fieldLink RX8 14 "PackageRows2" "pathSigns" "LPackageRows2$Row;", Cond.fieldLink RX8 18 "PackageRows2" "octets" "LPackageRows2$Row;", Cond.classLink RX8 21 RX0, Cond.instantiable RX0 4, Cond.initialized RX0, Cond.fieldLink RX8 24 "PackageRows2" "coming" "LPackageRows2$Coming;", Cond.classLink RX8 28 RX2, Cond.instantiable RX2 3, Cond.initialized RX2, Cond.fieldLink RX8 31 "PackageRows2" "faults" "LPackageRows2$Faults;", Cond.classLink RX8 35 RX7, Cond.fieldLink RX8 37 "PackageRows2" "versions" "[LPackageRows2$Version;", Cond.fieldLink RX8 41 "PackageRows2" "versionCount" "I", Cond.classLink RX8 45 RX6, Cond.instantiable RX6 4, Cond.initialized RX6, Cond.fieldLink RX8 48 "PackageRows2" "transfer" "LPackageRows2$Transfer;", Cond.methodLink RX8 11 yX5_init]
def wsX8_init_r2 : List Cond := [Cond.instanceMethod yX5_init, Cond.code yX5_init cX5_init 2 none, Cond.methodLink RX5 3 objectInit, Cond.methodLink RX5 9 Lib.Math.max.name, Cond.static Lib.Math.max.name, Cond.initialized "java/lang/Math", Cond.code Lib.Math.max.name Lib.Math.max.code 2 (some .int), Cond.arrayClass .int, Cond.fieldLink RX5 15 "PackageRows2$Row" "cells" "[I", Cond.fieldLink RX5 21 "PackageRows2$Row" "count" "I", Cond.methodLink RX8 23 yX0_init, Cond.instanceMethod yX0_init, Cond.code yX0_init cX0_init 1 none, Cond.methodLink RX0 3 objectInit, Cond.classLink RX0 9 RX1, Cond.fieldLink RX0 11 "PackageRows2$Coming" "entries" "[LPackageRows2$Entry;", Cond.fieldLink RX0 17 "PackageRows2$Coming" "entryCount" "I", Cond.classLink RX0 21 RX3, Cond.fieldLink RX0 23 "PackageRows2$Coming" "lines" "[LPackageRows2$Line;", Cond.fieldLink RX0 27 "PackageRows2$Coming" "lineCount" "I", Cond.methodLink RX8 30 yX2_init, Cond.instanceMethod yX2_init, Cond.code yX2_init cX2_init 1 none, Cond.methodLink RX2 3 objectInit]
def wsX8_init_r3 : List Cond := [Cond.fieldLink RX2 9 "PackageRows2$Faults" "kinds" "[I", Cond.fieldLink RX2 15 "PackageRows2$Faults" "numbers" "[I", Cond.fieldLink RX2 18 "PackageRows2$Faults" "count" "I", Cond.methodLink RX8 47 yX6_init, Cond.instanceMethod yX6_init, Cond.code yX6_init cX6_init 1 none, Cond.methodLink RX6 3 objectInit, Cond.fieldLink RX6 9 "PackageRows2$Transfer" "source" "LPackageRows2$Version;", Cond.arrayClass .boolean, Cond.fieldLink RX6 15 "PackageRows2$Transfer" "came" "[Z", Cond.fieldLink RX6 19 "PackageRows2$Transfer" "pieceCount" "I", Cond.fieldLink RX6 23 "PackageRows2$Transfer" "missingCount" "I"]
def wsX8_init : List Cond := .code yX8_init cX8_init 1 none :: ((wsX8_init_r1 ++ (wsX8_init_r2 ++ wsX8_init_r3)) ++ wsX50 ++ wsX80 ++ wsX00 ++ wsX20 ++ wsX60)
def wsX8_path : List Cond := .code yX8_path cX8_path 2 none :: ([.fieldLink RX8 14 "PackageRows2" "pathSigns" "LPackageRows2$Row;", .methodLink RX8 52 yX5_append, .instanceMethod yX5_append, .selects RX5 yX5_append yX5_append, .initialized RX5, .code yX5_append cX5_append 2 none, .fieldLink RX5 21 "PackageRows2$Row" "count" "I", .fieldLink RX5 15 "PackageRows2$Row" "cells" "[I"] ++ wsX80 ++ wsX50)
def wsX8_octet : List Cond := .code yX8_octet cX8_octet 2 none :: ([.fieldLink RX8 18 "PackageRows2" "octets" "LPackageRows2$Row;", .methodLink RX8 52 yX5_append, .instanceMethod yX5_append, .selects RX5 yX5_append yX5_append, .initialized RX5, .code yX5_append cX5_append 2 none, .fieldLink RX5 21 "PackageRows2$Row" "count" "I", .fieldLink RX5 15 "PackageRows2$Row" "cells" "[I"] ++ wsX80 ++ wsX50)
def wsX8_file_r1 : List Cond := [Cond.fieldLink RX8 24 "PackageRows2" "coming" "LPackageRows2$Coming;", Cond.fieldLink RX8 14 "PackageRows2" "pathSigns" "LPackageRows2$Row;", Cond.fieldLink RX8 18 "PackageRows2" "octets" "LPackageRows2$Row;", Cond.methodLink RX8 55 yX0_takeFile, Cond.instanceMethod yX0_takeFile, Cond.selects RX0 yX0_takeFile yX0_takeFile, Cond.initialized RX0, Cond.code yX0_takeFile cX0_takeFile 3 (some .int), Cond.fieldLink RX0 17 "PackageRows2$Coming" "entryCount" "I", Cond.fieldLink RX0 11 "PackageRows2$Coming" "entries" "[LPackageRows2$Entry;", Cond.classLink RX0 9 RX1, Cond.instantiable RX1 4, Cond.initialized RX1, Cond.methodLink RX0 30 yX4_allow, Cond.static yX4_allow, Cond.initialized RX4, Cond.code yX4_allow cX4_allow 5 (some .boolean), Cond.methodLink RX4 9 yX5_size, Cond.instanceMethod yX5_size, Cond.selects RX5 yX5_size yX5_size, Cond.initialized RX5, Cond.code yX5_size cX5_size 1 (some .int), Cond.fieldLink RX5 21 "PackageRows2$Row" "count" "I", Cond.methodLink RX4 15 yX5_cell]
def wsX8_file_r2 : List Cond := [Cond.instanceMethod yX5_cell, Cond.selects RX5 yX5_cell yX5_cell, Cond.code yX5_cell cX5_cell 2 (some .int), Cond.fieldLink RX5 15 "PackageRows2$Row" "cells" "[I", Cond.methodLink RX5 25 yX5_has, Cond.instanceMethod yX5_has, Cond.selects RX5 yX5_has yX5_has, Cond.code yX5_has cX5_has 2 (some .boolean), Cond.methodLink RX4 19 yX4_allowPart, Cond.static yX4_allowPart, Cond.code yX4_allowPart cX4_allowPart 4 (some .boolean), Cond.methodLink RX4 25 yX4_allowInPart, Cond.static yX4_allowInPart, Cond.code yX4_allowInPart cX4_allowInPart 1 (some .boolean), Cond.methodLink RX0 36 yX5_copy, Cond.instanceMethod yX5_copy, Cond.selects RX5 yX5_copy yX5_copy, Cond.code yX5_copy cX5_copy 3 (some (.object "PackageRows2$Row")), Cond.classLink RX5 16 RX5, Cond.instantiable RX5 2, Cond.methodLink RX5 29 yX5_init, Cond.instanceMethod yX5_init, Cond.code yX5_init cX5_init 2 none, Cond.methodLink RX5 3 objectInit]
def wsX8_file_r3 : List Cond := [Cond.instanceMethod objectInit, Cond.code objectInit ⟨#[0xb1]⟩ 1 none, Cond.methodLink RX5 9 Lib.Math.max.name, Cond.static Lib.Math.max.name, Cond.initialized "java/lang/Math", Cond.code Lib.Math.max.name Lib.Math.max.code 2 (some .int), Cond.arrayClass .int, Cond.methodLink RX5 32 yX5_append, Cond.instanceMethod yX5_append, Cond.selects RX5 yX5_append yX5_append, Cond.code yX5_append cX5_append 2 none, Cond.methodLink RX0 42 yX1_init, Cond.instanceMethod yX1_init, Cond.code yX1_init cX1_init 3 none, Cond.methodLink RX1 3 objectInit, Cond.fieldLink RX1 9 "PackageRows2$Entry" "name" "LPackageRows2$Row;", Cond.fieldLink RX1 15 "PackageRows2$Entry" "bytes" "LPackageRows2$Row;", Cond.fieldLink RX1 24 "PackageRows2$Entry" "sumOfAll" "I", Cond.fieldLink RX1 28 "PackageRows2$Entry" "firstVersion" "I", Cond.methodLink RX1 18 yX5_sumOfBytes, Cond.instanceMethod yX5_sumOfBytes, Cond.selects RX5 yX5_sumOfBytes yX5_sumOfBytes, Cond.code yX5_sumOfBytes cX5_sumOfBytes 3 (some .int), Cond.constant RX5 35 (65599)]
def wsX8_file_r4 : List Cond := [Cond.methodLink RX8 59 yX5_clear, Cond.instanceMethod yX5_clear, Cond.selects RX5 yX5_clear yX5_clear, Cond.code yX5_clear cX5_clear 1 none]
def wsX8_file : List Cond := .code yX8_file cX8_file 2 (some .int) :: ((wsX8_file_r1 ++ (wsX8_file_r2 ++ (wsX8_file_r3 ++ wsX8_file_r4))) ++ wsX80 ++ wsX00 ++ wsX10 ++ wsX50)
def wsX8_line_r1 : List Cond := [Cond.fieldLink RX8 24 "PackageRows2" "coming" "LPackageRows2$Coming;", Cond.fieldLink RX8 14 "PackageRows2" "pathSigns" "LPackageRows2$Row;", Cond.methodLink RX8 62 yX0_takeLine, Cond.instanceMethod yX0_takeLine, Cond.selects RX0 yX0_takeLine yX0_takeLine, Cond.initialized RX0, Cond.code yX0_takeLine cX0_takeLine 4 (some .int), Cond.fieldLink RX0 27 "PackageRows2$Coming" "lineCount" "I", Cond.fieldLink RX0 23 "PackageRows2$Coming" "lines" "[LPackageRows2$Line;", Cond.classLink RX0 21 RX3, Cond.instantiable RX3 3, Cond.initialized RX3, Cond.methodLink RX0 30 yX4_allow, Cond.static yX4_allow, Cond.initialized RX4, Cond.code yX4_allow cX4_allow 5 (some .boolean), Cond.methodLink RX4 9 yX5_size, Cond.instanceMethod yX5_size, Cond.selects RX5 yX5_size yX5_size, Cond.initialized RX5, Cond.code yX5_size cX5_size 1 (some .int), Cond.fieldLink RX5 21 "PackageRows2$Row" "count" "I", Cond.methodLink RX4 15 yX5_cell, Cond.instanceMethod yX5_cell]
def wsX8_line_r2 : List Cond := [Cond.selects RX5 yX5_cell yX5_cell, Cond.code yX5_cell cX5_cell 2 (some .int), Cond.fieldLink RX5 15 "PackageRows2$Row" "cells" "[I", Cond.methodLink RX5 25 yX5_has, Cond.instanceMethod yX5_has, Cond.selects RX5 yX5_has yX5_has, Cond.code yX5_has cX5_has 2 (some .boolean), Cond.methodLink RX4 19 yX4_allowPart, Cond.static yX4_allowPart, Cond.code yX4_allowPart cX4_allowPart 4 (some .boolean), Cond.methodLink RX4 25 yX4_allowInPart, Cond.static yX4_allowInPart, Cond.code yX4_allowInPart cX4_allowInPart 1 (some .boolean), Cond.methodLink RX0 36 yX5_copy, Cond.instanceMethod yX5_copy, Cond.selects RX5 yX5_copy yX5_copy, Cond.code yX5_copy cX5_copy 3 (some (.object "PackageRows2$Row")), Cond.classLink RX5 16 RX5, Cond.instantiable RX5 2, Cond.methodLink RX5 29 yX5_init, Cond.instanceMethod yX5_init, Cond.code yX5_init cX5_init 2 none, Cond.methodLink RX5 3 objectInit, Cond.instanceMethod objectInit]
def wsX8_line_r3 : List Cond := [Cond.code objectInit ⟨#[0xb1]⟩ 1 none, Cond.methodLink RX5 9 Lib.Math.max.name, Cond.static Lib.Math.max.name, Cond.initialized "java/lang/Math", Cond.code Lib.Math.max.name Lib.Math.max.code 2 (some .int), Cond.arrayClass .int, Cond.methodLink RX5 32 yX5_append, Cond.instanceMethod yX5_append, Cond.selects RX5 yX5_append yX5_append, Cond.code yX5_append cX5_append 2 none, Cond.methodLink RX0 45 yX3_init, Cond.instanceMethod yX3_init, Cond.code yX3_init cX3_init 4 none, Cond.methodLink RX3 1 objectInit, Cond.fieldLink RX3 7 "PackageRows2$Line" "name" "LPackageRows2$Row;", Cond.fieldLink RX3 13 "PackageRows2$Line" "toldSize" "I", Cond.fieldLink RX3 17 "PackageRows2$Line" "toldSum" "I", Cond.methodLink RX8 59 yX5_clear, Cond.instanceMethod yX5_clear, Cond.selects RX5 yX5_clear yX5_clear, Cond.code yX5_clear cX5_clear 1 none]
def wsX8_line : List Cond := .code yX8_line cX8_line 4 (some .int) :: ((wsX8_line_r1 ++ (wsX8_line_r2 ++ wsX8_line_r3)) ++ wsX80 ++ wsX00 ++ wsX30 ++ wsX50)
def wsX8_sum : List Cond := .code yX8_sum cX8_sum 1 (some .int) :: ([.fieldLink RX8 18 "PackageRows2" "octets" "LPackageRows2$Row;", .methodLink RX8 66 yX5_sumOfBytes, .instanceMethod yX5_sumOfBytes, .selects RX5 yX5_sumOfBytes yX5_sumOfBytes, .initialized RX5, .code yX5_sumOfBytes cX5_sumOfBytes 3 (some .int), .fieldLink RX5 21 "PackageRows2$Row" "count" "I", .constant RX5 35 (65599), .fieldLink RX5 15 "PackageRows2$Row" "cells" "[I"] ++ wsX80 ++ wsX50)
def wsX8_check_r1 : List Cond := [Cond.fieldLink RX8 24 "PackageRows2" "coming" "LPackageRows2$Coming;", Cond.fieldLink RX8 31 "PackageRows2" "faults" "LPackageRows2$Faults;", Cond.methodLink RX8 70 yX0_tellFaults, Cond.instanceMethod yX0_tellFaults, Cond.selects RX0 yX0_tellFaults yX0_tellFaults, Cond.initialized RX0, Cond.code yX0_tellFaults cX0_tellFaults 3 none, Cond.fieldLink RX0 27 "PackageRows2$Coming" "lineCount" "I", Cond.fieldLink RX0 17 "PackageRows2$Coming" "entryCount" "I", Cond.methodLink RX0 48 yX2_clear, Cond.instanceMethod yX2_clear, Cond.selects RX2 yX2_clear yX2_clear, Cond.initialized RX2, Cond.code yX2_clear cX2_clear 1 none, Cond.fieldLink RX2 18 "PackageRows2$Faults" "count" "I", Cond.methodLink RX0 53 yX0_faultOfLine, Cond.instanceMethod yX0_faultOfLine, Cond.selects RX0 yX0_faultOfLine yX0_faultOfLine, Cond.code yX0_faultOfLine cX0_faultOfLine 5 (some .int), Cond.fieldLink RX0 23 "PackageRows2$Coming" "lines" "[LPackageRows2$Line;", Cond.fieldLink RX0 64 "PackageRows2$Line" "name" "LPackageRows2$Row;", Cond.fieldLink RX0 11 "PackageRows2$Coming" "entries" "[LPackageRows2$Entry;", Cond.fieldLink RX0 75 "PackageRows2$Entry" "bytes" "LPackageRows2$Row;", Cond.fieldLink RX0 82 "PackageRows2$Line" "toldSize" "I"]
def wsX8_check_r2 : List Cond := [Cond.fieldLink RX0 85 "PackageRows2$Entry" "sumOfAll" "I", Cond.fieldLink RX0 88 "PackageRows2$Line" "toldSum" "I", Cond.methodLink RX0 68 yX0_firstLine, Cond.instanceMethod yX0_firstLine, Cond.selects RX0 yX0_firstLine yX0_firstLine, Cond.code yX0_firstLine cX0_firstLine 3 (some .int), Cond.methodLink RX0 92 yX5_alike, Cond.instanceMethod yX5_alike, Cond.selects RX5 yX5_alike yX5_alike, Cond.initialized RX5, Cond.code yX5_alike cX5_alike 2 (some .boolean), Cond.fieldLink RX5 21 "PackageRows2$Row" "count" "I", Cond.methodLink RX5 36 yX5_order, Cond.instanceMethod yX5_order, Cond.selects RX5 yX5_order yX5_order, Cond.code yX5_order cX5_order 3 (some .int), Cond.fieldLink RX5 15 "PackageRows2$Row" "cells" "[I", Cond.methodLink RX0 72 yX0_firstFile, Cond.instanceMethod yX0_firstFile, Cond.selects RX0 yX0_firstFile yX0_firstFile, Cond.code yX0_firstFile cX0_firstFile 3 (some .int), Cond.fieldLink RX0 91 "PackageRows2$Entry" "name" "LPackageRows2$Row;", Cond.methodLink RX0 78 yX5_size, Cond.instanceMethod yX5_size]
def wsX8_check_r3 : List Cond := [Cond.selects RX5 yX5_size yX5_size, Cond.code yX5_size cX5_size 1 (some .int), Cond.methodLink RX0 57 yX2_note, Cond.instanceMethod yX2_note, Cond.selects RX2 yX2_note yX2_note, Cond.code yX2_note cX2_note 3 none, Cond.fieldLink RX2 9 "PackageRows2$Faults" "kinds" "[I", Cond.fieldLink RX2 15 "PackageRows2$Faults" "numbers" "[I", Cond.methodLink RX0 61 yX0_faultOfFile, Cond.instanceMethod yX0_faultOfFile, Cond.selects RX0 yX0_faultOfFile yX0_faultOfFile, Cond.code yX0_faultOfFile cX0_faultOfFile 3 (some .int), Cond.methodLink RX8 74 yX2_size, Cond.instanceMethod yX2_size, Cond.selects RX2 yX2_size yX2_size, Cond.code yX2_size cX2_size 1 (some .int)]
def wsX8_check : List Cond := .code yX8_check cX8_check 1 (some .int) :: ((wsX8_check_r1 ++ (wsX8_check_r2 ++ wsX8_check_r3)) ++ wsX80 ++ wsX00 ++ wsX20 ++ wsX30 ++ wsX10 ++ wsX50)
def wsX8_fault : List Cond := .code yX8_fault cX8_fault 3 (some .int) :: ([.classLink RX8 81 "java/util/NoSuchElementException", .initialized "java/util/NoSuchElementException", .fieldLink RX8 31 "PackageRows2" "faults" "LPackageRows2$Faults;", .methodLink RX8 77 yX2_has, .instanceMethod yX2_has, .selects RX2 yX2_has yX2_has, .initialized RX2, .code yX2_has cX2_has 2 (some .boolean), .fieldLink RX2 18 "PackageRows2$Faults" "count" "I", .methodLink RX8 84 yX2_kindOf, .instanceMethod yX2_kindOf, .selects RX2 yX2_kindOf yX2_kindOf, .code yX2_kindOf cX2_kindOf 2 (some .int), .fieldLink RX2 9 "PackageRows2$Faults" "kinds" "[I", .methodLink RX2 22 yX2_has, .methodLink RX8 88 yX2_numberOf, .instanceMethod yX2_numberOf, .selects RX2 yX2_numberOf yX2_numberOf, .code yX2_numberOf cX2_numberOf 2 (some .int), .fieldLink RX2 15 "PackageRows2$Faults" "numbers" "[I"] ++ wsX80 ++ wsX20 ++ (vx_at0 RX8 83 "java/util/NoSuchElementException" ["java/lang/RuntimeException", "java/lang/Exception"]).filter goodWord)
def wsX8_versionOrNull : List Cond := .code yX8_versionOrNull cX8_versionOrNull 2 (some (.object "PackageRows2$Version")) :: ([.fieldLink RX8 41 "PackageRows2" "versionCount" "I", .fieldLink RX8 37 "PackageRows2" "versions" "[LPackageRows2$Version;"] ++ wsX80)
def wsX8_accept_r1 : List Cond := [Cond.fieldLink RX8 24 "PackageRows2" "coming" "LPackageRows2$Coming;", Cond.fieldLink RX8 31 "PackageRows2" "faults" "LPackageRows2$Faults;", Cond.fieldLink RX8 41 "PackageRows2" "versionCount" "I", Cond.fieldLink RX8 37 "PackageRows2" "versions" "[LPackageRows2$Version;", Cond.methodLink RX8 70 yX0_tellFaults, Cond.instanceMethod yX0_tellFaults, Cond.selects RX0 yX0_tellFaults yX0_tellFaults, Cond.initialized RX0, Cond.code yX0_tellFaults cX0_tellFaults 3 none, Cond.fieldLink RX0 27 "PackageRows2$Coming" "lineCount" "I", Cond.fieldLink RX0 17 "PackageRows2$Coming" "entryCount" "I", Cond.methodLink RX0 48 yX2_clear, Cond.instanceMethod yX2_clear, Cond.selects RX2 yX2_clear yX2_clear, Cond.initialized RX2, Cond.code yX2_clear cX2_clear 1 none, Cond.fieldLink RX2 18 "PackageRows2$Faults" "count" "I", Cond.methodLink RX0 53 yX0_faultOfLine, Cond.instanceMethod yX0_faultOfLine, Cond.selects RX0 yX0_faultOfLine yX0_faultOfLine, Cond.code yX0_faultOfLine cX0_faultOfLine 5 (some .int), Cond.fieldLink RX0 23 "PackageRows2$Coming" "lines" "[LPackageRows2$Line;", Cond.fieldLink RX0 64 "PackageRows2$Line" "name" "LPackageRows2$Row;", Cond.fieldLink RX0 11 "PackageRows2$Coming" "entries" "[LPackageRows2$Entry;"]
def wsX8_accept_r2 : List Cond := [Cond.fieldLink RX0 75 "PackageRows2$Entry" "bytes" "LPackageRows2$Row;", Cond.fieldLink RX0 82 "PackageRows2$Line" "toldSize" "I", Cond.fieldLink RX0 85 "PackageRows2$Entry" "sumOfAll" "I", Cond.fieldLink RX0 88 "PackageRows2$Line" "toldSum" "I", Cond.methodLink RX0 68 yX0_firstLine, Cond.instanceMethod yX0_firstLine, Cond.selects RX0 yX0_firstLine yX0_firstLine, Cond.code yX0_firstLine cX0_firstLine 3 (some .int), Cond.methodLink RX0 92 yX5_alike, Cond.instanceMethod yX5_alike, Cond.selects RX5 yX5_alike yX5_alike, Cond.initialized RX5, Cond.code yX5_alike cX5_alike 2 (some .boolean), Cond.fieldLink RX5 21 "PackageRows2$Row" "count" "I", Cond.methodLink RX5 36 yX5_order, Cond.instanceMethod yX5_order, Cond.selects RX5 yX5_order yX5_order, Cond.code yX5_order cX5_order 3 (some .int), Cond.fieldLink RX5 15 "PackageRows2$Row" "cells" "[I", Cond.methodLink RX0 72 yX0_firstFile, Cond.instanceMethod yX0_firstFile, Cond.selects RX0 yX0_firstFile yX0_firstFile, Cond.code yX0_firstFile cX0_firstFile 3 (some .int), Cond.fieldLink RX0 91 "PackageRows2$Entry" "name" "LPackageRows2$Row;"]
def wsX8_accept_r3 : List Cond := [Cond.methodLink RX0 78 yX5_size, Cond.instanceMethod yX5_size, Cond.selects RX5 yX5_size yX5_size, Cond.code yX5_size cX5_size 1 (some .int), Cond.methodLink RX0 57 yX2_note, Cond.instanceMethod yX2_note, Cond.selects RX2 yX2_note yX2_note, Cond.code yX2_note cX2_note 3 none, Cond.fieldLink RX2 9 "PackageRows2$Faults" "kinds" "[I", Cond.fieldLink RX2 15 "PackageRows2$Faults" "numbers" "[I", Cond.methodLink RX0 61 yX0_faultOfFile, Cond.instanceMethod yX0_faultOfFile, Cond.selects RX0 yX0_faultOfFile yX0_faultOfFile, Cond.code yX0_faultOfFile cX0_faultOfFile 3 (some .int), Cond.methodLink RX8 74 yX2_size, Cond.instanceMethod yX2_size, Cond.selects RX2 yX2_size yX2_size, Cond.code yX2_size cX2_size 1 (some .int), Cond.methodLink RX8 91 yX0_fileCount, Cond.instanceMethod yX0_fileCount, Cond.selects RX0 yX0_fileCount yX0_fileCount, Cond.code yX0_fileCount cX0_fileCount 1 (some .int), Cond.methodLink RX8 94 yX8_versionOrNull, Cond.instanceMethod yX8_versionOrNull]
def wsX8_accept_r4 : List Cond := [Cond.selects RX8 yX8_versionOrNull yX8_versionOrNull, Cond.initialized RX8, Cond.code yX8_versionOrNull cX8_versionOrNull 2 (some (.object "PackageRows2$Version")), Cond.methodLink RX8 98 yX0_toVersion, Cond.instanceMethod yX0_toVersion, Cond.selects RX0 yX0_toVersion yX0_toVersion, Cond.code yX0_toVersion cX0_toVersion 5 (some (.object "PackageRows2$Version")), Cond.classLink RX0 95 RX7, Cond.instantiable RX7 2, Cond.initialized RX7, Cond.methodLink RX0 97 yX7_init, Cond.instanceMethod yX7_init, Cond.code yX7_init cX7_init 1 none, Cond.methodLink RX7 3 objectInit, Cond.instanceMethod objectInit, Cond.code objectInit ⟨#[0xb1]⟩ 1 none, Cond.classLink RX7 9 RX1, Cond.fieldLink RX7 11 "PackageRows2$Version" "entries" "[LPackageRows2$Entry;", Cond.fieldLink RX7 17 "PackageRows2$Version" "count" "I", Cond.methodLink RX0 98 yX0_sharedOrNew, Cond.static yX0_sharedOrNew, Cond.code yX0_sharedOrNew cX0_sharedOrNew 4 (some (.object "PackageRows2$Entry")), Cond.fieldLink RX0 110 "PackageRows2$Entry" "firstVersion" "I", Cond.methodLink RX0 106 yX7_entryOfPath]
def wsX8_accept_r5 : List Cond := [Cond.instanceMethod yX7_entryOfPath, Cond.selects RX7 yX7_entryOfPath yX7_entryOfPath, Cond.code yX7_entryOfPath cX7_entryOfPath 2 (some (.object "PackageRows2$Entry")), Cond.methodLink RX7 35 yX7_placeOf, Cond.instanceMethod yX7_placeOf, Cond.selects RX7 yX7_placeOf yX7_placeOf, Cond.code yX7_placeOf cX7_placeOf 3 (some .int), Cond.fieldLink RX7 21 "PackageRows2$Entry" "name" "LPackageRows2$Row;", Cond.methodLink RX7 31 yX5_alike, Cond.methodLink RX7 38 yX7_entryOrNull, Cond.instanceMethod yX7_entryOrNull, Cond.selects RX7 yX7_entryOrNull yX7_entryOrNull, Cond.code yX7_entryOrNull cX7_entryOrNull 2 (some (.object "PackageRows2$Entry")), Cond.methodLink RX0 102 yX7_insert, Cond.instanceMethod yX7_insert, Cond.selects RX7 yX7_insert yX7_insert, Cond.code yX7_insert cX7_insert 3 none, Cond.methodLink RX7 25 yX5_order, Cond.methodLink RX8 102 yX0_clear, Cond.instanceMethod yX0_clear, Cond.selects RX0 yX0_clear yX0_clear, Cond.code yX0_clear cX0_clear 1 none]
def wsX8_accept : List Cond := .code yX8_accept cX8_accept 2 (some .int) :: ((wsX8_accept_r1 ++ (wsX8_accept_r2 ++ (wsX8_accept_r3 ++ (wsX8_accept_r4 ++ wsX8_accept_r5)))) ++ wsX80 ++ wsX00 ++ wsX20 ++ wsX30 ++ wsX10 ++ wsX50 ++ wsX70)
def wsX8_drop : List Cond := .code yX8_drop cX8_drop 2 (some .int) :: ([.fieldLink RX8 24 "PackageRows2" "coming" "LPackageRows2$Coming;", .methodLink RX8 91 yX0_fileCount, .instanceMethod yX0_fileCount, .selects RX0 yX0_fileCount yX0_fileCount, .initialized RX0, .code yX0_fileCount cX0_fileCount 1 (some .int), .fieldLink RX0 17 "PackageRows2$Coming" "entryCount" "I", .methodLink RX8 103 yX0_lineCount, .instanceMethod yX0_lineCount, .selects RX0 yX0_lineCount yX0_lineCount, .code yX0_lineCount cX0_lineCount 1 (some .int), .fieldLink RX0 27 "PackageRows2$Coming" "lineCount" "I", .methodLink RX8 102 yX0_clear, .instanceMethod yX0_clear, .selects RX0 yX0_clear yX0_clear, .code yX0_clear cX0_clear 1 none] ++ wsX80 ++ wsX00)
def wsX8_files : List Cond := .code yX8_files cX8_files 3 (some .int) :: ([.methodLink RX8 94 yX8_versionOrNull, .instanceMethod yX8_versionOrNull, .selects RX8 yX8_versionOrNull yX8_versionOrNull, .initialized RX8, .code yX8_versionOrNull cX8_versionOrNull 2 (some (.object "PackageRows2$Version")), .fieldLink RX8 41 "PackageRows2" "versionCount" "I", .fieldLink RX8 37 "PackageRows2" "versions" "[LPackageRows2$Version;", .methodLink RX8 106 yX7_size, .instanceMethod yX7_size, .selects RX7 yX7_size yX7_size, .initialized RX7, .code yX7_size cX7_size 1 (some .int), .fieldLink RX7 17 "PackageRows2$Version" "count" "I"] ++ wsX80 ++ wsX70)
def wsX8_entryOrNull : List Cond := .code yX8_entryOrNull cX8_entryOrNull 4 (some (.object "PackageRows2$Entry")) :: ([.methodLink RX8 94 yX8_versionOrNull, .instanceMethod yX8_versionOrNull, .selects RX8 yX8_versionOrNull yX8_versionOrNull, .initialized RX8, .code yX8_versionOrNull cX8_versionOrNull 2 (some (.object "PackageRows2$Version")), .fieldLink RX8 41 "PackageRows2" "versionCount" "I", .fieldLink RX8 37 "PackageRows2" "versions" "[LPackageRows2$Version;", .methodLink RX8 155 yX7_entryOrNull, .instanceMethod yX7_entryOrNull, .selects RX7 yX7_entryOrNull yX7_entryOrNull, .initialized RX7, .code yX7_entryOrNull cX7_entryOrNull 2 (some (.object "PackageRows2$Entry")), .fieldLink RX7 17 "PackageRows2$Version" "count" "I", .fieldLink RX7 11 "PackageRows2$Version" "entries" "[LPackageRows2$Entry;"] ++ wsX80 ++ wsX70)
def wsX8_about_r1 : List Cond := [Cond.fieldLink RX8 111 "PackageRows2$Entry" "bytes" "LPackageRows2$Row;", Cond.fieldLink RX8 117 "PackageRows2$Entry" "sumOfAll" "I", Cond.fieldLink RX8 120 "PackageRows2$Entry" "name" "LPackageRows2$Row;", Cond.fieldLink RX8 123 "PackageRows2$Entry" "firstVersion" "I", Cond.methodLink RX8 107 yX8_entryOrNull, Cond.instanceMethod yX8_entryOrNull, Cond.selects RX8 yX8_entryOrNull yX8_entryOrNull, Cond.initialized RX8, Cond.code yX8_entryOrNull cX8_entryOrNull 4 (some (.object "PackageRows2$Entry")), Cond.methodLink RX8 94 yX8_versionOrNull, Cond.instanceMethod yX8_versionOrNull, Cond.selects RX8 yX8_versionOrNull yX8_versionOrNull, Cond.code yX8_versionOrNull cX8_versionOrNull 2 (some (.object "PackageRows2$Version")), Cond.fieldLink RX8 41 "PackageRows2" "versionCount" "I", Cond.fieldLink RX8 37 "PackageRows2" "versions" "[LPackageRows2$Version;", Cond.methodLink RX8 155 yX7_entryOrNull, Cond.instanceMethod yX7_entryOrNull, Cond.selects RX7 yX7_entryOrNull yX7_entryOrNull, Cond.initialized RX7, Cond.code yX7_entryOrNull cX7_entryOrNull 2 (some (.object "PackageRows2$Entry")), Cond.fieldLink RX7 17 "PackageRows2$Version" "count" "I", Cond.fieldLink RX7 11 "PackageRows2$Version" "entries" "[LPackageRows2$Entry;", Cond.methodLink RX8 116 yX5_size, Cond.instanceMethod yX5_size]
def wsX8_about_r2 : List Cond := [Cond.selects RX5 yX5_size yX5_size, Cond.initialized RX5, Cond.code yX5_size cX5_size 1 (some .int), Cond.fieldLink RX5 21 "PackageRows2$Row" "count" "I"]
def wsX8_about : List Cond := .code yX8_about cX8_about 5 (some .int) :: ((wsX8_about_r1 ++ wsX8_about_r2) ++ wsX10 ++ wsX80 ++ wsX70 ++ wsX50)
def wsX8_sign_r1 : List Cond := [Cond.fieldLink RX8 120 "PackageRows2$Entry" "name" "LPackageRows2$Row;", Cond.methodLink RX8 107 yX8_entryOrNull, Cond.instanceMethod yX8_entryOrNull, Cond.selects RX8 yX8_entryOrNull yX8_entryOrNull, Cond.initialized RX8, Cond.code yX8_entryOrNull cX8_entryOrNull 4 (some (.object "PackageRows2$Entry")), Cond.methodLink RX8 94 yX8_versionOrNull, Cond.instanceMethod yX8_versionOrNull, Cond.selects RX8 yX8_versionOrNull yX8_versionOrNull, Cond.code yX8_versionOrNull cX8_versionOrNull 2 (some (.object "PackageRows2$Version")), Cond.fieldLink RX8 41 "PackageRows2" "versionCount" "I", Cond.fieldLink RX8 37 "PackageRows2" "versions" "[LPackageRows2$Version;", Cond.methodLink RX8 155 yX7_entryOrNull, Cond.instanceMethod yX7_entryOrNull, Cond.selects RX7 yX7_entryOrNull yX7_entryOrNull, Cond.initialized RX7, Cond.code yX7_entryOrNull cX7_entryOrNull 2 (some (.object "PackageRows2$Entry")), Cond.fieldLink RX7 17 "PackageRows2$Version" "count" "I", Cond.fieldLink RX7 11 "PackageRows2$Version" "entries" "[LPackageRows2$Entry;", Cond.methodLink RX8 126 yX5_cell, Cond.instanceMethod yX5_cell, Cond.selects RX5 yX5_cell yX5_cell, Cond.initialized RX5, Cond.code yX5_cell cX5_cell 2 (some .int)]
def wsX8_sign_r2 : List Cond := [Cond.fieldLink RX5 15 "PackageRows2$Row" "cells" "[I", Cond.methodLink RX5 25 yX5_has, Cond.instanceMethod yX5_has, Cond.selects RX5 yX5_has yX5_has, Cond.code yX5_has cX5_has 2 (some .boolean), Cond.fieldLink RX5 21 "PackageRows2$Row" "count" "I"]
def wsX8_sign : List Cond := .code yX8_sign cX8_sign 5 (some .int) :: ((wsX8_sign_r1 ++ wsX8_sign_r2) ++ wsX10 ++ wsX80 ++ wsX70 ++ wsX50)
def wsX8_at_r1 : List Cond := [Cond.fieldLink RX8 111 "PackageRows2$Entry" "bytes" "LPackageRows2$Row;", Cond.classLink RX8 130 RJx00060, Cond.instantiable RJx00060 6, Cond.initialized RJx00060, Cond.methodLink RX8 107 yX8_entryOrNull, Cond.instanceMethod yX8_entryOrNull, Cond.selects RX8 yX8_entryOrNull yX8_entryOrNull, Cond.initialized RX8, Cond.code yX8_entryOrNull cX8_entryOrNull 4 (some (.object "PackageRows2$Entry")), Cond.methodLink RX8 94 yX8_versionOrNull, Cond.instanceMethod yX8_versionOrNull, Cond.selects RX8 yX8_versionOrNull yX8_versionOrNull, Cond.code yX8_versionOrNull cX8_versionOrNull 2 (some (.object "PackageRows2$Version")), Cond.fieldLink RX8 41 "PackageRows2" "versionCount" "I", Cond.fieldLink RX8 37 "PackageRows2" "versions" "[LPackageRows2$Version;", Cond.methodLink RX8 155 yX7_entryOrNull, Cond.instanceMethod yX7_entryOrNull, Cond.selects RX7 yX7_entryOrNull yX7_entryOrNull, Cond.initialized RX7, Cond.code yX7_entryOrNull cX7_entryOrNull 2 (some (.object "PackageRows2$Entry")), Cond.fieldLink RX7 17 "PackageRows2$Version" "count" "I", Cond.fieldLink RX7 11 "PackageRows2$Version" "entries" "[LPackageRows2$Entry;", Cond.methodLink RX8 129 yX5_has, Cond.instanceMethod yX5_has]
def wsX8_at_r2 : List Cond := [Cond.selects RX5 yX5_has yX5_has, Cond.initialized RX5, Cond.code yX5_has cX5_has 2 (some .boolean), Cond.fieldLink RX5 21 "PackageRows2$Row" "count" "I", Cond.methodLink RX8 126 yX5_cell, Cond.instanceMethod yX5_cell, Cond.selects RX5 yX5_cell yX5_cell, Cond.code yX5_cell cX5_cell 2 (some .int), Cond.fieldLink RX5 15 "PackageRows2$Row" "cells" "[I", Cond.methodLink RX5 25 yX5_has]
def wsX8_at : List Cond := .code yX8_at cX8_at 5 (some .int) :: ((wsX8_at_r1 ++ wsX8_at_r2) ++ wsX10 ++ wsJx000600 ++ wsX80 ++ wsX70 ++ wsX50)
def wsX8_find_r1 : List Cond := [Cond.fieldLink RX8 14 "PackageRows2" "pathSigns" "LPackageRows2$Row;", Cond.methodLink RX8 94 yX8_versionOrNull, Cond.instanceMethod yX8_versionOrNull, Cond.selects RX8 yX8_versionOrNull yX8_versionOrNull, Cond.initialized RX8, Cond.code yX8_versionOrNull cX8_versionOrNull 2 (some (.object "PackageRows2$Version")), Cond.fieldLink RX8 41 "PackageRows2" "versionCount" "I", Cond.fieldLink RX8 37 "PackageRows2" "versions" "[LPackageRows2$Version;", Cond.methodLink RX8 133 yX7_placeOf, Cond.instanceMethod yX7_placeOf, Cond.selects RX7 yX7_placeOf yX7_placeOf, Cond.initialized RX7, Cond.code yX7_placeOf cX7_placeOf 3 (some .int), Cond.fieldLink RX7 17 "PackageRows2$Version" "count" "I", Cond.fieldLink RX7 11 "PackageRows2$Version" "entries" "[LPackageRows2$Entry;", Cond.fieldLink RX7 21 "PackageRows2$Entry" "name" "LPackageRows2$Row;", Cond.methodLink RX7 31 yX5_alike, Cond.instanceMethod yX5_alike, Cond.selects RX5 yX5_alike yX5_alike, Cond.initialized RX5, Cond.code yX5_alike cX5_alike 2 (some .boolean), Cond.fieldLink RX5 21 "PackageRows2$Row" "count" "I", Cond.methodLink RX5 36 yX5_order, Cond.instanceMethod yX5_order]
def wsX8_find_r2 : List Cond := [Cond.selects RX5 yX5_order yX5_order, Cond.code yX5_order cX5_order 3 (some .int), Cond.fieldLink RX5 15 "PackageRows2$Row" "cells" "[I"]
def wsX8_find : List Cond := .code yX8_find cX8_find 3 (some .int) :: ((wsX8_find_r1 ++ wsX8_find_r2) ++ wsX80 ++ wsX70 ++ wsX10 ++ wsX50)
def wsX8_same_r1 : List Cond := [Cond.methodLink RX8 94 yX8_versionOrNull, Cond.instanceMethod yX8_versionOrNull, Cond.selects RX8 yX8_versionOrNull yX8_versionOrNull, Cond.initialized RX8, Cond.code yX8_versionOrNull cX8_versionOrNull 2 (some (.object "PackageRows2$Version")), Cond.fieldLink RX8 41 "PackageRows2" "versionCount" "I", Cond.fieldLink RX8 37 "PackageRows2" "versions" "[LPackageRows2$Version;", Cond.methodLink RX8 137 yX7_countAlike, Cond.instanceMethod yX7_countAlike, Cond.selects RX7 yX7_countAlike yX7_countAlike, Cond.initialized RX7, Cond.code yX7_countAlike cX7_countAlike 5 (some .int), Cond.fieldLink RX7 17 "PackageRows2$Version" "count" "I", Cond.fieldLink RX7 11 "PackageRows2$Version" "entries" "[LPackageRows2$Entry;", Cond.fieldLink RX7 21 "PackageRows2$Entry" "name" "LPackageRows2$Row;", Cond.fieldLink RX7 46 "PackageRows2$Entry" "bytes" "LPackageRows2$Row;", Cond.methodLink RX7 42 yX7_entryOfPath, Cond.instanceMethod yX7_entryOfPath, Cond.selects RX7 yX7_entryOfPath yX7_entryOfPath, Cond.code yX7_entryOfPath cX7_entryOfPath 2 (some (.object "PackageRows2$Entry")), Cond.methodLink RX7 35 yX7_placeOf, Cond.instanceMethod yX7_placeOf, Cond.selects RX7 yX7_placeOf yX7_placeOf, Cond.code yX7_placeOf cX7_placeOf 3 (some .int)]
def wsX8_same_r2 : List Cond := [Cond.methodLink RX7 31 yX5_alike, Cond.instanceMethod yX5_alike, Cond.selects RX5 yX5_alike yX5_alike, Cond.initialized RX5, Cond.code yX5_alike cX5_alike 2 (some .boolean), Cond.fieldLink RX5 21 "PackageRows2$Row" "count" "I", Cond.methodLink RX5 36 yX5_order, Cond.instanceMethod yX5_order, Cond.selects RX5 yX5_order yX5_order, Cond.code yX5_order cX5_order 3 (some .int), Cond.fieldLink RX5 15 "PackageRows2$Row" "cells" "[I", Cond.methodLink RX7 38 yX7_entryOrNull, Cond.instanceMethod yX7_entryOrNull, Cond.selects RX7 yX7_entryOrNull yX7_entryOrNull, Cond.code yX7_entryOrNull cX7_entryOrNull 2 (some (.object "PackageRows2$Entry"))]
def wsX8_same : List Cond := .code yX8_same cX8_same 5 (some .int) :: ((wsX8_same_r1 ++ wsX8_same_r2) ++ wsX80 ++ wsX70 ++ wsX10 ++ wsX50)
def wsX8_split_r1 : List Cond := [Cond.fieldLink RX8 48 "PackageRows2" "transfer" "LPackageRows2$Transfer;", Cond.methodLink RX8 94 yX8_versionOrNull, Cond.instanceMethod yX8_versionOrNull, Cond.selects RX8 yX8_versionOrNull yX8_versionOrNull, Cond.initialized RX8, Cond.code yX8_versionOrNull cX8_versionOrNull 2 (some (.object "PackageRows2$Version")), Cond.fieldLink RX8 41 "PackageRows2" "versionCount" "I", Cond.fieldLink RX8 37 "PackageRows2" "versions" "[LPackageRows2$Version;", Cond.methodLink RX8 141 yX6_begin, Cond.instanceMethod yX6_begin, Cond.selects RX6 yX6_begin yX6_begin, Cond.initialized RX6, Cond.code yX6_begin cX6_begin 4 (some .int), Cond.fieldLink RX6 9 "PackageRows2$Transfer" "source" "LPackageRows2$Version;", Cond.fieldLink RX6 15 "PackageRows2$Transfer" "came" "[Z", Cond.methodLink RX6 32 Lib.Math.min.name, Cond.static Lib.Math.min.name, Cond.initialized "java/lang/Math", Cond.code Lib.Math.min.name Lib.Math.min.code 2 (some .int), Cond.fieldLink RX6 19 "PackageRows2$Transfer" "pieceCount" "I", Cond.fieldLink RX6 23 "PackageRows2$Transfer" "missingCount" "I", Cond.methodLink RX6 26 yX7_byteCount, Cond.instanceMethod yX7_byteCount, Cond.selects RX7 yX7_byteCount yX7_byteCount]
def wsX8_split_r2 : List Cond := [Cond.initialized RX7, Cond.code yX7_byteCount cX7_byteCount 3 (some .int), Cond.fieldLink RX7 17 "PackageRows2$Version" "count" "I", Cond.fieldLink RX7 11 "PackageRows2$Version" "entries" "[LPackageRows2$Entry;", Cond.fieldLink RX7 46 "PackageRows2$Entry" "bytes" "LPackageRows2$Row;", Cond.methodLink RX7 49 yX5_size, Cond.instanceMethod yX5_size, Cond.selects RX5 yX5_size yX5_size, Cond.initialized RX5, Cond.code yX5_size cX5_size 1 (some .int), Cond.fieldLink RX5 21 "PackageRows2$Row" "count" "I"]
def wsX8_split : List Cond := .code yX8_split cX8_split 4 (some .int) :: ((wsX8_split_r1 ++ wsX8_split_r2) ++ wsX80 ++ wsX60 ++ wsX70 ++ wsX10 ++ wsX50)
def wsX8_piece : List Cond := .code yX8_piece cX8_piece 3 (some .int) :: ([.fieldLink RX8 48 "PackageRows2" "transfer" "LPackageRows2$Transfer;", .methodLink RX8 145 yX6_take, .instanceMethod yX6_take, .selects RX6 yX6_take yX6_take, .initialized RX6, .code yX6_take cX6_take 3 (some .int), .fieldLink RX6 19 "PackageRows2$Transfer" "pieceCount" "I", .fieldLink RX6 15 "PackageRows2$Transfer" "came" "[Z", .fieldLink RX6 23 "PackageRows2$Transfer" "missingCount" "I"] ++ wsX80 ++ wsX60)
def wsX8_missing : List Cond := .code yX8_missing cX8_missing 1 (some .int) :: ([.fieldLink RX8 48 "PackageRows2" "transfer" "LPackageRows2$Transfer;", .methodLink RX8 149 yX6_firstMissing, .instanceMethod yX6_firstMissing, .selects RX6 yX6_firstMissing yX6_firstMissing, .initialized RX6, .code yX6_firstMissing cX6_firstMissing 2 (some .int), .fieldLink RX6 19 "PackageRows2$Transfer" "pieceCount" "I", .fieldLink RX6 15 "PackageRows2$Transfer" "came" "[Z"] ++ wsX80 ++ wsX60)
def wsX8_joined_r1 : List Cond := [Cond.fieldLink RX8 48 "PackageRows2" "transfer" "LPackageRows2$Transfer;", Cond.methodLink RX8 152 yX6_joinedByte, Cond.instanceMethod yX6_joinedByte, Cond.selects RX6 yX6_joinedByte yX6_joinedByte, Cond.initialized RX6, Cond.code yX6_joinedByte cX6_joinedByte 2 (some .int), Cond.fieldLink RX6 9 "PackageRows2$Transfer" "source" "LPackageRows2$Version;", Cond.fieldLink RX6 23 "PackageRows2$Transfer" "missingCount" "I", Cond.methodLink RX6 38 yX7_byteInAll, Cond.instanceMethod yX7_byteInAll, Cond.selects RX7 yX7_byteInAll yX7_byteInAll, Cond.initialized RX7, Cond.code yX7_byteInAll cX7_byteInAll 5 (some .int), Cond.fieldLink RX7 17 "PackageRows2$Version" "count" "I", Cond.fieldLink RX7 11 "PackageRows2$Version" "entries" "[LPackageRows2$Entry;", Cond.fieldLink RX7 46 "PackageRows2$Entry" "bytes" "LPackageRows2$Row;", Cond.methodLink RX7 49 yX5_size, Cond.instanceMethod yX5_size, Cond.selects RX5 yX5_size yX5_size, Cond.initialized RX5, Cond.code yX5_size cX5_size 1 (some .int), Cond.fieldLink RX5 21 "PackageRows2$Row" "count" "I", Cond.methodLink RX7 53 yX5_cell, Cond.instanceMethod yX5_cell]
def wsX8_joined_r2 : List Cond := [Cond.selects RX5 yX5_cell yX5_cell, Cond.code yX5_cell cX5_cell 2 (some .int), Cond.fieldLink RX5 15 "PackageRows2$Row" "cells" "[I", Cond.methodLink RX5 25 yX5_has, Cond.instanceMethod yX5_has, Cond.selects RX5 yX5_has yX5_has, Cond.code yX5_has cX5_has 2 (some .boolean)]
def wsX8_joined : List Cond := .code yX8_joined cX8_joined 2 (some .int) :: ((wsX8_joined_r1 ++ wsX8_joined_r2) ++ wsX80 ++ wsX60 ++ wsX70 ++ wsX10 ++ wsX50)
def wsX9_init : List Cond := .code yX9_init cX9_init 1 none :: ([.methodLink RX9 1 objectInit, .instanceMethod objectInit, .code objectInit ⟨#[0xb1]⟩ 1 none, .arrayClass .byte, .fieldLink RX9 7 "PackageRows2Model" "path" "[B", .fieldLink RX9 13 "PackageRows2Model" "bytes" "[B", .arrayClass .int, .fieldLink RX9 16 "PackageRows2Model" "pathSize" "[I", .fieldLink RX9 20 "PackageRows2Model" "paths" "[B", .fieldLink RX9 23 "PackageRows2Model" "size" "[I", .fieldLink RX9 26 "PackageRows2Model" "content" "[B", .fieldLink RX9 29 "PackageRows2Model" "lineSize" "[I", .fieldLink RX9 32 "PackageRows2Model" "lineSum" "[I", .fieldLink RX9 35 "PackageRows2Model" "many" "[I", .fieldLink RX9 38 "PackageRows2Model" "shared" "[I", .fieldLink RX9 41 "PackageRows2Model" "fault" "[I", .fieldLink RX9 44 "PackageRows2Model" "faultOf" "[I", .arrayClass .boolean, .fieldLink RX9 47 "PackageRows2Model" "here" "[Z", .fieldLink RX9 51 "PackageRows2Model" "joined" "[B"] ++ wsX90)
def wsX9_in : List Cond := .code yX9_in cX9_in 3 (some .boolean) :: ([])
def wsX9_path : List Cond := .code yX9_path cX9_path 2 none :: ([.fieldLink RX9 54 "PackageRows2Model" "thrown" "I", .fieldLink RX9 58 "PackageRows2Model" "signs" "I", .fieldLink RX9 7 "PackageRows2Model" "path" "[B"] ++ wsX90)
def wsX9_octet : List Cond := .code yX9_octet cX9_octet 2 none :: ([.fieldLink RX9 54 "PackageRows2Model" "thrown" "I", .fieldLink RX9 61 "PackageRows2Model" "octets" "I", .fieldLink RX9 13 "PackageRows2Model" "bytes" "[B"] ++ wsX90)
def wsX9_isSign : List Cond := .code yX9_isSign cX9_isSign 1 (some .boolean) :: ([.methodLink RX9 64 yX9_in, .static yX9_in, .initialized RX9, .code yX9_in cX9_in 3 (some .boolean)])
def wsX9_isPath : List Cond := .code yX9_isPath cX9_isPath 7 (some .boolean) :: ([.fieldLink RX9 58 "PackageRows2Model" "signs" "I", .fieldLink RX9 7 "PackageRows2Model" "path" "[B", .methodLink RX9 64 yX9_in, .static yX9_in, .initialized RX9, .code yX9_in cX9_in 3 (some .boolean), .methodLink RX9 68 yX9_isSign, .static yX9_isSign, .code yX9_isSign cX9_isSign 1 (some .boolean)] ++ wsX90)
def wsX9_lay : List Cond := .code yX9_lay cX9_lay 3 none :: ([.fieldLink RX9 16 "PackageRows2Model" "pathSize" "[I", .fieldLink RX9 58 "PackageRows2Model" "signs" "I", .fieldLink RX9 20 "PackageRows2Model" "paths" "[B", .fieldLink RX9 7 "PackageRows2Model" "path" "[B"] ++ wsX90)
def wsX9_file_r1 : List Cond := [Cond.fieldLink RX9 54 "PackageRows2Model" "thrown" "I", Cond.fieldLink RX9 61 "PackageRows2Model" "octets" "I", Cond.fieldLink RX9 76 "PackageRows2Model" "came" "I", Cond.fieldLink RX9 23 "PackageRows2Model" "size" "[I", Cond.fieldLink RX9 26 "PackageRows2Model" "content" "[B", Cond.fieldLink RX9 13 "PackageRows2Model" "bytes" "[B", Cond.fieldLink RX9 58 "PackageRows2Model" "signs" "I", Cond.methodLink RX9 72 yX9_isPath, Cond.instanceMethod yX9_isPath, Cond.selects RX9 yX9_isPath yX9_isPath, Cond.initialized RX9, Cond.code yX9_isPath cX9_isPath 7 (some .boolean), Cond.fieldLink RX9 7 "PackageRows2Model" "path" "[B", Cond.methodLink RX9 64 yX9_in, Cond.static yX9_in, Cond.code yX9_in cX9_in 3 (some .boolean), Cond.methodLink RX9 68 yX9_isSign, Cond.static yX9_isSign, Cond.code yX9_isSign cX9_isSign 1 (some .boolean), Cond.methodLink RX9 79 yX9_lay, Cond.instanceMethod yX9_lay, Cond.selects RX9 yX9_lay yX9_lay, Cond.code yX9_lay cX9_lay 3 none, Cond.fieldLink RX9 16 "PackageRows2Model" "pathSize" "[I"]
def wsX9_file_r2 : List Cond := [Cond.fieldLink RX9 20 "PackageRows2Model" "paths" "[B"]
def wsX9_file : List Cond := .code yX9_file cX9_file 4 (some .int) :: ((wsX9_file_r1 ++ wsX9_file_r2) ++ wsX90)
def wsX9_line : List Cond := .code yX9_line cX9_line 4 (some .int) :: ([.fieldLink RX9 54 "PackageRows2Model" "thrown" "I", .fieldLink RX9 83 "PackageRows2Model" "lines" "I", .fieldLink RX9 29 "PackageRows2Model" "lineSize" "[I", .fieldLink RX9 32 "PackageRows2Model" "lineSum" "[I", .fieldLink RX9 58 "PackageRows2Model" "signs" "I", .methodLink RX9 72 yX9_isPath, .instanceMethod yX9_isPath, .selects RX9 yX9_isPath yX9_isPath, .initialized RX9, .code yX9_isPath cX9_isPath 7 (some .boolean), .fieldLink RX9 7 "PackageRows2Model" "path" "[B", .methodLink RX9 64 yX9_in, .static yX9_in, .code yX9_in cX9_in 3 (some .boolean), .methodLink RX9 68 yX9_isSign, .static yX9_isSign, .code yX9_isSign cX9_isSign 1 (some .boolean), .methodLink RX9 79 yX9_lay, .instanceMethod yX9_lay, .selects RX9 yX9_lay yX9_lay, .code yX9_lay cX9_lay 3 none, .fieldLink RX9 16 "PackageRows2Model" "pathSize" "[I", .fieldLink RX9 20 "PackageRows2Model" "paths" "[B"] ++ wsX90)
def wsX9_sum : List Cond := .code yX9_sum cX9_sum 3 (some .int) :: ([.fieldLink RX9 54 "PackageRows2Model" "thrown" "I", .fieldLink RX9 61 "PackageRows2Model" "octets" "I", .constant RX9 86 (65599), .fieldLink RX9 13 "PackageRows2Model" "bytes" "[B"] ++ wsX90)
def wsX9_sumOf : List Cond := .code yX9_sumOf cX9_sumOf 4 (some .int) :: ([.fieldLink RX9 23 "PackageRows2Model" "size" "[I", .constant RX9 86 (65599), .fieldLink RX9 26 "PackageRows2Model" "content" "[B"] ++ wsX90)
def wsX9_order : List Cond := .code yX9_order cX9_order 6 (some .int) :: ([.fieldLink RX9 16 "PackageRows2Model" "pathSize" "[I", .fieldLink RX9 20 "PackageRows2Model" "paths" "[B"] ++ wsX90)
def wsX9_first : List Cond := .code yX9_first cX9_first 5 (some .int) :: ([.methodLink RX9 87 yX9_order, .instanceMethod yX9_order, .selects RX9 yX9_order yX9_order, .initialized RX9, .code yX9_order cX9_order 6 (some .int), .fieldLink RX9 16 "PackageRows2Model" "pathSize" "[I", .fieldLink RX9 20 "PackageRows2Model" "paths" "[B"] ++ wsX90)
def wsX9_lineFault : List Cond := .code yX9_lineFault cX9_lineFault 3 (some .int) :: ([.fieldLink RX9 76 "PackageRows2Model" "came" "I", .fieldLink RX9 23 "PackageRows2Model" "size" "[I", .fieldLink RX9 29 "PackageRows2Model" "lineSize" "[I", .fieldLink RX9 32 "PackageRows2Model" "lineSum" "[I", .methodLink RX9 91 yX9_first, .instanceMethod yX9_first, .selects RX9 yX9_first yX9_first, .initialized RX9, .code yX9_first cX9_first 5 (some .int), .methodLink RX9 87 yX9_order, .instanceMethod yX9_order, .selects RX9 yX9_order yX9_order, .code yX9_order cX9_order 6 (some .int), .fieldLink RX9 16 "PackageRows2Model" "pathSize" "[I", .fieldLink RX9 20 "PackageRows2Model" "paths" "[B", .methodLink RX9 95 yX9_sumOf, .instanceMethod yX9_sumOf, .selects RX9 yX9_sumOf yX9_sumOf, .code yX9_sumOf cX9_sumOf 4 (some .int), .constant RX9 86 (65599), .fieldLink RX9 26 "PackageRows2Model" "content" "[B"] ++ wsX90)
def wsX9_fileFault : List Cond := .code yX9_fileFault cX9_fileFault 2 (some .int) :: ([.fieldLink RX9 83 "PackageRows2Model" "lines" "I", .methodLink RX9 91 yX9_first, .instanceMethod yX9_first, .selects RX9 yX9_first yX9_first, .initialized RX9, .code yX9_first cX9_first 5 (some .int), .methodLink RX9 87 yX9_order, .instanceMethod yX9_order, .selects RX9 yX9_order yX9_order, .code yX9_order cX9_order 6 (some .int), .fieldLink RX9 16 "PackageRows2Model" "pathSize" "[I", .fieldLink RX9 20 "PackageRows2Model" "paths" "[B"] ++ wsX90)
def wsX9_blame : List Cond := .code yX9_blame cX9_blame 3 none :: ([.fieldLink RX9 41 "PackageRows2Model" "fault" "[I", .fieldLink RX9 99 "PackageRows2Model" "faults" "I", .fieldLink RX9 44 "PackageRows2Model" "faultOf" "[I"] ++ wsX90)
def wsX9_check_r1 : List Cond := [Cond.fieldLink RX9 54 "PackageRows2Model" "thrown" "I", Cond.fieldLink RX9 99 "PackageRows2Model" "faults" "I", Cond.fieldLink RX9 83 "PackageRows2Model" "lines" "I", Cond.fieldLink RX9 76 "PackageRows2Model" "came" "I", Cond.methodLink RX9 102 yX9_lineFault, Cond.instanceMethod yX9_lineFault, Cond.selects RX9 yX9_lineFault yX9_lineFault, Cond.initialized RX9, Cond.code yX9_lineFault cX9_lineFault 3 (some .int), Cond.fieldLink RX9 23 "PackageRows2Model" "size" "[I", Cond.fieldLink RX9 29 "PackageRows2Model" "lineSize" "[I", Cond.fieldLink RX9 32 "PackageRows2Model" "lineSum" "[I", Cond.methodLink RX9 91 yX9_first, Cond.instanceMethod yX9_first, Cond.selects RX9 yX9_first yX9_first, Cond.code yX9_first cX9_first 5 (some .int), Cond.methodLink RX9 87 yX9_order, Cond.instanceMethod yX9_order, Cond.selects RX9 yX9_order yX9_order, Cond.code yX9_order cX9_order 6 (some .int), Cond.fieldLink RX9 16 "PackageRows2Model" "pathSize" "[I", Cond.fieldLink RX9 20 "PackageRows2Model" "paths" "[B", Cond.methodLink RX9 95 yX9_sumOf, Cond.instanceMethod yX9_sumOf]
def wsX9_check_r2 : List Cond := [Cond.selects RX9 yX9_sumOf yX9_sumOf, Cond.code yX9_sumOf cX9_sumOf 4 (some .int), Cond.constant RX9 86 (65599), Cond.fieldLink RX9 26 "PackageRows2Model" "content" "[B", Cond.methodLink RX9 105 yX9_blame, Cond.instanceMethod yX9_blame, Cond.selects RX9 yX9_blame yX9_blame, Cond.code yX9_blame cX9_blame 3 none, Cond.fieldLink RX9 41 "PackageRows2Model" "fault" "[I", Cond.fieldLink RX9 44 "PackageRows2Model" "faultOf" "[I", Cond.methodLink RX9 109 yX9_fileFault, Cond.instanceMethod yX9_fileFault, Cond.selects RX9 yX9_fileFault yX9_fileFault, Cond.code yX9_fileFault cX9_fileFault 2 (some .int)]
def wsX9_check : List Cond := .code yX9_check cX9_check 2 (some .int) :: ((wsX9_check_r1 ++ wsX9_check_r2) ++ wsX90)
def wsX9_fault : List Cond := .code yX9_fault cX9_fault 3 (some .int) :: ([.fieldLink RX9 99 "PackageRows2Model" "faults" "I", .fieldLink RX9 54 "PackageRows2Model" "thrown" "I", .fieldLink RX9 41 "PackageRows2Model" "fault" "[I", .fieldLink RX9 44 "PackageRows2Model" "faultOf" "[I", .methodLink RX9 64 yX9_in, .static yX9_in, .initialized RX9, .code yX9_in cX9_in 3 (some .boolean)] ++ wsX90)
def wsX9_copy : List Cond := .code yX9_copy cX9_copy 4 none :: ([.fieldLink RX9 16 "PackageRows2Model" "pathSize" "[I", .fieldLink RX9 20 "PackageRows2Model" "paths" "[B", .fieldLink RX9 23 "PackageRows2Model" "size" "[I", .fieldLink RX9 26 "PackageRows2Model" "content" "[B"] ++ wsX90)
def wsX9_alike : List Cond := .code yX9_alike cX9_alike 5 (some .boolean) :: ([.fieldLink RX9 23 "PackageRows2Model" "size" "[I", .fieldLink RX9 26 "PackageRows2Model" "content" "[B"] ++ wsX90)
def wsX9_accept_r1 : List Cond := [Cond.fieldLink RX9 116 "PackageRows2Model" "versions" "I", Cond.fieldLink RX9 76 "PackageRows2Model" "came" "I", Cond.fieldLink RX9 35 "PackageRows2Model" "many" "[I", Cond.fieldLink RX9 38 "PackageRows2Model" "shared" "[I", Cond.fieldLink RX9 83 "PackageRows2Model" "lines" "I", Cond.methodLink RX9 112 yX9_check, Cond.instanceMethod yX9_check, Cond.selects RX9 yX9_check yX9_check, Cond.initialized RX9, Cond.code yX9_check cX9_check 2 (some .int), Cond.fieldLink RX9 54 "PackageRows2Model" "thrown" "I", Cond.fieldLink RX9 99 "PackageRows2Model" "faults" "I", Cond.methodLink RX9 102 yX9_lineFault, Cond.instanceMethod yX9_lineFault, Cond.selects RX9 yX9_lineFault yX9_lineFault, Cond.code yX9_lineFault cX9_lineFault 3 (some .int), Cond.fieldLink RX9 23 "PackageRows2Model" "size" "[I", Cond.fieldLink RX9 29 "PackageRows2Model" "lineSize" "[I", Cond.fieldLink RX9 32 "PackageRows2Model" "lineSum" "[I", Cond.methodLink RX9 91 yX9_first, Cond.instanceMethod yX9_first, Cond.selects RX9 yX9_first yX9_first, Cond.code yX9_first cX9_first 5 (some .int), Cond.methodLink RX9 87 yX9_order]
def wsX9_accept_r2 : List Cond := [Cond.instanceMethod yX9_order, Cond.selects RX9 yX9_order yX9_order, Cond.code yX9_order cX9_order 6 (some .int), Cond.fieldLink RX9 16 "PackageRows2Model" "pathSize" "[I", Cond.fieldLink RX9 20 "PackageRows2Model" "paths" "[B", Cond.methodLink RX9 95 yX9_sumOf, Cond.instanceMethod yX9_sumOf, Cond.selects RX9 yX9_sumOf yX9_sumOf, Cond.code yX9_sumOf cX9_sumOf 4 (some .int), Cond.constant RX9 86 (65599), Cond.fieldLink RX9 26 "PackageRows2Model" "content" "[B", Cond.methodLink RX9 105 yX9_blame, Cond.instanceMethod yX9_blame, Cond.selects RX9 yX9_blame yX9_blame, Cond.code yX9_blame cX9_blame 3 none, Cond.fieldLink RX9 41 "PackageRows2Model" "fault" "[I", Cond.fieldLink RX9 44 "PackageRows2Model" "faultOf" "[I", Cond.methodLink RX9 109 yX9_fileFault, Cond.instanceMethod yX9_fileFault, Cond.selects RX9 yX9_fileFault yX9_fileFault, Cond.code yX9_fileFault cX9_fileFault 2 (some .int), Cond.methodLink RX9 119 yX9_copy, Cond.instanceMethod yX9_copy, Cond.selects RX9 yX9_copy yX9_copy]
def wsX9_accept_r3 : List Cond := [Cond.code yX9_copy cX9_copy 4 none, Cond.methodLink RX9 122 yX9_alike, Cond.instanceMethod yX9_alike, Cond.selects RX9 yX9_alike yX9_alike, Cond.code yX9_alike cX9_alike 5 (some .boolean)]
def wsX9_accept : List Cond := .code yX9_accept cX9_accept 6 (some .int) :: ((wsX9_accept_r1 ++ (wsX9_accept_r2 ++ wsX9_accept_r3)) ++ wsX90)
def wsX9_drop : List Cond := .code yX9_drop cX9_drop 2 (some .int) :: ([.fieldLink RX9 54 "PackageRows2Model" "thrown" "I", .fieldLink RX9 76 "PackageRows2Model" "came" "I", .fieldLink RX9 83 "PackageRows2Model" "lines" "I"] ++ wsX90)
def wsX9_isVersion : List Cond := .code yX9_isVersion cX9_isVersion 2 (some .boolean) :: ([.fieldLink RX9 116 "PackageRows2Model" "versions" "I", .methodLink RX9 64 yX9_in, .static yX9_in, .initialized RX9, .code yX9_in cX9_in 3 (some .boolean)] ++ wsX90)
def wsX9_files : List Cond := .code yX9_files cX9_files 2 (some .int) :: ([.fieldLink RX9 54 "PackageRows2Model" "thrown" "I", .fieldLink RX9 35 "PackageRows2Model" "many" "[I", .methodLink RX9 126 yX9_isVersion, .instanceMethod yX9_isVersion, .selects RX9 yX9_isVersion yX9_isVersion, .initialized RX9, .code yX9_isVersion cX9_isVersion 2 (some .boolean), .fieldLink RX9 116 "PackageRows2Model" "versions" "I", .methodLink RX9 64 yX9_in, .static yX9_in, .code yX9_in cX9_in 3 (some .boolean)] ++ wsX90)
def wsX9_isFile : List Cond := .code yX9_isFile cX9_isFile 3 (some .boolean) :: ([.fieldLink RX9 35 "PackageRows2Model" "many" "[I", .methodLink RX9 126 yX9_isVersion, .instanceMethod yX9_isVersion, .selects RX9 yX9_isVersion yX9_isVersion, .initialized RX9, .code yX9_isVersion cX9_isVersion 2 (some .boolean), .fieldLink RX9 116 "PackageRows2Model" "versions" "I", .methodLink RX9 64 yX9_in, .static yX9_in, .code yX9_in cX9_in 3 (some .boolean)] ++ wsX90)
def wsX9_about : List Cond := .code yX9_about cX9_about 5 (some .int) :: ([.fieldLink RX9 54 "PackageRows2Model" "thrown" "I", .fieldLink RX9 23 "PackageRows2Model" "size" "[I", .fieldLink RX9 16 "PackageRows2Model" "pathSize" "[I", .fieldLink RX9 38 "PackageRows2Model" "shared" "[I", .methodLink RX9 129 yX9_isFile, .instanceMethod yX9_isFile, .selects RX9 yX9_isFile yX9_isFile, .initialized RX9, .code yX9_isFile cX9_isFile 3 (some .boolean), .fieldLink RX9 35 "PackageRows2Model" "many" "[I", .methodLink RX9 126 yX9_isVersion, .instanceMethod yX9_isVersion, .selects RX9 yX9_isVersion yX9_isVersion, .code yX9_isVersion cX9_isVersion 2 (some .boolean), .fieldLink RX9 116 "PackageRows2Model" "versions" "I", .methodLink RX9 64 yX9_in, .static yX9_in, .code yX9_in cX9_in 3 (some .boolean), .methodLink RX9 95 yX9_sumOf, .instanceMethod yX9_sumOf, .selects RX9 yX9_sumOf yX9_sumOf, .code yX9_sumOf cX9_sumOf 4 (some .int), .constant RX9 86 (65599), .fieldLink RX9 26 "PackageRows2Model" "content" "[B"] ++ wsX90)
def wsX9_sign : List Cond := .code yX9_sign cX9_sign 5 (some .int) :: ([.fieldLink RX9 54 "PackageRows2Model" "thrown" "I", .fieldLink RX9 16 "PackageRows2Model" "pathSize" "[I", .fieldLink RX9 20 "PackageRows2Model" "paths" "[B", .methodLink RX9 129 yX9_isFile, .instanceMethod yX9_isFile, .selects RX9 yX9_isFile yX9_isFile, .initialized RX9, .code yX9_isFile cX9_isFile 3 (some .boolean), .fieldLink RX9 35 "PackageRows2Model" "many" "[I", .methodLink RX9 126 yX9_isVersion, .instanceMethod yX9_isVersion, .selects RX9 yX9_isVersion yX9_isVersion, .code yX9_isVersion cX9_isVersion 2 (some .boolean), .fieldLink RX9 116 "PackageRows2Model" "versions" "I", .methodLink RX9 64 yX9_in, .static yX9_in, .code yX9_in cX9_in 3 (some .boolean)] ++ wsX90)
def wsX9_at : List Cond := .code yX9_at cX9_at 5 (some .int) :: ([.fieldLink RX9 54 "PackageRows2Model" "thrown" "I", .fieldLink RX9 23 "PackageRows2Model" "size" "[I", .fieldLink RX9 26 "PackageRows2Model" "content" "[B", .methodLink RX9 129 yX9_isFile, .instanceMethod yX9_isFile, .selects RX9 yX9_isFile yX9_isFile, .initialized RX9, .code yX9_isFile cX9_isFile 3 (some .boolean), .fieldLink RX9 35 "PackageRows2Model" "many" "[I", .methodLink RX9 126 yX9_isVersion, .instanceMethod yX9_isVersion, .selects RX9 yX9_isVersion yX9_isVersion, .code yX9_isVersion cX9_isVersion 2 (some .boolean), .fieldLink RX9 116 "PackageRows2Model" "versions" "I", .methodLink RX9 64 yX9_in, .static yX9_in, .code yX9_in cX9_in 3 (some .boolean)] ++ wsX90)
def wsX9_find : List Cond := .code yX9_find cX9_find 6 (some .int) :: ([.fieldLink RX9 54 "PackageRows2Model" "thrown" "I", .fieldLink RX9 35 "PackageRows2Model" "many" "[I", .fieldLink RX9 16 "PackageRows2Model" "pathSize" "[I", .fieldLink RX9 58 "PackageRows2Model" "signs" "I", .fieldLink RX9 20 "PackageRows2Model" "paths" "[B", .fieldLink RX9 7 "PackageRows2Model" "path" "[B", .methodLink RX9 126 yX9_isVersion, .instanceMethod yX9_isVersion, .selects RX9 yX9_isVersion yX9_isVersion, .initialized RX9, .code yX9_isVersion cX9_isVersion 2 (some .boolean), .fieldLink RX9 116 "PackageRows2Model" "versions" "I", .methodLink RX9 64 yX9_in, .static yX9_in, .code yX9_in cX9_in 3 (some .boolean)] ++ wsX90)
def wsX9_same_r1 : List Cond := [Cond.fieldLink RX9 54 "PackageRows2Model" "thrown" "I", Cond.fieldLink RX9 35 "PackageRows2Model" "many" "[I", Cond.methodLink RX9 126 yX9_isVersion, Cond.instanceMethod yX9_isVersion, Cond.selects RX9 yX9_isVersion yX9_isVersion, Cond.initialized RX9, Cond.code yX9_isVersion cX9_isVersion 2 (some .boolean), Cond.fieldLink RX9 116 "PackageRows2Model" "versions" "I", Cond.methodLink RX9 64 yX9_in, Cond.static yX9_in, Cond.code yX9_in cX9_in 3 (some .boolean), Cond.methodLink RX9 91 yX9_first, Cond.instanceMethod yX9_first, Cond.selects RX9 yX9_first yX9_first, Cond.code yX9_first cX9_first 5 (some .int), Cond.methodLink RX9 87 yX9_order, Cond.instanceMethod yX9_order, Cond.selects RX9 yX9_order yX9_order, Cond.code yX9_order cX9_order 6 (some .int), Cond.fieldLink RX9 16 "PackageRows2Model" "pathSize" "[I", Cond.fieldLink RX9 20 "PackageRows2Model" "paths" "[B", Cond.methodLink RX9 122 yX9_alike, Cond.instanceMethod yX9_alike, Cond.selects RX9 yX9_alike yX9_alike]
def wsX9_same_r2 : List Cond := [Cond.code yX9_alike cX9_alike 5 (some .boolean), Cond.fieldLink RX9 23 "PackageRows2Model" "size" "[I", Cond.fieldLink RX9 26 "PackageRows2Model" "content" "[B"]
def wsX9_same : List Cond := .code yX9_same cX9_same 7 (some .int) :: ((wsX9_same_r1 ++ wsX9_same_r2) ++ wsX90)
def wsX9_split : List Cond := .code yX9_split cX9_split 5 (some .int) :: ([.fieldLink RX9 54 "PackageRows2Model" "thrown" "I", .fieldLink RX9 132 "PackageRows2Model" "transfer" "Z", .fieldLink RX9 136 "PackageRows2Model" "pieceSize" "I", .fieldLink RX9 139 "PackageRows2Model" "total" "I", .fieldLink RX9 35 "PackageRows2Model" "many" "[I", .fieldLink RX9 23 "PackageRows2Model" "size" "[I", .fieldLink RX9 51 "PackageRows2Model" "joined" "[B", .fieldLink RX9 26 "PackageRows2Model" "content" "[B", .fieldLink RX9 142 "PackageRows2Model" "pieces" "I", .fieldLink RX9 47 "PackageRows2Model" "here" "[Z", .methodLink RX9 126 yX9_isVersion, .instanceMethod yX9_isVersion, .selects RX9 yX9_isVersion yX9_isVersion, .initialized RX9, .code yX9_isVersion cX9_isVersion 2 (some .boolean), .fieldLink RX9 116 "PackageRows2Model" "versions" "I", .methodLink RX9 64 yX9_in, .static yX9_in, .code yX9_in cX9_in 3 (some .boolean)] ++ wsX90)
def wsX9_lacking : List Cond := .code yX9_lacking cX9_lacking 5 (some .int) :: ([.fieldLink RX9 142 "PackageRows2Model" "pieces" "I", .fieldLink RX9 47 "PackageRows2Model" "here" "[Z"] ++ wsX90)
def wsX9_piece : List Cond := .code yX9_piece cX9_piece 3 (some .int) :: ([.fieldLink RX9 54 "PackageRows2Model" "thrown" "I", .fieldLink RX9 132 "PackageRows2Model" "transfer" "Z", .fieldLink RX9 142 "PackageRows2Model" "pieces" "I", .fieldLink RX9 47 "PackageRows2Model" "here" "[Z", .methodLink RX9 64 yX9_in, .static yX9_in, .initialized RX9, .code yX9_in cX9_in 3 (some .boolean), .methodLink RX9 145 yX9_lacking, .instanceMethod yX9_lacking, .selects RX9 yX9_lacking yX9_lacking, .code yX9_lacking cX9_lacking 5 (some .int)] ++ wsX90)
def wsX9_missing : List Cond := .code yX9_missing cX9_missing 1 (some .int) :: ([.fieldLink RX9 54 "PackageRows2Model" "thrown" "I", .fieldLink RX9 132 "PackageRows2Model" "transfer" "Z", .methodLink RX9 145 yX9_lacking, .instanceMethod yX9_lacking, .selects RX9 yX9_lacking yX9_lacking, .initialized RX9, .code yX9_lacking cX9_lacking 5 (some .int), .fieldLink RX9 142 "PackageRows2Model" "pieces" "I", .fieldLink RX9 47 "PackageRows2Model" "here" "[Z"] ++ wsX90)
def wsX9_joined : List Cond := .code yX9_joined cX9_joined 2 (some .int) :: ([.fieldLink RX9 54 "PackageRows2Model" "thrown" "I", .fieldLink RX9 132 "PackageRows2Model" "transfer" "Z", .fieldLink RX9 139 "PackageRows2Model" "total" "I", .fieldLink RX9 51 "PackageRows2Model" "joined" "[B", .methodLink RX9 145 yX9_lacking, .instanceMethod yX9_lacking, .selects RX9 yX9_lacking yX9_lacking, .initialized RX9, .code yX9_lacking cX9_lacking 5 (some .int), .fieldLink RX9 142 "PackageRows2Model" "pieces" "I", .fieldLink RX9 47 "PackageRows2Model" "here" "[Z", .methodLink RX9 64 yX9_in, .static yX9_in, .code yX9_in cX9_in 3 (some .boolean)] ++ wsX90)
def wsJx00060_init_da8c8 : List Cond := .code yJx00060_init_da8c8 cJx00060_init_da8c8 1 none :: ([])
def wsJ9_max_7cf53 : List Cond := .code yJ9_max_7cf53 cJ9_max_7cf53 2 (some .int) :: ([])
def wsJ9_min_7cf53 : List Cond := .code yJ9_min_7cf53 cJ9_min_7cf53 2 (some .int) :: ([])
abbrev vwCl : List vw_C := [(RJx00060, TJx00060, 6), (RX0, TX0, 4), (RX1, TX1, 4), (RX2, TX2, 3), (RX3, TX3, 3), (RX5, TX5, 2), (RX6, TX6, 4), (RX7, TX7, 2), (RX8, TX8, 7), (RX9, TX9, 25)]
