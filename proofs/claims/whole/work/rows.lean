section
-- ===== PART A: goes FIRST, ahead of the names: the tables' words, and 'selects' of the private methods out of them =====
/-- a private method of a class that the tables say can be made, by its rows of tables_1 -/
def lw_okq (q : MethodName × Nat) : Prop := (q.1.cls ≠ "java/lang/invoke/MethodHandle" ∧ q.1.cls ≠ "java/lang/invoke/VarHandle") ∧ Cond.instantiable q.1.cls q.2 ∈ tables_1 ∧ Cond.privateMethod q.1 ∈ tables_1 ∧ Cond.instanceMethod q.1 ∈ tables_1
theorem lw_p0 : lw_okq (⟨"CodeLister", "isEntry", "(I)Z"⟩, 8) := ⟨⟨by decide +kernel, by decide +kernel⟩, List.mem_of_getElem? (i := 15) (by decide +kernel), List.mem_of_getElem? (i := 135) (by decide +kernel), List.mem_of_getElem? (i := 136) (by decide +kernel)⟩
theorem lw_p1 : lw_okq (⟨"CodeLister", "walkFromEntries", "()V"⟩, 8) := ⟨⟨by decide +kernel, by decide +kernel⟩, List.mem_of_getElem? (i := 15) (by decide +kernel), List.mem_of_getElem? (i := 197) (by decide +kernel), List.mem_of_getElem? (i := 198) (by decide +kernel)⟩
theorem lw_p2 : lw_okq (⟨"CodeLister$Walk", "comeToSuccessors", "(LCodeLister$Image;IZ)V"⟩, 4) := ⟨⟨by decide +kernel, by decide +kernel⟩, List.mem_of_getElem? (i := 37) (by decide +kernel), List.mem_of_getElem? (i := 216) (by decide +kernel), List.mem_of_getElem? (i := 217) (by decide +kernel)⟩
theorem lw_p3 : lw_okq (⟨"CodeLister", "listLine", "(I)I"⟩, 8) := ⟨⟨by decide +kernel, by decide +kernel⟩, List.mem_of_getElem? (i := 15) (by decide +kernel), List.mem_of_getElem? (i := 260) (by decide +kernel), List.mem_of_getElem? (i := 261) (by decide +kernel)⟩
theorem lw_p4 : lw_okq (⟨"CodeLister$Text", "add", "(C)V"⟩, 4) := ⟨⟨by decide +kernel, by decide +kernel⟩, List.mem_of_getElem? (i := 57) (by decide +kernel), List.mem_of_getElem? (i := 334) (by decide +kernel), List.mem_of_getElem? (i := 335) (by decide +kernel)⟩
theorem lw_p5 : lw_okq (⟨"CodeLister$Text", "addComma", "(I)V"⟩, 4) := ⟨⟨by decide +kernel, by decide +kernel⟩, List.mem_of_getElem? (i := 57) (by decide +kernel), List.mem_of_getElem? (i := 346) (by decide +kernel), List.mem_of_getElem? (i := 347) (by decide +kernel)⟩
theorem lw_p6 : lw_okq (⟨"CodeLister$Text", "addDigit", "(I)V"⟩, 4) := ⟨⟨by decide +kernel, by decide +kernel⟩, List.mem_of_getElem? (i := 57) (by decide +kernel), List.mem_of_getElem? (i := 350) (by decide +kernel), List.mem_of_getElem? (i := 351) (by decide +kernel)⟩
theorem lw_p7 : lw_okq (⟨"CodeLister$Text", "addNumber", "(I)V"⟩, 4) := ⟨⟨by decide +kernel, by decide +kernel⟩, List.mem_of_getElem? (i := 57) (by decide +kernel), List.mem_of_getElem? (i := 355) (by decide +kernel), List.mem_of_getElem? (i := 356) (by decide +kernel)⟩
theorem lw_p8 : lw_okq (⟨"CodeLister$Assembler", "readLine", "(LCodeLister$Text;)V"⟩, 2) := ⟨⟨by decide +kernel, by decide +kernel⟩, List.mem_of_getElem? (i := 77) (by decide +kernel), List.mem_of_getElem? (i := 405) (by decide +kernel), List.mem_of_getElem? (i := 406) (by decide +kernel)⟩
theorem lw_p9 : lw_okq (⟨"CodeLister$Text", "goesOnWith", "(Ljava/lang/String;)Z"⟩, 4) := ⟨⟨by decide +kernel, by decide +kernel⟩, List.mem_of_getElem? (i := 57) (by decide +kernel), List.mem_of_getElem? (i := 413) (by decide +kernel), List.mem_of_getElem? (i := 414) (by decide +kernel)⟩
theorem lw_p10 : lw_okq (⟨"CodeLister$Text", "takeAmount", "()I"⟩, 4) := ⟨⟨by decide +kernel, by decide +kernel⟩, List.mem_of_getElem? (i := 57) (by decide +kernel), List.mem_of_getElem? (i := 449) (by decide +kernel), List.mem_of_getElem? (i := 450) (by decide +kernel)⟩
theorem lw_p11 : lw_okq (⟨"CodeLister$Assembler", "addBytes", "(III)V"⟩, 2) := ⟨⟨by decide +kernel, by decide +kernel⟩, List.mem_of_getElem? (i := 77) (by decide +kernel), List.mem_of_getElem? (i := 457) (by decide +kernel), List.mem_of_getElem? (i := 458) (by decide +kernel)⟩
theorem lw_p12 : lw_okq (⟨"CodeLister$Assembler", "addByte", "(I)V"⟩, 2) := ⟨⟨by decide +kernel, by decide +kernel⟩, List.mem_of_getElem? (i := 77) (by decide +kernel), List.mem_of_getElem? (i := 462) (by decide +kernel), List.mem_of_getElem? (i := 463) (by decide +kernel)⟩
theorem lw_p13 : lw_okq (⟨"CodeListerModel", "has", "(I)Z"⟩, 12) := ⟨⟨by decide +kernel, by decide +kernel⟩, List.mem_of_getElem? (i := 486) (by decide +kernel), List.mem_of_getElem? (i := 537) (by decide +kernel), List.mem_of_getElem? (i := 538) (by decide +kernel)⟩
theorem lw_p14 : lw_okq (⟨"CodeListerModel", "wipe", "()V"⟩, 12) := ⟨⟨by decide +kernel, by decide +kernel⟩, List.mem_of_getElem? (i := 486) (by decide +kernel), List.mem_of_getElem? (i := 568) (by decide +kernel), List.mem_of_getElem? (i := 569) (by decide +kernel)⟩
theorem lw_p15 : lw_okq (⟨"CodeListerModel", "close", "(Z)I"⟩, 12) := ⟨⟨by decide +kernel, by decide +kernel⟩, List.mem_of_getElem? (i := 486) (by decide +kernel), List.mem_of_getElem? (i := 572) (by decide +kernel), List.mem_of_getElem? (i := 573) (by decide +kernel)⟩
def lw_privs_1 : List (MethodName × Nat) := [(⟨"CodeLister", "isEntry", "(I)Z"⟩, 8), (⟨"CodeLister", "walkFromEntries", "()V"⟩, 8), (⟨"CodeLister$Walk", "comeToSuccessors", "(LCodeLister$Image;IZ)V"⟩, 4), (⟨"CodeLister", "listLine", "(I)I"⟩, 8), (⟨"CodeLister$Text", "add", "(C)V"⟩, 4), (⟨"CodeLister$Text", "addComma", "(I)V"⟩, 4), (⟨"CodeLister$Text", "addDigit", "(I)V"⟩, 4), (⟨"CodeLister$Text", "addNumber", "(I)V"⟩, 4), (⟨"CodeLister$Assembler", "readLine", "(LCodeLister$Text;)V"⟩, 2), (⟨"CodeLister$Text", "goesOnWith", "(Ljava/lang/String;)Z"⟩, 4), (⟨"CodeLister$Text", "takeAmount", "()I"⟩, 4), (⟨"CodeLister$Assembler", "addBytes", "(III)V"⟩, 2), (⟨"CodeLister$Assembler", "addByte", "(I)V"⟩, 2), (⟨"CodeListerModel", "has", "(I)Z"⟩, 12), (⟨"CodeListerModel", "wipe", "()V"⟩, 12), (⟨"CodeListerModel", "close", "(Z)I"⟩, 12)]
theorem lw_r1 : ∀ q ∈ lw_privs_1, lw_okq q := List.forall_mem_cons.mpr ⟨lw_p0, List.forall_mem_cons.mpr ⟨lw_p1, List.forall_mem_cons.mpr ⟨lw_p2, List.forall_mem_cons.mpr ⟨lw_p3, List.forall_mem_cons.mpr ⟨lw_p4, List.forall_mem_cons.mpr ⟨lw_p5, List.forall_mem_cons.mpr ⟨lw_p6, List.forall_mem_cons.mpr ⟨lw_p7, List.forall_mem_cons.mpr ⟨lw_p8, List.forall_mem_cons.mpr ⟨lw_p9, List.forall_mem_cons.mpr ⟨lw_p10, List.forall_mem_cons.mpr ⟨lw_p11, List.forall_mem_cons.mpr ⟨lw_p12, List.forall_mem_cons.mpr ⟨lw_p13, List.forall_mem_cons.mpr ⟨lw_p14, List.forall_mem_cons.mpr ⟨lw_p15, fun _ h => absurd h List.not_mem_nil⟩⟩⟩⟩⟩⟩⟩⟩⟩⟩⟩⟩⟩⟩⟩⟩
theorem lw_p16 : lw_okq (⟨"CodeListerModel", "follow", "(IZ)Z"⟩, 12) := ⟨⟨by decide +kernel, by decide +kernel⟩, List.mem_of_getElem? (i := 486) (by decide +kernel), List.mem_of_getElem? (i := 576) (by decide +kernel), List.mem_of_getElem? (i := 577) (by decide +kernel)⟩
theorem lw_p17 : lw_okq (⟨"CodeListerModel", "set", "(I)Z"⟩, 12) := ⟨⟨by decide +kernel, by decide +kernel⟩, List.mem_of_getElem? (i := 486) (by decide +kernel), List.mem_of_getElem? (i := 581) (by decide +kernel), List.mem_of_getElem? (i := 582) (by decide +kernel)⟩
theorem lw_p18 : lw_okq (⟨"CodeListerModel", "data", "(I)V"⟩, 12) := ⟨⟨by decide +kernel, by decide +kernel⟩, List.mem_of_getElem? (i := 486) (by decide +kernel), List.mem_of_getElem? (i := 602) (by decide +kernel), List.mem_of_getElem? (i := 603) (by decide +kernel)⟩
theorem lw_p19 : lw_okq (⟨"CodeListerModel", "name", "(III)V"⟩, 12) := ⟨⟨by decide +kernel, by decide +kernel⟩, List.mem_of_getElem? (i := 486) (by decide +kernel), List.mem_of_getElem? (i := 606) (by decide +kernel), List.mem_of_getElem? (i := 607) (by decide +kernel)⟩
theorem lw_p20 : lw_okq (⟨"CodeListerModel", "put", "(I)V"⟩, 12) := ⟨⟨by decide +kernel, by decide +kernel⟩, List.mem_of_getElem? (i := 486) (by decide +kernel), List.mem_of_getElem? (i := 610) (by decide +kernel), List.mem_of_getElem? (i := 611) (by decide +kernel)⟩
theorem lw_p21 : lw_okq (⟨"CodeListerModel", "number", "(I)V"⟩, 12) := ⟨⟨by decide +kernel, by decide +kernel⟩, List.mem_of_getElem? (i := 486) (by decide +kernel), List.mem_of_getElem? (i := 614) (by decide +kernel), List.mem_of_getElem? (i := 615) (by decide +kernel)⟩
theorem lw_p22 : lw_okq (⟨"CodeListerModel", "print", "(II)V"⟩, 12) := ⟨⟨by decide +kernel, by decide +kernel⟩, List.mem_of_getElem? (i := 486) (by decide +kernel), List.mem_of_getElem? (i := 618) (by decide +kernel), List.mem_of_getElem? (i := 619) (by decide +kernel)⟩
theorem lw_p23 : lw_okq (⟨"CodeListerModel", "front", "(I)V"⟩, 12) := ⟨⟨by decide +kernel, by decide +kernel⟩, List.mem_of_getElem? (i := 486) (by decide +kernel), List.mem_of_getElem? (i := 622) (by decide +kernel), List.mem_of_getElem? (i := 623) (by decide +kernel)⟩
theorem lw_p24 : lw_okq (⟨"CodeListerModel", "register", "(I)V"⟩, 12) := ⟨⟨by decide +kernel, by decide +kernel⟩, List.mem_of_getElem? (i := 486) (by decide +kernel), List.mem_of_getElem? (i := 626) (by decide +kernel), List.mem_of_getElem? (i := 627) (by decide +kernel)⟩
theorem lw_p25 : lw_okq (⟨"CodeListerModel", "understand", "(I)I"⟩, 12) := ⟨⟨by decide +kernel, by decide +kernel⟩, List.mem_of_getElem? (i := 486) (by decide +kernel), List.mem_of_getElem? (i := 646) (by decide +kernel), List.mem_of_getElem? (i := 647) (by decide +kernel)⟩
theorem lw_p26 : lw_okq (⟨"CodeListerModel", "here", "(I)Z"⟩, 12) := ⟨⟨by decide +kernel, by decide +kernel⟩, List.mem_of_getElem? (i := 486) (by decide +kernel), List.mem_of_getElem? (i := 650) (by decide +kernel), List.mem_of_getElem? (i := 651) (by decide +kernel)⟩
theorem lw_p27 : lw_okq (⟨"CodeListerModel", "begins", "(I)Z"⟩, 12) := ⟨⟨by decide +kernel, by decide +kernel⟩, List.mem_of_getElem? (i := 486) (by decide +kernel), List.mem_of_getElem? (i := 654) (by decide +kernel), List.mem_of_getElem? (i := 655) (by decide +kernel)⟩
def lw_privs_2 : List (MethodName × Nat) := [(⟨"CodeListerModel", "follow", "(IZ)Z"⟩, 12), (⟨"CodeListerModel", "set", "(I)Z"⟩, 12), (⟨"CodeListerModel", "data", "(I)V"⟩, 12), (⟨"CodeListerModel", "name", "(III)V"⟩, 12), (⟨"CodeListerModel", "put", "(I)V"⟩, 12), (⟨"CodeListerModel", "number", "(I)V"⟩, 12), (⟨"CodeListerModel", "print", "(II)V"⟩, 12), (⟨"CodeListerModel", "front", "(I)V"⟩, 12), (⟨"CodeListerModel", "register", "(I)V"⟩, 12), (⟨"CodeListerModel", "understand", "(I)I"⟩, 12), (⟨"CodeListerModel", "here", "(I)Z"⟩, 12), (⟨"CodeListerModel", "begins", "(I)Z"⟩, 12)]
theorem lw_r2 : ∀ q ∈ lw_privs_2, lw_okq q := List.forall_mem_cons.mpr ⟨lw_p16, List.forall_mem_cons.mpr ⟨lw_p17, List.forall_mem_cons.mpr ⟨lw_p18, List.forall_mem_cons.mpr ⟨lw_p19, List.forall_mem_cons.mpr ⟨lw_p20, List.forall_mem_cons.mpr ⟨lw_p21, List.forall_mem_cons.mpr ⟨lw_p22, List.forall_mem_cons.mpr ⟨lw_p23, List.forall_mem_cons.mpr ⟨lw_p24, List.forall_mem_cons.mpr ⟨lw_p25, List.forall_mem_cons.mpr ⟨lw_p26, List.forall_mem_cons.mpr ⟨lw_p27, fun _ h => absurd h List.not_mem_nil⟩⟩⟩⟩⟩⟩⟩⟩⟩⟩⟩⟩
def lw_privs : List (MethodName × Nat) := lw_privs_1 ++ (lw_privs_2)
def lw_tbl : List Cond := k2_sels lw_privs ++ tables_1
theorem lw_privs_ok : ∀ q ∈ lw_privs, lw_okq q := by
  show ∀ q ∈ lw_privs_1 ++ (lw_privs_2), lw_okq q
  exact List.forall_mem_append.mpr ⟨lw_r1, lw_r2⟩
end
section
def lw_g : List Cond := lw_tbl.filter goodWord
theorem lg_i {w : Cond} {i : Nat} (h : lw_tbl[i]? = some w) (hg : goodWord w = true) : w ∈ lw_g := List.mem_filter.mpr ⟨List.mem_of_getElem? h, hg⟩
abbrev R_As : String := "CodeLister$Assembler"
def F_As : u_T := fun k => match k with
  | 0 => ("CodeLister$Assembler", "bytes", "[I", true)
  | _ => ("CodeLister$Assembler", "count", "I", false)
def t_As : Nat → FieldType := fun k => match k with
  | 0 => .array .int
  | _ => .int
theorem n_As : ∀ a, a < 2 → ∀ b, b < 2 → a ≠ b → (F_As a).2.1 ≠ (F_As b).2.1 := by decide +kernel
theorem t_As_ok : ∀ k, k < 2 → parseFieldDescriptor (F_As k).2.2.1 = some (t_As k) := by decide +kernel
theorem in_As : ∀ w ∈ u_ws R_As F_As 2, w ∈ lw_g := by decide +kernel
abbrev R_Im : String := "CodeLister$Image"
def F_Im : u_T := fun k => match k with
  | 0 => ("CodeLister$Image", "bytes", "[I", true)
  | _ => ("CodeLister$Image", "count", "I", false)
def t_Im : Nat → FieldType := fun k => match k with
  | 0 => .array .int
  | _ => .int
theorem n_Im : ∀ a, a < 2 → ∀ b, b < 2 → a ≠ b → (F_Im a).2.1 ≠ (F_Im b).2.1 := by decide +kernel
theorem t_Im_ok : ∀ k, k < 2 → parseFieldDescriptor (F_Im k).2.2.1 = some (t_Im k) := by decide +kernel
theorem in_Im : ∀ w ∈ u_ws R_Im F_Im 2, w ∈ lw_g := by decide +kernel
abbrev R_Te : String := "CodeLister$Text"
def F_Te : u_T := fun k => match k with
  | 0 => ("CodeLister$Text", "characters", "[C", true)
  | 1 => ("CodeLister$Text", "count", "I", false)
  | 2 => ("CodeLister$Text", "place", "I", false)
  | _ => ("CodeLister$Text", "right", "Z", false)
def t_Te : Nat → FieldType := fun k => match k with
  | 0 => .array .char
  | 1 => .int
  | 2 => .int
  | _ => .boolean
theorem n_Te : ∀ a, a < 4 → ∀ b, b < 4 → a ≠ b → (F_Te a).2.1 ≠ (F_Te b).2.1 := by decide +kernel
theorem t_Te_ok : ∀ k, k < 4 → parseFieldDescriptor (F_Te k).2.2.1 = some (t_Te k) := by decide +kernel
theorem in_Te : ∀ w ∈ u_ws R_Te F_Te 4, w ∈ lw_g := by decide +kernel
abbrev R_Wa : String := "CodeLister$Walk"
def F_Wa : u_T := fun k => match k with
  | 0 => ("CodeLister$Walk", "found", "[I", true)
  | 1 => ("CodeLister$Walk", "isFound", "[Z", true)
  | 2 => ("CodeLister$Walk", "addresses", "I", false)
  | _ => ("CodeLister$Walk", "count", "I", false)
def t_Wa : Nat → FieldType := fun k => match k with
  | 0 => .array .int
  | 1 => .array .boolean
  | 2 => .int
  | _ => .int
theorem n_Wa : ∀ a, a < 4 → ∀ b, b < 4 → a ≠ b → (F_Wa a).2.1 ≠ (F_Wa b).2.1 := by decide +kernel
theorem t_Wa_ok : ∀ k, k < 4 → parseFieldDescriptor (F_Wa k).2.2.1 = some (t_Wa k) := by decide +kernel
theorem in_Wa : ∀ w ∈ u_ws R_Wa F_Wa 4, w ∈ lw_g := by decide +kernel
abbrev R_Co : String := "CodeLister"
def F_Co : u_T := fun k => match k with
  | 0 => ("CodeLister", "image", "LCodeLister$Image;", true)
  | 1 => ("CodeLister", "entries", "[I", true)
  | 2 => ("CodeLister", "entryCount", "I", false)
  | 3 => ("CodeLister", "walk", "LCodeLister$Walk;", true)
  | 4 => ("CodeLister", "text", "LCodeLister$Text;", true)
  | 5 => ("CodeLister", "assembler", "LCodeLister$Assembler;", true)
  | 6 => ("CodeLister", "madeBytes", "[I", true)
  | _ => ("CodeLister", "madeCount", "I", false)
def t_Co : Nat → FieldType := fun k => match k with
  | 0 => .object "CodeLister$Image"
  | 1 => .array .int
  | 2 => .int
  | 3 => .object "CodeLister$Walk"
  | 4 => .object "CodeLister$Text"
  | 5 => .object "CodeLister$Assembler"
  | 6 => .array .int
  | _ => .int
theorem n_Co : ∀ a, a < 8 → ∀ b, b < 8 → a ≠ b → (F_Co a).2.1 ≠ (F_Co b).2.1 := by decide +kernel
theorem t_Co_ok : ∀ k, k < 8 → parseFieldDescriptor (F_Co k).2.2.1 = some (t_Co k) := by decide +kernel
theorem in_Co : ∀ w ∈ u_ws R_Co F_Co 8, w ∈ lw_g := by decide +kernel
abbrev R_Mo : String := "CodeListerModel"
def F_Mo : u_T := fun k => match k with
  | 0 => ("CodeListerModel", "image", "[I", true)
  | 1 => ("CodeListerModel", "entries", "[I", true)
  | 2 => ("CodeListerModel", "text", "[I", true)
  | 3 => ("CodeListerModel", "out", "[I", true)
  | 4 => ("CodeListerModel", "bytes", "[I", true)
  | 5 => ("CodeListerModel", "mark", "[Z", true)
  | 6 => ("CodeListerModel", "line", "[I", true)
  | 7 => ("CodeListerModel", "size", "I", false)
  | 8 => ("CodeListerModel", "entered", "I", false)
  | 9 => ("CodeListerModel", "length", "I", false)
  | 10 => ("CodeListerModel", "makes", "I", false)
  | _ => ("CodeListerModel", "width", "I", false)
def t_Mo : Nat → FieldType := fun k => match k with
  | 0 => .array .int
  | 1 => .array .int
  | 2 => .array .int
  | 3 => .array .int
  | 4 => .array .int
  | 5 => .array .boolean
  | 6 => .array .int
  | 7 => .int
  | 8 => .int
  | 9 => .int
  | 10 => .int
  | _ => .int
theorem n_Mo : ∀ a, a < 12 → ∀ b, b < 12 → a ≠ b → (F_Mo a).2.1 ≠ (F_Mo b).2.1 := by decide +kernel
theorem t_Mo_ok : ∀ k, k < 12 → parseFieldDescriptor (F_Mo k).2.2.1 = some (t_Mo k) := by decide +kernel
theorem in_Mo : ∀ w ∈ u_ws R_Mo F_Mo 12, w ∈ lw_g := by decide +kernel
abbrev R_Ki : String := "CodeLister$Kinds"
abbrev classes : List vw_C := [(R_As, F_As, 2), (R_Im, F_Im, 2), (R_Te, F_Te, 4), (R_Wa, F_Wa, 4), (R_Co, F_Co, 8), (R_Mo, F_Mo, 12)]
abbrev b_Co_init : ByteArray := prog_1_method_1_code
abbrev y_Co_init : MethodName := ⟨"CodeLister", "<init>", "()V"⟩
abbrev b_Co_append : ByteArray := prog_1_method_2_code
abbrev y_Co_append : MethodName := ⟨"CodeLister", "append", "(II)I"⟩
abbrev b_Co_enter : ByteArray := prog_1_method_3_code
abbrev y_Co_enter : MethodName := ⟨"CodeLister", "enter", "(I)Z"⟩
abbrev b_Co_clear : ByteArray := prog_1_method_4_code
abbrev y_Co_clear : MethodName := ⟨"CodeLister", "clear", "()V"⟩
abbrev b_Co_size : ByteArray := prog_1_method_5_code
abbrev y_Co_size : MethodName := ⟨"CodeLister", "size", "()I"⟩
abbrev b_Co_byteAt : ByteArray := prog_1_method_6_code
abbrev y_Co_byteAt : MethodName := ⟨"CodeLister", "byteAt", "(I)I"⟩
abbrev b_Co_entry : ByteArray := prog_1_method_7_code
abbrev y_Co_entry : MethodName := ⟨"CodeLister", "entry", "(I)I"⟩
abbrev b_Co_length : ByteArray := prog_1_method_8_code
abbrev y_Co_length : MethodName := ⟨"CodeLister", "length", "(I)I"⟩
abbrev b_Co_reach : ByteArray := prog_1_method_9_code
abbrev y_Co_reach : MethodName := ⟨"CodeLister", "reach", "()I"⟩
abbrev b_Co_reached : ByteArray := prog_1_method_10_code
abbrev y_Co_reached : MethodName := ⟨"CodeLister", "reached", "(I)Z"⟩
abbrev b_Co_body : ByteArray := prog_1_method_11_code
abbrev y_Co_body : MethodName := ⟨"CodeLister", "body", "(I)I"⟩
abbrev b_Co_sweep : ByteArray := prog_1_method_12_code
abbrev y_Co_sweep : MethodName := ⟨"CodeLister", "sweep", "()I"⟩
abbrev b_Co_list : ByteArray := prog_1_method_13_code
abbrev y_Co_list : MethodName := ⟨"CodeLister", "list", "()I"⟩
abbrev b_Co_textLength : ByteArray := prog_1_method_14_code
abbrev y_Co_textLength : MethodName := ⟨"CodeLister", "textLength", "()I"⟩
abbrev b_Co_charAt : ByteArray := prog_1_method_15_code
abbrev y_Co_charAt : MethodName := ⟨"CodeLister", "charAt", "(I)I"⟩
abbrev b_Co_type : ByteArray := prog_1_method_16_code
abbrev y_Co_type : MethodName := ⟨"CodeLister", "type", "(II)Z"⟩
abbrev b_Co_assemble : ByteArray := prog_1_method_17_code
abbrev y_Co_assemble : MethodName := ⟨"CodeLister", "assemble", "()I"⟩
abbrev b_Co_made : ByteArray := prog_1_method_18_code
abbrev y_Co_made : MethodName := ⟨"CodeLister", "made", "(I)I"⟩
abbrev b_Co_isEntry : ByteArray := prog_1_method_19_code
abbrev y_Co_isEntry : MethodName := ⟨"CodeLister", "isEntry", "(I)Z"⟩
abbrev b_Co_walkFromEntries : ByteArray := prog_1_method_20_code
abbrev y_Co_walkFromEntries : MethodName := ⟨"CodeLister", "walkFromEntries", "()V"⟩
abbrev b_Co_listLine : ByteArray := prog_1_method_21_code
abbrev y_Co_listLine : MethodName := ⟨"CodeLister", "listLine", "(I)I"⟩
abbrev b_Mo_init : ByteArray := prog_8_method_1_code
abbrev y_Mo_init : MethodName := ⟨"CodeListerModel", "<init>", "()V"⟩
abbrev b_Mo_append : ByteArray := prog_8_method_2_code
abbrev y_Mo_append : MethodName := ⟨"CodeListerModel", "append", "(II)I"⟩
abbrev b_Mo_has : ByteArray := prog_8_method_3_code
abbrev y_Mo_has : MethodName := ⟨"CodeListerModel", "has", "(I)Z"⟩
abbrev b_Mo_enter : ByteArray := prog_8_method_4_code
abbrev y_Mo_enter : MethodName := ⟨"CodeListerModel", "enter", "(I)Z"⟩
abbrev b_Mo_clear : ByteArray := prog_8_method_5_code
abbrev y_Mo_clear : MethodName := ⟨"CodeListerModel", "clear", "()V"⟩
abbrev b_Mo_size : ByteArray := prog_8_method_6_code
abbrev y_Mo_size : MethodName := ⟨"CodeListerModel", "size", "()I"⟩
abbrev b_Mo_byteAt : ByteArray := prog_8_method_7_code
abbrev y_Mo_byteAt : MethodName := ⟨"CodeListerModel", "byteAt", "(I)I"⟩
abbrev b_Mo_entry : ByteArray := prog_8_method_8_code
abbrev y_Mo_entry : MethodName := ⟨"CodeListerModel", "entry", "(I)I"⟩
abbrev b_Mo_longOf : ByteArray := prog_8_method_9_code
abbrev y_Mo_longOf : MethodName := ⟨"CodeListerModel", "longOf", "(I)I"⟩
abbrev b_Mo_length : ByteArray := prog_8_method_10_code
abbrev y_Mo_length : MethodName := ⟨"CodeListerModel", "length", "(I)I"⟩
abbrev b_Mo_set : ByteArray := prog_8_method_11_code
abbrev y_Mo_set : MethodName := ⟨"CodeListerModel", "set", "(I)Z"⟩
abbrev b_Mo_follow : ByteArray := prog_8_method_12_code
abbrev y_Mo_follow : MethodName := ⟨"CodeListerModel", "follow", "(IZ)Z"⟩
abbrev b_Mo_close : ByteArray := prog_8_method_13_code
abbrev y_Mo_close : MethodName := ⟨"CodeListerModel", "close", "(Z)I"⟩
abbrev b_Mo_wipe : ByteArray := prog_8_method_14_code
abbrev y_Mo_wipe : MethodName := ⟨"CodeListerModel", "wipe", "()V"⟩
abbrev b_Mo_reach : ByteArray := prog_8_method_15_code
abbrev y_Mo_reach : MethodName := ⟨"CodeListerModel", "reach", "()I"⟩
abbrev b_Mo_reached : ByteArray := prog_8_method_16_code
abbrev y_Mo_reached : MethodName := ⟨"CodeListerModel", "reached", "(I)Z"⟩
abbrev b_Mo_body : ByteArray := prog_8_method_17_code
abbrev y_Mo_body : MethodName := ⟨"CodeListerModel", "body", "(I)I"⟩
abbrev b_Mo_sweep : ByteArray := prog_8_method_18_code
abbrev y_Mo_sweep : MethodName := ⟨"CodeListerModel", "sweep", "()I"⟩
abbrev b_Mo_put : ByteArray := prog_8_method_19_code
abbrev y_Mo_put : MethodName := ⟨"CodeListerModel", "put", "(I)V"⟩
abbrev b_Mo_name : ByteArray := prog_8_method_20_code
abbrev y_Mo_name : MethodName := ⟨"CodeListerModel", "name", "(III)V"⟩
abbrev b_Mo_number : ByteArray := prog_8_method_21_code
abbrev y_Mo_number : MethodName := ⟨"CodeListerModel", "number", "(I)V"⟩
abbrev b_Mo_register : ByteArray := prog_8_method_22_code
abbrev y_Mo_register : MethodName := ⟨"CodeListerModel", "register", "(I)V"⟩
abbrev b_Mo_front : ByteArray := prog_8_method_23_code
abbrev y_Mo_front : MethodName := ⟨"CodeListerModel", "front", "(I)V"⟩
abbrev b_Mo_print : ByteArray := prog_8_method_24_code
abbrev y_Mo_print : MethodName := ⟨"CodeListerModel", "print", "(II)V"⟩
abbrev b_Mo_data : ByteArray := prog_8_method_25_code
abbrev y_Mo_data : MethodName := ⟨"CodeListerModel", "data", "(I)V"⟩
abbrev b_Mo_list : ByteArray := prog_8_method_26_code
abbrev y_Mo_list : MethodName := ⟨"CodeListerModel", "list", "()I"⟩
abbrev b_Mo_textLength : ByteArray := prog_8_method_27_code
abbrev y_Mo_textLength : MethodName := ⟨"CodeListerModel", "textLength", "()I"⟩
abbrev b_Mo_charAt : ByteArray := prog_8_method_28_code
abbrev y_Mo_charAt : MethodName := ⟨"CodeListerModel", "charAt", "(I)I"⟩
abbrev b_Mo_type : ByteArray := prog_8_method_29_code
abbrev y_Mo_type : MethodName := ⟨"CodeListerModel", "type", "(II)Z"⟩
abbrev b_Mo_begins : ByteArray := prog_8_method_30_code
abbrev y_Mo_begins : MethodName := ⟨"CodeListerModel", "begins", "(I)Z"⟩
abbrev b_Mo_here : ByteArray := prog_8_method_31_code
abbrev y_Mo_here : MethodName := ⟨"CodeListerModel", "here", "(I)Z"⟩
abbrev b_Mo_understand : ByteArray := prog_8_method_32_code
abbrev y_Mo_understand : MethodName := ⟨"CodeListerModel", "understand", "(I)I"⟩
abbrev b_Mo_assemble : ByteArray := prog_8_method_33_code
abbrev y_Mo_assemble : MethodName := ⟨"CodeListerModel", "assemble", "()I"⟩
abbrev b_Mo_made : ByteArray := prog_8_method_34_code
abbrev y_Mo_made : MethodName := ⟨"CodeListerModel", "made", "(I)I"⟩
abbrev b_As_init : ByteArray := prog_2_method_1_code
abbrev y_As_init : MethodName := ⟨"CodeLister$Assembler", "<init>", "()V"⟩
abbrev b_As_count : ByteArray := prog_2_method_2_code
abbrev y_As_count : MethodName := ⟨"CodeLister$Assembler", "count", "()I"⟩
abbrev b_As_copyTo : ByteArray := prog_2_method_3_code
abbrev y_As_copyTo : MethodName := ⟨"CodeLister$Assembler", "copyTo", "([I)V"⟩
abbrev b_As_read : ByteArray := prog_2_method_4_code
abbrev y_As_read : MethodName := ⟨"CodeLister$Assembler", "read", "(LCodeLister$Text;)Z"⟩
abbrev b_As_readLine : ByteArray := prog_2_method_5_code
abbrev y_As_readLine : MethodName := ⟨"CodeLister$Assembler", "readLine", "(LCodeLister$Text;)V"⟩
abbrev b_As_readRegisters : ByteArray := prog_2_method_6_code
abbrev y_As_readRegisters : MethodName := ⟨"CodeLister$Assembler", "readRegisters", "(LCodeLister$Text;I)I"⟩
abbrev b_As_readNumber : ByteArray := prog_2_method_7_code
abbrev y_As_readNumber : MethodName := ⟨"CodeLister$Assembler", "readNumber", "(LCodeLister$Text;I)I"⟩
abbrev b_As_addBytes : ByteArray := prog_2_method_8_code
abbrev y_As_addBytes : MethodName := ⟨"CodeLister$Assembler", "addBytes", "(III)V"⟩
abbrev b_As_addByte : ByteArray := prog_2_method_9_code
abbrev y_As_addByte : MethodName := ⟨"CodeLister$Assembler", "addByte", "(I)V"⟩
abbrev b_Im_init : ByteArray := prog_3_method_1_code
abbrev y_Im_init : MethodName := ⟨"CodeLister$Image", "<init>", "()V"⟩
abbrev b_Im_count : ByteArray := prog_3_method_2_code
abbrev y_Im_count : MethodName := ⟨"CodeLister$Image", "count", "()I"⟩
abbrev b_Im_holds : ByteArray := prog_3_method_3_code
abbrev y_Im_holds : MethodName := ⟨"CodeLister$Image", "holds", "(I)Z"⟩
abbrev b_Im_at : ByteArray := prog_3_method_4_code
abbrev y_Im_at : MethodName := ⟨"CodeLister$Image", "at", "(I)I"⟩
abbrev b_Im_add : ByteArray := prog_3_method_5_code
abbrev y_Im_add : MethodName := ⟨"CodeLister$Image", "add", "(I)V"⟩
abbrev b_Im_drop : ByteArray := prog_3_method_6_code
abbrev y_Im_drop : MethodName := ⟨"CodeLister$Image", "drop", "()V"⟩
abbrev b_Im_codeKind : ByteArray := prog_3_method_7_code
abbrev y_Im_codeKind : MethodName := ⟨"CodeLister$Image", "codeKind", "(I)I"⟩
abbrev b_Im_codeLength : ByteArray := prog_3_method_8_code
abbrev y_Im_codeLength : MethodName := ⟨"CodeLister$Image", "codeLength", "(I)I"⟩
abbrev b_Im_number : ByteArray := prog_3_method_9_code
abbrev y_Im_number : MethodName := ⟨"CodeLister$Image", "number", "(II)I"⟩
abbrev b_Ki_ofFirst : ByteArray := prog_4_method_2_code
abbrev y_Ki_ofFirst : MethodName := ⟨"CodeLister$Kinds", "ofFirst", "(I)I"⟩
abbrev b_Ki_first : ByteArray := prog_4_method_3_code
abbrev y_Ki_first : MethodName := ⟨"CodeLister$Kinds", "first", "(I)I"⟩
abbrev b_Ki_registers : ByteArray := prog_4_method_4_code
abbrev y_Ki_registers : MethodName := ⟨"CodeLister$Kinds", "registers", "(I)I"⟩
abbrev b_Ki_number : ByteArray := prog_4_method_5_code
abbrev y_Ki_number : MethodName := ⟨"CodeLister$Kinds", "number", "(I)I"⟩
abbrev b_Ki_bytes : ByteArray := prog_4_method_6_code
abbrev y_Ki_bytes : MethodName := ⟨"CodeLister$Kinds", "bytes", "(I)I"⟩
abbrev b_Ki_lowest : ByteArray := prog_4_method_7_code
abbrev y_Ki_lowest : MethodName := ⟨"CodeLister$Kinds", "lowest", "(I)I"⟩
abbrev b_Ki_highest : ByteArray := prog_4_method_8_code
abbrev y_Ki_highest : MethodName := ⟨"CodeLister$Kinds", "highest", "(I)I"⟩
abbrev b_Ki_fallsThrough : ByteArray := prog_4_method_9_code
abbrev y_Ki_fallsThrough : MethodName := ⟨"CodeLister$Kinds", "fallsThrough", "(I)Z"⟩
abbrev b_Ki_opening : ByteArray := prog_4_method_10_code
abbrev y_Ki_opening : MethodName := ⟨"CodeLister$Kinds", "opening", "(I)Ljava/lang/String;"⟩
abbrev b_Te_init : ByteArray := prog_5_method_1_code
abbrev y_Te_init : MethodName := ⟨"CodeLister$Text", "<init>", "()V"⟩
abbrev b_Te_count : ByteArray := prog_5_method_2_code
abbrev y_Te_count : MethodName := ⟨"CodeLister$Text", "count", "()I"⟩
abbrev b_Te_at : ByteArray := prog_5_method_3_code
abbrev y_Te_at : MethodName := ⟨"CodeLister$Text", "at", "(I)I"⟩
abbrev b_Te_drop : ByteArray := prog_5_method_4_code
abbrev y_Te_drop : MethodName := ⟨"CodeLister$Text", "drop", "()V"⟩
abbrev b_Te_put : ByteArray := prog_5_method_5_code
abbrev y_Te_put : MethodName := ⟨"CodeLister$Text", "put", "(IC)V"⟩
abbrev b_Te_addLine : ByteArray := prog_5_method_6_code
abbrev y_Te_addLine : MethodName := ⟨"CodeLister$Text", "addLine", "(III)V"⟩
abbrev b_Te_add : ByteArray := prog_5_method_7_code
abbrev y_Te_add : MethodName := ⟨"CodeLister$Text", "add", "(C)V"⟩
abbrev b_Te_addComma : ByteArray := prog_5_method_8_code
abbrev y_Te_addComma : MethodName := ⟨"CodeLister$Text", "addComma", "(I)V"⟩
abbrev b_Te_addDigit : ByteArray := prog_5_method_9_code
abbrev y_Te_addDigit : MethodName := ⟨"CodeLister$Text", "addDigit", "(I)V"⟩
abbrev b_Te_addNumber : ByteArray := prog_5_method_10_code
abbrev y_Te_addNumber : MethodName := ⟨"CodeLister$Text", "addNumber", "(I)V"⟩
abbrev b_Te_startReading : ByteArray := prog_5_method_11_code
abbrev y_Te_startReading : MethodName := ⟨"CodeLister$Text", "startReading", "()V"⟩
abbrev b_Te_isRight : ByteArray := prog_5_method_12_code
abbrev y_Te_isRight : MethodName := ⟨"CodeLister$Text", "isRight", "()Z"⟩
abbrev b_Te_hasMore : ByteArray := prog_5_method_13_code
abbrev y_Te_hasMore : MethodName := ⟨"CodeLister$Text", "hasMore", "()Z"⟩
abbrev b_Te_take : ByteArray := prog_5_method_14_code
abbrev y_Te_take : MethodName := ⟨"CodeLister$Text", "take", "(C)V"⟩
abbrev b_Te_takeComma : ByteArray := prog_5_method_15_code
abbrev y_Te_takeComma : MethodName := ⟨"CodeLister$Text", "takeComma", "(I)V"⟩
abbrev b_Te_takeKind : ByteArray := prog_5_method_16_code
abbrev y_Te_takeKind : MethodName := ⟨"CodeLister$Text", "takeKind", "()I"⟩
abbrev b_Te_goesOnWith : ByteArray := prog_5_method_17_code
abbrev y_Te_goesOnWith : MethodName := ⟨"CodeLister$Text", "goesOnWith", "(Ljava/lang/String;)Z"⟩
abbrev b_Te_takeRegister : ByteArray := prog_5_method_18_code
abbrev y_Te_takeRegister : MethodName := ⟨"CodeLister$Text", "takeRegister", "()I"⟩
abbrev b_Te_takeNumber : ByteArray := prog_5_method_19_code
abbrev y_Te_takeNumber : MethodName := ⟨"CodeLister$Text", "takeNumber", "(II)I"⟩
abbrev b_Te_takeAmount : ByteArray := prog_5_method_20_code
abbrev y_Te_takeAmount : MethodName := ⟨"CodeLister$Text", "takeAmount", "()I"⟩
abbrev b_Te_isDigit : ByteArray := prog_5_method_21_code
abbrev y_Te_isDigit : MethodName := ⟨"CodeLister$Text", "isDigit", "(I)Z"⟩
abbrev b_Wa_init : ByteArray := prog_6_method_1_code
abbrev y_Wa_init : MethodName := ⟨"CodeLister$Walk", "<init>", "()V"⟩
abbrev b_Wa_count : ByteArray := prog_6_method_2_code
abbrev y_Wa_count : MethodName := ⟨"CodeLister$Walk", "count", "()I"⟩
abbrev b_Wa_start : ByteArray := prog_6_method_3_code
abbrev y_Wa_start : MethodName := ⟨"CodeLister$Walk", "start", "(I)V"⟩
abbrev b_Wa_cameTo : ByteArray := prog_6_method_4_code
abbrev y_Wa_cameTo : MethodName := ⟨"CodeLister$Walk", "cameTo", "(I)Z"⟩
abbrev b_Wa_comeTo : ByteArray := prog_6_method_5_code
abbrev y_Wa_comeTo : MethodName := ⟨"CodeLister$Walk", "comeTo", "(I)V"⟩
abbrev b_Wa_follow : ByteArray := prog_6_method_6_code
abbrev y_Wa_follow : MethodName := ⟨"CodeLister$Walk", "follow", "(LCodeLister$Image;Z)V"⟩
abbrev b_Wa_comeToSuccessors : ByteArray := prog_6_method_7_code
abbrev y_Wa_comeToSuccessors : MethodName := ⟨"CodeLister$Walk", "comeToSuccessors", "(LCodeLister$Image;IZ)V"⟩
abbrev b_St_length : ByteArray := prog_10_method_54_code
abbrev y_St_length : MethodName := ⟨"java/lang/String", "length", "()I"⟩
abbrev b_St_coder : ByteArray := prog_10_method_152_code
abbrev y_St_coder : MethodName := ⟨"java/lang/String", "coder", "()B"⟩
abbrev b_St_charAt : ByteArray := prog_10_method_56_code
abbrev y_St_charAt : MethodName := ⟨"java/lang/String", "charAt", "(I)C"⟩
abbrev b_St_isLatin1 : ByteArray := prog_10_method_154_code
abbrev y_St_isLatin1 : MethodName := ⟨"java/lang/String", "isLatin1", "()Z"⟩
abbrev b_Sl_charAt : ByteArray := prog_11_method_2_code
abbrev y_Sl_charAt : MethodName := ⟨"java/lang/StringLatin1", "charAt", "([BI)C"⟩
abbrev b_St_checkIndex : ByteArray := prog_10_method_155_code
abbrev y_St_checkIndex : MethodName := ⟨"java/lang/String", "checkIndex", "(II)V"⟩
abbrev b_Pr_checkIndex : ByteArray := prog_14_method_11_code
abbrev y_Pr_checkIndex : MethodName := ⟨"jdk/internal/util/Preconditions", "checkIndex", "(IILjava/util/function/BiFunction;)I"⟩
end
section
theorem kp_Co_isEntry : Cond.selects "CodeLister" ⟨"CodeLister", "isEntry", "(I)Z"⟩ ⟨"CodeLister", "isEntry", "(I)Z"⟩ ∈ lw_g := lg_i (i := 0) (by decide +kernel) rfl
theorem kp_Co_walkFromEntries : Cond.selects "CodeLister" ⟨"CodeLister", "walkFromEntries", "()V"⟩ ⟨"CodeLister", "walkFromEntries", "()V"⟩ ∈ lw_g := lg_i (i := 1) (by decide +kernel) rfl
theorem kp_Wa_comeToSuccessors : Cond.selects "CodeLister$Walk" ⟨"CodeLister$Walk", "comeToSuccessors", "(LCodeLister$Image;IZ)V"⟩ ⟨"CodeLister$Walk", "comeToSuccessors", "(LCodeLister$Image;IZ)V"⟩ ∈ lw_g := lg_i (i := 2) (by decide +kernel) rfl
theorem kp_Co_listLine : Cond.selects "CodeLister" ⟨"CodeLister", "listLine", "(I)I"⟩ ⟨"CodeLister", "listLine", "(I)I"⟩ ∈ lw_g := lg_i (i := 3) (by decide +kernel) rfl
theorem kp_Te_add : Cond.selects "CodeLister$Text" ⟨"CodeLister$Text", "add", "(C)V"⟩ ⟨"CodeLister$Text", "add", "(C)V"⟩ ∈ lw_g := lg_i (i := 4) (by decide +kernel) rfl
theorem kp_Te_addComma : Cond.selects "CodeLister$Text" ⟨"CodeLister$Text", "addComma", "(I)V"⟩ ⟨"CodeLister$Text", "addComma", "(I)V"⟩ ∈ lw_g := lg_i (i := 5) (by decide +kernel) rfl
theorem kp_Te_addDigit : Cond.selects "CodeLister$Text" ⟨"CodeLister$Text", "addDigit", "(I)V"⟩ ⟨"CodeLister$Text", "addDigit", "(I)V"⟩ ∈ lw_g := lg_i (i := 6) (by decide +kernel) rfl
theorem kp_Te_addNumber : Cond.selects "CodeLister$Text" ⟨"CodeLister$Text", "addNumber", "(I)V"⟩ ⟨"CodeLister$Text", "addNumber", "(I)V"⟩ ∈ lw_g := lg_i (i := 7) (by decide +kernel) rfl
theorem kp_As_readLine : Cond.selects "CodeLister$Assembler" ⟨"CodeLister$Assembler", "readLine", "(LCodeLister$Text;)V"⟩ ⟨"CodeLister$Assembler", "readLine", "(LCodeLister$Text;)V"⟩ ∈ lw_g := lg_i (i := 8) (by decide +kernel) rfl
theorem kp_Te_goesOnWith : Cond.selects "CodeLister$Text" ⟨"CodeLister$Text", "goesOnWith", "(Ljava/lang/String;)Z"⟩ ⟨"CodeLister$Text", "goesOnWith", "(Ljava/lang/String;)Z"⟩ ∈ lw_g := lg_i (i := 9) (by decide +kernel) rfl
theorem kp_Te_takeAmount : Cond.selects "CodeLister$Text" ⟨"CodeLister$Text", "takeAmount", "()I"⟩ ⟨"CodeLister$Text", "takeAmount", "()I"⟩ ∈ lw_g := lg_i (i := 10) (by decide +kernel) rfl
theorem kp_As_addBytes : Cond.selects "CodeLister$Assembler" ⟨"CodeLister$Assembler", "addBytes", "(III)V"⟩ ⟨"CodeLister$Assembler", "addBytes", "(III)V"⟩ ∈ lw_g := lg_i (i := 11) (by decide +kernel) rfl
theorem kp_As_addByte : Cond.selects "CodeLister$Assembler" ⟨"CodeLister$Assembler", "addByte", "(I)V"⟩ ⟨"CodeLister$Assembler", "addByte", "(I)V"⟩ ∈ lw_g := lg_i (i := 12) (by decide +kernel) rfl
theorem kp_Mo_has : Cond.selects "CodeListerModel" ⟨"CodeListerModel", "has", "(I)Z"⟩ ⟨"CodeListerModel", "has", "(I)Z"⟩ ∈ lw_g := lg_i (i := 13) (by decide +kernel) rfl
theorem kp_Mo_wipe : Cond.selects "CodeListerModel" ⟨"CodeListerModel", "wipe", "()V"⟩ ⟨"CodeListerModel", "wipe", "()V"⟩ ∈ lw_g := lg_i (i := 14) (by decide +kernel) rfl
theorem kp_Mo_close : Cond.selects "CodeListerModel" ⟨"CodeListerModel", "close", "(Z)I"⟩ ⟨"CodeListerModel", "close", "(Z)I"⟩ ∈ lw_g := lg_i (i := 15) (by decide +kernel) rfl
theorem kp_Mo_follow : Cond.selects "CodeListerModel" ⟨"CodeListerModel", "follow", "(IZ)Z"⟩ ⟨"CodeListerModel", "follow", "(IZ)Z"⟩ ∈ lw_g := lg_i (i := 16) (by decide +kernel) rfl
theorem kp_Mo_set : Cond.selects "CodeListerModel" ⟨"CodeListerModel", "set", "(I)Z"⟩ ⟨"CodeListerModel", "set", "(I)Z"⟩ ∈ lw_g := lg_i (i := 17) (by decide +kernel) rfl
theorem kp_Mo_data : Cond.selects "CodeListerModel" ⟨"CodeListerModel", "data", "(I)V"⟩ ⟨"CodeListerModel", "data", "(I)V"⟩ ∈ lw_g := lg_i (i := 18) (by decide +kernel) rfl
theorem kp_Mo_name : Cond.selects "CodeListerModel" ⟨"CodeListerModel", "name", "(III)V"⟩ ⟨"CodeListerModel", "name", "(III)V"⟩ ∈ lw_g := lg_i (i := 19) (by decide +kernel) rfl
theorem kp_Mo_put : Cond.selects "CodeListerModel" ⟨"CodeListerModel", "put", "(I)V"⟩ ⟨"CodeListerModel", "put", "(I)V"⟩ ∈ lw_g := lg_i (i := 20) (by decide +kernel) rfl
theorem kp_Mo_number : Cond.selects "CodeListerModel" ⟨"CodeListerModel", "number", "(I)V"⟩ ⟨"CodeListerModel", "number", "(I)V"⟩ ∈ lw_g := lg_i (i := 21) (by decide +kernel) rfl
theorem kp_Mo_print : Cond.selects "CodeListerModel" ⟨"CodeListerModel", "print", "(II)V"⟩ ⟨"CodeListerModel", "print", "(II)V"⟩ ∈ lw_g := lg_i (i := 22) (by decide +kernel) rfl
theorem kp_Mo_front : Cond.selects "CodeListerModel" ⟨"CodeListerModel", "front", "(I)V"⟩ ⟨"CodeListerModel", "front", "(I)V"⟩ ∈ lw_g := lg_i (i := 23) (by decide +kernel) rfl
theorem kp_Mo_register : Cond.selects "CodeListerModel" ⟨"CodeListerModel", "register", "(I)V"⟩ ⟨"CodeListerModel", "register", "(I)V"⟩ ∈ lw_g := lg_i (i := 24) (by decide +kernel) rfl
theorem kp_Mo_understand : Cond.selects "CodeListerModel" ⟨"CodeListerModel", "understand", "(I)I"⟩ ⟨"CodeListerModel", "understand", "(I)I"⟩ ∈ lw_g := lg_i (i := 25) (by decide +kernel) rfl
theorem kp_Mo_here : Cond.selects "CodeListerModel" ⟨"CodeListerModel", "here", "(I)Z"⟩ ⟨"CodeListerModel", "here", "(I)Z"⟩ ∈ lw_g := lg_i (i := 26) (by decide +kernel) rfl
theorem kp_Mo_begins : Cond.selects "CodeListerModel" ⟨"CodeListerModel", "begins", "(I)Z"⟩ ⟨"CodeListerModel", "begins", "(I)Z"⟩ ∈ lw_g := lg_i (i := 27) (by decide +kernel) rfl
theorem k_0 : Cond.initialized "CodeListerLaw" ∈ lw_g := lg_i (i := 28) (by decide +kernel) rfl
theorem k_1 : Cond.initialized "CodeLister" ∈ lw_g := lg_i (i := 29) (by decide +kernel) rfl
theorem k_2 : Cond.initialized "CodeLister$Image" ∈ lw_g := lg_i (i := 30) (by decide +kernel) rfl
theorem k_3 : Cond.initialized "CodeLister$Walk" ∈ lw_g := lg_i (i := 31) (by decide +kernel) rfl
theorem k_4 : Cond.initialized "CodeLister$Text" ∈ lw_g := lg_i (i := 32) (by decide +kernel) rfl
theorem k_5 : Cond.initialized "CodeLister$Assembler" ∈ lw_g := lg_i (i := 33) (by decide +kernel) rfl
theorem k_6 : Cond.initialized "CodeListerModel" ∈ lw_g := lg_i (i := 34) (by decide +kernel) rfl
theorem k_7 : Cond.initialized "CodeLister$Kinds" ∈ lw_g := lg_i (i := 35) (by decide +kernel) rfl
theorem k_8 : Cond.initialized "java/lang/Math" ∈ lw_g := lg_i (i := 36) (by decide +kernel) rfl
theorem k_9 : Cond.initialized "java/lang/String" ∈ lw_g := lg_i (i := 37) (by decide +kernel) rfl
theorem k_10 : Cond.initialized "java/lang/StringLatin1" ∈ lw_g := lg_i (i := 38) (by decide +kernel) rfl
theorem k_11 : Cond.initialized "jdk/internal/util/Preconditions" ∈ lw_g := lg_i (i := 39) (by decide +kernel) rfl
theorem k_12 : Cond.initialized "java/lang/StringUTF16" ∈ lw_g := lg_i (i := 40) (by decide +kernel) rfl
theorem k_13 : Cond.initialized "java/lang/System" ∈ lw_g := lg_i (i := 41) (by decide +kernel) rfl
theorem k_14 : Cond.classLink "CodeListerLaw" 7 "CodeLister" ∈ lw_g := lg_i (i := 42) (by decide +kernel) rfl
theorem k_15 : Cond.instantiable "CodeLister" 8 ∈ lw_g := lg_i (i := 43) (by decide +kernel) rfl
theorem k_16 : Cond.methodLink "CodeListerLaw" 9 ⟨"CodeLister", "<init>", "()V"⟩ ∈ lw_g := lg_i (i := 44) (by decide +kernel) rfl
theorem k_17 : Cond.instanceMethod ⟨"CodeLister", "<init>", "()V"⟩ ∈ lw_g := lg_i (i := 45) (by decide +kernel) rfl
theorem k_18 : Cond.code ⟨"CodeLister", "<init>", "()V"⟩ prog_1_method_1_code 1 none ∈ lw_g := lg_i (i := 46) (by decide +kernel) rfl
theorem k_19 : Cond.methodLink "CodeLister" 1 ⟨"java/lang/Object", "<init>", "()V"⟩ ∈ lw_g := lg_i (i := 47) (by decide +kernel) rfl
theorem k_20 : Cond.instanceMethod ⟨"java/lang/Object", "<init>", "()V"⟩ ∈ lw_g := lg_i (i := 48) (by decide +kernel) rfl
theorem k_21 : Cond.code ⟨"java/lang/Object", "<init>", "()V"⟩ object_method_1_code 1 none ∈ lw_g := lg_i (i := 49) (by decide +kernel) rfl
theorem k_22 : Cond.classLink "CodeLister" 7 "CodeLister$Image" ∈ lw_g := lg_i (i := 50) (by decide +kernel) rfl
theorem k_23 : Cond.instantiable "CodeLister$Image" 2 ∈ lw_g := lg_i (i := 51) (by decide +kernel) rfl
theorem k_24 : Cond.methodLink "CodeLister" 9 ⟨"CodeLister$Image", "<init>", "()V"⟩ ∈ lw_g := lg_i (i := 52) (by decide +kernel) rfl
theorem k_25 : Cond.instanceMethod ⟨"CodeLister$Image", "<init>", "()V"⟩ ∈ lw_g := lg_i (i := 53) (by decide +kernel) rfl
theorem k_26 : Cond.code ⟨"CodeLister$Image", "<init>", "()V"⟩ prog_3_method_1_code 1 none ∈ lw_g := lg_i (i := 54) (by decide +kernel) rfl
theorem k_27 : Cond.methodLink "CodeLister$Image" 3 ⟨"java/lang/Object", "<init>", "()V"⟩ ∈ lw_g := lg_i (i := 55) (by decide +kernel) rfl
theorem k_28 : Cond.fieldLink "CodeLister$Image" 9 "CodeLister$Image" "bytes" "[I" ∈ lw_g := lg_i (i := 56) (by decide +kernel) rfl
theorem k_29 : Cond.fieldLink "CodeLister$Image" 15 "CodeLister$Image" "count" "I" ∈ lw_g := lg_i (i := 57) (by decide +kernel) rfl
theorem k_30 : Cond.laysFinal "CodeLister$Image" "CodeLister$Image" "bytes" "[I" ∈ lw_g := lg_i (i := 58) (by decide +kernel) rfl
theorem k_31 : Cond.soleField "CodeLister$Image" "bytes" ∈ lw_g := lg_i (i := 59) (by decide +kernel) rfl
theorem k_32 : Cond.lays "CodeLister$Image" "CodeLister$Image" "count" "I" ∈ lw_g := lg_i (i := 60) (by decide +kernel) rfl
theorem k_33 : Cond.soleField "CodeLister$Image" "count" ∈ lw_g := lg_i (i := 61) (by decide +kernel) rfl
theorem k_34 : Cond.superclass "CodeLister$Image" "java/lang/Object" ∈ lw_g := lg_i (i := 62) (by decide +kernel) rfl
theorem k_35 : Cond.arrayClass .int ∈ lw_g := lg_i (i := 63) (by decide +kernel) rfl
theorem k_36 : Cond.classLink "CodeLister" 20 "CodeLister$Walk" ∈ lw_g := lg_i (i := 64) (by decide +kernel) rfl
theorem k_37 : Cond.instantiable "CodeLister$Walk" 4 ∈ lw_g := lg_i (i := 65) (by decide +kernel) rfl
theorem k_38 : Cond.methodLink "CodeLister" 22 ⟨"CodeLister$Walk", "<init>", "()V"⟩ ∈ lw_g := lg_i (i := 66) (by decide +kernel) rfl
theorem k_39 : Cond.instanceMethod ⟨"CodeLister$Walk", "<init>", "()V"⟩ ∈ lw_g := lg_i (i := 67) (by decide +kernel) rfl
theorem k_40 : Cond.code ⟨"CodeLister$Walk", "<init>", "()V"⟩ prog_6_method_1_code 1 none ∈ lw_g := lg_i (i := 68) (by decide +kernel) rfl
theorem k_41 : Cond.methodLink "CodeLister$Walk" 3 ⟨"java/lang/Object", "<init>", "()V"⟩ ∈ lw_g := lg_i (i := 69) (by decide +kernel) rfl
theorem k_42 : Cond.fieldLink "CodeLister$Walk" 9 "CodeLister$Walk" "found" "[I" ∈ lw_g := lg_i (i := 70) (by decide +kernel) rfl
theorem k_43 : Cond.fieldLink "CodeLister$Walk" 15 "CodeLister$Walk" "isFound" "[Z" ∈ lw_g := lg_i (i := 71) (by decide +kernel) rfl
theorem k_44 : Cond.fieldLink "CodeLister$Walk" 29 "CodeLister$Walk" "addresses" "I" ∈ lw_g := lg_i (i := 72) (by decide +kernel) rfl
theorem k_45 : Cond.fieldLink "CodeLister$Walk" 19 "CodeLister$Walk" "count" "I" ∈ lw_g := lg_i (i := 73) (by decide +kernel) rfl
theorem k_46 : Cond.laysFinal "CodeLister$Walk" "CodeLister$Walk" "found" "[I" ∈ lw_g := lg_i (i := 74) (by decide +kernel) rfl
theorem k_47 : Cond.soleField "CodeLister$Walk" "found" ∈ lw_g := lg_i (i := 75) (by decide +kernel) rfl
theorem k_48 : Cond.laysFinal "CodeLister$Walk" "CodeLister$Walk" "isFound" "[Z" ∈ lw_g := lg_i (i := 76) (by decide +kernel) rfl
theorem k_49 : Cond.soleField "CodeLister$Walk" "isFound" ∈ lw_g := lg_i (i := 77) (by decide +kernel) rfl
theorem k_50 : Cond.lays "CodeLister$Walk" "CodeLister$Walk" "addresses" "I" ∈ lw_g := lg_i (i := 78) (by decide +kernel) rfl
theorem k_51 : Cond.soleField "CodeLister$Walk" "addresses" ∈ lw_g := lg_i (i := 79) (by decide +kernel) rfl
theorem k_52 : Cond.lays "CodeLister$Walk" "CodeLister$Walk" "count" "I" ∈ lw_g := lg_i (i := 80) (by decide +kernel) rfl
theorem k_53 : Cond.soleField "CodeLister$Walk" "count" ∈ lw_g := lg_i (i := 81) (by decide +kernel) rfl
theorem k_54 : Cond.superclass "CodeLister$Walk" "java/lang/Object" ∈ lw_g := lg_i (i := 82) (by decide +kernel) rfl
theorem k_55 : Cond.arrayClass .boolean ∈ lw_g := lg_i (i := 83) (by decide +kernel) rfl
theorem k_56 : Cond.classLink "CodeLister" 27 "CodeLister$Text" ∈ lw_g := lg_i (i := 84) (by decide +kernel) rfl
theorem k_57 : Cond.instantiable "CodeLister$Text" 4 ∈ lw_g := lg_i (i := 85) (by decide +kernel) rfl
theorem k_58 : Cond.methodLink "CodeLister" 29 ⟨"CodeLister$Text", "<init>", "()V"⟩ ∈ lw_g := lg_i (i := 86) (by decide +kernel) rfl
theorem k_59 : Cond.instanceMethod ⟨"CodeLister$Text", "<init>", "()V"⟩ ∈ lw_g := lg_i (i := 87) (by decide +kernel) rfl
theorem k_60 : Cond.code ⟨"CodeLister$Text", "<init>", "()V"⟩ prog_5_method_1_code 1 none ∈ lw_g := lg_i (i := 88) (by decide +kernel) rfl
theorem k_61 : Cond.methodLink "CodeLister$Text" 3 ⟨"java/lang/Object", "<init>", "()V"⟩ ∈ lw_g := lg_i (i := 89) (by decide +kernel) rfl
theorem k_62 : Cond.fieldLink "CodeLister$Text" 9 "CodeLister$Text" "characters" "[C" ∈ lw_g := lg_i (i := 90) (by decide +kernel) rfl
theorem k_63 : Cond.fieldLink "CodeLister$Text" 15 "CodeLister$Text" "count" "I" ∈ lw_g := lg_i (i := 91) (by decide +kernel) rfl
theorem k_64 : Cond.fieldLink "CodeLister$Text" 69 "CodeLister$Text" "place" "I" ∈ lw_g := lg_i (i := 92) (by decide +kernel) rfl
theorem k_65 : Cond.fieldLink "CodeLister$Text" 72 "CodeLister$Text" "right" "Z" ∈ lw_g := lg_i (i := 93) (by decide +kernel) rfl
theorem k_66 : Cond.laysFinal "CodeLister$Text" "CodeLister$Text" "characters" "[C" ∈ lw_g := lg_i (i := 94) (by decide +kernel) rfl
theorem k_67 : Cond.soleField "CodeLister$Text" "characters" ∈ lw_g := lg_i (i := 95) (by decide +kernel) rfl
theorem k_68 : Cond.lays "CodeLister$Text" "CodeLister$Text" "count" "I" ∈ lw_g := lg_i (i := 96) (by decide +kernel) rfl
theorem k_69 : Cond.soleField "CodeLister$Text" "count" ∈ lw_g := lg_i (i := 97) (by decide +kernel) rfl
theorem k_70 : Cond.lays "CodeLister$Text" "CodeLister$Text" "place" "I" ∈ lw_g := lg_i (i := 98) (by decide +kernel) rfl
theorem k_71 : Cond.soleField "CodeLister$Text" "place" ∈ lw_g := lg_i (i := 99) (by decide +kernel) rfl
theorem k_72 : Cond.lays "CodeLister$Text" "CodeLister$Text" "right" "Z" ∈ lw_g := lg_i (i := 100) (by decide +kernel) rfl
theorem k_73 : Cond.soleField "CodeLister$Text" "right" ∈ lw_g := lg_i (i := 101) (by decide +kernel) rfl
theorem k_74 : Cond.superclass "CodeLister$Text" "java/lang/Object" ∈ lw_g := lg_i (i := 102) (by decide +kernel) rfl
theorem k_75 : Cond.arrayClass .char ∈ lw_g := lg_i (i := 103) (by decide +kernel) rfl
theorem k_76 : Cond.classLink "CodeLister" 34 "CodeLister$Assembler" ∈ lw_g := lg_i (i := 104) (by decide +kernel) rfl
theorem k_77 : Cond.instantiable "CodeLister$Assembler" 2 ∈ lw_g := lg_i (i := 105) (by decide +kernel) rfl
theorem k_78 : Cond.methodLink "CodeLister" 36 ⟨"CodeLister$Assembler", "<init>", "()V"⟩ ∈ lw_g := lg_i (i := 106) (by decide +kernel) rfl
theorem k_79 : Cond.instanceMethod ⟨"CodeLister$Assembler", "<init>", "()V"⟩ ∈ lw_g := lg_i (i := 107) (by decide +kernel) rfl
theorem k_80 : Cond.code ⟨"CodeLister$Assembler", "<init>", "()V"⟩ prog_2_method_1_code 1 none ∈ lw_g := lg_i (i := 108) (by decide +kernel) rfl
theorem k_81 : Cond.methodLink "CodeLister$Assembler" 3 ⟨"java/lang/Object", "<init>", "()V"⟩ ∈ lw_g := lg_i (i := 109) (by decide +kernel) rfl
theorem k_82 : Cond.fieldLink "CodeLister$Assembler" 9 "CodeLister$Assembler" "bytes" "[I" ∈ lw_g := lg_i (i := 110) (by decide +kernel) rfl
theorem k_83 : Cond.fieldLink "CodeLister$Assembler" 15 "CodeLister$Assembler" "count" "I" ∈ lw_g := lg_i (i := 111) (by decide +kernel) rfl
theorem k_84 : Cond.laysFinal "CodeLister$Assembler" "CodeLister$Assembler" "bytes" "[I" ∈ lw_g := lg_i (i := 112) (by decide +kernel) rfl
theorem k_85 : Cond.soleField "CodeLister$Assembler" "bytes" ∈ lw_g := lg_i (i := 113) (by decide +kernel) rfl
theorem k_86 : Cond.lays "CodeLister$Assembler" "CodeLister$Assembler" "count" "I" ∈ lw_g := lg_i (i := 114) (by decide +kernel) rfl
theorem k_87 : Cond.soleField "CodeLister$Assembler" "count" ∈ lw_g := lg_i (i := 115) (by decide +kernel) rfl
theorem k_88 : Cond.superclass "CodeLister$Assembler" "java/lang/Object" ∈ lw_g := lg_i (i := 116) (by decide +kernel) rfl
theorem k_89 : Cond.fieldLink "CodeLister" 10 "CodeLister" "image" "LCodeLister$Image;" ∈ lw_g := lg_i (i := 117) (by decide +kernel) rfl
theorem k_90 : Cond.fieldLink "CodeLister" 16 "CodeLister" "entries" "[I" ∈ lw_g := lg_i (i := 118) (by decide +kernel) rfl
theorem k_91 : Cond.fieldLink "CodeLister" 59 "CodeLister" "entryCount" "I" ∈ lw_g := lg_i (i := 119) (by decide +kernel) rfl
theorem k_92 : Cond.fieldLink "CodeLister" 23 "CodeLister" "walk" "LCodeLister$Walk;" ∈ lw_g := lg_i (i := 120) (by decide +kernel) rfl
theorem k_93 : Cond.fieldLink "CodeLister" 30 "CodeLister" "text" "LCodeLister$Text;" ∈ lw_g := lg_i (i := 121) (by decide +kernel) rfl
theorem k_94 : Cond.fieldLink "CodeLister" 37 "CodeLister" "assembler" "LCodeLister$Assembler;" ∈ lw_g := lg_i (i := 122) (by decide +kernel) rfl
theorem k_95 : Cond.fieldLink "CodeLister" 41 "CodeLister" "madeBytes" "[I" ∈ lw_g := lg_i (i := 123) (by decide +kernel) rfl
theorem k_96 : Cond.fieldLink "CodeLister" 67 "CodeLister" "madeCount" "I" ∈ lw_g := lg_i (i := 124) (by decide +kernel) rfl
theorem k_97 : Cond.laysFinal "CodeLister" "CodeLister" "image" "LCodeLister$Image;" ∈ lw_g := lg_i (i := 125) (by decide +kernel) rfl
theorem k_98 : Cond.soleField "CodeLister" "image" ∈ lw_g := lg_i (i := 126) (by decide +kernel) rfl
theorem k_99 : Cond.laysFinal "CodeLister" "CodeLister" "entries" "[I" ∈ lw_g := lg_i (i := 127) (by decide +kernel) rfl
theorem k_100 : Cond.soleField "CodeLister" "entries" ∈ lw_g := lg_i (i := 128) (by decide +kernel) rfl
theorem k_101 : Cond.lays "CodeLister" "CodeLister" "entryCount" "I" ∈ lw_g := lg_i (i := 129) (by decide +kernel) rfl
theorem k_102 : Cond.soleField "CodeLister" "entryCount" ∈ lw_g := lg_i (i := 130) (by decide +kernel) rfl
theorem k_103 : Cond.laysFinal "CodeLister" "CodeLister" "walk" "LCodeLister$Walk;" ∈ lw_g := lg_i (i := 131) (by decide +kernel) rfl
theorem k_104 : Cond.soleField "CodeLister" "walk" ∈ lw_g := lg_i (i := 132) (by decide +kernel) rfl
theorem k_105 : Cond.laysFinal "CodeLister" "CodeLister" "text" "LCodeLister$Text;" ∈ lw_g := lg_i (i := 133) (by decide +kernel) rfl
theorem k_106 : Cond.soleField "CodeLister" "text" ∈ lw_g := lg_i (i := 134) (by decide +kernel) rfl
theorem k_107 : Cond.laysFinal "CodeLister" "CodeLister" "assembler" "LCodeLister$Assembler;" ∈ lw_g := lg_i (i := 135) (by decide +kernel) rfl
theorem k_108 : Cond.soleField "CodeLister" "assembler" ∈ lw_g := lg_i (i := 136) (by decide +kernel) rfl
theorem k_109 : Cond.laysFinal "CodeLister" "CodeLister" "madeBytes" "[I" ∈ lw_g := lg_i (i := 137) (by decide +kernel) rfl
theorem k_110 : Cond.soleField "CodeLister" "madeBytes" ∈ lw_g := lg_i (i := 138) (by decide +kernel) rfl
theorem k_111 : Cond.lays "CodeLister" "CodeLister" "madeCount" "I" ∈ lw_g := lg_i (i := 139) (by decide +kernel) rfl
theorem k_112 : Cond.soleField "CodeLister" "madeCount" ∈ lw_g := lg_i (i := 140) (by decide +kernel) rfl
theorem k_113 : Cond.superclass "CodeLister" "java/lang/Object" ∈ lw_g := lg_i (i := 141) (by decide +kernel) rfl
theorem k_114 : Cond.methodLink "CodeListerLaw" 13 ⟨"CodeLister", "append", "(II)I"⟩ ∈ lw_g := lg_i (i := 142) (by decide +kernel) rfl
theorem k_115 : Cond.instanceMethod ⟨"CodeLister", "append", "(II)I"⟩ ∈ lw_g := lg_i (i := 143) (by decide +kernel) rfl
theorem k_116 : Cond.selects "CodeLister" ⟨"CodeLister", "append", "(II)I"⟩ ⟨"CodeLister", "append", "(II)I"⟩ ∈ lw_g := lg_i (i := 144) (by decide +kernel) rfl
theorem k_117 : Cond.code ⟨"CodeLister", "append", "(II)I"⟩ prog_1_method_2_code 4 (some .int) ∈ lw_g := lg_i (i := 145) (by decide +kernel) rfl
theorem k_118 : Cond.methodLink "CodeLister" 44 ⟨"CodeLister$Image", "count", "()I"⟩ ∈ lw_g := lg_i (i := 146) (by decide +kernel) rfl
theorem k_119 : Cond.instanceMethod ⟨"CodeLister$Image", "count", "()I"⟩ ∈ lw_g := lg_i (i := 147) (by decide +kernel) rfl
theorem k_120 : Cond.selects "CodeLister$Image" ⟨"CodeLister$Image", "count", "()I"⟩ ⟨"CodeLister$Image", "count", "()I"⟩ ∈ lw_g := lg_i (i := 148) (by decide +kernel) rfl
theorem k_121 : Cond.code ⟨"CodeLister$Image", "count", "()I"⟩ prog_3_method_2_code 1 (some .int) ∈ lw_g := lg_i (i := 149) (by decide +kernel) rfl
theorem k_122 : Cond.methodLink "CodeLister" 48 ⟨"CodeLister$Image", "add", "(I)V"⟩ ∈ lw_g := lg_i (i := 150) (by decide +kernel) rfl
theorem k_123 : Cond.instanceMethod ⟨"CodeLister$Image", "add", "(I)V"⟩ ∈ lw_g := lg_i (i := 151) (by decide +kernel) rfl
theorem k_124 : Cond.selects "CodeLister$Image" ⟨"CodeLister$Image", "add", "(I)V"⟩ ⟨"CodeLister$Image", "add", "(I)V"⟩ ∈ lw_g := lg_i (i := 152) (by decide +kernel) rfl
theorem k_125 : Cond.code ⟨"CodeLister$Image", "add", "(I)V"⟩ prog_3_method_5_code 2 none ∈ lw_g := lg_i (i := 153) (by decide +kernel) rfl
theorem k_126 : Cond.methodLink "CodeListerLaw" 18 ⟨"CodeLister", "enter", "(I)Z"⟩ ∈ lw_g := lg_i (i := 154) (by decide +kernel) rfl
theorem k_127 : Cond.instanceMethod ⟨"CodeLister", "enter", "(I)Z"⟩ ∈ lw_g := lg_i (i := 155) (by decide +kernel) rfl
theorem k_128 : Cond.selects "CodeLister" ⟨"CodeLister", "enter", "(I)Z"⟩ ⟨"CodeLister", "enter", "(I)Z"⟩ ∈ lw_g := lg_i (i := 156) (by decide +kernel) rfl
theorem k_129 : Cond.code ⟨"CodeLister", "enter", "(I)Z"⟩ prog_1_method_3_code 2 (some .boolean) ∈ lw_g := lg_i (i := 157) (by decide +kernel) rfl
theorem k_130 : Cond.methodLink "CodeLister" 52 ⟨"CodeLister$Image", "holds", "(I)Z"⟩ ∈ lw_g := lg_i (i := 158) (by decide +kernel) rfl
theorem k_131 : Cond.instanceMethod ⟨"CodeLister$Image", "holds", "(I)Z"⟩ ∈ lw_g := lg_i (i := 159) (by decide +kernel) rfl
theorem k_132 : Cond.selects "CodeLister$Image" ⟨"CodeLister$Image", "holds", "(I)Z"⟩ ⟨"CodeLister$Image", "holds", "(I)Z"⟩ ∈ lw_g := lg_i (i := 160) (by decide +kernel) rfl
theorem k_133 : Cond.code ⟨"CodeLister$Image", "holds", "(I)Z"⟩ prog_3_method_3_code 2 (some .boolean) ∈ lw_g := lg_i (i := 161) (by decide +kernel) rfl
theorem k_134 : Cond.methodLink "CodeLister" 56 ⟨"CodeLister", "isEntry", "(I)Z"⟩ ∈ lw_g := lg_i (i := 162) (by decide +kernel) rfl
theorem k_135 : Cond.privateMethod ⟨"CodeLister", "isEntry", "(I)Z"⟩ ∈ lw_tbl := List.mem_of_getElem? (i := 163) (by decide +kernel)
theorem k_136 : Cond.instanceMethod ⟨"CodeLister", "isEntry", "(I)Z"⟩ ∈ lw_g := lg_i (i := 164) (by decide +kernel) rfl
theorem k_137 : Cond.code ⟨"CodeLister", "isEntry", "(I)Z"⟩ prog_1_method_19_code 3 (some .boolean) ∈ lw_g := lg_i (i := 165) (by decide +kernel) rfl
theorem k_138 : Cond.methodLink "CodeListerLaw" 23 ⟨"CodeLister", "clear", "()V"⟩ ∈ lw_g := lg_i (i := 166) (by decide +kernel) rfl
theorem k_139 : Cond.instanceMethod ⟨"CodeLister", "clear", "()V"⟩ ∈ lw_g := lg_i (i := 167) (by decide +kernel) rfl
theorem k_140 : Cond.selects "CodeLister" ⟨"CodeLister", "clear", "()V"⟩ ⟨"CodeLister", "clear", "()V"⟩ ∈ lw_g := lg_i (i := 168) (by decide +kernel) rfl
theorem k_141 : Cond.code ⟨"CodeLister", "clear", "()V"⟩ prog_1_method_4_code 1 none ∈ lw_g := lg_i (i := 169) (by decide +kernel) rfl
theorem k_142 : Cond.methodLink "CodeLister" 63 ⟨"CodeLister$Image", "drop", "()V"⟩ ∈ lw_g := lg_i (i := 170) (by decide +kernel) rfl
theorem k_143 : Cond.instanceMethod ⟨"CodeLister$Image", "drop", "()V"⟩ ∈ lw_g := lg_i (i := 171) (by decide +kernel) rfl
theorem k_144 : Cond.selects "CodeLister$Image" ⟨"CodeLister$Image", "drop", "()V"⟩ ⟨"CodeLister$Image", "drop", "()V"⟩ ∈ lw_g := lg_i (i := 172) (by decide +kernel) rfl
theorem k_145 : Cond.code ⟨"CodeLister$Image", "drop", "()V"⟩ prog_3_method_6_code 1 none ∈ lw_g := lg_i (i := 173) (by decide +kernel) rfl
theorem k_146 : Cond.methodLink "CodeLister" 66 ⟨"CodeLister$Text", "drop", "()V"⟩ ∈ lw_g := lg_i (i := 174) (by decide +kernel) rfl
theorem k_147 : Cond.instanceMethod ⟨"CodeLister$Text", "drop", "()V"⟩ ∈ lw_g := lg_i (i := 175) (by decide +kernel) rfl
theorem k_148 : Cond.selects "CodeLister$Text" ⟨"CodeLister$Text", "drop", "()V"⟩ ⟨"CodeLister$Text", "drop", "()V"⟩ ∈ lw_g := lg_i (i := 176) (by decide +kernel) rfl
theorem k_149 : Cond.code ⟨"CodeLister$Text", "drop", "()V"⟩ prog_5_method_4_code 1 none ∈ lw_g := lg_i (i := 177) (by decide +kernel) rfl
theorem k_150 : Cond.methodLink "CodeListerLaw" 27 ⟨"CodeLister", "size", "()I"⟩ ∈ lw_g := lg_i (i := 178) (by decide +kernel) rfl
theorem k_151 : Cond.instanceMethod ⟨"CodeLister", "size", "()I"⟩ ∈ lw_g := lg_i (i := 179) (by decide +kernel) rfl
theorem k_152 : Cond.selects "CodeLister" ⟨"CodeLister", "size", "()I"⟩ ⟨"CodeLister", "size", "()I"⟩ ∈ lw_g := lg_i (i := 180) (by decide +kernel) rfl
theorem k_153 : Cond.code ⟨"CodeLister", "size", "()I"⟩ prog_1_method_5_code 1 (some .int) ∈ lw_g := lg_i (i := 181) (by decide +kernel) rfl
theorem k_154 : Cond.methodLink "CodeListerLaw" 32 ⟨"CodeLister", "byteAt", "(I)I"⟩ ∈ lw_g := lg_i (i := 182) (by decide +kernel) rfl
theorem k_155 : Cond.instanceMethod ⟨"CodeLister", "byteAt", "(I)I"⟩ ∈ lw_g := lg_i (i := 183) (by decide +kernel) rfl
theorem k_156 : Cond.selects "CodeLister" ⟨"CodeLister", "byteAt", "(I)I"⟩ ⟨"CodeLister", "byteAt", "(I)I"⟩ ∈ lw_g := lg_i (i := 184) (by decide +kernel) rfl
theorem k_157 : Cond.code ⟨"CodeLister", "byteAt", "(I)I"⟩ prog_1_method_6_code 2 (some .int) ∈ lw_g := lg_i (i := 185) (by decide +kernel) rfl
theorem k_158 : Cond.methodLink "CodeLister" 70 ⟨"CodeLister$Image", "at", "(I)I"⟩ ∈ lw_g := lg_i (i := 186) (by decide +kernel) rfl
theorem k_159 : Cond.instanceMethod ⟨"CodeLister$Image", "at", "(I)I"⟩ ∈ lw_g := lg_i (i := 187) (by decide +kernel) rfl
theorem k_160 : Cond.selects "CodeLister$Image" ⟨"CodeLister$Image", "at", "(I)I"⟩ ⟨"CodeLister$Image", "at", "(I)I"⟩ ∈ lw_g := lg_i (i := 188) (by decide +kernel) rfl
theorem k_161 : Cond.code ⟨"CodeLister$Image", "at", "(I)I"⟩ prog_3_method_4_code 2 (some .int) ∈ lw_g := lg_i (i := 189) (by decide +kernel) rfl
theorem k_162 : Cond.methodLink "CodeLister$Image" 19 ⟨"CodeLister$Image", "holds", "(I)Z"⟩ ∈ lw_g := lg_i (i := 190) (by decide +kernel) rfl
theorem k_163 : Cond.methodLink "CodeListerLaw" 37 ⟨"CodeLister", "entry", "(I)I"⟩ ∈ lw_g := lg_i (i := 191) (by decide +kernel) rfl
theorem k_164 : Cond.instanceMethod ⟨"CodeLister", "entry", "(I)I"⟩ ∈ lw_g := lg_i (i := 192) (by decide +kernel) rfl
theorem k_165 : Cond.selects "CodeLister" ⟨"CodeLister", "entry", "(I)I"⟩ ⟨"CodeLister", "entry", "(I)I"⟩ ∈ lw_g := lg_i (i := 193) (by decide +kernel) rfl
theorem k_166 : Cond.code ⟨"CodeLister", "entry", "(I)I"⟩ prog_1_method_7_code 2 (some .int) ∈ lw_g := lg_i (i := 194) (by decide +kernel) rfl
theorem k_167 : Cond.methodLink "CodeListerLaw" 41 ⟨"CodeLister", "length", "(I)I"⟩ ∈ lw_g := lg_i (i := 195) (by decide +kernel) rfl
theorem k_168 : Cond.instanceMethod ⟨"CodeLister", "length", "(I)I"⟩ ∈ lw_g := lg_i (i := 196) (by decide +kernel) rfl
theorem k_169 : Cond.selects "CodeLister" ⟨"CodeLister", "length", "(I)I"⟩ ⟨"CodeLister", "length", "(I)I"⟩ ∈ lw_g := lg_i (i := 197) (by decide +kernel) rfl
theorem k_170 : Cond.code ⟨"CodeLister", "length", "(I)I"⟩ prog_1_method_8_code 2 (some .int) ∈ lw_g := lg_i (i := 198) (by decide +kernel) rfl
theorem k_171 : Cond.methodLink "CodeLister" 74 ⟨"CodeLister$Image", "codeLength", "(I)I"⟩ ∈ lw_g := lg_i (i := 199) (by decide +kernel) rfl
theorem k_172 : Cond.instanceMethod ⟨"CodeLister$Image", "codeLength", "(I)I"⟩ ∈ lw_g := lg_i (i := 200) (by decide +kernel) rfl
theorem k_173 : Cond.selects "CodeLister$Image" ⟨"CodeLister$Image", "codeLength", "(I)I"⟩ ⟨"CodeLister$Image", "codeLength", "(I)I"⟩ ∈ lw_g := lg_i (i := 201) (by decide +kernel) rfl
theorem k_174 : Cond.code ⟨"CodeLister$Image", "codeLength", "(I)I"⟩ prog_3_method_8_code 3 (some .int) ∈ lw_g := lg_i (i := 202) (by decide +kernel) rfl
theorem k_175 : Cond.methodLink "CodeLister$Image" 34 ⟨"CodeLister$Image", "codeKind", "(I)I"⟩ ∈ lw_g := lg_i (i := 203) (by decide +kernel) rfl
theorem k_176 : Cond.instanceMethod ⟨"CodeLister$Image", "codeKind", "(I)I"⟩ ∈ lw_g := lg_i (i := 204) (by decide +kernel) rfl
theorem k_177 : Cond.selects "CodeLister$Image" ⟨"CodeLister$Image", "codeKind", "(I)I"⟩ ⟨"CodeLister$Image", "codeKind", "(I)I"⟩ ∈ lw_g := lg_i (i := 205) (by decide +kernel) rfl
theorem k_178 : Cond.code ⟨"CodeLister$Image", "codeKind", "(I)I"⟩ prog_3_method_7_code 3 (some .int) ∈ lw_g := lg_i (i := 206) (by decide +kernel) rfl
theorem k_179 : Cond.methodLink "CodeLister$Image" 23 ⟨"CodeLister$Image", "at", "(I)I"⟩ ∈ lw_g := lg_i (i := 207) (by decide +kernel) rfl
theorem k_180 : Cond.methodLink "CodeLister$Image" 27 ⟨"CodeLister$Kinds", "ofFirst", "(I)I"⟩ ∈ lw_g := lg_i (i := 208) (by decide +kernel) rfl
theorem k_181 : Cond.static ⟨"CodeLister$Kinds", "ofFirst", "(I)I"⟩ ∈ lw_g := lg_i (i := 209) (by decide +kernel) rfl
theorem k_182 : Cond.code ⟨"CodeLister$Kinds", "ofFirst", "(I)I"⟩ prog_4_method_2_code 3 (some .int) ∈ lw_g := lg_i (i := 210) (by decide +kernel) rfl
theorem k_183 : Cond.fieldLink "CodeLister$Kinds" 11 "CodeLister$Kinds" "REGISTERS" "[I" ∈ lw_g := lg_i (i := 211) (by decide +kernel) rfl
theorem k_184 : Cond.laysStatic "CodeLister$Kinds" "REGISTERS" "[I" ∈ lw_tbl := List.mem_of_getElem? (i := 212) (by decide +kernel)
theorem k_185 : Cond.fieldLink "CodeLister$Kinds" 15 "CodeLister$Kinds" "FIRST" "[I" ∈ lw_g := lg_i (i := 213) (by decide +kernel) rfl
theorem k_186 : Cond.laysStatic "CodeLister$Kinds" "FIRST" "[I" ∈ lw_tbl := List.mem_of_getElem? (i := 214) (by decide +kernel)
theorem k_187 : Cond.methodLink "CodeLister$Image" 32 ⟨"CodeLister$Kinds", "bytes", "(I)I"⟩ ∈ lw_g := lg_i (i := 215) (by decide +kernel) rfl
theorem k_188 : Cond.static ⟨"CodeLister$Kinds", "bytes", "(I)I"⟩ ∈ lw_g := lg_i (i := 216) (by decide +kernel) rfl
theorem k_189 : Cond.code ⟨"CodeLister$Kinds", "bytes", "(I)I"⟩ prog_4_method_6_code 1 (some .int) ∈ lw_g := lg_i (i := 217) (by decide +kernel) rfl
theorem k_190 : Cond.fieldLink "CodeLister$Kinds" 18 "CodeLister$Kinds" "NUMBER" "[I" ∈ lw_g := lg_i (i := 218) (by decide +kernel) rfl
theorem k_191 : Cond.laysStatic "CodeLister$Kinds" "NUMBER" "[I" ∈ lw_tbl := List.mem_of_getElem? (i := 219) (by decide +kernel)
theorem k_192 : Cond.methodLink "CodeListerLaw" 45 ⟨"CodeLister", "reach", "()I"⟩ ∈ lw_g := lg_i (i := 220) (by decide +kernel) rfl
theorem k_193 : Cond.instanceMethod ⟨"CodeLister", "reach", "()I"⟩ ∈ lw_g := lg_i (i := 221) (by decide +kernel) rfl
theorem k_194 : Cond.selects "CodeLister" ⟨"CodeLister", "reach", "()I"⟩ ⟨"CodeLister", "reach", "()I"⟩ ∈ lw_g := lg_i (i := 222) (by decide +kernel) rfl
theorem k_195 : Cond.code ⟨"CodeLister", "reach", "()I"⟩ prog_1_method_9_code 1 (some .int) ∈ lw_g := lg_i (i := 223) (by decide +kernel) rfl
theorem k_196 : Cond.methodLink "CodeLister" 77 ⟨"CodeLister", "walkFromEntries", "()V"⟩ ∈ lw_g := lg_i (i := 224) (by decide +kernel) rfl
theorem k_197 : Cond.privateMethod ⟨"CodeLister", "walkFromEntries", "()V"⟩ ∈ lw_tbl := List.mem_of_getElem? (i := 225) (by decide +kernel)
theorem k_198 : Cond.instanceMethod ⟨"CodeLister", "walkFromEntries", "()V"⟩ ∈ lw_g := lg_i (i := 226) (by decide +kernel) rfl
theorem k_199 : Cond.code ⟨"CodeLister", "walkFromEntries", "()V"⟩ prog_1_method_20_code 2 none ∈ lw_g := lg_i (i := 227) (by decide +kernel) rfl
theorem k_200 : Cond.methodLink "CodeLister" 84 ⟨"CodeLister$Walk", "start", "(I)V"⟩ ∈ lw_g := lg_i (i := 228) (by decide +kernel) rfl
theorem k_201 : Cond.instanceMethod ⟨"CodeLister$Walk", "start", "(I)V"⟩ ∈ lw_g := lg_i (i := 229) (by decide +kernel) rfl
theorem k_202 : Cond.selects "CodeLister$Walk" ⟨"CodeLister$Walk", "start", "(I)V"⟩ ⟨"CodeLister$Walk", "start", "(I)V"⟩ ∈ lw_g := lg_i (i := 230) (by decide +kernel) rfl
theorem k_203 : Cond.code ⟨"CodeLister$Walk", "start", "(I)V"⟩ prog_6_method_3_code 3 none ∈ lw_g := lg_i (i := 231) (by decide +kernel) rfl
theorem k_204 : Cond.methodLink "CodeLister$Walk" 23 ⟨"java/lang/Math", "min", "(II)I"⟩ ∈ lw_g := lg_i (i := 232) (by decide +kernel) rfl
theorem k_205 : Cond.static ⟨"java/lang/Math", "min", "(II)I"⟩ ∈ lw_g := lg_i (i := 233) (by decide +kernel) rfl
theorem k_206 : Cond.code ⟨"java/lang/Math", "min", "(II)I"⟩ prog_9_method_69_code 2 (some .int) ∈ lw_g := lg_i (i := 234) (by decide +kernel) rfl
theorem k_207 : Cond.methodLink "CodeLister" 87 ⟨"CodeLister$Walk", "comeTo", "(I)V"⟩ ∈ lw_g := lg_i (i := 235) (by decide +kernel) rfl
theorem k_208 : Cond.instanceMethod ⟨"CodeLister$Walk", "comeTo", "(I)V"⟩ ∈ lw_g := lg_i (i := 236) (by decide +kernel) rfl
theorem k_209 : Cond.selects "CodeLister$Walk" ⟨"CodeLister$Walk", "comeTo", "(I)V"⟩ ⟨"CodeLister$Walk", "comeTo", "(I)V"⟩ ∈ lw_g := lg_i (i := 237) (by decide +kernel) rfl
theorem k_210 : Cond.code ⟨"CodeLister$Walk", "comeTo", "(I)V"⟩ prog_6_method_5_code 2 none ∈ lw_g := lg_i (i := 238) (by decide +kernel) rfl
theorem k_211 : Cond.methodLink "CodeLister" 90 ⟨"CodeLister$Walk", "follow", "(LCodeLister$Image;Z)V"⟩ ∈ lw_g := lg_i (i := 239) (by decide +kernel) rfl
theorem k_212 : Cond.instanceMethod ⟨"CodeLister$Walk", "follow", "(LCodeLister$Image;Z)V"⟩ ∈ lw_g := lg_i (i := 240) (by decide +kernel) rfl
theorem k_213 : Cond.selects "CodeLister$Walk" ⟨"CodeLister$Walk", "follow", "(LCodeLister$Image;Z)V"⟩ ⟨"CodeLister$Walk", "follow", "(LCodeLister$Image;Z)V"⟩ ∈ lw_g := lg_i (i := 241) (by decide +kernel) rfl
theorem k_214 : Cond.code ⟨"CodeLister$Walk", "follow", "(LCodeLister$Image;Z)V"⟩ prog_6_method_6_code 4 none ∈ lw_g := lg_i (i := 242) (by decide +kernel) rfl
theorem k_215 : Cond.methodLink "CodeLister$Walk" 32 ⟨"CodeLister$Walk", "comeToSuccessors", "(LCodeLister$Image;IZ)V"⟩ ∈ lw_g := lg_i (i := 243) (by decide +kernel) rfl
theorem k_216 : Cond.privateMethod ⟨"CodeLister$Walk", "comeToSuccessors", "(LCodeLister$Image;IZ)V"⟩ ∈ lw_tbl := List.mem_of_getElem? (i := 244) (by decide +kernel)
theorem k_217 : Cond.instanceMethod ⟨"CodeLister$Walk", "comeToSuccessors", "(LCodeLister$Image;IZ)V"⟩ ∈ lw_g := lg_i (i := 245) (by decide +kernel) rfl
theorem k_218 : Cond.code ⟨"CodeLister$Walk", "comeToSuccessors", "(LCodeLister$Image;IZ)V"⟩ prog_6_method_7_code 6 none ∈ lw_g := lg_i (i := 246) (by decide +kernel) rfl
theorem k_219 : Cond.methodLink "CodeLister$Walk" 36 ⟨"CodeLister$Image", "codeKind", "(I)I"⟩ ∈ lw_g := lg_i (i := 247) (by decide +kernel) rfl
theorem k_220 : Cond.methodLink "CodeLister$Walk" 42 ⟨"CodeLister$Kinds", "bytes", "(I)I"⟩ ∈ lw_g := lg_i (i := 248) (by decide +kernel) rfl
theorem k_221 : Cond.methodLink "CodeLister$Walk" 47 ⟨"CodeLister$Kinds", "fallsThrough", "(I)Z"⟩ ∈ lw_g := lg_i (i := 249) (by decide +kernel) rfl
theorem k_222 : Cond.static ⟨"CodeLister$Kinds", "fallsThrough", "(I)Z"⟩ ∈ lw_g := lg_i (i := 250) (by decide +kernel) rfl
theorem k_223 : Cond.code ⟨"CodeLister$Kinds", "fallsThrough", "(I)Z"⟩ prog_4_method_9_code 1 (some .boolean) ∈ lw_g := lg_i (i := 251) (by decide +kernel) rfl
theorem k_224 : Cond.methodLink "CodeLister$Walk" 51 ⟨"CodeLister$Walk", "comeTo", "(I)V"⟩ ∈ lw_g := lg_i (i := 252) (by decide +kernel) rfl
theorem k_225 : Cond.methodLink "CodeLister$Walk" 55 ⟨"CodeLister$Image", "number", "(II)I"⟩ ∈ lw_g := lg_i (i := 253) (by decide +kernel) rfl
theorem k_226 : Cond.instanceMethod ⟨"CodeLister$Image", "number", "(II)I"⟩ ∈ lw_g := lg_i (i := 254) (by decide +kernel) rfl
theorem k_227 : Cond.selects "CodeLister$Image" ⟨"CodeLister$Image", "number", "(II)I"⟩ ⟨"CodeLister$Image", "number", "(II)I"⟩ ∈ lw_g := lg_i (i := 255) (by decide +kernel) rfl
theorem k_228 : Cond.code ⟨"CodeLister$Image", "number", "(II)I"⟩ prog_3_method_9_code 3 (some .int) ∈ lw_g := lg_i (i := 256) (by decide +kernel) rfl
theorem k_229 : Cond.methodLink "CodeLister$Image" 37 ⟨"CodeLister$Kinds", "number", "(I)I"⟩ ∈ lw_g := lg_i (i := 257) (by decide +kernel) rfl
theorem k_230 : Cond.static ⟨"CodeLister$Kinds", "number", "(I)I"⟩ ∈ lw_g := lg_i (i := 258) (by decide +kernel) rfl
theorem k_231 : Cond.code ⟨"CodeLister$Kinds", "number", "(I)I"⟩ prog_4_method_5_code 1 (some .int) ∈ lw_g := lg_i (i := 259) (by decide +kernel) rfl
theorem k_232 : Cond.methodLink "CodeLister" 80 ⟨"CodeLister$Walk", "count", "()I"⟩ ∈ lw_g := lg_i (i := 260) (by decide +kernel) rfl
theorem k_233 : Cond.instanceMethod ⟨"CodeLister$Walk", "count", "()I"⟩ ∈ lw_g := lg_i (i := 261) (by decide +kernel) rfl
theorem k_234 : Cond.selects "CodeLister$Walk" ⟨"CodeLister$Walk", "count", "()I"⟩ ⟨"CodeLister$Walk", "count", "()I"⟩ ∈ lw_g := lg_i (i := 262) (by decide +kernel) rfl
theorem k_235 : Cond.code ⟨"CodeLister$Walk", "count", "()I"⟩ prog_6_method_2_code 1 (some .int) ∈ lw_g := lg_i (i := 263) (by decide +kernel) rfl
theorem k_236 : Cond.methodLink "CodeListerLaw" 49 ⟨"CodeLister", "reached", "(I)Z"⟩ ∈ lw_g := lg_i (i := 264) (by decide +kernel) rfl
theorem k_237 : Cond.instanceMethod ⟨"CodeLister", "reached", "(I)Z"⟩ ∈ lw_g := lg_i (i := 265) (by decide +kernel) rfl
theorem k_238 : Cond.selects "CodeLister" ⟨"CodeLister", "reached", "(I)Z"⟩ ⟨"CodeLister", "reached", "(I)Z"⟩ ∈ lw_g := lg_i (i := 266) (by decide +kernel) rfl
theorem k_239 : Cond.code ⟨"CodeLister", "reached", "(I)Z"⟩ prog_1_method_10_code 2 (some .boolean) ∈ lw_g := lg_i (i := 267) (by decide +kernel) rfl
theorem k_240 : Cond.methodLink "CodeLister" 81 ⟨"CodeLister$Walk", "cameTo", "(I)Z"⟩ ∈ lw_g := lg_i (i := 268) (by decide +kernel) rfl
theorem k_241 : Cond.instanceMethod ⟨"CodeLister$Walk", "cameTo", "(I)Z"⟩ ∈ lw_g := lg_i (i := 269) (by decide +kernel) rfl
theorem k_242 : Cond.selects "CodeLister$Walk" ⟨"CodeLister$Walk", "cameTo", "(I)Z"⟩ ⟨"CodeLister$Walk", "cameTo", "(I)Z"⟩ ∈ lw_g := lg_i (i := 270) (by decide +kernel) rfl
theorem k_243 : Cond.code ⟨"CodeLister$Walk", "cameTo", "(I)Z"⟩ prog_6_method_4_code 2 (some .boolean) ∈ lw_g := lg_i (i := 271) (by decide +kernel) rfl
theorem k_244 : Cond.methodLink "CodeListerLaw" 53 ⟨"CodeLister", "body", "(I)I"⟩ ∈ lw_g := lg_i (i := 272) (by decide +kernel) rfl
theorem k_245 : Cond.instanceMethod ⟨"CodeLister", "body", "(I)I"⟩ ∈ lw_g := lg_i (i := 273) (by decide +kernel) rfl
theorem k_246 : Cond.selects "CodeLister" ⟨"CodeLister", "body", "(I)I"⟩ ⟨"CodeLister", "body", "(I)I"⟩ ∈ lw_g := lg_i (i := 274) (by decide +kernel) rfl
theorem k_247 : Cond.code ⟨"CodeLister", "body", "(I)I"⟩ prog_1_method_11_code 2 (some .int) ∈ lw_g := lg_i (i := 275) (by decide +kernel) rfl
theorem k_248 : Cond.methodLink "CodeListerLaw" 57 ⟨"CodeLister", "sweep", "()I"⟩ ∈ lw_g := lg_i (i := 276) (by decide +kernel) rfl
theorem k_249 : Cond.instanceMethod ⟨"CodeLister", "sweep", "()I"⟩ ∈ lw_g := lg_i (i := 277) (by decide +kernel) rfl
theorem k_250 : Cond.selects "CodeLister" ⟨"CodeLister", "sweep", "()I"⟩ ⟨"CodeLister", "sweep", "()I"⟩ ∈ lw_g := lg_i (i := 278) (by decide +kernel) rfl
theorem k_251 : Cond.code ⟨"CodeLister", "sweep", "()I"⟩ prog_1_method_12_code 4 (some .int) ∈ lw_g := lg_i (i := 279) (by decide +kernel) rfl
theorem k_252 : Cond.methodLink "CodeLister" 94 ⟨"java/lang/Math", "max", "(II)I"⟩ ∈ lw_g := lg_i (i := 280) (by decide +kernel) rfl
theorem k_253 : Cond.static ⟨"java/lang/Math", "max", "(II)I"⟩ ∈ lw_g := lg_i (i := 281) (by decide +kernel) rfl
theorem k_254 : Cond.code ⟨"java/lang/Math", "max", "(II)I"⟩ prog_9_method_65_code 2 (some .int) ∈ lw_g := lg_i (i := 282) (by decide +kernel) rfl
theorem k_255 : Cond.methodLink "CodeListerLaw" 61 ⟨"CodeLister", "list", "()I"⟩ ∈ lw_g := lg_i (i := 283) (by decide +kernel) rfl
theorem k_256 : Cond.instanceMethod ⟨"CodeLister", "list", "()I"⟩ ∈ lw_g := lg_i (i := 284) (by decide +kernel) rfl
theorem k_257 : Cond.selects "CodeLister" ⟨"CodeLister", "list", "()I"⟩ ⟨"CodeLister", "list", "()I"⟩ ∈ lw_g := lg_i (i := 285) (by decide +kernel) rfl
theorem k_258 : Cond.code ⟨"CodeLister", "list", "()I"⟩ prog_1_method_13_code 2 (some .int) ∈ lw_g := lg_i (i := 286) (by decide +kernel) rfl
theorem k_259 : Cond.methodLink "CodeLister" 100 ⟨"CodeLister", "listLine", "(I)I"⟩ ∈ lw_g := lg_i (i := 287) (by decide +kernel) rfl
theorem k_260 : Cond.privateMethod ⟨"CodeLister", "listLine", "(I)I"⟩ ∈ lw_tbl := List.mem_of_getElem? (i := 288) (by decide +kernel)
theorem k_261 : Cond.instanceMethod ⟨"CodeLister", "listLine", "(I)I"⟩ ∈ lw_g := lg_i (i := 289) (by decide +kernel) rfl
theorem k_262 : Cond.code ⟨"CodeLister", "listLine", "(I)I"⟩ prog_1_method_21_code 3 (some .int) ∈ lw_g := lg_i (i := 290) (by decide +kernel) rfl
theorem k_263 : Cond.methodLink "CodeLister" 118 ⟨"CodeLister$Image", "codeKind", "(I)I"⟩ ∈ lw_g := lg_i (i := 291) (by decide +kernel) rfl
theorem k_264 : Cond.methodLink "CodeLister" 123 ⟨"CodeLister$Text", "addLine", "(III)V"⟩ ∈ lw_g := lg_i (i := 292) (by decide +kernel) rfl
theorem k_265 : Cond.instanceMethod ⟨"CodeLister$Text", "addLine", "(III)V"⟩ ∈ lw_g := lg_i (i := 293) (by decide +kernel) rfl
theorem k_266 : Cond.selects "CodeLister$Text" ⟨"CodeLister$Text", "addLine", "(III)V"⟩ ⟨"CodeLister$Text", "addLine", "(III)V"⟩ ∈ lw_g := lg_i (i := 294) (by decide +kernel) rfl
theorem k_267 : Cond.code ⟨"CodeLister$Text", "addLine", "(III)V"⟩ prog_5_method_6_code 7 none ∈ lw_g := lg_i (i := 295) (by decide +kernel) rfl
theorem k_268 : Cond.methodLink "CodeLister$Text" 25 ⟨"CodeLister$Kinds", "opening", "(I)Ljava/lang/String;"⟩ ∈ lw_g := lg_i (i := 296) (by decide +kernel) rfl
theorem k_269 : Cond.static ⟨"CodeLister$Kinds", "opening", "(I)Ljava/lang/String;"⟩ ∈ lw_g := lg_i (i := 297) (by decide +kernel) rfl
theorem k_270 : Cond.code ⟨"CodeLister$Kinds", "opening", "(I)Ljava/lang/String;"⟩ prog_4_method_10_code 1 (some (.object "java/lang/String")) ∈ lw_g := lg_i (i := 298) (by decide +kernel) rfl
theorem k_271 : Cond.stringRef "CodeLister$Kinds" 22 "NOP" ∈ lw_tbl := List.mem_of_getElem? (i := 299) (by decide +kernel)
theorem k_272 : Cond.stringRef "CodeLister$Kinds" 24 "HALT" ∈ lw_tbl := List.mem_of_getElem? (i := 300) (by decide +kernel)
theorem k_273 : Cond.stringRef "CodeLister$Kinds" 26 "RET" ∈ lw_tbl := List.mem_of_getElem? (i := 301) (by decide +kernel)
theorem k_274 : Cond.stringRef "CodeLister$Kinds" 28 "INC " ∈ lw_tbl := List.mem_of_getElem? (i := 302) (by decide +kernel)
theorem k_275 : Cond.stringRef "CodeLister$Kinds" 30 "LDI " ∈ lw_tbl := List.mem_of_getElem? (i := 303) (by decide +kernel)
theorem k_276 : Cond.stringRef "CodeLister$Kinds" 32 "MOV " ∈ lw_tbl := List.mem_of_getElem? (i := 304) (by decide +kernel)
theorem k_277 : Cond.stringRef "CodeLister$Kinds" 34 "ADD " ∈ lw_tbl := List.mem_of_getElem? (i := 305) (by decide +kernel)
theorem k_278 : Cond.stringRef "CodeLister$Kinds" 36 "JMP " ∈ lw_tbl := List.mem_of_getElem? (i := 306) (by decide +kernel)
theorem k_279 : Cond.stringRef "CodeLister$Kinds" 38 "CALL " ∈ lw_tbl := List.mem_of_getElem? (i := 307) (by decide +kernel)
theorem k_280 : Cond.stringRef "CodeLister$Kinds" 40 "JZ " ∈ lw_tbl := List.mem_of_getElem? (i := 308) (by decide +kernel)
theorem k_281 : Cond.stringRef "CodeLister$Kinds" 42 "BNZ " ∈ lw_tbl := List.mem_of_getElem? (i := 309) (by decide +kernel)
theorem k_282 : Cond.stringRef "CodeLister$Kinds" 44 "LD " ∈ lw_tbl := List.mem_of_getElem? (i := 310) (by decide +kernel)
theorem k_283 : Cond.stringRef "CodeLister$Kinds" 46 "ST " ∈ lw_tbl := List.mem_of_getElem? (i := 311) (by decide +kernel)
theorem k_284 : Cond.stringRef "CodeLister$Kinds" 48 ".byte " ∈ lw_tbl := List.mem_of_getElem? (i := 312) (by decide +kernel)
theorem k_285 : Cond.methodLink "CodeLister$Text" 31 ⟨"java/lang/String", "length", "()I"⟩ ∈ lw_g := lg_i (i := 313) (by decide +kernel) rfl
theorem k_286 : Cond.instanceMethod ⟨"java/lang/String", "length", "()I"⟩ ∈ lw_g := lg_i (i := 314) (by decide +kernel) rfl
theorem k_287 : Cond.selects "java/lang/String" ⟨"java/lang/String", "length", "()I"⟩ ⟨"java/lang/String", "length", "()I"⟩ ∈ lw_g := lg_i (i := 315) (by decide +kernel) rfl
theorem k_288 : Cond.code ⟨"java/lang/String", "length", "()I"⟩ prog_10_method_54_code 1 (some .int) ∈ lw_g := lg_i (i := 316) (by decide +kernel) rfl
theorem k_289 : Cond.methodLink "java/lang/String" 335 ⟨"java/lang/String", "coder", "()B"⟩ ∈ lw_g := lg_i (i := 317) (by decide +kernel) rfl
theorem k_290 : Cond.instanceMethod ⟨"java/lang/String", "coder", "()B"⟩ ∈ lw_g := lg_i (i := 318) (by decide +kernel) rfl
theorem k_291 : Cond.selects "java/lang/String" ⟨"java/lang/String", "coder", "()B"⟩ ⟨"java/lang/String", "coder", "()B"⟩ ∈ lw_g := lg_i (i := 319) (by decide +kernel) rfl
theorem k_292 : Cond.code ⟨"java/lang/String", "coder", "()B"⟩ prog_10_method_152_code 1 (some .byte) ∈ lw_g := lg_i (i := 320) (by decide +kernel) rfl
theorem k_293 : Cond.fieldLink "java/lang/String" 38 "java/lang/String" "COMPACT_STRINGS" "Z" ∈ lw_g := lg_i (i := 321) (by decide +kernel) rfl
theorem k_294 : Cond.laysStatic "java/lang/String" "COMPACT_STRINGS" "Z" ∈ lw_tbl := List.mem_of_getElem? (i := 322) (by decide +kernel)
theorem k_295 : Cond.methodLink "CodeLister$Text" 37 ⟨"java/lang/String", "charAt", "(I)C"⟩ ∈ lw_g := lg_i (i := 323) (by decide +kernel) rfl
theorem k_296 : Cond.instanceMethod ⟨"java/lang/String", "charAt", "(I)C"⟩ ∈ lw_g := lg_i (i := 324) (by decide +kernel) rfl
theorem k_297 : Cond.selects "java/lang/String" ⟨"java/lang/String", "charAt", "(I)C"⟩ ⟨"java/lang/String", "charAt", "(I)C"⟩ ∈ lw_g := lg_i (i := 325) (by decide +kernel) rfl
theorem k_298 : Cond.code ⟨"java/lang/String", "charAt", "(I)C"⟩ prog_10_method_56_code 2 (some .char) ∈ lw_g := lg_i (i := 326) (by decide +kernel) rfl
theorem k_299 : Cond.methodLink "java/lang/String" 492 ⟨"java/lang/String", "isLatin1", "()Z"⟩ ∈ lw_g := lg_i (i := 327) (by decide +kernel) rfl
theorem k_300 : Cond.instanceMethod ⟨"java/lang/String", "isLatin1", "()Z"⟩ ∈ lw_g := lg_i (i := 328) (by decide +kernel) rfl
theorem k_301 : Cond.selects "java/lang/String" ⟨"java/lang/String", "isLatin1", "()Z"⟩ ⟨"java/lang/String", "isLatin1", "()Z"⟩ ∈ lw_g := lg_i (i := 329) (by decide +kernel) rfl
theorem k_302 : Cond.code ⟨"java/lang/String", "isLatin1", "()Z"⟩ prog_10_method_154_code 1 (some .boolean) ∈ lw_g := lg_i (i := 330) (by decide +kernel) rfl
theorem k_303 : Cond.methodLink "java/lang/String" 495 ⟨"java/lang/StringLatin1", "charAt", "([BI)C"⟩ ∈ lw_g := lg_i (i := 331) (by decide +kernel) rfl
theorem k_304 : Cond.static ⟨"java/lang/StringLatin1", "charAt", "([BI)C"⟩ ∈ lw_g := lg_i (i := 332) (by decide +kernel) rfl
theorem k_305 : Cond.code ⟨"java/lang/StringLatin1", "charAt", "([BI)C"⟩ prog_11_method_2_code 2 (some .char) ∈ lw_g := lg_i (i := 333) (by decide +kernel) rfl
theorem k_306 : Cond.methodLink "java/lang/StringLatin1" 9 ⟨"java/lang/String", "checkIndex", "(II)V"⟩ ∈ lw_g := lg_i (i := 334) (by decide +kernel) rfl
theorem k_307 : Cond.static ⟨"java/lang/String", "checkIndex", "(II)V"⟩ ∈ lw_g := lg_i (i := 335) (by decide +kernel) rfl
theorem k_308 : Cond.code ⟨"java/lang/String", "checkIndex", "(II)V"⟩ prog_10_method_155_code 2 none ∈ lw_g := lg_i (i := 336) (by decide +kernel) rfl
theorem k_309 : Cond.fieldLink "java/lang/String" 1053 "jdk/internal/util/Preconditions" "SIOOBE_FORMATTER" "Ljava/util/function/BiFunction;" ∈ lw_g := lg_i (i := 337) (by decide +kernel) rfl
theorem k_310 : Cond.laysStatic "jdk/internal/util/Preconditions" "SIOOBE_FORMATTER" "Ljava/util/function/BiFunction;" ∈ lw_tbl := List.mem_of_getElem? (i := 338) (by decide +kernel)
theorem k_311 : Cond.methodLink "java/lang/String" 1059 ⟨"jdk/internal/util/Preconditions", "checkIndex", "(IILjava/util/function/BiFunction;)I"⟩ ∈ lw_g := lg_i (i := 339) (by decide +kernel) rfl
theorem k_312 : Cond.static ⟨"jdk/internal/util/Preconditions", "checkIndex", "(IILjava/util/function/BiFunction;)I"⟩ ∈ lw_g := lg_i (i := 340) (by decide +kernel) rfl
theorem k_313 : Cond.code ⟨"jdk/internal/util/Preconditions", "checkIndex", "(IILjava/util/function/BiFunction;)I"⟩ prog_14_method_11_code 3 (some .int) ∈ lw_g := lg_i (i := 341) (by decide +kernel) rfl
theorem k_314 : Cond.methodLink "java/lang/String" 498 ⟨"java/lang/StringUTF16", "charAt", "([BI)C"⟩ ∈ lw_g := lg_i (i := 342) (by decide +kernel) rfl
theorem k_315 : Cond.static ⟨"java/lang/StringUTF16", "charAt", "([BI)C"⟩ ∈ lw_g := lg_i (i := 343) (by decide +kernel) rfl
theorem k_316 : Cond.code ⟨"java/lang/StringUTF16", "charAt", "([BI)C"⟩ prog_12_method_83_code 2 (some .char) ∈ lw_g := lg_i (i := 344) (by decide +kernel) rfl
theorem k_317 : Cond.methodLink "java/lang/StringUTF16" 67 ⟨"java/lang/StringUTF16", "checkIndex", "(I[B)V"⟩ ∈ lw_g := lg_i (i := 345) (by decide +kernel) rfl
theorem k_318 : Cond.static ⟨"java/lang/StringUTF16", "checkIndex", "(I[B)V"⟩ ∈ lw_g := lg_i (i := 346) (by decide +kernel) rfl
theorem k_319 : Cond.code ⟨"java/lang/StringUTF16", "checkIndex", "(I[B)V"⟩ prog_12_method_91_code 2 none ∈ lw_g := lg_i (i := 347) (by decide +kernel) rfl
theorem k_320 : Cond.methodLink "java/lang/StringUTF16" 48 ⟨"java/lang/StringUTF16", "length", "([B)I"⟩ ∈ lw_g := lg_i (i := 348) (by decide +kernel) rfl
theorem k_321 : Cond.static ⟨"java/lang/StringUTF16", "length", "([B)I"⟩ ∈ lw_g := lg_i (i := 349) (by decide +kernel) rfl
theorem k_322 : Cond.code ⟨"java/lang/StringUTF16", "length", "([B)I"⟩ prog_12_method_6_code 1 (some .int) ∈ lw_g := lg_i (i := 350) (by decide +kernel) rfl
theorem k_323 : Cond.methodLink "java/lang/StringUTF16" 414 ⟨"java/lang/String", "checkIndex", "(II)V"⟩ ∈ lw_g := lg_i (i := 351) (by decide +kernel) rfl
theorem k_324 : Cond.methodLink "java/lang/StringUTF16" 71 ⟨"java/lang/StringUTF16", "getChar", "([BI)C"⟩ ∈ lw_g := lg_i (i := 352) (by decide +kernel) rfl
theorem k_325 : Cond.static ⟨"java/lang/StringUTF16", "getChar", "([BI)C"⟩ ∈ lw_g := lg_i (i := 353) (by decide +kernel) rfl
theorem k_326 : Cond.code ⟨"java/lang/StringUTF16", "getChar", "([BI)C"⟩ prog_12_method_5_code 2 (some .char) ∈ lw_g := lg_i (i := 354) (by decide +kernel) rfl
theorem k_327 : Cond.fieldLink "java/lang/StringUTF16" 44 "java/lang/StringUTF16" "$assertionsDisabled" "Z" ∈ lw_g := lg_i (i := 355) (by decide +kernel) rfl
theorem k_328 : Cond.laysStatic "java/lang/StringUTF16" "$assertionsDisabled" "Z" ∈ lw_tbl := List.mem_of_getElem? (i := 356) (by decide +kernel)
theorem k_329 : Cond.fieldLink "java/lang/StringUTF16" 59 "java/lang/StringUTF16" "HI_BYTE_SHIFT" "I" ∈ lw_g := lg_i (i := 357) (by decide +kernel) rfl
theorem k_330 : Cond.laysStatic "java/lang/StringUTF16" "HI_BYTE_SHIFT" "I" ∈ lw_tbl := List.mem_of_getElem? (i := 358) (by decide +kernel)
theorem k_331 : Cond.fieldLink "java/lang/StringUTF16" 63 "java/lang/StringUTF16" "LO_BYTE_SHIFT" "I" ∈ lw_g := lg_i (i := 359) (by decide +kernel) rfl
theorem k_332 : Cond.laysStatic "java/lang/StringUTF16" "LO_BYTE_SHIFT" "I" ∈ lw_tbl := List.mem_of_getElem? (i := 360) (by decide +kernel)
theorem k_333 : Cond.methodLink "CodeLister$Text" 41 ⟨"CodeLister$Text", "add", "(C)V"⟩ ∈ lw_g := lg_i (i := 361) (by decide +kernel) rfl
theorem k_334 : Cond.privateMethod ⟨"CodeLister$Text", "add", "(C)V"⟩ ∈ lw_tbl := List.mem_of_getElem? (i := 362) (by decide +kernel)
theorem k_335 : Cond.instanceMethod ⟨"CodeLister$Text", "add", "(C)V"⟩ ∈ lw_g := lg_i (i := 363) (by decide +kernel) rfl
theorem k_336 : Cond.code ⟨"CodeLister$Text", "add", "(C)V"⟩ prog_5_method_7_code 2 none ∈ lw_g := lg_i (i := 364) (by decide +kernel) rfl
theorem k_337 : Cond.methodLink "CodeLister$Text" 62 ⟨"CodeLister$Text", "put", "(IC)V"⟩ ∈ lw_g := lg_i (i := 365) (by decide +kernel) rfl
theorem k_338 : Cond.instanceMethod ⟨"CodeLister$Text", "put", "(IC)V"⟩ ∈ lw_g := lg_i (i := 366) (by decide +kernel) rfl
theorem k_339 : Cond.selects "CodeLister$Text" ⟨"CodeLister$Text", "put", "(IC)V"⟩ ⟨"CodeLister$Text", "put", "(IC)V"⟩ ∈ lw_g := lg_i (i := 367) (by decide +kernel) rfl
theorem k_340 : Cond.code ⟨"CodeLister$Text", "put", "(IC)V"⟩ prog_5_method_5_code 3 none ∈ lw_g := lg_i (i := 368) (by decide +kernel) rfl
theorem k_341 : Cond.methodLink "CodeLister$Text" 19 ⟨"java/lang/Math", "max", "(II)I"⟩ ∈ lw_g := lg_i (i := 369) (by decide +kernel) rfl
theorem k_342 : Cond.methodLink "CodeLister$Text" 45 ⟨"CodeLister$Kinds", "registers", "(I)I"⟩ ∈ lw_g := lg_i (i := 370) (by decide +kernel) rfl
theorem k_343 : Cond.static ⟨"CodeLister$Kinds", "registers", "(I)I"⟩ ∈ lw_g := lg_i (i := 371) (by decide +kernel) rfl
theorem k_344 : Cond.code ⟨"CodeLister$Kinds", "registers", "(I)I"⟩ prog_4_method_4_code 1 (some .int) ∈ lw_g := lg_i (i := 372) (by decide +kernel) rfl
theorem k_345 : Cond.methodLink "CodeLister$Text" 49 ⟨"CodeLister$Text", "addComma", "(I)V"⟩ ∈ lw_g := lg_i (i := 373) (by decide +kernel) rfl
theorem k_346 : Cond.privateMethod ⟨"CodeLister$Text", "addComma", "(I)V"⟩ ∈ lw_tbl := List.mem_of_getElem? (i := 374) (by decide +kernel)
theorem k_347 : Cond.instanceMethod ⟨"CodeLister$Text", "addComma", "(I)V"⟩ ∈ lw_g := lg_i (i := 375) (by decide +kernel) rfl
theorem k_348 : Cond.code ⟨"CodeLister$Text", "addComma", "(I)V"⟩ prog_5_method_8_code 2 none ∈ lw_g := lg_i (i := 376) (by decide +kernel) rfl
theorem k_349 : Cond.methodLink "CodeLister$Text" 53 ⟨"CodeLister$Text", "addDigit", "(I)V"⟩ ∈ lw_g := lg_i (i := 377) (by decide +kernel) rfl
theorem k_350 : Cond.privateMethod ⟨"CodeLister$Text", "addDigit", "(I)V"⟩ ∈ lw_tbl := List.mem_of_getElem? (i := 378) (by decide +kernel)
theorem k_351 : Cond.instanceMethod ⟨"CodeLister$Text", "addDigit", "(I)V"⟩ ∈ lw_g := lg_i (i := 379) (by decide +kernel) rfl
theorem k_352 : Cond.code ⟨"CodeLister$Text", "addDigit", "(I)V"⟩ prog_5_method_9_code 2 none ∈ lw_g := lg_i (i := 380) (by decide +kernel) rfl
theorem k_353 : Cond.methodLink "CodeLister$Text" 56 ⟨"CodeLister$Kinds", "number", "(I)I"⟩ ∈ lw_g := lg_i (i := 381) (by decide +kernel) rfl
theorem k_354 : Cond.methodLink "CodeLister$Text" 59 ⟨"CodeLister$Text", "addNumber", "(I)V"⟩ ∈ lw_g := lg_i (i := 382) (by decide +kernel) rfl
theorem k_355 : Cond.privateMethod ⟨"CodeLister$Text", "addNumber", "(I)V"⟩ ∈ lw_tbl := List.mem_of_getElem? (i := 383) (by decide +kernel)
theorem k_356 : Cond.instanceMethod ⟨"CodeLister$Text", "addNumber", "(I)V"⟩ ∈ lw_g := lg_i (i := 384) (by decide +kernel) rfl
theorem k_357 : Cond.code ⟨"CodeLister$Text", "addNumber", "(I)V"⟩ prog_5_method_10_code 4 none ∈ lw_g := lg_i (i := 385) (by decide +kernel) rfl
theorem k_358 : Cond.methodLink "CodeLister$Text" 66 ⟨"java/lang/Math", "abs", "(I)I"⟩ ∈ lw_g := lg_i (i := 386) (by decide +kernel) rfl
theorem k_359 : Cond.static ⟨"java/lang/Math", "abs", "(I)I"⟩ ∈ lw_g := lg_i (i := 387) (by decide +kernel) rfl
theorem k_360 : Cond.code ⟨"java/lang/Math", "abs", "(I)I"⟩ prog_9_method_59_code 1 (some .int) ∈ lw_g := lg_i (i := 388) (by decide +kernel) rfl
theorem k_361 : Cond.methodLink "CodeLister" 127 ⟨"CodeLister$Kinds", "first", "(I)I"⟩ ∈ lw_g := lg_i (i := 389) (by decide +kernel) rfl
theorem k_362 : Cond.static ⟨"CodeLister$Kinds", "first", "(I)I"⟩ ∈ lw_g := lg_i (i := 390) (by decide +kernel) rfl
theorem k_363 : Cond.code ⟨"CodeLister$Kinds", "first", "(I)I"⟩ prog_4_method_3_code 1 (some .int) ∈ lw_g := lg_i (i := 391) (by decide +kernel) rfl
theorem k_364 : Cond.methodLink "CodeLister" 130 ⟨"CodeLister$Image", "number", "(II)I"⟩ ∈ lw_g := lg_i (i := 392) (by decide +kernel) rfl
theorem k_365 : Cond.methodLink "CodeLister" 133 ⟨"CodeLister$Kinds", "bytes", "(I)I"⟩ ∈ lw_g := lg_i (i := 393) (by decide +kernel) rfl
theorem k_366 : Cond.methodLink "CodeLister" 103 ⟨"CodeLister$Text", "count", "()I"⟩ ∈ lw_g := lg_i (i := 394) (by decide +kernel) rfl
theorem k_367 : Cond.instanceMethod ⟨"CodeLister$Text", "count", "()I"⟩ ∈ lw_g := lg_i (i := 395) (by decide +kernel) rfl
theorem k_368 : Cond.selects "CodeLister$Text" ⟨"CodeLister$Text", "count", "()I"⟩ ⟨"CodeLister$Text", "count", "()I"⟩ ∈ lw_g := lg_i (i := 396) (by decide +kernel) rfl
theorem k_369 : Cond.code ⟨"CodeLister$Text", "count", "()I"⟩ prog_5_method_2_code 1 (some .int) ∈ lw_g := lg_i (i := 397) (by decide +kernel) rfl
theorem k_370 : Cond.arrayClass .byte ∈ lw_g := lg_i (i := 398) (by decide +kernel) rfl
theorem k_371 : Cond.methodLink "CodeListerLaw" 65 ⟨"CodeLister", "textLength", "()I"⟩ ∈ lw_g := lg_i (i := 399) (by decide +kernel) rfl
theorem k_372 : Cond.instanceMethod ⟨"CodeLister", "textLength", "()I"⟩ ∈ lw_g := lg_i (i := 400) (by decide +kernel) rfl
theorem k_373 : Cond.selects "CodeLister" ⟨"CodeLister", "textLength", "()I"⟩ ⟨"CodeLister", "textLength", "()I"⟩ ∈ lw_g := lg_i (i := 401) (by decide +kernel) rfl
theorem k_374 : Cond.code ⟨"CodeLister", "textLength", "()I"⟩ prog_1_method_14_code 1 (some .int) ∈ lw_g := lg_i (i := 402) (by decide +kernel) rfl
theorem k_375 : Cond.methodLink "CodeListerLaw" 69 ⟨"CodeLister", "charAt", "(I)I"⟩ ∈ lw_g := lg_i (i := 403) (by decide +kernel) rfl
theorem k_376 : Cond.instanceMethod ⟨"CodeLister", "charAt", "(I)I"⟩ ∈ lw_g := lg_i (i := 404) (by decide +kernel) rfl
theorem k_377 : Cond.selects "CodeLister" ⟨"CodeLister", "charAt", "(I)I"⟩ ⟨"CodeLister", "charAt", "(I)I"⟩ ∈ lw_g := lg_i (i := 405) (by decide +kernel) rfl
theorem k_378 : Cond.code ⟨"CodeLister", "charAt", "(I)I"⟩ prog_1_method_15_code 2 (some .int) ∈ lw_g := lg_i (i := 406) (by decide +kernel) rfl
theorem k_379 : Cond.methodLink "CodeLister" 104 ⟨"CodeLister$Text", "at", "(I)I"⟩ ∈ lw_g := lg_i (i := 407) (by decide +kernel) rfl
theorem k_380 : Cond.instanceMethod ⟨"CodeLister$Text", "at", "(I)I"⟩ ∈ lw_g := lg_i (i := 408) (by decide +kernel) rfl
theorem k_381 : Cond.selects "CodeLister$Text" ⟨"CodeLister$Text", "at", "(I)I"⟩ ⟨"CodeLister$Text", "at", "(I)I"⟩ ∈ lw_g := lg_i (i := 409) (by decide +kernel) rfl
theorem k_382 : Cond.code ⟨"CodeLister$Text", "at", "(I)I"⟩ prog_5_method_3_code 2 (some .int) ∈ lw_g := lg_i (i := 410) (by decide +kernel) rfl
theorem k_383 : Cond.methodLink "CodeListerLaw" 73 ⟨"CodeLister", "type", "(II)Z"⟩ ∈ lw_g := lg_i (i := 411) (by decide +kernel) rfl
theorem k_384 : Cond.instanceMethod ⟨"CodeLister", "type", "(II)Z"⟩ ∈ lw_g := lg_i (i := 412) (by decide +kernel) rfl
theorem k_385 : Cond.selects "CodeLister" ⟨"CodeLister", "type", "(II)Z"⟩ ⟨"CodeLister", "type", "(II)Z"⟩ ∈ lw_g := lg_i (i := 413) (by decide +kernel) rfl
theorem k_386 : Cond.code ⟨"CodeLister", "type", "(II)Z"⟩ prog_1_method_16_code 3 (some .boolean) ∈ lw_g := lg_i (i := 414) (by decide +kernel) rfl
theorem k_387 : Cond.methodLink "CodeLister" 105 ⟨"CodeLister$Text", "put", "(IC)V"⟩ ∈ lw_g := lg_i (i := 415) (by decide +kernel) rfl
theorem k_388 : Cond.methodLink "CodeListerLaw" 78 ⟨"CodeLister", "assemble", "()I"⟩ ∈ lw_g := lg_i (i := 416) (by decide +kernel) rfl
theorem k_389 : Cond.instanceMethod ⟨"CodeLister", "assemble", "()I"⟩ ∈ lw_g := lg_i (i := 417) (by decide +kernel) rfl
theorem k_390 : Cond.selects "CodeLister" ⟨"CodeLister", "assemble", "()I"⟩ ⟨"CodeLister", "assemble", "()I"⟩ ∈ lw_g := lg_i (i := 418) (by decide +kernel) rfl
theorem k_391 : Cond.code ⟨"CodeLister", "assemble", "()I"⟩ prog_1_method_17_code 1 (some .int) ∈ lw_g := lg_i (i := 419) (by decide +kernel) rfl
theorem k_392 : Cond.methodLink "CodeLister" 109 ⟨"CodeLister$Assembler", "read", "(LCodeLister$Text;)Z"⟩ ∈ lw_g := lg_i (i := 420) (by decide +kernel) rfl
theorem k_393 : Cond.instanceMethod ⟨"CodeLister$Assembler", "read", "(LCodeLister$Text;)Z"⟩ ∈ lw_g := lg_i (i := 421) (by decide +kernel) rfl
theorem k_394 : Cond.selects "CodeLister$Assembler" ⟨"CodeLister$Assembler", "read", "(LCodeLister$Text;)Z"⟩ ⟨"CodeLister$Assembler", "read", "(LCodeLister$Text;)Z"⟩ ∈ lw_g := lg_i (i := 422) (by decide +kernel) rfl
theorem k_395 : Cond.code ⟨"CodeLister$Assembler", "read", "(LCodeLister$Text;)Z"⟩ prog_2_method_4_code 3 (some .boolean) ∈ lw_g := lg_i (i := 423) (by decide +kernel) rfl
theorem k_396 : Cond.methodLink "CodeLister$Assembler" 31 ⟨"CodeLister$Text", "startReading", "()V"⟩ ∈ lw_g := lg_i (i := 424) (by decide +kernel) rfl
theorem k_397 : Cond.instanceMethod ⟨"CodeLister$Text", "startReading", "()V"⟩ ∈ lw_g := lg_i (i := 425) (by decide +kernel) rfl
theorem k_398 : Cond.selects "CodeLister$Text" ⟨"CodeLister$Text", "startReading", "()V"⟩ ⟨"CodeLister$Text", "startReading", "()V"⟩ ∈ lw_g := lg_i (i := 426) (by decide +kernel) rfl
theorem k_399 : Cond.code ⟨"CodeLister$Text", "startReading", "()V"⟩ prog_5_method_11_code 1 none ∈ lw_g := lg_i (i := 427) (by decide +kernel) rfl
theorem k_400 : Cond.methodLink "CodeLister$Assembler" 36 ⟨"CodeLister$Text", "hasMore", "()Z"⟩ ∈ lw_g := lg_i (i := 428) (by decide +kernel) rfl
theorem k_401 : Cond.instanceMethod ⟨"CodeLister$Text", "hasMore", "()Z"⟩ ∈ lw_g := lg_i (i := 429) (by decide +kernel) rfl
theorem k_402 : Cond.selects "CodeLister$Text" ⟨"CodeLister$Text", "hasMore", "()Z"⟩ ⟨"CodeLister$Text", "hasMore", "()Z"⟩ ∈ lw_g := lg_i (i := 430) (by decide +kernel) rfl
theorem k_403 : Cond.code ⟨"CodeLister$Text", "hasMore", "()Z"⟩ prog_5_method_13_code 1 (some .boolean) ∈ lw_g := lg_i (i := 431) (by decide +kernel) rfl
theorem k_404 : Cond.methodLink "CodeLister$Assembler" 40 ⟨"CodeLister$Assembler", "readLine", "(LCodeLister$Text;)V"⟩ ∈ lw_g := lg_i (i := 432) (by decide +kernel) rfl
theorem k_405 : Cond.privateMethod ⟨"CodeLister$Assembler", "readLine", "(LCodeLister$Text;)V"⟩ ∈ lw_tbl := List.mem_of_getElem? (i := 433) (by decide +kernel)
theorem k_406 : Cond.instanceMethod ⟨"CodeLister$Assembler", "readLine", "(LCodeLister$Text;)V"⟩ ∈ lw_g := lg_i (i := 434) (by decide +kernel) rfl
theorem k_407 : Cond.code ⟨"CodeLister$Assembler", "readLine", "(LCodeLister$Text;)V"⟩ prog_2_method_5_code 5 none ∈ lw_g := lg_i (i := 435) (by decide +kernel) rfl
theorem k_408 : Cond.methodLink "CodeLister$Assembler" 47 ⟨"CodeLister$Text", "takeKind", "()I"⟩ ∈ lw_g := lg_i (i := 436) (by decide +kernel) rfl
theorem k_409 : Cond.instanceMethod ⟨"CodeLister$Text", "takeKind", "()I"⟩ ∈ lw_g := lg_i (i := 437) (by decide +kernel) rfl
theorem k_410 : Cond.selects "CodeLister$Text" ⟨"CodeLister$Text", "takeKind", "()I"⟩ ⟨"CodeLister$Text", "takeKind", "()I"⟩ ∈ lw_g := lg_i (i := 438) (by decide +kernel) rfl
theorem k_411 : Cond.code ⟨"CodeLister$Text", "takeKind", "()I"⟩ prog_5_method_16_code 3 (some .int) ∈ lw_g := lg_i (i := 439) (by decide +kernel) rfl
theorem k_412 : Cond.methodLink "CodeLister$Text" 82 ⟨"CodeLister$Text", "goesOnWith", "(Ljava/lang/String;)Z"⟩ ∈ lw_g := lg_i (i := 440) (by decide +kernel) rfl
theorem k_413 : Cond.privateMethod ⟨"CodeLister$Text", "goesOnWith", "(Ljava/lang/String;)Z"⟩ ∈ lw_tbl := List.mem_of_getElem? (i := 441) (by decide +kernel)
theorem k_414 : Cond.instanceMethod ⟨"CodeLister$Text", "goesOnWith", "(Ljava/lang/String;)Z"⟩ ∈ lw_g := lg_i (i := 442) (by decide +kernel) rfl
theorem k_415 : Cond.code ⟨"CodeLister$Text", "goesOnWith", "(Ljava/lang/String;)Z"⟩ prog_5_method_17_code 3 (some .boolean) ∈ lw_g := lg_i (i := 443) (by decide +kernel) rfl
theorem k_416 : Cond.methodLink "CodeLister$Text" 76 ⟨"CodeLister$Text", "at", "(I)I"⟩ ∈ lw_g := lg_i (i := 444) (by decide +kernel) rfl
theorem k_417 : Cond.methodLink "CodeLister$Assembler" 51 ⟨"CodeLister$Assembler", "readRegisters", "(LCodeLister$Text;I)I"⟩ ∈ lw_g := lg_i (i := 445) (by decide +kernel) rfl
theorem k_418 : Cond.static ⟨"CodeLister$Assembler", "readRegisters", "(LCodeLister$Text;I)I"⟩ ∈ lw_g := lg_i (i := 446) (by decide +kernel) rfl
theorem k_419 : Cond.code ⟨"CodeLister$Assembler", "readRegisters", "(LCodeLister$Text;I)I"⟩ prog_2_method_6_code 4 (some .int) ∈ lw_g := lg_i (i := 447) (by decide +kernel) rfl
theorem k_420 : Cond.methodLink "CodeLister$Assembler" 66 ⟨"CodeLister$Kinds", "registers", "(I)I"⟩ ∈ lw_g := lg_i (i := 448) (by decide +kernel) rfl
theorem k_421 : Cond.methodLink "CodeLister$Assembler" 72 ⟨"CodeLister$Text", "takeComma", "(I)V"⟩ ∈ lw_g := lg_i (i := 449) (by decide +kernel) rfl
theorem k_422 : Cond.instanceMethod ⟨"CodeLister$Text", "takeComma", "(I)V"⟩ ∈ lw_g := lg_i (i := 450) (by decide +kernel) rfl
theorem k_423 : Cond.selects "CodeLister$Text" ⟨"CodeLister$Text", "takeComma", "(I)V"⟩ ⟨"CodeLister$Text", "takeComma", "(I)V"⟩ ∈ lw_g := lg_i (i := 451) (by decide +kernel) rfl
theorem k_424 : Cond.code ⟨"CodeLister$Text", "takeComma", "(I)V"⟩ prog_5_method_15_code 2 none ∈ lw_g := lg_i (i := 452) (by decide +kernel) rfl
theorem k_425 : Cond.methodLink "CodeLister$Text" 79 ⟨"CodeLister$Text", "take", "(C)V"⟩ ∈ lw_g := lg_i (i := 453) (by decide +kernel) rfl
theorem k_426 : Cond.instanceMethod ⟨"CodeLister$Text", "take", "(C)V"⟩ ∈ lw_g := lg_i (i := 454) (by decide +kernel) rfl
theorem k_427 : Cond.selects "CodeLister$Text" ⟨"CodeLister$Text", "take", "(C)V"⟩ ⟨"CodeLister$Text", "take", "(C)V"⟩ ∈ lw_g := lg_i (i := 455) (by decide +kernel) rfl
theorem k_428 : Cond.code ⟨"CodeLister$Text", "take", "(C)V"⟩ prog_5_method_14_code 2 none ∈ lw_g := lg_i (i := 456) (by decide +kernel) rfl
theorem k_429 : Cond.methodLink "CodeLister$Assembler" 76 ⟨"CodeLister$Text", "takeRegister", "()I"⟩ ∈ lw_g := lg_i (i := 457) (by decide +kernel) rfl
theorem k_430 : Cond.instanceMethod ⟨"CodeLister$Text", "takeRegister", "()I"⟩ ∈ lw_g := lg_i (i := 458) (by decide +kernel) rfl
theorem k_431 : Cond.selects "CodeLister$Text" ⟨"CodeLister$Text", "takeRegister", "()I"⟩ ⟨"CodeLister$Text", "takeRegister", "()I"⟩ ∈ lw_g := lg_i (i := 459) (by decide +kernel) rfl
theorem k_432 : Cond.code ⟨"CodeLister$Text", "takeRegister", "()I"⟩ prog_5_method_18_code 2 (some .int) ∈ lw_g := lg_i (i := 460) (by decide +kernel) rfl
theorem k_433 : Cond.methodLink "CodeLister$Assembler" 55 ⟨"CodeLister$Assembler", "readNumber", "(LCodeLister$Text;I)I"⟩ ∈ lw_g := lg_i (i := 461) (by decide +kernel) rfl
theorem k_434 : Cond.static ⟨"CodeLister$Assembler", "readNumber", "(LCodeLister$Text;I)I"⟩ ∈ lw_g := lg_i (i := 462) (by decide +kernel) rfl
theorem k_435 : Cond.code ⟨"CodeLister$Assembler", "readNumber", "(LCodeLister$Text;I)I"⟩ prog_2_method_7_code 3 (some .int) ∈ lw_g := lg_i (i := 463) (by decide +kernel) rfl
theorem k_436 : Cond.methodLink "CodeLister$Assembler" 79 ⟨"CodeLister$Kinds", "number", "(I)I"⟩ ∈ lw_g := lg_i (i := 464) (by decide +kernel) rfl
theorem k_437 : Cond.methodLink "CodeLister$Assembler" 82 ⟨"CodeLister$Kinds", "lowest", "(I)I"⟩ ∈ lw_g := lg_i (i := 465) (by decide +kernel) rfl
theorem k_438 : Cond.static ⟨"CodeLister$Kinds", "lowest", "(I)I"⟩ ∈ lw_g := lg_i (i := 466) (by decide +kernel) rfl
theorem k_439 : Cond.code ⟨"CodeLister$Kinds", "lowest", "(I)I"⟩ prog_4_method_7_code 1 (some .int) ∈ lw_g := lg_i (i := 467) (by decide +kernel) rfl
theorem k_440 : Cond.methodLink "CodeLister$Assembler" 85 ⟨"CodeLister$Kinds", "highest", "(I)I"⟩ ∈ lw_g := lg_i (i := 468) (by decide +kernel) rfl
theorem k_441 : Cond.static ⟨"CodeLister$Kinds", "highest", "(I)I"⟩ ∈ lw_g := lg_i (i := 469) (by decide +kernel) rfl
theorem k_442 : Cond.code ⟨"CodeLister$Kinds", "highest", "(I)I"⟩ prog_4_method_8_code 1 (some .int) ∈ lw_g := lg_i (i := 470) (by decide +kernel) rfl
theorem k_443 : Cond.constant "CodeLister$Kinds" 21 (65535 : Int32) ∈ lw_g := lg_i (i := 471) (by decide +kernel) rfl
theorem k_444 : Cond.methodLink "CodeLister$Assembler" 88 ⟨"CodeLister$Text", "takeNumber", "(II)I"⟩ ∈ lw_g := lg_i (i := 472) (by decide +kernel) rfl
theorem k_445 : Cond.instanceMethod ⟨"CodeLister$Text", "takeNumber", "(II)I"⟩ ∈ lw_g := lg_i (i := 473) (by decide +kernel) rfl
theorem k_446 : Cond.selects "CodeLister$Text" ⟨"CodeLister$Text", "takeNumber", "(II)I"⟩ ⟨"CodeLister$Text", "takeNumber", "(II)I"⟩ ∈ lw_g := lg_i (i := 474) (by decide +kernel) rfl
theorem k_447 : Cond.code ⟨"CodeLister$Text", "takeNumber", "(II)I"⟩ prog_5_method_19_code 6 (some .int) ∈ lw_g := lg_i (i := 475) (by decide +kernel) rfl
theorem k_448 : Cond.methodLink "CodeLister$Text" 86 ⟨"CodeLister$Text", "takeAmount", "()I"⟩ ∈ lw_g := lg_i (i := 476) (by decide +kernel) rfl
theorem k_449 : Cond.privateMethod ⟨"CodeLister$Text", "takeAmount", "()I"⟩ ∈ lw_tbl := List.mem_of_getElem? (i := 477) (by decide +kernel)
theorem k_450 : Cond.instanceMethod ⟨"CodeLister$Text", "takeAmount", "()I"⟩ ∈ lw_g := lg_i (i := 478) (by decide +kernel) rfl
theorem k_451 : Cond.code ⟨"CodeLister$Text", "takeAmount", "()I"⟩ prog_5_method_20_code 4 (some .int) ∈ lw_g := lg_i (i := 479) (by decide +kernel) rfl
theorem k_452 : Cond.methodLink "CodeLister$Text" 89 ⟨"CodeLister$Text", "isDigit", "(I)Z"⟩ ∈ lw_g := lg_i (i := 480) (by decide +kernel) rfl
theorem k_453 : Cond.static ⟨"CodeLister$Text", "isDigit", "(I)Z"⟩ ∈ lw_g := lg_i (i := 481) (by decide +kernel) rfl
theorem k_454 : Cond.code ⟨"CodeLister$Text", "isDigit", "(I)Z"⟩ prog_5_method_21_code 1 (some .boolean) ∈ lw_g := lg_i (i := 482) (by decide +kernel) rfl
theorem k_455 : Cond.methodLink "CodeLister$Assembler" 58 ⟨"CodeLister$Text", "take", "(C)V"⟩ ∈ lw_g := lg_i (i := 483) (by decide +kernel) rfl
theorem k_456 : Cond.methodLink "CodeLister$Assembler" 62 ⟨"CodeLister$Assembler", "addBytes", "(III)V"⟩ ∈ lw_g := lg_i (i := 484) (by decide +kernel) rfl
theorem k_457 : Cond.privateMethod ⟨"CodeLister$Assembler", "addBytes", "(III)V"⟩ ∈ lw_tbl := List.mem_of_getElem? (i := 485) (by decide +kernel)
theorem k_458 : Cond.instanceMethod ⟨"CodeLister$Assembler", "addBytes", "(III)V"⟩ ∈ lw_g := lg_i (i := 486) (by decide +kernel) rfl
theorem k_459 : Cond.code ⟨"CodeLister$Assembler", "addBytes", "(III)V"⟩ prog_2_method_8_code 4 none ∈ lw_g := lg_i (i := 487) (by decide +kernel) rfl
theorem k_460 : Cond.methodLink "CodeLister$Assembler" 91 ⟨"CodeLister$Kinds", "first", "(I)I"⟩ ∈ lw_g := lg_i (i := 488) (by decide +kernel) rfl
theorem k_461 : Cond.methodLink "CodeLister$Assembler" 94 ⟨"CodeLister$Assembler", "addByte", "(I)V"⟩ ∈ lw_g := lg_i (i := 489) (by decide +kernel) rfl
theorem k_462 : Cond.privateMethod ⟨"CodeLister$Assembler", "addByte", "(I)V"⟩ ∈ lw_tbl := List.mem_of_getElem? (i := 490) (by decide +kernel)
theorem k_463 : Cond.instanceMethod ⟨"CodeLister$Assembler", "addByte", "(I)V"⟩ ∈ lw_g := lg_i (i := 491) (by decide +kernel) rfl
theorem k_464 : Cond.code ⟨"CodeLister$Assembler", "addByte", "(I)V"⟩ prog_2_method_9_code 2 none ∈ lw_g := lg_i (i := 492) (by decide +kernel) rfl
theorem k_465 : Cond.methodLink "CodeLister$Assembler" 44 ⟨"CodeLister$Text", "isRight", "()Z"⟩ ∈ lw_g := lg_i (i := 493) (by decide +kernel) rfl
theorem k_466 : Cond.instanceMethod ⟨"CodeLister$Text", "isRight", "()Z"⟩ ∈ lw_g := lg_i (i := 494) (by decide +kernel) rfl
theorem k_467 : Cond.selects "CodeLister$Text" ⟨"CodeLister$Text", "isRight", "()Z"⟩ ⟨"CodeLister$Text", "isRight", "()Z"⟩ ∈ lw_g := lg_i (i := 495) (by decide +kernel) rfl
theorem k_468 : Cond.code ⟨"CodeLister$Text", "isRight", "()Z"⟩ prog_5_method_12_code 1 (some .boolean) ∈ lw_g := lg_i (i := 496) (by decide +kernel) rfl
theorem k_469 : Cond.methodLink "CodeLister" 113 ⟨"CodeLister$Assembler", "count", "()I"⟩ ∈ lw_g := lg_i (i := 497) (by decide +kernel) rfl
theorem k_470 : Cond.instanceMethod ⟨"CodeLister$Assembler", "count", "()I"⟩ ∈ lw_g := lg_i (i := 498) (by decide +kernel) rfl
theorem k_471 : Cond.selects "CodeLister$Assembler" ⟨"CodeLister$Assembler", "count", "()I"⟩ ⟨"CodeLister$Assembler", "count", "()I"⟩ ∈ lw_g := lg_i (i := 499) (by decide +kernel) rfl
theorem k_472 : Cond.code ⟨"CodeLister$Assembler", "count", "()I"⟩ prog_2_method_2_code 1 (some .int) ∈ lw_g := lg_i (i := 500) (by decide +kernel) rfl
theorem k_473 : Cond.methodLink "CodeLister" 114 ⟨"CodeLister$Assembler", "copyTo", "([I)V"⟩ ∈ lw_g := lg_i (i := 501) (by decide +kernel) rfl
theorem k_474 : Cond.instanceMethod ⟨"CodeLister$Assembler", "copyTo", "([I)V"⟩ ∈ lw_g := lg_i (i := 502) (by decide +kernel) rfl
theorem k_475 : Cond.selects "CodeLister$Assembler" ⟨"CodeLister$Assembler", "copyTo", "([I)V"⟩ ⟨"CodeLister$Assembler", "copyTo", "([I)V"⟩ ∈ lw_g := lg_i (i := 503) (by decide +kernel) rfl
theorem k_476 : Cond.code ⟨"CodeLister$Assembler", "copyTo", "([I)V"⟩ prog_2_method_3_code 2 none ∈ lw_g := lg_i (i := 504) (by decide +kernel) rfl
theorem k_477 : Cond.methodLink "CodeLister$Assembler" 19 ⟨"java/lang/Math", "min", "(II)I"⟩ ∈ lw_g := lg_i (i := 505) (by decide +kernel) rfl
theorem k_478 : Cond.methodLink "CodeLister$Assembler" 25 ⟨"java/lang/System", "arraycopy", "(Ljava/lang/Object;ILjava/lang/Object;II)V"⟩ ∈ lw_g := lg_i (i := 506) (by decide +kernel) rfl
theorem k_479 : Cond.static ⟨"java/lang/System", "arraycopy", "(Ljava/lang/Object;ILjava/lang/Object;II)V"⟩ ∈ lw_g := lg_i (i := 507) (by decide +kernel) rfl
theorem k_480 : Cond.native ⟨"java/lang/System", "arraycopy", "(Ljava/lang/Object;ILjava/lang/Object;II)V"⟩ ∈ lw_g := lg_i (i := 508) (by decide +kernel) rfl
theorem k_481 : Cond.methodLink "CodeListerLaw" 82 ⟨"CodeLister", "made", "(I)I"⟩ ∈ lw_g := lg_i (i := 509) (by decide +kernel) rfl
theorem k_482 : Cond.instanceMethod ⟨"CodeLister", "made", "(I)I"⟩ ∈ lw_g := lg_i (i := 510) (by decide +kernel) rfl
theorem k_483 : Cond.selects "CodeLister" ⟨"CodeLister", "made", "(I)I"⟩ ⟨"CodeLister", "made", "(I)I"⟩ ∈ lw_g := lg_i (i := 511) (by decide +kernel) rfl
theorem k_484 : Cond.code ⟨"CodeLister", "made", "(I)I"⟩ prog_1_method_18_code 2 (some .int) ∈ lw_g := lg_i (i := 512) (by decide +kernel) rfl
theorem k_485 : Cond.classLink "CodeListerLaw" 10 "CodeListerModel" ∈ lw_g := lg_i (i := 513) (by decide +kernel) rfl
theorem k_486 : Cond.instantiable "CodeListerModel" 12 ∈ lw_g := lg_i (i := 514) (by decide +kernel) rfl
theorem k_487 : Cond.methodLink "CodeListerLaw" 12 ⟨"CodeListerModel", "<init>", "()V"⟩ ∈ lw_g := lg_i (i := 515) (by decide +kernel) rfl
theorem k_488 : Cond.instanceMethod ⟨"CodeListerModel", "<init>", "()V"⟩ ∈ lw_g := lg_i (i := 516) (by decide +kernel) rfl
theorem k_489 : Cond.code ⟨"CodeListerModel", "<init>", "()V"⟩ prog_8_method_1_code 1 none ∈ lw_g := lg_i (i := 517) (by decide +kernel) rfl
theorem k_490 : Cond.methodLink "CodeListerModel" 1 ⟨"java/lang/Object", "<init>", "()V"⟩ ∈ lw_g := lg_i (i := 518) (by decide +kernel) rfl
theorem k_491 : Cond.fieldLink "CodeListerModel" 7 "CodeListerModel" "image" "[I" ∈ lw_g := lg_i (i := 519) (by decide +kernel) rfl
theorem k_492 : Cond.fieldLink "CodeListerModel" 13 "CodeListerModel" "entries" "[I" ∈ lw_g := lg_i (i := 520) (by decide +kernel) rfl
theorem k_493 : Cond.fieldLink "CodeListerModel" 16 "CodeListerModel" "text" "[I" ∈ lw_g := lg_i (i := 521) (by decide +kernel) rfl
theorem k_494 : Cond.fieldLink "CodeListerModel" 19 "CodeListerModel" "out" "[I" ∈ lw_g := lg_i (i := 522) (by decide +kernel) rfl
theorem k_495 : Cond.fieldLink "CodeListerModel" 22 "CodeListerModel" "bytes" "[I" ∈ lw_g := lg_i (i := 523) (by decide +kernel) rfl
theorem k_496 : Cond.fieldLink "CodeListerModel" 25 "CodeListerModel" "mark" "[Z" ∈ lw_g := lg_i (i := 524) (by decide +kernel) rfl
theorem k_497 : Cond.fieldLink "CodeListerModel" 29 "CodeListerModel" "line" "[I" ∈ lw_g := lg_i (i := 525) (by decide +kernel) rfl
theorem k_498 : Cond.fieldLink "CodeListerModel" 32 "CodeListerModel" "size" "I" ∈ lw_g := lg_i (i := 526) (by decide +kernel) rfl
theorem k_499 : Cond.fieldLink "CodeListerModel" 40 "CodeListerModel" "entered" "I" ∈ lw_g := lg_i (i := 527) (by decide +kernel) rfl
theorem k_500 : Cond.fieldLink "CodeListerModel" 43 "CodeListerModel" "length" "I" ∈ lw_g := lg_i (i := 528) (by decide +kernel) rfl
theorem k_501 : Cond.fieldLink "CodeListerModel" 46 "CodeListerModel" "makes" "I" ∈ lw_g := lg_i (i := 529) (by decide +kernel) rfl
theorem k_502 : Cond.fieldLink "CodeListerModel" 73 "CodeListerModel" "width" "I" ∈ lw_g := lg_i (i := 530) (by decide +kernel) rfl
theorem k_503 : Cond.laysFinal "CodeListerModel" "CodeListerModel" "image" "[I" ∈ lw_g := lg_i (i := 531) (by decide +kernel) rfl
theorem k_504 : Cond.soleField "CodeListerModel" "image" ∈ lw_g := lg_i (i := 532) (by decide +kernel) rfl
theorem k_505 : Cond.laysFinal "CodeListerModel" "CodeListerModel" "entries" "[I" ∈ lw_g := lg_i (i := 533) (by decide +kernel) rfl
theorem k_506 : Cond.soleField "CodeListerModel" "entries" ∈ lw_g := lg_i (i := 534) (by decide +kernel) rfl
theorem k_507 : Cond.laysFinal "CodeListerModel" "CodeListerModel" "text" "[I" ∈ lw_g := lg_i (i := 535) (by decide +kernel) rfl
theorem k_508 : Cond.soleField "CodeListerModel" "text" ∈ lw_g := lg_i (i := 536) (by decide +kernel) rfl
theorem k_509 : Cond.laysFinal "CodeListerModel" "CodeListerModel" "out" "[I" ∈ lw_g := lg_i (i := 537) (by decide +kernel) rfl
theorem k_510 : Cond.soleField "CodeListerModel" "out" ∈ lw_g := lg_i (i := 538) (by decide +kernel) rfl
theorem k_511 : Cond.laysFinal "CodeListerModel" "CodeListerModel" "bytes" "[I" ∈ lw_g := lg_i (i := 539) (by decide +kernel) rfl
theorem k_512 : Cond.soleField "CodeListerModel" "bytes" ∈ lw_g := lg_i (i := 540) (by decide +kernel) rfl
theorem k_513 : Cond.laysFinal "CodeListerModel" "CodeListerModel" "mark" "[Z" ∈ lw_g := lg_i (i := 541) (by decide +kernel) rfl
theorem k_514 : Cond.soleField "CodeListerModel" "mark" ∈ lw_g := lg_i (i := 542) (by decide +kernel) rfl
theorem k_515 : Cond.laysFinal "CodeListerModel" "CodeListerModel" "line" "[I" ∈ lw_g := lg_i (i := 543) (by decide +kernel) rfl
theorem k_516 : Cond.soleField "CodeListerModel" "line" ∈ lw_g := lg_i (i := 544) (by decide +kernel) rfl
theorem k_517 : Cond.lays "CodeListerModel" "CodeListerModel" "size" "I" ∈ lw_g := lg_i (i := 545) (by decide +kernel) rfl
theorem k_518 : Cond.soleField "CodeListerModel" "size" ∈ lw_g := lg_i (i := 546) (by decide +kernel) rfl
theorem k_519 : Cond.lays "CodeListerModel" "CodeListerModel" "entered" "I" ∈ lw_g := lg_i (i := 547) (by decide +kernel) rfl
theorem k_520 : Cond.soleField "CodeListerModel" "entered" ∈ lw_g := lg_i (i := 548) (by decide +kernel) rfl
theorem k_521 : Cond.lays "CodeListerModel" "CodeListerModel" "length" "I" ∈ lw_g := lg_i (i := 549) (by decide +kernel) rfl
theorem k_522 : Cond.soleField "CodeListerModel" "length" ∈ lw_g := lg_i (i := 550) (by decide +kernel) rfl
theorem k_523 : Cond.lays "CodeListerModel" "CodeListerModel" "makes" "I" ∈ lw_g := lg_i (i := 551) (by decide +kernel) rfl
theorem k_524 : Cond.soleField "CodeListerModel" "makes" ∈ lw_g := lg_i (i := 552) (by decide +kernel) rfl
theorem k_525 : Cond.lays "CodeListerModel" "CodeListerModel" "width" "I" ∈ lw_g := lg_i (i := 553) (by decide +kernel) rfl
theorem k_526 : Cond.soleField "CodeListerModel" "width" ∈ lw_g := lg_i (i := 554) (by decide +kernel) rfl
theorem k_527 : Cond.superclass "CodeListerModel" "java/lang/Object" ∈ lw_g := lg_i (i := 555) (by decide +kernel) rfl
theorem k_528 : Cond.methodLink "CodeListerLaw" 17 ⟨"CodeListerModel", "append", "(II)I"⟩ ∈ lw_g := lg_i (i := 556) (by decide +kernel) rfl
theorem k_529 : Cond.instanceMethod ⟨"CodeListerModel", "append", "(II)I"⟩ ∈ lw_g := lg_i (i := 557) (by decide +kernel) rfl
theorem k_530 : Cond.selects "CodeListerModel" ⟨"CodeListerModel", "append", "(II)I"⟩ ⟨"CodeListerModel", "append", "(II)I"⟩ ∈ lw_g := lg_i (i := 558) (by decide +kernel) rfl
theorem k_531 : Cond.code ⟨"CodeListerModel", "append", "(II)I"⟩ prog_8_method_2_code 4 (some .int) ∈ lw_g := lg_i (i := 559) (by decide +kernel) rfl
theorem k_532 : Cond.methodLink "CodeListerLaw" 22 ⟨"CodeListerModel", "enter", "(I)Z"⟩ ∈ lw_g := lg_i (i := 560) (by decide +kernel) rfl
theorem k_533 : Cond.instanceMethod ⟨"CodeListerModel", "enter", "(I)Z"⟩ ∈ lw_g := lg_i (i := 561) (by decide +kernel) rfl
theorem k_534 : Cond.selects "CodeListerModel" ⟨"CodeListerModel", "enter", "(I)Z"⟩ ⟨"CodeListerModel", "enter", "(I)Z"⟩ ∈ lw_g := lg_i (i := 562) (by decide +kernel) rfl
theorem k_535 : Cond.code ⟨"CodeListerModel", "enter", "(I)Z"⟩ prog_8_method_4_code 3 (some .boolean) ∈ lw_g := lg_i (i := 563) (by decide +kernel) rfl
theorem k_536 : Cond.methodLink "CodeListerModel" 36 ⟨"CodeListerModel", "has", "(I)Z"⟩ ∈ lw_g := lg_i (i := 564) (by decide +kernel) rfl
theorem k_537 : Cond.privateMethod ⟨"CodeListerModel", "has", "(I)Z"⟩ ∈ lw_tbl := List.mem_of_getElem? (i := 565) (by decide +kernel)
theorem k_538 : Cond.instanceMethod ⟨"CodeListerModel", "has", "(I)Z"⟩ ∈ lw_g := lg_i (i := 566) (by decide +kernel) rfl
theorem k_539 : Cond.code ⟨"CodeListerModel", "has", "(I)Z"⟩ prog_8_method_3_code 2 (some .boolean) ∈ lw_g := lg_i (i := 567) (by decide +kernel) rfl
theorem k_540 : Cond.methodLink "CodeListerLaw" 26 ⟨"CodeListerModel", "clear", "()V"⟩ ∈ lw_g := lg_i (i := 568) (by decide +kernel) rfl
theorem k_541 : Cond.instanceMethod ⟨"CodeListerModel", "clear", "()V"⟩ ∈ lw_g := lg_i (i := 569) (by decide +kernel) rfl
theorem k_542 : Cond.selects "CodeListerModel" ⟨"CodeListerModel", "clear", "()V"⟩ ⟨"CodeListerModel", "clear", "()V"⟩ ∈ lw_g := lg_i (i := 570) (by decide +kernel) rfl
theorem k_543 : Cond.code ⟨"CodeListerModel", "clear", "()V"⟩ prog_8_method_5_code 1 none ∈ lw_g := lg_i (i := 571) (by decide +kernel) rfl
theorem k_544 : Cond.methodLink "CodeListerLaw" 31 ⟨"CodeListerModel", "size", "()I"⟩ ∈ lw_g := lg_i (i := 572) (by decide +kernel) rfl
theorem k_545 : Cond.instanceMethod ⟨"CodeListerModel", "size", "()I"⟩ ∈ lw_g := lg_i (i := 573) (by decide +kernel) rfl
theorem k_546 : Cond.selects "CodeListerModel" ⟨"CodeListerModel", "size", "()I"⟩ ⟨"CodeListerModel", "size", "()I"⟩ ∈ lw_g := lg_i (i := 574) (by decide +kernel) rfl
theorem k_547 : Cond.code ⟨"CodeListerModel", "size", "()I"⟩ prog_8_method_6_code 1 (some .int) ∈ lw_g := lg_i (i := 575) (by decide +kernel) rfl
theorem k_548 : Cond.methodLink "CodeListerLaw" 36 ⟨"CodeListerModel", "byteAt", "(I)I"⟩ ∈ lw_g := lg_i (i := 576) (by decide +kernel) rfl
theorem k_549 : Cond.instanceMethod ⟨"CodeListerModel", "byteAt", "(I)I"⟩ ∈ lw_g := lg_i (i := 577) (by decide +kernel) rfl
theorem k_550 : Cond.selects "CodeListerModel" ⟨"CodeListerModel", "byteAt", "(I)I"⟩ ⟨"CodeListerModel", "byteAt", "(I)I"⟩ ∈ lw_g := lg_i (i := 578) (by decide +kernel) rfl
theorem k_551 : Cond.code ⟨"CodeListerModel", "byteAt", "(I)I"⟩ prog_8_method_7_code 2 (some .int) ∈ lw_g := lg_i (i := 579) (by decide +kernel) rfl
theorem k_552 : Cond.methodLink "CodeListerLaw" 40 ⟨"CodeListerModel", "entry", "(I)I"⟩ ∈ lw_g := lg_i (i := 580) (by decide +kernel) rfl
theorem k_553 : Cond.instanceMethod ⟨"CodeListerModel", "entry", "(I)I"⟩ ∈ lw_g := lg_i (i := 581) (by decide +kernel) rfl
theorem k_554 : Cond.selects "CodeListerModel" ⟨"CodeListerModel", "entry", "(I)I"⟩ ⟨"CodeListerModel", "entry", "(I)I"⟩ ∈ lw_g := lg_i (i := 582) (by decide +kernel) rfl
theorem k_555 : Cond.code ⟨"CodeListerModel", "entry", "(I)I"⟩ prog_8_method_8_code 2 (some .int) ∈ lw_g := lg_i (i := 583) (by decide +kernel) rfl
theorem k_556 : Cond.methodLink "CodeListerLaw" 44 ⟨"CodeListerModel", "length", "(I)I"⟩ ∈ lw_g := lg_i (i := 584) (by decide +kernel) rfl
theorem k_557 : Cond.instanceMethod ⟨"CodeListerModel", "length", "(I)I"⟩ ∈ lw_g := lg_i (i := 585) (by decide +kernel) rfl
theorem k_558 : Cond.selects "CodeListerModel" ⟨"CodeListerModel", "length", "(I)I"⟩ ⟨"CodeListerModel", "length", "(I)I"⟩ ∈ lw_g := lg_i (i := 586) (by decide +kernel) rfl
theorem k_559 : Cond.code ⟨"CodeListerModel", "length", "(I)I"⟩ prog_8_method_10_code 3 (some .int) ∈ lw_g := lg_i (i := 587) (by decide +kernel) rfl
theorem k_560 : Cond.methodLink "CodeListerModel" 49 ⟨"CodeListerModel", "longOf", "(I)I"⟩ ∈ lw_g := lg_i (i := 588) (by decide +kernel) rfl
theorem k_561 : Cond.static ⟨"CodeListerModel", "longOf", "(I)I"⟩ ∈ lw_g := lg_i (i := 589) (by decide +kernel) rfl
theorem k_562 : Cond.code ⟨"CodeListerModel", "longOf", "(I)I"⟩ prog_8_method_9_code 2 (some .int) ∈ lw_g := lg_i (i := 590) (by decide +kernel) rfl
theorem k_563 : Cond.methodLink "CodeListerLaw" 48 ⟨"CodeListerModel", "reach", "()I"⟩ ∈ lw_g := lg_i (i := 591) (by decide +kernel) rfl
theorem k_564 : Cond.instanceMethod ⟨"CodeListerModel", "reach", "()I"⟩ ∈ lw_g := lg_i (i := 592) (by decide +kernel) rfl
theorem k_565 : Cond.selects "CodeListerModel" ⟨"CodeListerModel", "reach", "()I"⟩ ⟨"CodeListerModel", "reach", "()I"⟩ ∈ lw_g := lg_i (i := 593) (by decide +kernel) rfl
theorem k_566 : Cond.code ⟨"CodeListerModel", "reach", "()I"⟩ prog_8_method_15_code 2 (some .int) ∈ lw_g := lg_i (i := 594) (by decide +kernel) rfl
theorem k_567 : Cond.methodLink "CodeListerModel" 62 ⟨"CodeListerModel", "wipe", "()V"⟩ ∈ lw_g := lg_i (i := 595) (by decide +kernel) rfl
theorem k_568 : Cond.privateMethod ⟨"CodeListerModel", "wipe", "()V"⟩ ∈ lw_tbl := List.mem_of_getElem? (i := 596) (by decide +kernel)
theorem k_569 : Cond.instanceMethod ⟨"CodeListerModel", "wipe", "()V"⟩ ∈ lw_g := lg_i (i := 597) (by decide +kernel) rfl
theorem k_570 : Cond.code ⟨"CodeListerModel", "wipe", "()V"⟩ prog_8_method_14_code 2 none ∈ lw_g := lg_i (i := 598) (by decide +kernel) rfl
theorem k_571 : Cond.methodLink "CodeListerModel" 65 ⟨"CodeListerModel", "close", "(Z)I"⟩ ∈ lw_g := lg_i (i := 599) (by decide +kernel) rfl
theorem k_572 : Cond.privateMethod ⟨"CodeListerModel", "close", "(Z)I"⟩ ∈ lw_tbl := List.mem_of_getElem? (i := 600) (by decide +kernel)
theorem k_573 : Cond.instanceMethod ⟨"CodeListerModel", "close", "(Z)I"⟩ ∈ lw_g := lg_i (i := 601) (by decide +kernel) rfl
theorem k_574 : Cond.code ⟨"CodeListerModel", "close", "(Z)I"⟩ prog_8_method_13_code 5 (some .int) ∈ lw_g := lg_i (i := 602) (by decide +kernel) rfl
theorem k_575 : Cond.methodLink "CodeListerModel" 58 ⟨"CodeListerModel", "follow", "(IZ)Z"⟩ ∈ lw_g := lg_i (i := 603) (by decide +kernel) rfl
theorem k_576 : Cond.privateMethod ⟨"CodeListerModel", "follow", "(IZ)Z"⟩ ∈ lw_tbl := List.mem_of_getElem? (i := 604) (by decide +kernel)
theorem k_577 : Cond.instanceMethod ⟨"CodeListerModel", "follow", "(IZ)Z"⟩ ∈ lw_g := lg_i (i := 605) (by decide +kernel) rfl
theorem k_578 : Cond.code ⟨"CodeListerModel", "follow", "(IZ)Z"⟩ prog_8_method_12_code 6 (some .boolean) ∈ lw_g := lg_i (i := 606) (by decide +kernel) rfl
theorem k_579 : Cond.methodLink "CodeListerModel" 53 ⟨"CodeListerModel", "length", "(I)I"⟩ ∈ lw_g := lg_i (i := 607) (by decide +kernel) rfl
theorem k_580 : Cond.methodLink "CodeListerModel" 55 ⟨"CodeListerModel", "set", "(I)Z"⟩ ∈ lw_g := lg_i (i := 608) (by decide +kernel) rfl
theorem k_581 : Cond.privateMethod ⟨"CodeListerModel", "set", "(I)Z"⟩ ∈ lw_tbl := List.mem_of_getElem? (i := 609) (by decide +kernel)
theorem k_582 : Cond.instanceMethod ⟨"CodeListerModel", "set", "(I)Z"⟩ ∈ lw_g := lg_i (i := 610) (by decide +kernel) rfl
theorem k_583 : Cond.code ⟨"CodeListerModel", "set", "(I)Z"⟩ prog_8_method_11_code 2 (some .boolean) ∈ lw_g := lg_i (i := 611) (by decide +kernel) rfl
theorem k_584 : Cond.methodLink "CodeListerLaw" 52 ⟨"CodeListerModel", "reached", "(I)Z"⟩ ∈ lw_g := lg_i (i := 612) (by decide +kernel) rfl
theorem k_585 : Cond.instanceMethod ⟨"CodeListerModel", "reached", "(I)Z"⟩ ∈ lw_g := lg_i (i := 613) (by decide +kernel) rfl
theorem k_586 : Cond.selects "CodeListerModel" ⟨"CodeListerModel", "reached", "(I)Z"⟩ ⟨"CodeListerModel", "reached", "(I)Z"⟩ ∈ lw_g := lg_i (i := 614) (by decide +kernel) rfl
theorem k_587 : Cond.code ⟨"CodeListerModel", "reached", "(I)Z"⟩ prog_8_method_16_code 3 (some .boolean) ∈ lw_g := lg_i (i := 615) (by decide +kernel) rfl
theorem k_588 : Cond.methodLink "CodeListerModel" 69 ⟨"CodeListerModel", "reach", "()I"⟩ ∈ lw_g := lg_i (i := 616) (by decide +kernel) rfl
theorem k_589 : Cond.methodLink "CodeListerLaw" 56 ⟨"CodeListerModel", "body", "(I)I"⟩ ∈ lw_g := lg_i (i := 617) (by decide +kernel) rfl
theorem k_590 : Cond.instanceMethod ⟨"CodeListerModel", "body", "(I)I"⟩ ∈ lw_g := lg_i (i := 618) (by decide +kernel) rfl
theorem k_591 : Cond.selects "CodeListerModel" ⟨"CodeListerModel", "body", "(I)I"⟩ ⟨"CodeListerModel", "body", "(I)I"⟩ ∈ lw_g := lg_i (i := 619) (by decide +kernel) rfl
theorem k_592 : Cond.code ⟨"CodeListerModel", "body", "(I)I"⟩ prog_8_method_17_code 2 (some .int) ∈ lw_g := lg_i (i := 620) (by decide +kernel) rfl
theorem k_593 : Cond.methodLink "CodeListerLaw" 60 ⟨"CodeListerModel", "sweep", "()I"⟩ ∈ lw_g := lg_i (i := 621) (by decide +kernel) rfl
theorem k_594 : Cond.instanceMethod ⟨"CodeListerModel", "sweep", "()I"⟩ ∈ lw_g := lg_i (i := 622) (by decide +kernel) rfl
theorem k_595 : Cond.selects "CodeListerModel" ⟨"CodeListerModel", "sweep", "()I"⟩ ⟨"CodeListerModel", "sweep", "()I"⟩ ∈ lw_g := lg_i (i := 623) (by decide +kernel) rfl
theorem k_596 : Cond.code ⟨"CodeListerModel", "sweep", "()I"⟩ prog_8_method_18_code 4 (some .int) ∈ lw_g := lg_i (i := 624) (by decide +kernel) rfl
theorem k_597 : Cond.methodLink "CodeListerLaw" 64 ⟨"CodeListerModel", "list", "()I"⟩ ∈ lw_g := lg_i (i := 625) (by decide +kernel) rfl
theorem k_598 : Cond.instanceMethod ⟨"CodeListerModel", "list", "()I"⟩ ∈ lw_g := lg_i (i := 626) (by decide +kernel) rfl
theorem k_599 : Cond.selects "CodeListerModel" ⟨"CodeListerModel", "list", "()I"⟩ ⟨"CodeListerModel", "list", "()I"⟩ ∈ lw_g := lg_i (i := 627) (by decide +kernel) rfl
theorem k_600 : Cond.code ⟨"CodeListerModel", "list", "()I"⟩ prog_8_method_26_code 8 (some .int) ∈ lw_g := lg_i (i := 628) (by decide +kernel) rfl
theorem k_601 : Cond.methodLink "CodeListerModel" 93 ⟨"CodeListerModel", "data", "(I)V"⟩ ∈ lw_g := lg_i (i := 629) (by decide +kernel) rfl
theorem k_602 : Cond.privateMethod ⟨"CodeListerModel", "data", "(I)V"⟩ ∈ lw_tbl := List.mem_of_getElem? (i := 630) (by decide +kernel)
theorem k_603 : Cond.instanceMethod ⟨"CodeListerModel", "data", "(I)V"⟩ ∈ lw_g := lg_i (i := 631) (by decide +kernel) rfl
theorem k_604 : Cond.code ⟨"CodeListerModel", "data", "(I)V"⟩ prog_8_method_25_code 2 none ∈ lw_g := lg_i (i := 632) (by decide +kernel) rfl
theorem k_605 : Cond.methodLink "CodeListerModel" 80 ⟨"CodeListerModel", "name", "(III)V"⟩ ∈ lw_g := lg_i (i := 633) (by decide +kernel) rfl
theorem k_606 : Cond.privateMethod ⟨"CodeListerModel", "name", "(III)V"⟩ ∈ lw_tbl := List.mem_of_getElem? (i := 634) (by decide +kernel)
theorem k_607 : Cond.instanceMethod ⟨"CodeListerModel", "name", "(III)V"⟩ ∈ lw_g := lg_i (i := 635) (by decide +kernel) rfl
theorem k_608 : Cond.code ⟨"CodeListerModel", "name", "(III)V"⟩ prog_8_method_20_code 4 none ∈ lw_g := lg_i (i := 636) (by decide +kernel) rfl
theorem k_609 : Cond.methodLink "CodeListerModel" 76 ⟨"CodeListerModel", "put", "(I)V"⟩ ∈ lw_g := lg_i (i := 637) (by decide +kernel) rfl
theorem k_610 : Cond.privateMethod ⟨"CodeListerModel", "put", "(I)V"⟩ ∈ lw_tbl := List.mem_of_getElem? (i := 638) (by decide +kernel)
theorem k_611 : Cond.instanceMethod ⟨"CodeListerModel", "put", "(I)V"⟩ ∈ lw_g := lg_i (i := 639) (by decide +kernel) rfl
theorem k_612 : Cond.code ⟨"CodeListerModel", "put", "(I)V"⟩ prog_8_method_19_code 2 none ∈ lw_g := lg_i (i := 640) (by decide +kernel) rfl
theorem k_613 : Cond.methodLink "CodeListerModel" 90 ⟨"CodeListerModel", "number", "(I)V"⟩ ∈ lw_g := lg_i (i := 641) (by decide +kernel) rfl
theorem k_614 : Cond.privateMethod ⟨"CodeListerModel", "number", "(I)V"⟩ ∈ lw_tbl := List.mem_of_getElem? (i := 642) (by decide +kernel)
theorem k_615 : Cond.instanceMethod ⟨"CodeListerModel", "number", "(I)V"⟩ ∈ lw_g := lg_i (i := 643) (by decide +kernel) rfl
theorem k_616 : Cond.code ⟨"CodeListerModel", "number", "(I)V"⟩ prog_8_method_21_code 3 none ∈ lw_g := lg_i (i := 644) (by decide +kernel) rfl
theorem k_617 : Cond.methodLink "CodeListerModel" 96 ⟨"CodeListerModel", "print", "(II)V"⟩ ∈ lw_g := lg_i (i := 645) (by decide +kernel) rfl
theorem k_618 : Cond.privateMethod ⟨"CodeListerModel", "print", "(II)V"⟩ ∈ lw_tbl := List.mem_of_getElem? (i := 646) (by decide +kernel)
theorem k_619 : Cond.instanceMethod ⟨"CodeListerModel", "print", "(II)V"⟩ ∈ lw_g := lg_i (i := 647) (by decide +kernel) rfl
theorem k_620 : Cond.code ⟨"CodeListerModel", "print", "(II)V"⟩ prog_8_method_24_code 3 none ∈ lw_g := lg_i (i := 648) (by decide +kernel) rfl
theorem k_621 : Cond.methodLink "CodeListerModel" 87 ⟨"CodeListerModel", "front", "(I)V"⟩ ∈ lw_g := lg_i (i := 649) (by decide +kernel) rfl
theorem k_622 : Cond.privateMethod ⟨"CodeListerModel", "front", "(I)V"⟩ ∈ lw_tbl := List.mem_of_getElem? (i := 650) (by decide +kernel)
theorem k_623 : Cond.instanceMethod ⟨"CodeListerModel", "front", "(I)V"⟩ ∈ lw_g := lg_i (i := 651) (by decide +kernel) rfl
theorem k_624 : Cond.code ⟨"CodeListerModel", "front", "(I)V"⟩ prog_8_method_23_code 3 none ∈ lw_g := lg_i (i := 652) (by decide +kernel) rfl
theorem k_625 : Cond.methodLink "CodeListerModel" 84 ⟨"CodeListerModel", "register", "(I)V"⟩ ∈ lw_g := lg_i (i := 653) (by decide +kernel) rfl
theorem k_626 : Cond.privateMethod ⟨"CodeListerModel", "register", "(I)V"⟩ ∈ lw_tbl := List.mem_of_getElem? (i := 654) (by decide +kernel)
theorem k_627 : Cond.instanceMethod ⟨"CodeListerModel", "register", "(I)V"⟩ ∈ lw_g := lg_i (i := 655) (by decide +kernel) rfl
theorem k_628 : Cond.code ⟨"CodeListerModel", "register", "(I)V"⟩ prog_8_method_22_code 2 none ∈ lw_g := lg_i (i := 656) (by decide +kernel) rfl
theorem k_629 : Cond.methodLink "CodeListerLaw" 68 ⟨"CodeListerModel", "textLength", "()I"⟩ ∈ lw_g := lg_i (i := 657) (by decide +kernel) rfl
theorem k_630 : Cond.instanceMethod ⟨"CodeListerModel", "textLength", "()I"⟩ ∈ lw_g := lg_i (i := 658) (by decide +kernel) rfl
theorem k_631 : Cond.selects "CodeListerModel" ⟨"CodeListerModel", "textLength", "()I"⟩ ⟨"CodeListerModel", "textLength", "()I"⟩ ∈ lw_g := lg_i (i := 659) (by decide +kernel) rfl
theorem k_632 : Cond.code ⟨"CodeListerModel", "textLength", "()I"⟩ prog_8_method_27_code 1 (some .int) ∈ lw_g := lg_i (i := 660) (by decide +kernel) rfl
theorem k_633 : Cond.methodLink "CodeListerLaw" 72 ⟨"CodeListerModel", "charAt", "(I)I"⟩ ∈ lw_g := lg_i (i := 661) (by decide +kernel) rfl
theorem k_634 : Cond.instanceMethod ⟨"CodeListerModel", "charAt", "(I)I"⟩ ∈ lw_g := lg_i (i := 662) (by decide +kernel) rfl
theorem k_635 : Cond.selects "CodeListerModel" ⟨"CodeListerModel", "charAt", "(I)I"⟩ ⟨"CodeListerModel", "charAt", "(I)I"⟩ ∈ lw_g := lg_i (i := 663) (by decide +kernel) rfl
theorem k_636 : Cond.code ⟨"CodeListerModel", "charAt", "(I)I"⟩ prog_8_method_28_code 2 (some .int) ∈ lw_g := lg_i (i := 664) (by decide +kernel) rfl
theorem k_637 : Cond.methodLink "CodeListerLaw" 77 ⟨"CodeListerModel", "type", "(II)Z"⟩ ∈ lw_g := lg_i (i := 665) (by decide +kernel) rfl
theorem k_638 : Cond.instanceMethod ⟨"CodeListerModel", "type", "(II)Z"⟩ ∈ lw_g := lg_i (i := 666) (by decide +kernel) rfl
theorem k_639 : Cond.selects "CodeListerModel" ⟨"CodeListerModel", "type", "(II)Z"⟩ ⟨"CodeListerModel", "type", "(II)Z"⟩ ∈ lw_g := lg_i (i := 667) (by decide +kernel) rfl
theorem k_640 : Cond.code ⟨"CodeListerModel", "type", "(II)Z"⟩ prog_8_method_29_code 3 (some .boolean) ∈ lw_g := lg_i (i := 668) (by decide +kernel) rfl
theorem k_641 : Cond.methodLink "CodeListerLaw" 81 ⟨"CodeListerModel", "assemble", "()I"⟩ ∈ lw_g := lg_i (i := 669) (by decide +kernel) rfl
theorem k_642 : Cond.instanceMethod ⟨"CodeListerModel", "assemble", "()I"⟩ ∈ lw_g := lg_i (i := 670) (by decide +kernel) rfl
theorem k_643 : Cond.selects "CodeListerModel" ⟨"CodeListerModel", "assemble", "()I"⟩ ⟨"CodeListerModel", "assemble", "()I"⟩ ∈ lw_g := lg_i (i := 671) (by decide +kernel) rfl
theorem k_644 : Cond.code ⟨"CodeListerModel", "assemble", "()I"⟩ prog_8_method_33_code 10 (some .int) ∈ lw_g := lg_i (i := 672) (by decide +kernel) rfl
theorem k_645 : Cond.methodLink "CodeListerModel" 108 ⟨"CodeListerModel", "understand", "(I)I"⟩ ∈ lw_g := lg_i (i := 673) (by decide +kernel) rfl
theorem k_646 : Cond.privateMethod ⟨"CodeListerModel", "understand", "(I)I"⟩ ∈ lw_tbl := List.mem_of_getElem? (i := 674) (by decide +kernel)
theorem k_647 : Cond.instanceMethod ⟨"CodeListerModel", "understand", "(I)I"⟩ ∈ lw_g := lg_i (i := 675) (by decide +kernel) rfl
theorem k_648 : Cond.code ⟨"CodeListerModel", "understand", "(I)I"⟩ prog_8_method_32_code 7 (some .int) ∈ lw_g := lg_i (i := 676) (by decide +kernel) rfl
theorem k_649 : Cond.methodLink "CodeListerModel" 103 ⟨"CodeListerModel", "here", "(I)Z"⟩ ∈ lw_g := lg_i (i := 677) (by decide +kernel) rfl
theorem k_650 : Cond.privateMethod ⟨"CodeListerModel", "here", "(I)Z"⟩ ∈ lw_tbl := List.mem_of_getElem? (i := 678) (by decide +kernel)
theorem k_651 : Cond.instanceMethod ⟨"CodeListerModel", "here", "(I)Z"⟩ ∈ lw_g := lg_i (i := 679) (by decide +kernel) rfl
theorem k_652 : Cond.code ⟨"CodeListerModel", "here", "(I)Z"⟩ prog_8_method_31_code 3 (some .boolean) ∈ lw_g := lg_i (i := 680) (by decide +kernel) rfl
theorem k_653 : Cond.methodLink "CodeListerModel" 100 ⟨"CodeListerModel", "begins", "(I)Z"⟩ ∈ lw_g := lg_i (i := 681) (by decide +kernel) rfl
theorem k_654 : Cond.privateMethod ⟨"CodeListerModel", "begins", "(I)Z"⟩ ∈ lw_tbl := List.mem_of_getElem? (i := 682) (by decide +kernel)
theorem k_655 : Cond.instanceMethod ⟨"CodeListerModel", "begins", "(I)Z"⟩ ∈ lw_g := lg_i (i := 683) (by decide +kernel) rfl
theorem k_656 : Cond.code ⟨"CodeListerModel", "begins", "(I)Z"⟩ prog_8_method_30_code 3 (some .boolean) ∈ lw_g := lg_i (i := 684) (by decide +kernel) rfl
theorem k_657 : Cond.constant "CodeListerModel" 106 (204800 : Int32) ∈ lw_g := lg_i (i := 685) (by decide +kernel) rfl
theorem k_658 : Cond.constant "CodeListerModel" 107 (65535 : Int32) ∈ lw_g := lg_i (i := 686) (by decide +kernel) rfl
theorem k_659 : Cond.methodLink "CodeListerLaw" 85 ⟨"CodeListerModel", "made", "(I)I"⟩ ∈ lw_g := lg_i (i := 687) (by decide +kernel) rfl
theorem k_660 : Cond.instanceMethod ⟨"CodeListerModel", "made", "(I)I"⟩ ∈ lw_g := lg_i (i := 688) (by decide +kernel) rfl
theorem k_661 : Cond.selects "CodeListerModel" ⟨"CodeListerModel", "made", "(I)I"⟩ ⟨"CodeListerModel", "made", "(I)I"⟩ ∈ lw_g := lg_i (i := 689) (by decide +kernel) rfl
theorem k_662 : Cond.code ⟨"CodeListerModel", "made", "(I)I"⟩ prog_8_method_34_code 2 (some .int) ∈ lw_g := lg_i (i := 690) (by decide +kernel) rfl
theorem k_663 : Cond.fieldLink "java/lang/String" 9 "java/lang/String" "value" "[B" ∈ lw_g := lg_i (i := 691) (by decide +kernel) rfl
theorem k_664 : Cond.fieldLink "java/lang/String" 15 "java/lang/String" "coder" "B" ∈ lw_g := lg_i (i := 692) (by decide +kernel) rfl
end
section
def bI (b : Bool) : Int32 := if b then 1 else 0
def iI (z : Int) : Int32 := Int32.ofInt z
def oI (o : Option Nat) : Int32 := match o with
  | none => iI (-1)
  | some k => nI k
def updN (f : Nat → Nat) (k v : Nat) : Nat → Nat := fun i => if i = k then v else f i
def updB (f : Nat → Bool) (k : Nat) (v : Bool) : Nat → Bool := fun i => if i = k then v else f i
def iN (b : Nat → Nat) : Nat → Int32 := fun i => nI (b i)
def zN (b : Nat → Bool) : Nat → Int32 := fun i => bI (b i)
theorem iN_upd (b : Nat → Nat) (k v : Nat) : upd (iN b) k (nI v) = iN (updN b k v) := by
  funext i
  by_cases h : i = k
  · simp [upd, iN, updN, h]
  · simp [upd, iN, updN, h]
theorem zN_upd (b : Nat → Bool) (k : Nat) (v : Bool) : upd (zN b) k (bI v) = zN (updB b k v) := by
  funext i
  by_cases h : i = k
  · simp [upd, zN, updB, h]
  · simp [upd, zN, updB, h]
theorem nI_iI (n : Nat) : nI n = iI (n : Int) := (Int32.ofInt_eq_ofNat).symm
theorem iI_self (x : Int32) : x = iI x.toInt := (Int32.ofInt_toInt x).symm
theorem iI_toInt {z : Int} (h1 : -2147483648 ≤ z) (h2 : z < 2147483648) : (iI z).toInt = z := by
  exact Int32.toInt_ofInt_of_le (by omega) (by omega)
theorem iI_add (a b : Int) : iI a + iI b = iI (a + b) := (Int32.ofInt_add a b).symm
theorem iI_sub (a b : Int) : iI a - iI b = iI (a - b) := (Int32.ofInt_sub a b).symm
theorem iI_mul (a b : Int) : iI a * iI b = iI (a * b) := (Int32.ofInt_mul a b).symm
theorem iI_neg (a : Int) : - iI a = iI (-a) := (Int32.ofInt_neg a).symm
theorem nI_sub {a b : Nat} (h : b ≤ a) : nI a - nI b = nI (a - b) := pk_sub h
theorem nI_mul (a b : Nat) : nI a * nI b = nI (a * b) := pk_mul a b
theorem ziff_eq {x y : Int32} : x = y ↔ x.toInt = y.toInt := Int32.toInt_inj.symm
theorem ziff_lt {x y : Int32} : x < y ↔ x.toInt < y.toInt := Int32.lt_iff_toInt_lt
theorem ziff_le {x y : Int32} : x ≤ y ↔ x.toInt ≤ y.toInt := Int32.le_iff_toInt_le
theorem zif0_eq {x : Int32} : x = 0 ↔ x.toInt = 0 := by rw [ziff_eq, Int32.toInt_zero]
theorem zif0_lt {x : Int32} : x < 0 ↔ x.toInt < 0 := by rw [ziff_lt, Int32.toInt_zero]
theorem zif0_gt {x : Int32} : 0 < x ↔ 0 < x.toInt := by rw [ziff_lt, Int32.toInt_zero]
theorem zif0_le {x : Int32} : x ≤ 0 ↔ x.toInt ≤ 0 := by rw [ziff_le, Int32.toInt_zero]
theorem zif0_ge {x : Int32} : 0 ≤ x ↔ 0 ≤ x.toInt := by rw [ziff_le, Int32.toInt_zero]
theorem bI_eq {b : Bool} (h : bI b = 0) : b = false := by cases b with
  | false => rfl
  | true => exact absurd h (by decide)
theorem bI_ne {b : Bool} (h : ¬ bI b = 0) : b = true := by cases b with
  | false => exact absurd rfl h
  | true => rfl
theorem nI_inc1 (a : Nat) : nI a + Int32.ofInt 1 = nI (a + 1) := nI_add a 1
theorem nI_inc3 (a : Nat) : nI a + Int32.ofInt 3 = nI (a + 3) := nI_add a 3
theorem bI_nar (b : Bool) : vp_nar .boolean (bI b) = bI b := by cases b <;> rfl
theorem bI_narrow (b : Bool) : narrow .boolean (.int (bI b)) = .int (bI b) := by cases b <;> rfl
theorem bI_fits (b : Bool) : fits .boolean (.int (bI b)) = true := by cases b <;> rfl
theorem tI_n {n : Nat} (h : n < 2147483648) : (nI n).toInt = (n : Int) := nI_toInt h
theorem clp {n : Nat} (h : n < 2147483648) : (nI n).toNatClampNeg = n := nI_clamp h
theorem vp_same {cA : ClassId} {n : Nat} {f g : Nat → Int32} (h : ∀ i, i < n → f i = g i) : vp_cell cA (n, .inl f) = vp_cell cA (n, .inl g) := by
  rw [vp_cell_i, vp_cell_i]
  unfold arrV
  have e : (fun j : Fin n => Value.int (f j.val)) = fun j => Value.int (g j.val) := by
    funext j
    rw [h j.val j.isLt]
  rw [e]
/-- what an array holds beyond its length says nothing -/
theorem va_P.chg {D : va_G} {cl : List vw_C} {ws w1 : va_W} {H : Heap} {a n : Nat} {cA : ClassId} {f g : Nat → Int32} (hP : va_P D cl ws H) (q0 : Nat) (ha : ws[q0]? = some (a, .inl (cA, n, .inl f))) (h : ∀ i, i < n → f i = g i) (hw : ws.set q0 (a, .inl (cA, n, .inl g)) = w1) : va_P D cl w1 H := by
  subst hw
  intro k q hk
  by_cases e : k = q0
  · subst e
    have hlt : k < ws.length := (List.getElem?_eq_some_iff.mp ha).1
    rw [List.getElem?_set_self hlt] at hk
    cases hk
    have h1 := hP k _ ha
    show H[a]? = some (vp_cell cA (n, .inl g))
    rw [← vp_same h]
    exact h1
  · rw [List.getElem?_set_ne (Ne.symm e)] at hk
    exact hP k q hk
theorem va_D.chg {A : Nat → Prop} {ws w1 : va_W} {a : Nat} {x y : va_E} (hD : va_D A ws) (q0 : Nat) (ha : ws[q0]? = some (a, x)) (hw : ws.set q0 (a, y) = w1) : va_D A w1 := by
  subst hw
  exact hD.set ha
theorem vin {n N : Nat} (h : n < N) (hN : N < 2147483648) : vp_in (nI n) N := vp_in_nI h hN

section Base1
variable {p : Program} {l : Launch} {e : Env} {R : Room} {s : State} {m : MethodId} {args : Array Value} {below : List Frame} {meth : Method} {c : Code} {H : Heap} {locs : List Loc} {cells slots : Nat} {Q : State → Prop} {pc : Nat} {ls : Array Slot} {rest : List Value} {cc : ByteArray}
theorem eqi {x y : Int32} (h : x = y) (k : W p l e R s m args below meth c H locs cells slots Q (F0 m pc ls (.int y :: rest))) : W p l e R s m args below meth c H locs cells slots Q (F0 m pc ls (.int x :: rest)) := by
  subst h
  exact k
theorem eqi2 {x y : Int32} {v : Value} (h : x = y) (k : W p l e R s m args below meth c H locs cells slots Q (F0 m pc ls (v :: .int y :: rest))) : W p l e R s m args below meth c H locs cells slots Q (F0 m pc ls (v :: .int x :: rest)) := by
  subst h
  exact k
theorem nAdd (hx : p.tables.exec = Jvm.exec) (hb : c.code = cc) {a b : Nat} (hd : decode cc pc = .ok (.iadd, 1)) (k : W p l e R s m args below meth c H locs cells slots Q (F0 m (pc + 1) ls (.int (nI (a + b)) :: rest))) : W p l e R s m args below meth c H locs cells slots Q (F0 m pc ls (.int (nI b) :: .int (nI a) :: rest)) := lv_iadd hx hb hd (eqi (nI_add a b) k)
theorem nMul (hx : p.tables.exec = Jvm.exec) (hb : c.code = cc) {a b : Nat} (hd : decode cc pc = .ok (.imul, 1)) (k : W p l e R s m args below meth c H locs cells slots Q (F0 m (pc + 1) ls (.int (nI (a * b)) :: rest))) : W p l e R s m args below meth c H locs cells slots Q (F0 m pc ls (.int (nI b) :: .int (nI a) :: rest)) := lv_imul hx hb hd (eqi (nI_mul a b) k)
theorem nSub (hx : p.tables.exec = Jvm.exec) (hb : c.code = cc) {a b : Nat} (hd : decode cc pc = .ok (.isub, 1)) (h : b ≤ a) (k : W p l e R s m args below meth c H locs cells slots Q (F0 m (pc + 1) ls (.int (nI (a - b)) :: rest))) : W p l e R s m args below meth c H locs cells slots Q (F0 m pc ls (.int (nI b) :: .int (nI a) :: rest)) := lv_isub hx hb hd (eqi (nI_sub h) k)
theorem zAdd (hx : p.tables.exec = Jvm.exec) (hb : c.code = cc) {x y : Int32} {a b : Int} (hd : decode cc pc = .ok (.iadd, 1)) (h1 : x = iI a) (h2 : y = iI b) (k : W p l e R s m args below meth c H locs cells slots Q (F0 m (pc + 1) ls (.int (iI (a + b)) :: rest))) : W p l e R s m args below meth c H locs cells slots Q (F0 m pc ls (.int y :: .int x :: rest)) := by
  subst h1 h2
  exact lv_iadd hx hb hd (eqi (iI_add a b) k)
theorem zSub (hx : p.tables.exec = Jvm.exec) (hb : c.code = cc) {x y : Int32} {a b : Int} (hd : decode cc pc = .ok (.isub, 1)) (h1 : x = iI a) (h2 : y = iI b) (k : W p l e R s m args below meth c H locs cells slots Q (F0 m (pc + 1) ls (.int (iI (a - b)) :: rest))) : W p l e R s m args below meth c H locs cells slots Q (F0 m pc ls (.int y :: .int x :: rest)) := by
  subst h1 h2
  exact lv_isub hx hb hd (eqi (iI_sub a b) k)
theorem zMul (hx : p.tables.exec = Jvm.exec) (hb : c.code = cc) {x y : Int32} {a b : Int} (hd : decode cc pc = .ok (.imul, 1)) (h1 : x = iI a) (h2 : y = iI b) (k : W p l e R s m args below meth c H locs cells slots Q (F0 m (pc + 1) ls (.int (iI (a * b)) :: rest))) : W p l e R s m args below meth c H locs cells slots Q (F0 m pc ls (.int y :: .int x :: rest)) := by
  subst h1 h2
  exact lv_imul hx hb hd (eqi (iI_mul a b) k)
theorem zNeg (hx : p.tables.exec = Jvm.exec) (hb : c.code = cc) {a : Int} (hd : decode cc pc = .ok (.ineg, 1)) (k : W p l e R s m args below meth c H locs cells slots Q (F0 m (pc + 1) ls (.int (iI (-a)) :: rest))) : W p l e R s m args below meth c H locs cells slots Q (F0 m pc ls (.int (iI a) :: rest)) := lv_ineg hx hb hd (eqi (iI_neg a) k)
theorem z_icmp_eq (hx : p.tables.exec = Jvm.exec) (hb : c.code = cc) {x y : Int32} {a b : Int} {off : Int} {tgt : Nat} (hd : decode cc pc = .ok (.if_icmp .eq off, 3)) (h1 : x.toInt = a) (h2 : y.toInt = b) (ht : (pc : Int) + off = (tgt : Int)) (kt : a = b → W p l e R s m args below meth c H locs cells slots Q (F0 m tgt ls rest)) (kf : a ≠ b → W p l e R s m args below meth c H locs cells slots Q (F0 m (pc + 3) ls rest)) : W p l e R s m args below meth c H locs cells slots Q (F0 m pc ls (.int y :: .int x :: rest)) := by
  subst h1 h2
  exact lv_icmp_eq hx hb hd ht (fun h => kt (ziff_eq.mp h)) (fun h => kf (fun q => h (ziff_eq.mpr q)))
theorem z_if_eq (hx : p.tables.exec = Jvm.exec) (hb : c.code = cc) {x : Int32} {a : Int} {off : Int} {tgt : Nat} (hd : decode cc pc = .ok (.ifCond .eq off, 3)) (h1 : x.toInt = a) (ht : (pc : Int) + off = (tgt : Int)) (kt : a = 0 → W p l e R s m args below meth c H locs cells slots Q (F0 m tgt ls rest)) (kf : a ≠ 0 → W p l e R s m args below meth c H locs cells slots Q (F0 m (pc + 3) ls rest)) : W p l e R s m args below meth c H locs cells slots Q (F0 m pc ls (.int x :: rest)) := by
  subst h1
  exact lv_if_eq hx hb hd ht (fun h => kt (zif0_eq.mp h)) (fun h => kf (fun q => h (zif0_eq.mpr q)))
theorem z_icmp_ne (hx : p.tables.exec = Jvm.exec) (hb : c.code = cc) {x y : Int32} {a b : Int} {off : Int} {tgt : Nat} (hd : decode cc pc = .ok (.if_icmp .ne off, 3)) (h1 : x.toInt = a) (h2 : y.toInt = b) (ht : (pc : Int) + off = (tgt : Int)) (kt : a ≠ b → W p l e R s m args below meth c H locs cells slots Q (F0 m tgt ls rest)) (kf : a = b → W p l e R s m args below meth c H locs cells slots Q (F0 m (pc + 3) ls rest)) : W p l e R s m args below meth c H locs cells slots Q (F0 m pc ls (.int y :: .int x :: rest)) := by
  subst h1 h2
  exact lv_icmp_ne hx hb hd ht (fun h => kt (fun q => h (ziff_eq.mpr q))) (fun h => kf (ziff_eq.mp h))
theorem z_if_ne (hx : p.tables.exec = Jvm.exec) (hb : c.code = cc) {x : Int32} {a : Int} {off : Int} {tgt : Nat} (hd : decode cc pc = .ok (.ifCond .ne off, 3)) (h1 : x.toInt = a) (ht : (pc : Int) + off = (tgt : Int)) (kt : a ≠ 0 → W p l e R s m args below meth c H locs cells slots Q (F0 m tgt ls rest)) (kf : a = 0 → W p l e R s m args below meth c H locs cells slots Q (F0 m (pc + 3) ls rest)) : W p l e R s m args below meth c H locs cells slots Q (F0 m pc ls (.int x :: rest)) := by
  subst h1
  exact lv_if_ne hx hb hd ht (fun h => kt (fun q => h (zif0_eq.mpr q))) (fun h => kf (zif0_eq.mp h))
theorem z_icmp_lt (hx : p.tables.exec = Jvm.exec) (hb : c.code = cc) {x y : Int32} {a b : Int} {off : Int} {tgt : Nat} (hd : decode cc pc = .ok (.if_icmp .lt off, 3)) (h1 : x.toInt = a) (h2 : y.toInt = b) (ht : (pc : Int) + off = (tgt : Int)) (kt : a < b → W p l e R s m args below meth c H locs cells slots Q (F0 m tgt ls rest)) (kf : b ≤ a → W p l e R s m args below meth c H locs cells slots Q (F0 m (pc + 3) ls rest)) : W p l e R s m args below meth c H locs cells slots Q (F0 m pc ls (.int y :: .int x :: rest)) := by
  subst h1 h2
  exact lv_icmp_lt hx hb hd ht (fun h => kt (ziff_lt.mp h)) (fun h => kf (Int.not_lt.mp (fun q => h (ziff_lt.mpr q))))
theorem z_if_lt (hx : p.tables.exec = Jvm.exec) (hb : c.code = cc) {x : Int32} {a : Int} {off : Int} {tgt : Nat} (hd : decode cc pc = .ok (.ifCond .lt off, 3)) (h1 : x.toInt = a) (ht : (pc : Int) + off = (tgt : Int)) (kt : a < 0 → W p l e R s m args below meth c H locs cells slots Q (F0 m tgt ls rest)) (kf : 0 ≤ a → W p l e R s m args below meth c H locs cells slots Q (F0 m (pc + 3) ls rest)) : W p l e R s m args below meth c H locs cells slots Q (F0 m pc ls (.int x :: rest)) := by
  subst h1
  exact lv_if_lt hx hb hd ht (fun h => kt (zif0_lt.mp h)) (fun h => kf (Int.not_lt.mp (fun q => h (zif0_lt.mpr q))))
theorem z_icmp_ge (hx : p.tables.exec = Jvm.exec) (hb : c.code = cc) {x y : Int32} {a b : Int} {off : Int} {tgt : Nat} (hd : decode cc pc = .ok (.if_icmp .ge off, 3)) (h1 : x.toInt = a) (h2 : y.toInt = b) (ht : (pc : Int) + off = (tgt : Int)) (kt : b ≤ a → W p l e R s m args below meth c H locs cells slots Q (F0 m tgt ls rest)) (kf : a < b → W p l e R s m args below meth c H locs cells slots Q (F0 m (pc + 3) ls rest)) : W p l e R s m args below meth c H locs cells slots Q (F0 m pc ls (.int y :: .int x :: rest)) := by
  subst h1 h2
  exact lv_icmp_ge hx hb hd ht (fun h => kt (ziff_le.mp h)) (fun h => kf (Int.not_le.mp (fun q => h (ziff_le.mpr q))))
theorem z_if_ge (hx : p.tables.exec = Jvm.exec) (hb : c.code = cc) {x : Int32} {a : Int} {off : Int} {tgt : Nat} (hd : decode cc pc = .ok (.ifCond .ge off, 3)) (h1 : x.toInt = a) (ht : (pc : Int) + off = (tgt : Int)) (kt : 0 ≤ a → W p l e R s m args below meth c H locs cells slots Q (F0 m tgt ls rest)) (kf : a < 0 → W p l e R s m args below meth c H locs cells slots Q (F0 m (pc + 3) ls rest)) : W p l e R s m args below meth c H locs cells slots Q (F0 m pc ls (.int x :: rest)) := by
  subst h1
  exact lv_if_ge hx hb hd ht (fun h => kt (zif0_ge.mp h)) (fun h => kf (Int.not_le.mp (fun q => h (zif0_ge.mpr q))))
theorem z_icmp_gt (hx : p.tables.exec = Jvm.exec) (hb : c.code = cc) {x y : Int32} {a b : Int} {off : Int} {tgt : Nat} (hd : decode cc pc = .ok (.if_icmp .gt off, 3)) (h1 : x.toInt = a) (h2 : y.toInt = b) (ht : (pc : Int) + off = (tgt : Int)) (kt : b < a → W p l e R s m args below meth c H locs cells slots Q (F0 m tgt ls rest)) (kf : a ≤ b → W p l e R s m args below meth c H locs cells slots Q (F0 m (pc + 3) ls rest)) : W p l e R s m args below meth c H locs cells slots Q (F0 m pc ls (.int y :: .int x :: rest)) := by
  subst h1 h2
  exact lv_icmp_gt hx hb hd ht (fun h => kt (ziff_lt.mp h)) (fun h => kf (Int.not_lt.mp (fun q => h (ziff_lt.mpr q))))
theorem z_if_gt (hx : p.tables.exec = Jvm.exec) (hb : c.code = cc) {x : Int32} {a : Int} {off : Int} {tgt : Nat} (hd : decode cc pc = .ok (.ifCond .gt off, 3)) (h1 : x.toInt = a) (ht : (pc : Int) + off = (tgt : Int)) (kt : 0 < a → W p l e R s m args below meth c H locs cells slots Q (F0 m tgt ls rest)) (kf : a ≤ 0 → W p l e R s m args below meth c H locs cells slots Q (F0 m (pc + 3) ls rest)) : W p l e R s m args below meth c H locs cells slots Q (F0 m pc ls (.int x :: rest)) := by
  subst h1
  exact lv_if_gt hx hb hd ht (fun h => kt (zif0_gt.mp h)) (fun h => kf (Int.not_lt.mp (fun q => h (zif0_gt.mpr q))))
theorem z_icmp_le (hx : p.tables.exec = Jvm.exec) (hb : c.code = cc) {x y : Int32} {a b : Int} {off : Int} {tgt : Nat} (hd : decode cc pc = .ok (.if_icmp .le off, 3)) (h1 : x.toInt = a) (h2 : y.toInt = b) (ht : (pc : Int) + off = (tgt : Int)) (kt : a ≤ b → W p l e R s m args below meth c H locs cells slots Q (F0 m tgt ls rest)) (kf : b < a → W p l e R s m args below meth c H locs cells slots Q (F0 m (pc + 3) ls rest)) : W p l e R s m args below meth c H locs cells slots Q (F0 m pc ls (.int y :: .int x :: rest)) := by
  subst h1 h2
  exact lv_icmp_le hx hb hd ht (fun h => kt (ziff_le.mp h)) (fun h => kf (Int.not_le.mp (fun q => h (ziff_le.mpr q))))
theorem z_if_le (hx : p.tables.exec = Jvm.exec) (hb : c.code = cc) {x : Int32} {a : Int} {off : Int} {tgt : Nat} (hd : decode cc pc = .ok (.ifCond .le off, 3)) (h1 : x.toInt = a) (ht : (pc : Int) + off = (tgt : Int)) (kt : a ≤ 0 → W p l e R s m args below meth c H locs cells slots Q (F0 m tgt ls rest)) (kf : 0 < a → W p l e R s m args below meth c H locs cells slots Q (F0 m (pc + 3) ls rest)) : W p l e R s m args below meth c H locs cells slots Q (F0 m pc ls (.int x :: rest)) := by
  subst h1
  exact lv_if_le hx hb hd ht (fun h => kt (zif0_le.mp h)) (fun h => kf (Int.not_le.mp (fun q => h (zif0_le.mpr q))))
theorem b_if_eq (hx : p.tables.exec = Jvm.exec) (hb : c.code = cc) {b : Bool} {off : Int} {tgt : Nat} (hd : decode cc pc = .ok (.ifCond .eq off, 3)) (ht : (pc : Int) + off = (tgt : Int)) (kt : b = false → W p l e R s m args below meth c H locs cells slots Q (F0 m tgt ls rest)) (kf : b = true → W p l e R s m args below meth c H locs cells slots Q (F0 m (pc + 3) ls rest)) : W p l e R s m args below meth c H locs cells slots Q (F0 m pc ls (.int (bI b) :: rest)) := lv_if_eq hx hb hd ht (fun h => kt (bI_eq h)) (fun h => kf (bI_ne h))
theorem b_if_ne (hx : p.tables.exec = Jvm.exec) (hb : c.code = cc) {b : Bool} {off : Int} {tgt : Nat} (hd : decode cc pc = .ok (.ifCond .ne off, 3)) (ht : (pc : Int) + off = (tgt : Int)) (kt : b = true → W p l e R s m args below meth c H locs cells slots Q (F0 m tgt ls rest)) (kf : b = false → W p l e R s m args below meth c H locs cells slots Q (F0 m (pc + 3) ls rest)) : W p l e R s m args below meth c H locs cells slots Q (F0 m pc ls (.int (bI b) :: rest)) := lv_if_ne hx hb hd ht (fun h => kt (bI_ne h)) (fun h => kf (bI_eq h))
theorem stk {st1 st2 : List Value} (h : st1 = st2) (k : W p l e R s m args below meth c H locs cells slots Q (F0 m pc ls st2)) : W p l e R s m args below meth c H locs cells slots Q (F0 m pc ls st1) := by
  subst h
  exact k
theorem nDiv (hx : p.tables.exec = Jvm.exec) (hb : c.code = cc) {a b : Nat} (hd : decode cc pc = .ok (.idiv, 1)) (h0 : 0 < b) (ha : a < 2147483648) (h2 : b < 2147483648) (k : W p l e R s m args below meth c H locs cells slots Q (F0 m (pc + 1) ls (.int (nI (a / b)) :: rest))) : W p l e R s m args below meth c H locs cells slots Q (F0 m pc ls (.int (nI b) :: .int (nI a) :: rest)) := lv_idiv hx hb hd (nI_ne0 h0 h2) (eqi (pk_div ha h0 h2) k)
theorem nRem (hx : p.tables.exec = Jvm.exec) (hb : c.code = cc) {a b : Nat} (hd : decode cc pc = .ok (.irem, 1)) (h0 : 0 < b) (ha : a < 2147483648) (h2 : b < 2147483648) (k : W p l e R s m args below meth c H locs cells slots Q (F0 m (pc + 1) ls (.int (nI (a % b)) :: rest))) : W p l e R s m args below meth c H locs cells slots Q (F0 m pc ls (.int (nI b) :: .int (nI a) :: rest)) := lv_irem hx hb hd (nI_ne0 h0 h2) (eqi (pk_rem ha h0 h2) k)
end Base1
end
section
def kF (k : Nat) : Nat := [0, 1, 2, 16, 32, 48, 64, 80, 81, 82, 96, 112, 116, 0].getD k 0
def kR (k : Nat) : Nat := [0, 0, 0, 1, 1, 2, 2, 0, 0, 1, 1, 1, 1, 0].getD k 0
def kN (k : Nat) : Nat := [0, 0, 0, 0, 1, 0, 0, 3, 3, 3, 2, 3, 3, 1].getD k 0
def lenK : List Nat := [3, 4, 3, 4, 4, 4, 4, 4, 5, 3, 4, 3, 3, 6]
def bytK : List (List Int32) := [[78, 79, 80], [72, 65, 76, 84], [82, 69, 84], [73, 78, 67, 32], [76, 68, 73, 32], [77, 79, 86, 32], [65, 68, 68, 32], [74, 77, 80, 32], [67, 65, 76, 76, 32], [74, 90, 32], [66, 78, 90, 32], [76, 68, 32], [83, 84, 32], [46, 98, 121, 116, 101, 32]]
def opT : List (List Nat) := [[78, 79, 80], [72, 65, 76, 84], [82, 69, 84], [73, 78, 67, 32], [76, 68, 73, 32], [77, 79, 86, 32], [65, 68, 68, 32], [74, 77, 80, 32], [67, 65, 76, 76, 32], [74, 90, 32], [66, 78, 90, 32], [76, 68, 32], [83, 84, 32], [46, 98, 121, 116, 101, 32]]
def opL (k : Nat) : List Nat := opT.getD k []
def idxK (i : Nat) : Nat := [22, 24, 26, 28, 30, 32, 34, 36, 38, 40, 42, 44, 46, 48].getD i 0
def txK (i : Nat) : String := ["NOP", "HALT", "RET", "INC ", "LDI ", "MOV ", "ADD ", "JMP ", "CALL ", "JZ ", "BNZ ", "LD ", "ST ", ".byte "].getD i ""
abbrev zT : Type := Nat × Nat × Nat × (Nat → Nat) × (Nat → Nat)
def SS (z : zT) (A : Nat → Prop) (U : State) (H : Heap) : Prop :=
  (va_Z "CodeLister$Kinds" "FIRST" "[I" (.ref z.1) A U H ∧ va_T .int z.1 14 (fun j => .int (nI (kF j))) A U H) ∧
  (va_Z "CodeLister$Kinds" "REGISTERS" "[I" (.ref z.2.1) A U H ∧ va_T .int z.2.1 14 (fun j => .int (nI (kR j))) A U H) ∧
  (va_Z "CodeLister$Kinds" "NUMBER" "[I" (.ref z.2.2.1) A U H ∧ va_T .int z.2.2.1 14 (fun j => .int (nI (kN j))) A U H) ∧
  va_Z "java/lang/String" "COMPACT_STRINGS" "Z" (.int 1) A U H ∧
  va_Zq "jdk/internal/util/Preconditions" "SIOOBE_FORMATTER" "Ljava/util/function/BiFunction;" A U H ∧
  vk_S 14 lenK bytK z.2.2.2.1 z.2.2.2.2 A U H ∧ ∀ i, i < 14 → vk_R "CodeLister$Kinds" (idxK i) (txK i) (z.2.2.2.1 i) U
theorem SS.to {z : zT} {A B : Nat → Prop} {s U : State} {H : Heap} {locs : List Loc} (h : SS z A s s.heap) (hS : va_S A s.heap H locs) (hB : ∀ q, B q → A q) (hU : U.heap = H) (hW : s.WarmedH U.vm) : SS z B U U.heap := by
  obtain ⟨⟨a1, a2⟩, ⟨b1, b2⟩, ⟨c1, c2⟩, d, d2, e, f⟩ := h
  have hm := hW.alike
  have k := hS.2.1
  rw [hU]
  exact ⟨⟨(va_Z.moved hm (a1.kept k)).narrow hB, (va_T.moved hm (a2.kept k)).narrow hB⟩, ⟨(va_Z.moved hm (b1.kept k)).narrow hB, (va_T.moved hm (b2.kept k)).narrow hB⟩, ⟨(va_Z.moved hm (c1.kept k)).narrow hB, (va_T.moved hm (c2.kept k)).narrow hB⟩, (va_Z.moved hm (d.kept k)).narrow hB, (va_Zq.moved hm (d2.kept k)).narrow hB, (vk_S.moved hm (e.kept k)).narrow hB, fun i hi => vk_R.warm hW (f i hi)⟩
theorem SS.calling {z : zT} {A : Nat → Prop} {U : State} (g : JFrame) (mk : MethodId) (a : Array Value) (h : SS z A U U.heap) : SS z A (U.calling g mk a) (U.calling g mk a).heap := by
  obtain ⟨⟨a1, a2⟩, ⟨b1, b2⟩, ⟨c1, c2⟩, d, d2, e, f⟩ := h
  have hm : U.vm.Alike (U.calling g mk a).vm := Vm.Alike.refl U.vm
  exact ⟨⟨va_Z.moved hm a1, va_T.moved hm a2⟩, ⟨va_Z.moved hm b1, va_T.moved hm b2⟩, ⟨va_Z.moved hm c1, va_T.moved hm c2⟩, va_Z.moved hm d, va_Zq.moved hm d2, vk_S.moved hm e, fun i hi => vk_R.same rfl (f i hi)⟩
abbrev rmq (f lo : Nat) : Room := { frames := f, cells := 0, slots := 0, locals := lo }
abbrev tyL : Type := List (ClassId × FieldType)
def PR (D : va_G) (z : zT) (ws : va_W) (tys : tyL) (U : State) : Prop := va_P D classes ws U.heap ∧ va_K D classes tys U ∧ SS z (fun _ => False) U U.heap
def PU (D : va_G) (z : zT) (ws : va_W) (tys : tyL) (sz : Nat) (U : State) : Prop := U.heap.size = sz ∧ va_P D classes ws U.heap ∧ va_K D classes tys U ∧ va_D (fun _ => True) ws ∧ SS z (va_A ws sz) U U.heap
/-- a method that reads: its answer is v, the heap stays -/
def MR (l : Launch) (y : MethodName) (bytes : ByteArray) (maxL : Nat) (ret : Option FieldType) (f lo : Nat) (D : va_G) (z : zT) (av : List Value) (ws : va_W) (tys : tyL) (v : Value) : Prop :=
  Met l y (Cond.code y bytes maxL ret :: lw_g) (rmq f lo) (va_Pc av (PR D z ws tys)) (k2_QcV v) 0 0 (fun _ => False)
/-- a method that changes its world ws into w1 and answers v (none: void); it makes nothing -/
def qcU (v : Option Value) (D : va_G) (w1 : va_W) (A : Nat → Prop) : Array Value → State → Outcome → State → Prop := fun _ st oc t => (oc = .returned v ∧ va_P D classes w1 t.heap ∧ va_D A w1) ∧ va_F A st t
def MU (l : Launch) (y : MethodName) (bytes : ByteArray) (maxL : Nat) (ret : Option FieldType) (f lo : Nat) (D : va_G) (z : zT) (av : List Value) (ws : va_W) (tys : tyL) (sz : Nat) (v : Option Value) (w1 : va_W) : Prop :=
  Met l y (Cond.code y bytes maxL ret :: lw_g) (rmq f lo) (va_Pc av (PU D z ws tys sz)) (qcU v D w1 (va_A ws sz)) 0 0 (va_A ws sz)
/-- what the tables say of a method that is called by invokevirtual, and of a static one -/
def YV (y : MethodName) (bytes : ByteArray) (maxL : Nat) (ret : Option FieldType) (n : Nat) : Prop := Cond.code y bytes maxL ret ∈ lw_g ∧ Cond.initialized y.cls ∈ lw_g ∧ Cond.instanceMethod y ∈ lw_g ∧ Cond.selects y.cls y y ∈ lw_g ∧ y.cls ≠ "java/lang/invoke/MethodHandle" ∧ y.cls ≠ "java/lang/invoke/VarHandle" ∧ (parseMethodDescriptor y.desc).map (fun d => d.parameters.length) = some n
def YS (y : MethodName) (bytes : ByteArray) (maxL : Nat) (ret : Option FieldType) (n : Nat) : Prop := Cond.code y bytes maxL ret ∈ lw_g ∧ Cond.initialized y.cls ∈ lw_g ∧ Cond.static y ∈ lw_g ∧ y.cls ≠ "java/lang/invoke/MethodHandle" ∧ y.cls ≠ "java/lang/invoke/VarHandle" ∧ (parseMethodDescriptor y.desc).map (fun d => d.parameters.length) = some n
theorem good_tbl : ∀ w ∈ lw_g, goodWord w = true := fun _ h => (List.mem_filter.mp h).2
theorem gd {b : Cond} (hb : b ∈ lw_g) : GoodIn lw_g (b :: lw_g) := fun w hw => by
  rcases List.mem_cons.mp hw with rfl | h
  · exact ⟨hb, good_of_word (good_tbl _ hb)⟩
  · exact ⟨h, good_of_word (good_tbl _ h)⟩
theorem PR.calling {D : va_G} {z : zT} {ws : va_W} {tys : tyL} {av : List Value} : FrameBlind (va_Pc av (PR D z ws tys)) := fun a U g mk q => ⟨q.1, q.2.1, va_K.moved (u := U) (U := U.calling g mk a) (Vm.Alike.refl U.vm) q.2.2.1, q.2.2.2.calling g mk a⟩
theorem PU.calling {D : va_G} {z : zT} {ws : va_W} {tys : tyL} {sz : Nat} {av : List Value} : FrameBlind (va_Pc av (PU D z ws tys sz)) := fun a U g mk q => ⟨q.1, q.2.1, q.2.2.1, va_K.moved (u := U) (U := U.calling g mk a) (Vm.Alike.refl U.vm) q.2.2.2.1, q.2.2.2.2.1, q.2.2.2.2.2.calling g mk a⟩
section Base2
variable {l : Launch} {y : MethodName} {bytes : ByteArray} {maxL : Nat} {ret : Option FieldType} {f lo : Nat} {D : va_G} {z : zT} {av : List Value} {ws : va_W} {tys : tyL} {sz : Nat}
theorem metR {v : Value} (hy : plainName y.cls = true) (hn : (lg_sl av).length ≤ maxL)
    (body : ∀ (p : Program) (e : Env) (s : State) (m : MethodId) (below : List Frame) (meth : Method) (c : Code) (ls : Array Slot), p.tables.exec = Jvm.exec → c.code = bytes → meth.sig.returnType = ret → meth.locks = false → c.maxLocals = maxL → s.vm.findClass y.cls = some m.cls → (∀ w ∈ lw_g, w.before av.toArray s = true) → lv_has ls maxL (lv_args 0 av) → va_P D classes ws s.heap → va_K D classes tys s → SS z (fun _ => False) s s.heap →
      W p l e (rmq f lo) s m av.toArray below meth c s.heap [] 0 0 (MQ below (k2_QcV v) av.toArray s 0 0 (fun _ => False)) (F0 m 0 ls [])) : MR l y bytes maxL ret f lo D z av ws tys v := by
  refine Met.ofW (cc := bytes) (maxL := maxL) (ret := ret) hy rfl ?_
  intro p e s m args below meth c s₁ B hml hv
  obtain ⟨rfl, hP, hK, hSS⟩ := hv
  have hts := atoms_spec (ws := Cond.code y bytes maxL ret :: lw_g) B.pre
  have hl := lv_entry av (n := maxL) hn
  rw [lg_entry_eq]
  generalize (lg_sl av ++ List.replicate (maxL - (lg_sl av).length) Slot.unset).toArray = ls at hl ⊢
  exact body p e s m below meth c ls B.exec B.bytes B.returns B.notSynchronized hml (findClass_of_methodNamed B.named) (fun w hw => hts w (List.mem_cons_of_mem _ hw)) hl hP hK hSS
theorem metU {v : Option Value} {w1 : va_W} (hy : plainName y.cls = true) (hn : (lg_sl av).length ≤ maxL)
    (body : ∀ (p : Program) (e : Env) (s : State) (m : MethodId) (below : List Frame) (meth : Method) (c : Code) (ls : Array Slot) (A : Nat → Prop), p.tables.exec = Jvm.exec → c.code = bytes → meth.sig.returnType = ret → meth.locks = false → c.maxLocals = maxL → s.vm.findClass y.cls = some m.cls → (∀ w ∈ lw_g, w.before av.toArray s = true) → lv_has ls maxL (lv_args 0 av) → va_P D classes ws s.heap → va_K D classes tys s → SS z A s s.heap → va_D A ws → va_S A s.heap s.heap [] → (∀ q : Nat, s.heap.size ≤ q → A q) →
      W p l e (rmq f lo) s m av.toArray below meth c s.heap [] 0 0 (MQ below (qcU v D w1 A) av.toArray s 0 0 A) (F0 m 0 ls [])) : MU l y bytes maxL ret f lo D z av ws tys sz v w1 := by
  refine Met.ofW (cc := bytes) (maxL := maxL) (ret := ret) hy rfl ?_
  intro p e s m args below meth c s₁ B hml hv
  obtain ⟨rfl, rfl, hP, hK, hD, hSS⟩ := hv
  have hts := atoms_spec (ws := Cond.code y bytes maxL ret :: lw_g) B.pre
  have hl := lv_entry av (n := maxL) hn
  rw [lg_entry_eq]
  generalize (lg_sl av ++ List.replicate (maxL - (lg_sl av).length) Slot.unset).toArray = ls at hl ⊢
  exact body p e s m below meth c ls (va_A ws s.heap.size) B.exec B.bytes B.returns B.notSynchronized hml (findClass_of_methodNamed B.named) (fun w hw => hts w (List.mem_cons_of_mem _ hw)) hl hP hK hSS hD.self va_S.rf (fun q h => Or.inr h)
end Base2
section Base3
variable {p : Program} {l : Launch} {e : Env} {R : Room} {s : State} {m : MethodId} {args : Array Value} {below : List Frame} {meth : Method} {c : Code} {H : Heap} {locs : List Loc} {cells slots : Nat} {Q : State → Prop} {pc : Nat} {ls : Array Slot} {rest st0 : List Value}
variable {own : String} {index : Nat} {y : MethodName} {bytes cc : ByteArray} {maxL nL n : Nat} {ret : Option FieldType} {f lo : Nat} {D : va_G} {z : zT} {ws wc wr w1 : va_W} {tys tc : tyL} {b : Nat} {As : List Value} {A : Nat → Prop} {lv : List (Nat × Value)}
theorem rV {v : Value} {cn : vw_C} {fs : List Value} (hx : p.tables.exec = Jvm.exec) (hb : c.code = cc) (hml : c.maxLocals = nL) (hown : s.vm.findClass own = some m.cls) (ht : ∀ w ∈ lw_g, w.before args s = true)
    (hM : MR l y bytes maxL ret f lo D z (.ref b :: As) wc tc v) (hY : YV y bytes maxL ret n) (hlink : Cond.methodLink own index y ∈ lw_g)
    (hf : f + 1 ≤ R.frames) (hlo : 8 + (maxL + 11) + lo ≤ R.locals) (hP : va_P D classes ws H) (hK : va_K D classes tys s) (hSS : SS z A s s.heap) (hS : va_S A s.heap H locs)
    (isC isT : List Nat) (hC : isC.filterMap (fun i => ws[i]?) = wc) (hT : isT.filterMap (fun i => tys[i]?) = tc)
    (q0 ci : Nat) (hc : classes[ci]? = some cn) (hcn : cn.1 = y.cls) (he : ws[q0]? = some (b, .inr (ci, fs)))
    (hl : lv_has ls nL lv) (hn : As.length = n) (hst : st0 = As.reverse ++ .ref b :: rest) (hW : (rest.map fun v => v.category).sum ≤ 8) (hcl : cells ≤ R.cells) (hsl : slots ≤ R.slots)
    (hdg : decode cc pc = .ok (.invokevirtual index, 3))
    (kk : W p l e R s m args below meth c H locs cells slots Q (F0 m (pc + 3) ls (v :: rest))) : W p l e R s m args below meth c H locs cells slots Q (F0 m pc ls st0) := by
  obtain ⟨y1, y2, y3, y4, y5, y6, y7⟩ := hY
  refine W.callV (W.runV (As := As) (rest := rest) (b := b) (C := y.cls) ⟨hx, hb, hml, hown, ht⟩ hM ⟨callB_of n ht (gd y1) rfl rfl rfl (ht _ y2) (ht _ hlink) ⟨y5, y6, y7⟩ ⟨hf, hlo⟩, ht _ y3, ht _ y4⟩ ⟨PR.calling, by rw [← hcn]; exact va_recv hK hP hc he, ?_⟩ rfl hn hl.1 hst (lv_room hW) hdg ⟨hcl, hsl⟩) kk
  exact fun U hU hWm => ⟨rfl, by rw [hU]; exact hP.sub isC hC, va_K.moved hWm.alike (hK.sub isT hT), hSS.to hS (fun _ h => h.elim) hU hWm⟩
theorem rS {v : Value} (hx : p.tables.exec = Jvm.exec) (hb : c.code = cc) (hml : c.maxLocals = nL) (hown : s.vm.findClass own = some m.cls) (ht : ∀ w ∈ lw_g, w.before args s = true)
    (hM : MR l y bytes maxL ret f lo D z As wc tc v) (hY : YS y bytes maxL ret n) (hlink : Cond.methodLink own index y ∈ lw_g)
    (hf : f + 1 ≤ R.frames) (hlo : 8 + (maxL + 11) + lo ≤ R.locals) (hP : va_P D classes ws H) (hK : va_K D classes tys s) (hSS : SS z A s s.heap) (hS : va_S A s.heap H locs)
    (isC isT : List Nat) (hC : isC.filterMap (fun i => ws[i]?) = wc) (hT : isT.filterMap (fun i => tys[i]?) = tc)
    (hl : lv_has ls nL lv) (hn : As.length = n) (hst : st0 = As.reverse ++ rest) (hW : (rest.map fun v => v.category).sum ≤ 8) (hcl : cells ≤ R.cells) (hsl : slots ≤ R.slots)
    (hdg : decode cc pc = .ok (.invokestatic index, 3))
    (kk : W p l e R s m args below meth c H locs cells slots Q (F0 m (pc + 3) ls (v :: rest))) : W p l e R s m args below meth c H locs cells slots Q (F0 m pc ls st0) := by
  obtain ⟨y1, y2, y3, y5, y6, y7⟩ := hY
  refine W.callV (W.runS (As := As) (rest := rest) ⟨hx, hb, hml, hown, ht⟩ hM ⟨callB_of n ht (gd y1) rfl rfl rfl (ht _ y2) (ht _ hlink) ⟨y5, y6, y7⟩ ⟨hf, hlo⟩, ht _ y3⟩ ⟨PR.calling, ?_⟩ rfl hn hl.1 hst (lv_room hW) hdg ⟨hcl, hsl⟩) kk
  exact fun U hU hWm => ⟨rfl, by rw [hU]; exact hP.sub isC hC, va_K.moved hWm.alike (hK.sub isT hT), hSS.to hS (fun _ h => h.elim) hU hWm⟩
theorem callU {v : Option Value} {a : Array Value} {A1 : Nat → Prop} (hr : va_Run p l e R s m args below meth c H locs cells slots 0 0 (F0 m pc ls st0) rest (qcU v D w1 A1 a) A1) (hS : va_S A s.heap H locs) (hf : ∀ q, A1 q → A q)
    (kk : ∀ (H1 : Heap) (locs1 : List Loc), va_P D classes w1 H1 → va_D A1 w1 → (∀ q : Nat, q < H.size → ¬ A1 q → H1[q]? = H[q]?) → va_S A s.heap H1 locs1 → W p l e R s m args below meth c H1 locs1 cells slots Q (F0 m (pc + 3) ls (v.toList ++ rest))) : W p l e R s m args below meth c H locs cells slots Q (F0 m pc ls st0) := by
  intro T hT X
  obtain ⟨v', st₀, t, T', L, h0, X', hL, e1, e2, ⟨⟨hv, hp, hd⟩, hz, hk⟩, st⟩ := hr T hT X
  cases hv
  rw [h0] at hz hk
  obtain ⟨t2, a1, b1⟩ := kk T'.heap (locs ++ L) (by rw [e1]; exact hp) hd (fun q h1 h2 => by rw [e1]; exact hk q h1 h2)
    ⟨Nat.le_trans hS.1 (by rw [e1]; exact hz), fun q h1 h2 => by rw [e1, hk q (Nat.lt_of_lt_of_le h1 hS.1) (fun w => h2 (hf q w))]; exact hS.2.1 q h1 h2, fun q hq => by
      rcases List.mem_append.mp hq with h | h
      · exact hS.2.2 q h
      · exact hf _ (hL q h)⟩ T' rfl X'
  exact ⟨t2, st t2 a1, b1⟩
theorem uV {v : Option Value} {cn : vw_C} {fs : List Value} (hx : p.tables.exec = Jvm.exec) (hb : c.code = cc) (hml : c.maxLocals = nL) (hown : s.vm.findClass own = some m.cls) (ht : ∀ w ∈ lw_g, w.before args s = true)
    (hM : MU l y bytes maxL ret f lo D z (.ref b :: As) wc tc H.size v w1) (hY : YV y bytes maxL ret n) (hlink : Cond.methodLink own index y ∈ lw_g)
    (hf : f + 1 ≤ R.frames) (hlo : 8 + (maxL + 11) + lo ≤ R.locals) (hP : va_P D classes ws H) (hK : va_K D classes tys s) (hSS : SS z A s s.heap) (hD : va_D A ws) (hS : va_S A s.heap H locs) (hA : ∀ q : Nat, s.heap.size ≤ q → A q)
    (isC isR isT : List Nat) (hC : isC.map (fun i => ws[i]?) = wc.map some) (hC2 : isC.filterMap (fun i => ws[i]?) = wc) (hnC : va_nd isC = true) (hR : isR.map (fun i => ws[i]?) = wr.map some) (hnR : va_nd isR = true) (hdis : ∀ i ∈ isR, i ∉ isC) (hT : isT.filterMap (fun i => tys[i]?) = tc)
    (q0 ci : Nat) (hc : classes[ci]? = some cn) (hcn : cn.1 = y.cls) (he : ws[q0]? = some (b, .inr (ci, fs)))
    (hl : lv_has ls nL lv) (hn : As.length = n) (hst : st0 = As.reverse ++ .ref b :: rest) (hW : (rest.map fun v => v.category).sum ≤ 8) (hcl : cells ≤ R.cells) (hsl : slots ≤ R.slots)
    (hdg : decode cc pc = .ok (.invokevirtual index, 3))
    (kk : ∀ (H1 : Heap) (locs1 : List Loc), va_P D classes (wr ++ w1) H1 → va_D A (wr ++ w1) → va_S A s.heap H1 locs1 → W p l e R s m args below meth c H1 locs1 cells slots Q (F0 m (pc + 3) ls (v.toList ++ rest))) : W p l e R s m args below meth c H locs cells slots Q (F0 m pc ls st0) := by
  obtain ⟨y1, y2, y3, y4, y5, y6, y7⟩ := hY
  have hFc := va_free (wc := wc) hD hS hA isC hC
  have hDc : va_D A wc := hD.sub isC hnC hC
  refine callU (va_runV (As := As) (rest := rest) (b := b) (C := y.cls) ⟨hx, hb, hml, hown, ht⟩ hM ⟨callB_of n ht (gd y1) rfl rfl rfl (ht _ y2) (ht _ hlink) ⟨y5, y6, y7⟩ ⟨hf, hlo⟩, ht _ y3, ht _ y4⟩ ⟨PU.calling, by rw [← hcn]; exact va_recv hK hP hc he, ?_⟩ rfl hn hl.1 hst (lv_room hW) hdg ⟨hcl, hsl⟩) hS hFc (fun H1 locs1 hP1 hD1 hk1 hS1 => ?_)
  · exact fun U hU hWm => ⟨rfl, by rw [hU], by rw [hU]; exact hP.sub isC hC2, va_K.moved hWm.alike (hK.sub isT hT), hDc.weaken (fun _ _ _ _ => trivial), hSS.to hS hFc hU hWm⟩
  · obtain ⟨hP2, hD2⟩ := va_join (wr := wr) (w1 := w1) hP hD isC isR hC hR hnR hdis hk1 hFc hP1 hD1
    exact kk H1 locs1 hP2 hD2 hS1
theorem uS {v : Option Value} (hx : p.tables.exec = Jvm.exec) (hb : c.code = cc) (hml : c.maxLocals = nL) (hown : s.vm.findClass own = some m.cls) (ht : ∀ w ∈ lw_g, w.before args s = true)
    (hM : MU l y bytes maxL ret f lo D z As wc tc H.size v w1) (hY : YS y bytes maxL ret n) (hlink : Cond.methodLink own index y ∈ lw_g)
    (hf : f + 1 ≤ R.frames) (hlo : 8 + (maxL + 11) + lo ≤ R.locals) (hP : va_P D classes ws H) (hK : va_K D classes tys s) (hSS : SS z A s s.heap) (hD : va_D A ws) (hS : va_S A s.heap H locs) (hA : ∀ q : Nat, s.heap.size ≤ q → A q)
    (isC isR isT : List Nat) (hC : isC.map (fun i => ws[i]?) = wc.map some) (hC2 : isC.filterMap (fun i => ws[i]?) = wc) (hnC : va_nd isC = true) (hR : isR.map (fun i => ws[i]?) = wr.map some) (hnR : va_nd isR = true) (hdis : ∀ i ∈ isR, i ∉ isC) (hT : isT.filterMap (fun i => tys[i]?) = tc)
    (hl : lv_has ls nL lv) (hn : As.length = n) (hst : st0 = As.reverse ++ rest) (hW : (rest.map fun v => v.category).sum ≤ 8) (hcl : cells ≤ R.cells) (hsl : slots ≤ R.slots)
    (hdg : decode cc pc = .ok (.invokestatic index, 3))
    (kk : ∀ (H1 : Heap) (locs1 : List Loc), va_P D classes (wr ++ w1) H1 → va_D A (wr ++ w1) → va_S A s.heap H1 locs1 → W p l e R s m args below meth c H1 locs1 cells slots Q (F0 m (pc + 3) ls (v.toList ++ rest))) : W p l e R s m args below meth c H locs cells slots Q (F0 m pc ls st0) := by
  obtain ⟨y1, y2, y3, y5, y6, y7⟩ := hY
  have hFc := va_free (wc := wc) hD hS hA isC hC
  have hDc : va_D A wc := hD.sub isC hnC hC
  refine callU (va_runS (As := As) (rest := rest) ⟨hx, hb, hml, hown, ht⟩ hM ⟨callB_of n ht (gd y1) rfl rfl rfl (ht _ y2) (ht _ hlink) ⟨y5, y6, y7⟩ ⟨hf, hlo⟩, ht _ y3⟩ ⟨PU.calling, ?_⟩ rfl hn hl.1 hst (lv_room hW) hdg ⟨hcl, hsl⟩) hS hFc (fun H1 locs1 hP1 hD1 hk1 hS1 => ?_)
  · exact fun U hU hWm => ⟨rfl, by rw [hU], by rw [hU]; exact hP.sub isC hC2, va_K.moved hWm.alike (hK.sub isT hT), hDc.weaken (fun _ _ _ _ => trivial), hSS.to hS hFc hU hWm⟩
  · obtain ⟨hP2, hD2⟩ := va_join (wr := wr) (w1 := w1) hP hD isC isR hC hR hnR hdis hk1 hFc hP1 hD1
    exact kk H1 locs1 hP2 hD2 hS1
/-- ends -/
theorem eRi {x y : Int32} (hx : p.tables.exec = Jvm.exec) (hb : c.code = cc) (hr : meth.sig.returnType = some .int) (hlocks : meth.locks = false) (hd : decode cc pc = .ok (.ireturn, 1)) (h : x = y) : W p l e R s m args below meth c s.heap [] 0 0 (MQ below (k2_QcV (.int y)) args s 0 0 (fun _ => False)) (F0 m pc ls [.int x]) := by
  subst h
  exact W.iret hx hb hr (fun t ht _ => ⟨rfl, ht⟩) (fun _ h => by cases h) hd
theorem eRz {x y : Int32} {ty : FieldType} (hx : p.tables.exec = Jvm.exec) (hb : c.code = cc) (hr : meth.sig.returnType = some ty) (hlocks : meth.locks = false) (hn : narrow ty (.int x) = .int x) (hd : decode cc pc = .ok (.ireturn, 1)) (h : x = y) : W p l e R s m args below meth c s.heap [] 0 0 (MQ below (k2_QcV (.int y)) args s 0 0 (fun _ => False)) (F0 m pc ls [.int x]) := by
  subst h
  exact W.zret hx hb hr hn (fun t ht _ => ⟨rfl, ht⟩) (fun _ h => by cases h) hd
theorem eRa {q : Nat} {nm : String} (hx : p.tables.exec = Jvm.exec) (hb : c.code = cc) (hr : meth.sig.returnType = some (.object nm)) (hlocks : meth.locks = false) (hd : decode cc pc = .ok (.areturn, 1)) : W p l e R s m args below meth c s.heap [] 0 0 (MQ below (k2_QcV (.ref q)) args s 0 0 (fun _ => False)) (F0 m pc ls [.ref q]) :=
  W.aret hx hb hr (Or.inl ⟨nm, rfl⟩) (Or.inr ⟨q, rfl⟩) (fun t ht _ => ⟨rfl, ht⟩) (fun _ h => by cases h) hd
theorem eUv (hx : p.tables.exec = Jvm.exec) (hb : c.code = cc) (hr : meth.sig.returnType = none) (hlocks : meth.locks = false) (hP : va_P D classes ws H) (hD : va_D A ws) (hS : va_S A s.heap H locs) (is : List Nat) (hi : is.map (fun i => ws[i]?) = w1.map some) (hi2 : is.filterMap (fun i => ws[i]?) = w1) (hni : va_nd is = true) (hd : decode cc pc = .ok (.return_, 1)) : W p l e R s m args below meth c H locs 0 0 (MQ below (qcU none D w1 A) args s 0 0 A) (F0 m pc ls []) :=
  W.vret hx hb hr (fun t ht _ => ⟨⟨rfl, by rw [ht]; exact hP.sub is hi2, hD.sub is hni hi⟩, hS.F ht⟩) hS.2.2 hd
theorem eUi {x y : Int32} (hx : p.tables.exec = Jvm.exec) (hb : c.code = cc) (hr : meth.sig.returnType = some .int) (hlocks : meth.locks = false) (hP : va_P D classes ws H) (hD : va_D A ws) (hS : va_S A s.heap H locs) (is : List Nat) (hi : is.map (fun i => ws[i]?) = w1.map some) (hi2 : is.filterMap (fun i => ws[i]?) = w1) (hni : va_nd is = true) (hd : decode cc pc = .ok (.ireturn, 1)) (h : x = y) : W p l e R s m args below meth c H locs 0 0 (MQ below (qcU (some (.int y)) D w1 A) args s 0 0 A) (F0 m pc ls [.int x]) := by
  subst h
  exact W.iret hx hb hr (fun t ht _ => ⟨⟨rfl, by rw [ht]; exact hP.sub is hi2, hD.sub is hni hi⟩, hS.F ht⟩) hS.2.2 hd
theorem eUz {x y : Int32} {ty : FieldType} (hx : p.tables.exec = Jvm.exec) (hb : c.code = cc) (hr : meth.sig.returnType = some ty) (hlocks : meth.locks = false) (hn : narrow ty (.int x) = .int x) (hP : va_P D classes ws H) (hD : va_D A ws) (hS : va_S A s.heap H locs) (is : List Nat) (hi : is.map (fun i => ws[i]?) = w1.map some) (hi2 : is.filterMap (fun i => ws[i]?) = w1) (hni : va_nd is = true) (hd : decode cc pc = .ok (.ireturn, 1)) (h : x = y) : W p l e R s m args below meth c H locs 0 0 (MQ below (qcU (some (.int y)) D w1 A) args s 0 0 A) (F0 m pc ls [.int x]) := by
  subst h
  exact W.zret hx hb hr hn (fun t ht _ => ⟨⟨rfl, by rw [ht]; exact hP.sub is hi2, hD.sub is hni hi⟩, hS.F ht⟩) hS.2.2 hd
/-- arrays of small numbers -/
theorem ldI {cA : ClassId} {N k t0 q0 a : Nat} {g : Nat → Nat} (hx : p.tables.exec = Jvm.exec) (hb : c.code = cc) (hd : decode cc pc = .ok (.iaload, 1)) (hK : va_K D classes tys s) (hP : va_P D classes ws H) (ha : ws[q0]? = some (a, .inl (cA, N, .inl (iN g)))) (ht : tys[t0]? = some (cA, .int)) (hk : k < N) (hN : N < 2147483648)
    (kk : W p l e R s m args below meth c H locs cells slots Q (F0 m (pc + 1) ls (.int (nI (g k)) :: rest))) : W p l e R s m args below meth c H locs cells slots Q (F0 m pc ls (.int (nI k) :: .ref a :: rest)) := by
  refine va_iald hx hb hK hP q0 t0 ha ht (vin hk hN) hd ?_
  rw [clp (by omega)]
  exact kk
theorem ldC {cA : ClassId} {N k t0 q0 a : Nat} {g : Nat → Nat} (hx : p.tables.exec = Jvm.exec) (hb : c.code = cc) (hd : decode cc pc = .ok (.caload, 1)) (hK : va_K D classes tys s) (hP : va_P D classes ws H) (ha : ws[q0]? = some (a, .inl (cA, N, .inl (iN g)))) (ht : tys[t0]? = some (cA, .char)) (hk : k < N) (hN : N < 2147483648)
    (kk : W p l e R s m args below meth c H locs cells slots Q (F0 m (pc + 1) ls (.int (nI (g k)) :: rest))) : W p l e R s m args below meth c H locs cells slots Q (F0 m pc ls (.int (nI k) :: .ref a :: rest)) := by
  refine va_cald hx hb hK hP q0 t0 ha ht (vin hk hN) hd ?_
  rw [clp (by omega)]
  exact kk
theorem ldZ {cA : ClassId} {N k t0 q0 a : Nat} {g : Nat → Bool} (hx : p.tables.exec = Jvm.exec) (hb : c.code = cc) (hd : decode cc pc = .ok (.baload, 1)) (hK : va_K D classes tys s) (hP : va_P D classes ws H) (ha : ws[q0]? = some (a, .inl (cA, N, .inl (zN g)))) (ht : tys[t0]? = some (cA, .boolean)) (hk : k < N) (hN : N < 2147483648)
    (kk : W p l e R s m args below meth c H locs cells slots Q (F0 m (pc + 1) ls (.int (bI (g k)) :: rest))) : W p l e R s m args below meth c H locs cells slots Q (F0 m pc ls (.int (nI k) :: .ref a :: rest)) := by
  refine va_zald hx hb hK hP q0 t0 ha ht (vin hk hN) hd ?_
  rw [clp (by omega)]
  exact kk
theorem stI {cA : ClassId} {N k v t0 q0 a : Nat} {g : Nat → Nat} (hx : p.tables.exec = Jvm.exec) (hb : c.code = cc) (hd : decode cc pc = .ok (.iastore, 1)) (hK : va_K D classes tys s) (hP : va_P D classes ws H) (hD : va_D A ws) (hS : va_S A s.heap H locs) (ha : ws[q0]? = some (a, .inl (cA, N, .inl (iN g)))) (ht : tys[t0]? = some (cA, .int)) (hk : k < N) (hN : N < 2147483648) (hw : ws.set q0 (a, .inl (cA, N, .inl (iN (updN g k v)))) = w1)
    (kk : ∀ (H1 : Heap) (locs1 : List Loc), va_P D classes w1 H1 → va_D A w1 → va_S A s.heap H1 locs1 → W p l e R s m args below meth c H1 locs1 cells slots Q (F0 m (pc + 1) ls rest)) : W p l e R s m args below meth c H locs cells slots Q (F0 m pc ls (.int (nI v) :: .int (nI k) :: .ref a :: rest)) := by
  subst hw
  refine va_iast hx hb hK hP hD hS q0 t0 ha ht (vin hk hN) hd (fun H1 locs1 h1 h2 h3 => ?_)
  rw [clp (by omega), iN_upd] at h1 h2
  exact kk H1 locs1 h1 h2 h3
theorem stX {cA : ClassId} {N k t0 q0 a : Nat} {g : Nat → Int32} {x : Int32} (hx : p.tables.exec = Jvm.exec) (hb : c.code = cc) (hd : decode cc pc = .ok (.iastore, 1)) (hK : va_K D classes tys s) (hP : va_P D classes ws H) (hD : va_D A ws) (hS : va_S A s.heap H locs) (ha : ws[q0]? = some (a, .inl (cA, N, .inl g))) (ht : tys[t0]? = some (cA, .int)) (hk : k < N) (hN : N < 2147483648) (hw : ws.set q0 (a, .inl (cA, N, .inl (upd g k x))) = w1)
    (kk : ∀ (H1 : Heap) (locs1 : List Loc), va_P D classes w1 H1 → va_D A w1 → va_S A s.heap H1 locs1 → W p l e R s m args below meth c H1 locs1 cells slots Q (F0 m (pc + 1) ls rest)) : W p l e R s m args below meth c H locs cells slots Q (F0 m pc ls (.int x :: .int (nI k) :: .ref a :: rest)) := by
  subst hw
  refine va_iast hx hb hK hP hD hS q0 t0 ha ht (vin hk hN) hd (fun H1 locs1 h1 h2 h3 => ?_)
  rw [clp (by omega)] at h1 h2
  exact kk H1 locs1 h1 h2 h3
theorem ldX {cA : ClassId} {N k t0 q0 a : Nat} {g : Nat → Int32} (hx : p.tables.exec = Jvm.exec) (hb : c.code = cc) (hd : decode cc pc = .ok (.iaload, 1)) (hK : va_K D classes tys s) (hP : va_P D classes ws H) (ha : ws[q0]? = some (a, .inl (cA, N, .inl g))) (ht : tys[t0]? = some (cA, .int)) (hk : k < N) (hN : N < 2147483648)
    (kk : W p l e R s m args below meth c H locs cells slots Q (F0 m (pc + 1) ls (.int (g k) :: rest))) : W p l e R s m args below meth c H locs cells slots Q (F0 m pc ls (.int (nI k) :: .ref a :: rest)) := by
  refine va_iald hx hb hK hP q0 t0 ha ht (vin hk hN) hd ?_
  rw [clp (by omega)]
  exact kk
theorem char_nar {v : Nat} (h : v < 65536) : vp_nar .char (nI v) = nI v := by
  rw [vp_nar_char]
  apply Int32.toBitVec_inj.mp
  apply BitVec.eq_of_toNat_eq
  simp [nI]
  omega
theorem stC {cA : ClassId} {N k v t0 q0 a : Nat} {g : Nat → Nat} (hx : p.tables.exec = Jvm.exec) (hb : c.code = cc) (hd : decode cc pc = .ok (.castore, 1)) (hK : va_K D classes tys s) (hP : va_P D classes ws H) (hD : va_D A ws) (hS : va_S A s.heap H locs) (ha : ws[q0]? = some (a, .inl (cA, N, .inl (iN g)))) (ht : tys[t0]? = some (cA, .char)) (hk : k < N) (hN : N < 2147483648) (hv : v < 65536) (hw : ws.set q0 (a, .inl (cA, N, .inl (iN (updN g k v)))) = w1)
    (kk : ∀ (H1 : Heap) (locs1 : List Loc), va_P D classes w1 H1 → va_D A w1 → va_S A s.heap H1 locs1 → W p l e R s m args below meth c H1 locs1 cells slots Q (F0 m (pc + 1) ls rest)) : W p l e R s m args below meth c H locs cells slots Q (F0 m pc ls (.int (nI v) :: .int (nI k) :: .ref a :: rest)) := by
  subst hw
  refine va_cast hx hb hK hP hD hS q0 t0 ha ht (vin hk hN) hd (fun H1 locs1 h1 h2 h3 => ?_)
  rw [clp (by omega), char_nar hv, iN_upd] at h1 h2
  exact kk H1 locs1 h1 h2 h3
theorem stZ {cA : ClassId} {N k t0 q0 a : Nat} {v : Bool} {g : Nat → Bool} (hx : p.tables.exec = Jvm.exec) (hb : c.code = cc) (hd : decode cc pc = .ok (.bastore, 1)) (hK : va_K D classes tys s) (hP : va_P D classes ws H) (hD : va_D A ws) (hS : va_S A s.heap H locs) (ha : ws[q0]? = some (a, .inl (cA, N, .inl (zN g)))) (ht : tys[t0]? = some (cA, .boolean)) (hk : k < N) (hN : N < 2147483648) (hw : ws.set q0 (a, .inl (cA, N, .inl (zN (updB g k v)))) = w1)
    (kk : ∀ (H1 : Heap) (locs1 : List Loc), va_P D classes w1 H1 → va_D A w1 → va_S A s.heap H1 locs1 → W p l e R s m args below meth c H1 locs1 cells slots Q (F0 m (pc + 1) ls rest)) : W p l e R s m args below meth c H locs cells slots Q (F0 m pc ls (.int (bI v) :: .int (nI k) :: .ref a :: rest)) := by
  subst hw
  refine va_zast hx hb hK hP hD hS q0 t0 ha ht (vin hk hN) hd (fun H1 locs1 h1 h2 h3 => ?_)
  rw [clp (by omega), bI_nar, zN_upd] at h1 h2
  exact kk H1 locs1 h1 h2 h3
end Base3
theorem yv_Co_append : YV y_Co_append b_Co_append 4 (some .int) 2 := ⟨k_117, k_1, k_115, k_116, by decide, by decide, by decide⟩
theorem yv_Co_enter : YV y_Co_enter b_Co_enter 2 (some .boolean) 1 := ⟨k_129, k_1, k_127, k_128, by decide, by decide, by decide⟩
theorem yv_Co_clear : YV y_Co_clear b_Co_clear 1 none 0 := ⟨k_141, k_1, k_139, k_140, by decide, by decide, by decide⟩
theorem yv_Co_size : YV y_Co_size b_Co_size 1 (some .int) 0 := ⟨k_153, k_1, k_151, k_152, by decide, by decide, by decide⟩
theorem yv_Co_byteAt : YV y_Co_byteAt b_Co_byteAt 2 (some .int) 1 := ⟨k_157, k_1, k_155, k_156, by decide, by decide, by decide⟩
theorem yv_Co_entry : YV y_Co_entry b_Co_entry 2 (some .int) 1 := ⟨k_166, k_1, k_164, k_165, by decide, by decide, by decide⟩
theorem yv_Co_length : YV y_Co_length b_Co_length 2 (some .int) 1 := ⟨k_170, k_1, k_168, k_169, by decide, by decide, by decide⟩
theorem yv_Co_reach : YV y_Co_reach b_Co_reach 1 (some .int) 0 := ⟨k_195, k_1, k_193, k_194, by decide, by decide, by decide⟩
theorem yv_Co_reached : YV y_Co_reached b_Co_reached 2 (some .boolean) 1 := ⟨k_239, k_1, k_237, k_238, by decide, by decide, by decide⟩
theorem yv_Co_body : YV y_Co_body b_Co_body 2 (some .int) 1 := ⟨k_247, k_1, k_245, k_246, by decide, by decide, by decide⟩
theorem yv_Co_sweep : YV y_Co_sweep b_Co_sweep 4 (some .int) 0 := ⟨k_251, k_1, k_249, k_250, by decide, by decide, by decide⟩
theorem yv_Co_list : YV y_Co_list b_Co_list 2 (some .int) 0 := ⟨k_258, k_1, k_256, k_257, by decide, by decide, by decide⟩
theorem yv_Co_textLength : YV y_Co_textLength b_Co_textLength 1 (some .int) 0 := ⟨k_374, k_1, k_372, k_373, by decide, by decide, by decide⟩
theorem yv_Co_charAt : YV y_Co_charAt b_Co_charAt 2 (some .int) 1 := ⟨k_378, k_1, k_376, k_377, by decide, by decide, by decide⟩
theorem yv_Co_type : YV y_Co_type b_Co_type 3 (some .boolean) 2 := ⟨k_386, k_1, k_384, k_385, by decide, by decide, by decide⟩
theorem yv_Co_assemble : YV y_Co_assemble b_Co_assemble 1 (some .int) 0 := ⟨k_391, k_1, k_389, k_390, by decide, by decide, by decide⟩
theorem yv_Co_made : YV y_Co_made b_Co_made 2 (some .int) 1 := ⟨k_484, k_1, k_482, k_483, by decide, by decide, by decide⟩
theorem yv_Co_isEntry : YV y_Co_isEntry b_Co_isEntry 3 (some .boolean) 1 := ⟨k_137, k_1, k_136, kp_Co_isEntry, by decide, by decide, by decide⟩
theorem yv_Co_walkFromEntries : YV y_Co_walkFromEntries b_Co_walkFromEntries 2 none 0 := ⟨k_199, k_1, k_198, kp_Co_walkFromEntries, by decide, by decide, by decide⟩
theorem yv_Co_listLine : YV y_Co_listLine b_Co_listLine 3 (some .int) 1 := ⟨k_262, k_1, k_261, kp_Co_listLine, by decide, by decide, by decide⟩
theorem yv_Mo_append : YV y_Mo_append b_Mo_append 4 (some .int) 2 := ⟨k_531, k_6, k_529, k_530, by decide, by decide, by decide⟩
theorem yv_Mo_has : YV y_Mo_has b_Mo_has 2 (some .boolean) 1 := ⟨k_539, k_6, k_538, kp_Mo_has, by decide, by decide, by decide⟩
theorem yv_Mo_enter : YV y_Mo_enter b_Mo_enter 3 (some .boolean) 1 := ⟨k_535, k_6, k_533, k_534, by decide, by decide, by decide⟩
theorem yv_Mo_clear : YV y_Mo_clear b_Mo_clear 1 none 0 := ⟨k_543, k_6, k_541, k_542, by decide, by decide, by decide⟩
theorem yv_Mo_size : YV y_Mo_size b_Mo_size 1 (some .int) 0 := ⟨k_547, k_6, k_545, k_546, by decide, by decide, by decide⟩
theorem yv_Mo_byteAt : YV y_Mo_byteAt b_Mo_byteAt 2 (some .int) 1 := ⟨k_551, k_6, k_549, k_550, by decide, by decide, by decide⟩
theorem yv_Mo_entry : YV y_Mo_entry b_Mo_entry 2 (some .int) 1 := ⟨k_555, k_6, k_553, k_554, by decide, by decide, by decide⟩
theorem ys_Mo_longOf : YS y_Mo_longOf b_Mo_longOf 2 (some .int) 1 := ⟨k_562, k_6, k_561, by decide, by decide, by decide⟩
theorem yv_Mo_length : YV y_Mo_length b_Mo_length 3 (some .int) 1 := ⟨k_559, k_6, k_557, k_558, by decide, by decide, by decide⟩
theorem yv_Mo_set : YV y_Mo_set b_Mo_set 2 (some .boolean) 1 := ⟨k_583, k_6, k_582, kp_Mo_set, by decide, by decide, by decide⟩
theorem yv_Mo_follow : YV y_Mo_follow b_Mo_follow 6 (some .boolean) 2 := ⟨k_578, k_6, k_577, kp_Mo_follow, by decide, by decide, by decide⟩
theorem yv_Mo_close : YV y_Mo_close b_Mo_close 5 (some .int) 1 := ⟨k_574, k_6, k_573, kp_Mo_close, by decide, by decide, by decide⟩
theorem yv_Mo_wipe : YV y_Mo_wipe b_Mo_wipe 2 none 0 := ⟨k_570, k_6, k_569, kp_Mo_wipe, by decide, by decide, by decide⟩
theorem yv_Mo_reach : YV y_Mo_reach b_Mo_reach 2 (some .int) 0 := ⟨k_566, k_6, k_564, k_565, by decide, by decide, by decide⟩
theorem yv_Mo_reached : YV y_Mo_reached b_Mo_reached 3 (some .boolean) 1 := ⟨k_587, k_6, k_585, k_586, by decide, by decide, by decide⟩
theorem yv_Mo_body : YV y_Mo_body b_Mo_body 2 (some .int) 1 := ⟨k_592, k_6, k_590, k_591, by decide, by decide, by decide⟩
theorem yv_Mo_sweep : YV y_Mo_sweep b_Mo_sweep 4 (some .int) 0 := ⟨k_596, k_6, k_594, k_595, by decide, by decide, by decide⟩
theorem yv_Mo_put : YV y_Mo_put b_Mo_put 2 none 1 := ⟨k_612, k_6, k_611, kp_Mo_put, by decide, by decide, by decide⟩
theorem yv_Mo_name : YV y_Mo_name b_Mo_name 4 none 3 := ⟨k_608, k_6, k_607, kp_Mo_name, by decide, by decide, by decide⟩
theorem yv_Mo_number : YV y_Mo_number b_Mo_number 3 none 1 := ⟨k_616, k_6, k_615, kp_Mo_number, by decide, by decide, by decide⟩
theorem yv_Mo_register : YV y_Mo_register b_Mo_register 2 none 1 := ⟨k_628, k_6, k_627, kp_Mo_register, by decide, by decide, by decide⟩
theorem yv_Mo_front : YV y_Mo_front b_Mo_front 3 none 1 := ⟨k_624, k_6, k_623, kp_Mo_front, by decide, by decide, by decide⟩
theorem yv_Mo_print : YV y_Mo_print b_Mo_print 3 none 2 := ⟨k_620, k_6, k_619, kp_Mo_print, by decide, by decide, by decide⟩
theorem yv_Mo_data : YV y_Mo_data b_Mo_data 2 none 1 := ⟨k_604, k_6, k_603, kp_Mo_data, by decide, by decide, by decide⟩
theorem yv_Mo_list : YV y_Mo_list b_Mo_list 8 (some .int) 0 := ⟨k_600, k_6, k_598, k_599, by decide, by decide, by decide⟩
theorem yv_Mo_textLength : YV y_Mo_textLength b_Mo_textLength 1 (some .int) 0 := ⟨k_632, k_6, k_630, k_631, by decide, by decide, by decide⟩
theorem yv_Mo_charAt : YV y_Mo_charAt b_Mo_charAt 2 (some .int) 1 := ⟨k_636, k_6, k_634, k_635, by decide, by decide, by decide⟩
theorem yv_Mo_type : YV y_Mo_type b_Mo_type 3 (some .boolean) 2 := ⟨k_640, k_6, k_638, k_639, by decide, by decide, by decide⟩
theorem yv_Mo_begins : YV y_Mo_begins b_Mo_begins 3 (some .boolean) 1 := ⟨k_656, k_6, k_655, kp_Mo_begins, by decide, by decide, by decide⟩
theorem yv_Mo_here : YV y_Mo_here b_Mo_here 3 (some .boolean) 1 := ⟨k_652, k_6, k_651, kp_Mo_here, by decide, by decide, by decide⟩
theorem yv_Mo_understand : YV y_Mo_understand b_Mo_understand 7 (some .int) 1 := ⟨k_648, k_6, k_647, kp_Mo_understand, by decide, by decide, by decide⟩
theorem yv_Mo_assemble : YV y_Mo_assemble b_Mo_assemble 10 (some .int) 0 := ⟨k_644, k_6, k_642, k_643, by decide, by decide, by decide⟩
theorem yv_Mo_made : YV y_Mo_made b_Mo_made 2 (some .int) 1 := ⟨k_662, k_6, k_660, k_661, by decide, by decide, by decide⟩
theorem yv_As_count : YV y_As_count b_As_count 1 (some .int) 0 := ⟨k_472, k_5, k_470, k_471, by decide, by decide, by decide⟩
theorem yv_As_copyTo : YV y_As_copyTo b_As_copyTo 2 none 1 := ⟨k_476, k_5, k_474, k_475, by decide, by decide, by decide⟩
theorem yv_As_read : YV y_As_read b_As_read 3 (some .boolean) 1 := ⟨k_395, k_5, k_393, k_394, by decide, by decide, by decide⟩
theorem yv_As_readLine : YV y_As_readLine b_As_readLine 5 none 1 := ⟨k_407, k_5, k_406, kp_As_readLine, by decide, by decide, by decide⟩
theorem ys_As_readRegisters : YS y_As_readRegisters b_As_readRegisters 4 (some .int) 2 := ⟨k_419, k_5, k_418, by decide, by decide, by decide⟩
theorem ys_As_readNumber : YS y_As_readNumber b_As_readNumber 3 (some .int) 2 := ⟨k_435, k_5, k_434, by decide, by decide, by decide⟩
theorem yv_As_addBytes : YV y_As_addBytes b_As_addBytes 4 none 3 := ⟨k_459, k_5, k_458, kp_As_addBytes, by decide, by decide, by decide⟩
theorem yv_As_addByte : YV y_As_addByte b_As_addByte 2 none 1 := ⟨k_464, k_5, k_463, kp_As_addByte, by decide, by decide, by decide⟩
theorem yv_Im_count : YV y_Im_count b_Im_count 1 (some .int) 0 := ⟨k_121, k_2, k_119, k_120, by decide, by decide, by decide⟩
theorem yv_Im_holds : YV y_Im_holds b_Im_holds 2 (some .boolean) 1 := ⟨k_133, k_2, k_131, k_132, by decide, by decide, by decide⟩
theorem yv_Im_at : YV y_Im_at b_Im_at 2 (some .int) 1 := ⟨k_161, k_2, k_159, k_160, by decide, by decide, by decide⟩
theorem yv_Im_add : YV y_Im_add b_Im_add 2 none 1 := ⟨k_125, k_2, k_123, k_124, by decide, by decide, by decide⟩
theorem yv_Im_drop : YV y_Im_drop b_Im_drop 1 none 0 := ⟨k_145, k_2, k_143, k_144, by decide, by decide, by decide⟩
theorem yv_Im_codeKind : YV y_Im_codeKind b_Im_codeKind 3 (some .int) 1 := ⟨k_178, k_2, k_176, k_177, by decide, by decide, by decide⟩
theorem yv_Im_codeLength : YV y_Im_codeLength b_Im_codeLength 3 (some .int) 1 := ⟨k_174, k_2, k_172, k_173, by decide, by decide, by decide⟩
theorem yv_Im_number : YV y_Im_number b_Im_number 3 (some .int) 2 := ⟨k_228, k_2, k_226, k_227, by decide, by decide, by decide⟩
theorem ys_Ki_ofFirst : YS y_Ki_ofFirst b_Ki_ofFirst 3 (some .int) 1 := ⟨k_182, k_7, k_181, by decide, by decide, by decide⟩
theorem ys_Ki_first : YS y_Ki_first b_Ki_first 1 (some .int) 1 := ⟨k_363, k_7, k_362, by decide, by decide, by decide⟩
theorem ys_Ki_registers : YS y_Ki_registers b_Ki_registers 1 (some .int) 1 := ⟨k_344, k_7, k_343, by decide, by decide, by decide⟩
theorem ys_Ki_number : YS y_Ki_number b_Ki_number 1 (some .int) 1 := ⟨k_231, k_7, k_230, by decide, by decide, by decide⟩
theorem ys_Ki_bytes : YS y_Ki_bytes b_Ki_bytes 1 (some .int) 1 := ⟨k_189, k_7, k_188, by decide, by decide, by decide⟩
theorem ys_Ki_lowest : YS y_Ki_lowest b_Ki_lowest 1 (some .int) 1 := ⟨k_439, k_7, k_438, by decide, by decide, by decide⟩
theorem ys_Ki_highest : YS y_Ki_highest b_Ki_highest 1 (some .int) 1 := ⟨k_442, k_7, k_441, by decide, by decide, by decide⟩
theorem ys_Ki_fallsThrough : YS y_Ki_fallsThrough b_Ki_fallsThrough 1 (some .boolean) 1 := ⟨k_223, k_7, k_222, by decide, by decide, by decide⟩
theorem ys_Ki_opening : YS y_Ki_opening b_Ki_opening 1 (some (.object "java/lang/String")) 1 := ⟨k_270, k_7, k_269, by decide, by decide, by decide⟩
theorem yv_Te_count : YV y_Te_count b_Te_count 1 (some .int) 0 := ⟨k_369, k_4, k_367, k_368, by decide, by decide, by decide⟩
theorem yv_Te_at : YV y_Te_at b_Te_at 2 (some .int) 1 := ⟨k_382, k_4, k_380, k_381, by decide, by decide, by decide⟩
theorem yv_Te_drop : YV y_Te_drop b_Te_drop 1 none 0 := ⟨k_149, k_4, k_147, k_148, by decide, by decide, by decide⟩
theorem yv_Te_put : YV y_Te_put b_Te_put 3 none 2 := ⟨k_340, k_4, k_338, k_339, by decide, by decide, by decide⟩
theorem yv_Te_addLine : YV y_Te_addLine b_Te_addLine 7 none 3 := ⟨k_267, k_4, k_265, k_266, by decide, by decide, by decide⟩
theorem yv_Te_add : YV y_Te_add b_Te_add 2 none 1 := ⟨k_336, k_4, k_335, kp_Te_add, by decide, by decide, by decide⟩
theorem yv_Te_addComma : YV y_Te_addComma b_Te_addComma 2 none 1 := ⟨k_348, k_4, k_347, kp_Te_addComma, by decide, by decide, by decide⟩
theorem yv_Te_addDigit : YV y_Te_addDigit b_Te_addDigit 2 none 1 := ⟨k_352, k_4, k_351, kp_Te_addDigit, by decide, by decide, by decide⟩
theorem yv_Te_addNumber : YV y_Te_addNumber b_Te_addNumber 4 none 1 := ⟨k_357, k_4, k_356, kp_Te_addNumber, by decide, by decide, by decide⟩
theorem yv_Te_startReading : YV y_Te_startReading b_Te_startReading 1 none 0 := ⟨k_399, k_4, k_397, k_398, by decide, by decide, by decide⟩
theorem yv_Te_isRight : YV y_Te_isRight b_Te_isRight 1 (some .boolean) 0 := ⟨k_468, k_4, k_466, k_467, by decide, by decide, by decide⟩
theorem yv_Te_hasMore : YV y_Te_hasMore b_Te_hasMore 1 (some .boolean) 0 := ⟨k_403, k_4, k_401, k_402, by decide, by decide, by decide⟩
theorem yv_Te_take : YV y_Te_take b_Te_take 2 none 1 := ⟨k_428, k_4, k_426, k_427, by decide, by decide, by decide⟩
theorem yv_Te_takeComma : YV y_Te_takeComma b_Te_takeComma 2 none 1 := ⟨k_424, k_4, k_422, k_423, by decide, by decide, by decide⟩
theorem yv_Te_takeKind : YV y_Te_takeKind b_Te_takeKind 3 (some .int) 0 := ⟨k_411, k_4, k_409, k_410, by decide, by decide, by decide⟩
theorem yv_Te_goesOnWith : YV y_Te_goesOnWith b_Te_goesOnWith 3 (some .boolean) 1 := ⟨k_415, k_4, k_414, kp_Te_goesOnWith, by decide, by decide, by decide⟩
theorem yv_Te_takeRegister : YV y_Te_takeRegister b_Te_takeRegister 2 (some .int) 0 := ⟨k_432, k_4, k_430, k_431, by decide, by decide, by decide⟩
theorem yv_Te_takeNumber : YV y_Te_takeNumber b_Te_takeNumber 6 (some .int) 2 := ⟨k_447, k_4, k_445, k_446, by decide, by decide, by decide⟩
theorem yv_Te_takeAmount : YV y_Te_takeAmount b_Te_takeAmount 4 (some .int) 0 := ⟨k_451, k_4, k_450, kp_Te_takeAmount, by decide, by decide, by decide⟩
theorem ys_Te_isDigit : YS y_Te_isDigit b_Te_isDigit 1 (some .boolean) 1 := ⟨k_454, k_4, k_453, by decide, by decide, by decide⟩
theorem yv_Wa_count : YV y_Wa_count b_Wa_count 1 (some .int) 0 := ⟨k_235, k_3, k_233, k_234, by decide, by decide, by decide⟩
theorem yv_Wa_start : YV y_Wa_start b_Wa_start 3 none 1 := ⟨k_203, k_3, k_201, k_202, by decide, by decide, by decide⟩
theorem yv_Wa_cameTo : YV y_Wa_cameTo b_Wa_cameTo 2 (some .boolean) 1 := ⟨k_243, k_3, k_241, k_242, by decide, by decide, by decide⟩
theorem yv_Wa_comeTo : YV y_Wa_comeTo b_Wa_comeTo 2 none 1 := ⟨k_210, k_3, k_208, k_209, by decide, by decide, by decide⟩
theorem yv_Wa_follow : YV y_Wa_follow b_Wa_follow 4 none 2 := ⟨k_214, k_3, k_212, k_213, by decide, by decide, by decide⟩
theorem yv_Wa_comeToSuccessors : YV y_Wa_comeToSuccessors b_Wa_comeToSuccessors 6 none 3 := ⟨k_218, k_3, k_217, kp_Wa_comeToSuccessors, by decide, by decide, by decide⟩
theorem yv_St_length : YV y_St_length b_St_length 1 (some .int) 0 := ⟨k_288, k_9, k_286, k_287, by decide, by decide, by decide⟩
theorem yv_St_coder : YV y_St_coder b_St_coder 1 (some .byte) 0 := ⟨k_292, k_9, k_290, k_291, by decide, by decide, by decide⟩
theorem yv_St_charAt : YV y_St_charAt b_St_charAt 2 (some .char) 1 := ⟨k_298, k_9, k_296, k_297, by decide, by decide, by decide⟩
theorem yv_St_isLatin1 : YV y_St_isLatin1 b_St_isLatin1 1 (some .boolean) 0 := ⟨k_302, k_9, k_300, k_301, by decide, by decide, by decide⟩
theorem ys_Sl_charAt : YS y_Sl_charAt b_Sl_charAt 2 (some .char) 2 := ⟨k_305, k_10, k_304, by decide, by decide, by decide⟩
theorem ys_St_checkIndex : YS y_St_checkIndex b_St_checkIndex 2 none 2 := ⟨k_308, k_9, k_307, by decide, by decide, by decide⟩
theorem ys_Pr_checkIndex : YS y_Pr_checkIndex b_Pr_checkIndex 3 (some .int) 3 := ⟨k_313, k_11, k_312, by decide, by decide, by decide⟩
end
section
/-! The class's methods as functions of whole numbers (mirrors of the Java text). -/
theorem x_nI {x : Int32} (h : 0 ≤ x.toInt) : x = nI x.toInt.toNat := by
  rw [nI_iI, Int.toNat_of_nonneg h]
  exact iI_self x
theorem x_iI {x : Int32} {y : Int} (h : x.toInt = y) : x = iI y := by
  rw [← h]
  exact iI_self x
theorem x_yN {x : Int32} {y : Int} (h : x.toInt = y) (h0 : 0 ≤ y) : x = nI y.toNat := by
  rw [← h] at h0 ⊢
  exact x_nI h0
theorem bI_one {P : Prop} [Decidable P] (h : P) : bI true = bI (decide P) := by rw [decide_eq_true h]
theorem bI_zero {P : Prop} [Decidable P] (h : ¬ P) : bI false = bI (decide P) := by rw [decide_eq_false h]
def atZ (b : Nat → Nat) (n : Nat) (x : Int) : Int := if 0 ≤ x ∧ x < (n : Int) then (b x.toNat : Int) else -1
def kB (k : Nat) : Nat := if kN k = 0 then 1 else if kN k = 3 then 3 else 2
def kC (k : Nat) : Nat := 4 ^ kR k
def kFind (z : Int) : Nat → Nat → Option Nat
  | 0, _ => none
  | j + 1, k => if (kF k : Int) ≤ z ∧ z < ((kF k + kC k : Nat) : Int) then some k else kFind z j (k + 1)
def kd (z : Int) : Option Nat := kFind z 13 0
def ckd (b : Nat → Nat) (n : Nat) (x : Int) : Option Nat := match kd (atZ b n x) with
  | none => none
  | some k => if (kB k : Int) ≤ (n : Int) - x then some k else none
def cln (b : Nat → Nat) (n : Nat) (x : Int) : Nat := match ckd b n x with
  | none => 0
  | some k => kB k
def sx8 (v : Nat) : Int := if v < 128 then (v : Int) else (v : Int) - 256
def num (b : Nat → Nat) (a k : Nat) : Int := if kN k = 1 then (b (a + 1) : Int) else if kN k = 2 then sx8 (b (a + 1)) else if kN k = 3 then ((256 * b (a + 1) + b (a + 2) : Nat) : Int) else 0
def clrB (m : Nat → Bool) (k : Nat) : Nat → Bool := fun i => if i < k then false else m i
abbrev wkT : Type := (Nat → Nat) × (Nat → Bool) × Nat
def cm (ad : Nat) (s : wkT) (x : Int) : wkT := if 0 ≤ x ∧ x < (ad : Int) ∧ s.2.1 x.toNat = false ∧ s.2.2 < 160 then (updN s.1 s.2.2 x.toNat, updB s.2.1 x.toNat true, s.2.2 + 1) else s
def wk0 (fd : Nat → Nat) : wkT := (fd, fun _ => false, 0)
def fallsB (k : Nat) : Bool := decide (k ≠ 1 ∧ k ≠ 2 ∧ k ≠ 7)
def suc1 (b : Nat → Nat) (ad a k : Nat) (s : wkT) : wkT := if fallsB k = true then cm ad s ((a + kB k : Nat) : Int) else s
def suc2 (b : Nat → Nat) (ad a k : Nat) (s : wkT) : wkT := if k = 10 then cm ad s (((a + kB k : Nat) : Int) + num b a k) else s
def suc3 (b : Nat → Nat) (ad a k : Nat) (cs : Bool) (s : wkT) : wkT := if k = 7 ∨ k = 9 ∨ (k = 8 ∧ cs = true) then cm ad s (num b a k) else s
def suc (b : Nat → Nat) (n ad : Nat) (cs : Bool) (a : Nat) (s : wkT) : wkT := match ckd b n (a : Int) with
  | none => s
  | some k => suc3 b ad a k cs (suc2 b ad a k (suc1 b ad a k s))
def fol (b : Nat → Nat) (n ad : Nat) (cs : Bool) : Nat → Nat → wkT → wkT
  | 0, _, s => s
  | j + 1, k, s => if k < s.2.2 then fol b n ad cs j (k + 1) (suc b n ad cs (s.1 k) s) else s
abbrev txT : Type := (Nat → Nat) × Nat
def ap1 (s : txT) (c : Nat) : txT := (updN s.1 s.2 c, s.2 + 1)
def ap (s : txT) (l : List Nat) : txT := l.foldl ap1 s
def dgL (a u : Nat) : List Nat := if u ≤ a ∨ u = 1 then [48 + a / u % 10] else []
def nuF (a : Nat) : Nat → List Nat
  | 0 => []
  | j + 1 => dgL a (10 ^ j) ++ nuF a j
def nuL (v : Int) : List Nat := (if v < 0 then [45] else []) ++ nuF v.natAbs 5
def cmL (k : Nat) : List Nat := if 0 < k then [44] else []
def rgF (rc g : Nat) : Nat → Nat → List Nat
  | 0, _ => []
  | j + 1, k => cmL k ++ [114, 48 + g / 4 ^ (rc - 1 - k) % 4] ++ rgF rc g j (k + 1)
def rgL (k g : Nat) : List Nat := rgF (kR k) g (kR k) 0
def lnL (k g : Nat) (v : Int) : List Nat := opL k ++ rgL k g ++ (if kN k = 0 then [] else cmL (kR k) ++ nuL v) ++ [10]
abbrev rdT : Type := Nat × Bool
def tk (t : Nat → Nat) (n c : Nat) (r : rdT) : rdT := if atZ t n (r.1 : Int) = (c : Int) then (r.1 + 1, r.2) else (r.1, false)
def tkC (t : Nat → Nat) (n k : Nat) (r : rdT) : rdT := if 0 < k then tk t n 44 r else r
def mL (t : Nat → Nat) (n : Nat) : Nat → List Nat → Bool
  | _, [] => true
  | p, c :: l => if atZ t n (p : Int) = (c : Int) then mL t n (p + 1) l else false
def tkKF (t : Nat → Nat) (n p : Nat) : Nat → Nat → Option Nat
  | 0, _ => none
  | j + 1, k => if mL t n p (opL k) = true then some k else tkKF t n p j (k + 1)
def tkK1 (t : Nat → Nat) (n : Nat) (r : rdT) : Option Nat := tkKF t n r.1 14 0
def tkK2 (t : Nat → Nat) (n : Nat) (r : rdT) : rdT := match tkK1 t n r with
  | none => (r.1, false)
  | some k => (r.1 + (opL k).length, r.2)
def tkR1 (t : Nat → Nat) (n : Nat) (r : rdT) : Nat := if atZ t n ((tk t n 114 r).1 : Int) - 48 < 0 ∨ 3 < atZ t n ((tk t n 114 r).1 : Int) - 48 then 0 else (atZ t n ((tk t n 114 r).1 : Int) - 48).toNat
def tkR2 (t : Nat → Nat) (n : Nat) (r : rdT) : rdT := if atZ t n ((tk t n 114 r).1 : Int) - 48 < 0 ∨ 3 < atZ t n ((tk t n 114 r).1 : Int) - 48 then ((tk t n 114 r).1, false) else ((tk t n 114 r).1 + 1, (tk t n 114 r).2)
def tkAF (t : Nat → Nat) (n : Nat) : Nat → Nat → Nat → Nat × Nat
  | 0, p, a => (p, a)
  | j + 1, p, a => if 48 ≤ atZ t n (p : Int) ∧ atZ t n (p : Int) ≤ 57 then tkAF t n j (p + 1) (10 * a + (atZ t n (p : Int)).toNat - 48) else (p, a)
def tkA1 (t : Nat → Nat) (n : Nat) (r : rdT) : Nat := (tkAF t n 5 r.1 0).2
def tkA2 (t : Nat → Nat) (n : Nat) (r : rdT) : rdT := ((tkAF t n 5 r.1 0).1, if (tkAF t n 5 r.1 0).1 - r.1 = 0 ∨ (1 < (tkAF t n 5 r.1 0).1 - r.1 ∧ atZ t n (r.1 : Int) = 48) then false else r.2)
def tkNs (t : Nat → Nat) (n : Nat) (r : rdT) : rdT := if atZ t n (r.1 : Int) = 45 then (r.1 + 1, r.2) else r
def tkN1 (t : Nat → Nat) (n : Nat) (r : rdT) : Int := if atZ t n (r.1 : Int) = 45 then -(tkA1 t n (tkNs t n r) : Int) else (tkA1 t n (tkNs t n r) : Int)
def tkN2 (t : Nat → Nat) (n : Nat) (lo hi : Int) (r : rdT) : rdT := ((tkA2 t n (tkNs t n r)).1, if (atZ t n (r.1 : Int) = 45 ∧ tkA1 t n (tkNs t n r) = 0) ∨ tkN1 t n r < lo ∨ hi < tkN1 t n r then false else (tkA2 t n (tkNs t n r)).2)
def rdRF (t : Nat → Nat) (n : Nat) : Nat → Nat → rdT → Nat → rdT × Nat
  | 0, _, r, g => (r, g)
  | j + 1, k, r, g => rdRF t n j (k + 1) (tkR2 t n (tkC t n k r)) (4 * g + tkR1 t n (tkC t n k r))
def rdR (t : Nat → Nat) (n k : Nat) (r : rdT) : rdT × Nat := rdRF t n (kR k) 0 r 0
def loN (m : Nat) : Int := if m = 2 then -128 else 0
def hiN (m : Nat) : Int := if m = 2 then 127 else if m = 3 then 65535 else 255
def rdN1 (t : Nat → Nat) (n k : Nat) (r : rdT) : Int := if kN k = 0 then 0 else tkN1 t n (tkC t n (kR k) r)
def rdN2 (t : Nat → Nat) (n k : Nat) (r : rdT) : rdT := if kN k = 0 then r else tkN2 t n (loN (kN k)) (hiN (kN k)) (tkC t n (kR k) r)
abbrev abT : Type := (Nat → Int32) × Nat
def adB (s : abT) (x : Int32) : abT := (if s.2 < 160 then upd s.1 s.2 x else s.1, s.2 + 1)
def adBs (k g : Nat) (v : Int) (s : abT) : abT :=
  let s1 := if k = 13 then s else adB s (nI (kF k + g))
  let s2 := if kN k = 3 then adB s1 (iI v >>> ((8 : Int32) &&& 31)) else s1
  if kN k = 0 then s2 else adB s2 (iI v &&& 255)
def rdLr (t : Nat → Nat) (n : Nat) (r : rdT) : rdT := match tkK1 t n r with
  | none => tkK2 t n r
  | some k => tk t n 10 (rdN2 t n k (rdR t n k (tkK2 t n r)).1)
def rdLs (t : Nat → Nat) (n : Nat) (r : rdT) (s : abT) : abT := match tkK1 t n r with
  | none => s
  | some k => adBs k (rdR t n k (tkK2 t n r)).2 (rdN1 t n k (rdR t n k (tkK2 t n r)).1) s
def rdF (t : Nat → Nat) (n : Nat) : Nat → rdT → abT → rdT × abT
  | 0, r, s => (r, s)
  | j + 1, r, s => if r.2 = true ∧ r.1 < n then rdF t n j (rdLr t n r) (rdLs t n r s) else (r, s)
def rd (t : Nat → Nat) (n : Nat) (f : Nat → Int32) : rdT × abT := rdF t n 2400 (0, true) (f, 0)
end
section
theorem kB_pos (k : Nat) : 1 ≤ kB k ∧ kB k ≤ 3 := by
  unfold kB
  split
  · omega
  · split <;> omega
theorem shl_kC (k : Nat) (h : k < 14) : nI 1 <<< (nI (2 * kR k) &&& 31) = nI (kC k) := by
  have q : ∀ k, k < 14 → nI 1 <<< (nI (2 * kR k) &&& 31) = nI (kC k) := by decide +kernel
  exact q k h
theorem kF_lt (k : Nat) : kF k ≤ 116 := by
  by_cases h : k < 14
  · have q : ∀ k, k < 14 → kF k ≤ 116 := by decide +kernel
    exact q k h
  · unfold kF
    rw [List.getD_eq_default _ _ (by simp; omega)]
    omega
theorem kR_le (k : Nat) : kR k ≤ 2 := by
  by_cases h : k < 14
  · have q : ∀ k, k < 14 → kR k ≤ 2 := by decide +kernel
    exact q k h
  · unfold kR
    rw [List.getD_eq_default _ _ (by simp; omega)]
    omega
theorem kC_lt (k : Nat) : 1 ≤ kC k ∧ kC k ≤ 16 := by
  unfold kC
  have h := kR_le k
  rcases (show kR k = 0 ∨ kR k = 1 ∨ kR k = 2 by omega) with e | e | e <;> rw [e] <;> decide
theorem kN_cases (k : Nat) (h : k < 14) : kN k = 0 ∨ kN k = 1 ∨ kN k = 2 ∨ kN k = 3 := by
  have q : ∀ k, k < 14 → kN k = 0 ∨ kN k = 1 ∨ kN k = 2 ∨ kN k = 3 := by decide +kernel
  exact q k h
theorem kFind_lt {z : Int} : ∀ (j k k' : Nat), kFind z j k = some k' → k' < k + j := by
  intro j
  induction j with
  | zero => intro k k' h; cases h
  | succ j ih =>
    intro k k' h
    simp only [kFind] at h
    by_cases q : (kF k : Int) ≤ z ∧ z < ((kF k + kC k : Nat) : Int)
    · rw [if_pos q] at h
      cases h
      omega
    · rw [if_neg q] at h
      have := ih (k + 1) k' h
      omega
theorem kd_lt {z : Int} {k : Nat} (h : kd z = some k) : k < 13 := by
  have := kFind_lt 13 0 k h
  omega
theorem kd_m1 : kd (-1) = none := by decide +kernel
theorem kd_held {b : Nat → Nat} {n k : Nat} {x : Int} (h : kd (atZ b n x) = some k) : 0 ≤ x ∧ x < (n : Int) := by
  unfold atZ at h
  by_cases q : 0 ≤ x ∧ x < (n : Int)
  · exact q
  · rw [if_neg q, kd_m1] at h
    cases h
theorem atZ_in {b : Nat → Nat} {n M : Nat} {x : Int} (hb : ∀ i, b i < M) : -1 ≤ atZ b n x ∧ atZ b n x < (M : Int) := by
  have h0 := hb 0
  unfold atZ
  split
  · have := hb x.toNat
    omega
  · omega
theorem atZ_toInt {b : Nat → Nat} {n : Nat} {x : Int} (hb : ∀ i, b i < 256) : (iI (atZ b n x)).toInt = atZ b n x := by
  have := atZ_in (n := n) (x := x) hb
  exact iI_toInt (by omega) (by omega)
theorem ckd_n {b : Nat → Nat} {n : Nat} {x : Int} (e : kd (atZ b n x) = none) : ckd b n x = none := by
  unfold ckd
  rw [e]
theorem ckd_y {b : Nat → Nat} {n k : Nat} {x : Int} (e : kd (atZ b n x) = some k) (h : (kB k : Int) ≤ (n : Int) - x) : ckd b n x = some k := by
  unfold ckd
  rw [e]
  exact if_pos h
theorem ckd_z {b : Nat → Nat} {n k : Nat} {x : Int} (e : kd (atZ b n x) = some k) (h : ¬ (kB k : Int) ≤ (n : Int) - x) : ckd b n x = none := by
  unfold ckd
  rw [e]
  exact if_neg h
theorem ckd_lt {b : Nat → Nat} {n k : Nat} {x : Int} (e : ckd b n x = some k) : k < 14 := by
  unfold ckd at e
  cases q : kd (atZ b n x) with
  | none => rw [q] at e; cases e
  | some k' =>
    rw [q] at e
    simp only at e
    have := kd_lt q
    by_cases w : (kB k' : Int) ≤ (n : Int) - x
    · rw [if_pos w] at e
      cases e
      omega
    · rw [if_neg w] at e
      cases e
def wok (s : wkT) : Prop := s.2.2 ≤ 160 ∧ ∀ i, i < s.2.2 → s.1 i < 160
theorem wk0_ok (fd : Nat → Nat) : wok (wk0 fd) := ⟨Nat.zero_le _, fun i h => absurd h (Nat.not_lt_zero _)⟩
theorem cm_y {ad : Nat} {s : wkT} {x : Int} (h : 0 ≤ x ∧ x < (ad : Int) ∧ s.2.1 x.toNat = false ∧ s.2.2 < 160) : cm ad s x = (updN s.1 s.2.2 x.toNat, updB s.2.1 x.toNat true, s.2.2 + 1) := if_pos h
theorem cm_n {ad : Nat} {s : wkT} {x : Int} (h : ¬ (0 ≤ x ∧ x < (ad : Int) ∧ s.2.1 x.toNat = false ∧ s.2.2 < 160)) : cm ad s x = s := if_neg h
theorem cm_ok {ad : Nat} {s : wkT} {x : Int} (ha : ad ≤ 160) (h : wok s) : wok (cm ad s x) := by
  by_cases q : 0 ≤ x ∧ x < (ad : Int) ∧ s.2.1 x.toNat = false ∧ s.2.2 < 160
  · rw [cm_y q]
    refine ⟨by show s.2.2 + 1 ≤ 160; omega, fun i hi => ?_⟩
    have hi : i < s.2.2 + 1 := hi
    show updN s.1 s.2.2 x.toNat i < 160
    unfold updN
    split
    · omega
    · exact h.2 i (by omega)
  · rw [cm_n q]
    exact h
theorem suc_ok {b : Nat → Nat} {n ad a : Nat} {cs : Bool} {s : wkT} (ha : ad ≤ 160) (h : wok s) : wok (suc b n ad cs a s) := by
  unfold suc
  cases ckd b n (a : Int) with
  | none => exact h
  | some k =>
    have h1 : wok (suc1 b ad a k s) := by
      unfold suc1
      split
      · exact cm_ok ha h
      · exact h
    have h2 : wok (suc2 b ad a k (suc1 b ad a k s)) := by
      unfold suc2
      split
      · exact cm_ok ha h1
      · exact h1
    show wok (suc3 b ad a k cs (suc2 b ad a k (suc1 b ad a k s)))
    unfold suc3
    split
    · exact cm_ok ha h2
    · exact h2
theorem clr_step {g : Nat → Bool} {k : Nat} (hg : ∀ i, i < k → g i = false) : ∀ i, i < k + 1 → updB g k false i = false := by
  intro i hi
  by_cases e : i = k
  · rw [e]
    simp [updB]
  · simp only [updB, if_neg e]
    exact hg i (by omega)
theorem min_n {n : Nat} (h : n ≤ 160) : (if nI 160 < nI n then nI 160 else nI n) = nI n := if_neg (nI_nlt h (by decide))
theorem ckd_in {b : Nat → Nat} {n a k : Nat} (e : ckd b n (a : Int) = some k) : k < 14 ∧ a + kB k ≤ n := by
  refine ⟨ckd_lt e, ?_⟩
  unfold ckd at e
  cases q : kd (atZ b n (a : Int)) with
  | none => rw [q] at e; cases e
  | some k' =>
    rw [q] at e
    simp only at e
    by_cases w : (kB k' : Int) ≤ (n : Int) - (a : Int)
    · rw [if_pos w] at e
      cases e
      omega
    · rw [if_neg w] at e
      cases e
theorem num_in {b : Nat → Nat} {a k : Nat} (hb : ∀ i, b i < 256) : -128 ≤ num b a k ∧ num b a k ≤ 65535 := by
  have h1 := hb (a + 1)
  have h2 := hb (a + 2)
  unfold num sx8
  split
  · omega
  · split
    · split <;> omega
    · split <;> omega
theorem suc_none {b : Nat → Nat} {n ad a : Nat} {cs : Bool} {s : wkT} (e : ckd b n (a : Int) = none) : suc b n ad cs a s = s := by
  unfold suc
  rw [e]
theorem suc_some {b : Nat → Nat} {n ad a k : Nat} {cs : Bool} {s : wkT} (e : ckd b n (a : Int) = some k) : suc b n ad cs a s = suc3 b ad a k cs (suc2 b ad a k (suc1 b ad a k s)) := by
  unfold suc
  rw [e]
def dr (s : txT) : txT := (s.1, 0)
def r00 : rdT := (0, true)
def pu (s : txT) (i v : Nat) : txT := (updN s.1 i v, max s.2 (i + 1))
theorem pu_add (s : txT) (v : Nat) : pu s s.2 v = ap1 s v := by
  unfold pu ap1
  rw [Nat.max_eq_right (by omega)]
theorem ap_cm_y {s : txT} {k : Nat} (h : 0 < k) : ap s (cmL k) = ap1 s 44 := by
  unfold cmL
  rw [if_pos h]
  rfl
theorem ap_cm_n {s : txT} {k : Nat} (h : ¬ 0 < k) : ap s (cmL k) = s := by
  unfold cmL
  rw [if_neg h]
  rfl
theorem max_n {a b : Nat} (ha : a < 2147483648) (hb : b < 2147483648) : (if nI a < nI b then nI b else nI a) = nI (max a b) := by
  by_cases h : a < b
  · rw [if_pos (nI_lt h hb), Nat.max_eq_right (by omega)]
  · rw [if_neg (nI_nlt (by omega) ha), Nat.max_eq_left (by omega)]
theorem i2c_n {n : Nat} (h : n < 65536) : ((nI n).toUInt32 % 65536).toInt32 = nI n := by
  rw [pk_char, pk_tn (by omega), Nat.mod_eq_of_lt h]
theorem abs_n {v : Int} (h1 : -65536 ≤ v) (h2 : v ≤ 65536) : (if 0 ≤ iI v then iI v else 0 - iI v) = nI v.natAbs := by
  have e0 : (0 : Int32) = iI 0 := by decide
  by_cases h : 0 ≤ v
  · rw [if_pos (by rw [zif0_ge, iI_toInt (by omega) (by omega)]; exact h), nI_iI]
    congr 1
    omega
  · rw [if_neg (by rw [zif0_ge, iI_toInt (by omega) (by omega)]; exact h), e0, iI_sub, nI_iI]
    congr 1
    omega
theorem ap_len (s : txT) (l : List Nat) : (ap s l).2 = s.2 + l.length := by
  induction l generalizing s with
  | nil => rfl
  | cons c l ih =>
    show (ap (ap1 s c) l).2 = _
    rw [ih]
    simp [ap1]
    omega
theorem ap_app (s : txT) (l1 l2 : List Nat) : ap s (l1 ++ l2) = ap (ap s l1) l2 := List.foldl_append
theorem ten_pow {j : Nat} (h : j ≤ 4) : 1 ≤ 10 ^ j ∧ 10 ^ j ≤ 10000 := by
  rcases (show j = 0 ∨ j = 1 ∨ j = 2 ∨ j = 3 ∨ j = 4 by omega) with e | e | e | e | e <;> subst e <;> decide
theorem ten_div (j : Nat) : 10 ^ (j + 1) / 10 = 10 ^ j := by
  rw [Nat.pow_succ]
  omega
theorem ap_dg_y {s : txT} {a u : Nat} {l : List Nat} (h : u ≤ a ∨ u = 1) : ap s (dgL a u ++ l) = ap (ap1 s (48 + a / u % 10)) l := by
  unfold dgL
  rw [if_pos h]
  rfl
theorem ap_dg_n {s : txT} {a u : Nat} {l : List Nat} (h : ¬ (u ≤ a ∨ u = 1)) : ap s (dgL a u ++ l) = ap s l := by
  unfold dgL
  rw [if_neg h]
  rfl
theorem drop_c {l : List Nat} {i : Nat} (h : i < l.length) : l.drop i = l.getD i 0 :: l.drop (i + 1) := by
  rw [List.drop_eq_getElem_cons h, List.getD_eq_getElem _ _ h]
theorem op_bd : ∀ k, k < 14 → 3 ≤ (opL k).length ∧ (opL k).length ≤ 6 ∧ ∀ i, i < 6 → (opL k).getD i 0 < 128 := by decide +kernel
theorem shr3 {g e : Nat} (hg : g < 16) (he : e < 2) : nI g >>> (nI (2 * e) &&& 31) &&& nI 3 = nI (g / 4 ^ e % 4) := by
  have q : ∀ g, g < 16 → ∀ e, e < 2 → nI g >>> (nI (2 * e) &&& 31) &&& nI 3 = nI (g / 4 ^ e % 4) := by decide +kernel
  exact q g hg e he
theorem cm_len (k : Nat) : (cmL k).length ≤ 1 := by
  unfold cmL
  split <;> simp
end
