section
-- ===== PART A: goes FIRST, ahead of the names: the tables' words, and 'selects' of the private methods out of them =====
/-- a private method of a class that the tables say can be made, by its rows of tables_1 -/
def lw_okq (q : MethodName × Nat) : Prop := (q.1.cls ≠ "java/lang/invoke/MethodHandle" ∧ q.1.cls ≠ "java/lang/invoke/VarHandle") ∧ Cond.instantiable q.1.cls q.2 ∈ tables_1 ∧ Cond.privateMethod q.1 ∈ tables_1 ∧ Cond.instanceMethod q.1 ∈ tables_1
theorem lw_p0 : lw_okq (⟨"CodeLister", "isEntry", "(I)Z"⟩, 8) := ⟨⟨by decide +kernel, by decide +kernel⟩, List.mem_of_getElem? (i := 15) (by decide +kernel), List.mem_of_getElem? (i := 135) (by decide +kernel), List.mem_of_getElem? (i := 136) (by decide +kernel)⟩
theorem lw_p1 : lw_okq (⟨"CodeLister", "walkFromEntries", "()V"⟩, 8) := ⟨⟨by decide +kernel, by decide +kernel⟩, List.mem_of_getElem? (i := 15) (by decide +kernel), List.mem_of_getElem? (i := 197) (by decide +kernel), List.mem_of_getElem? (i := 198) (by decide +kernel)⟩
theorem lw_p2 : lw_okq (⟨"CodeLister$Walk", "comeToSuccessors", "(LCodeLister$Image;IZ)V"⟩, 4) := ⟨⟨by decide +kernel, by decide +kernel⟩, List.mem_of_getElem? (i := 37) (by decide +kernel), List.mem_of_getElem? (i := 216) (by decide +kernel), List.mem_of_getElem? (i := 217) (by decide +kernel)⟩
theorem lw_p3 : lw_okq (⟨"CodeLister", "listLine", "(I)I"⟩, 8) := ⟨⟨by decide +kernel, by decide +kernel⟩, List.mem_of_getElem? (i := 15) (by decide +kernel), List.mem_of_getElem? (i := 260) (by decide +kernel), List.mem_of_getElem? (i := 261) (by decide +kernel)⟩
theorem lw_p4 : lw_okq (⟨"CodeLister$Text", "add", "(C)V"⟩, 4) := ⟨⟨by decide +kernel, by decide +kernel⟩, List.mem_of_getElem? (i := 57) (by decide +kernel), List.mem_of_getElem? (i := 334) (by decide +kernel), List.mem_of_getElem? (i := 335) (by decide +kernel)⟩
theorem lw_p5 : lw_okq (⟨"CodeLister$Text", "addComma", "(I)V"⟩, 4) := ⟨⟨by decide +kernel, by decide +kernel⟩, List.mem_of_getElem? (i := 57) (by decide +kernel), List.mem_of_getElem? (i := 346) (by decide +kernel), List.mem_of_getElem? (i := 347) (by decide +kernel)⟩
theorem lw_p6 : lw_okq (⟨"CodeLister$Text", "addDigit", "(I)V"⟩, 4) := ⟨⟨by decide +kernel, by decide +kernel⟩, List.mem_of_getElem? (i := 57) (by decide +kernel), List.mem_of_getElem? (i := 350) (by decide +kernel), List.mem_of_getElem? (i := 351) (by decide +kernel)⟩
theorem lw_p7 : lw_okq (⟨"CodeLister$Text", "addNumber", "(I)V"⟩, 4) := ⟨⟨by decide +kernel, by decide +kernel⟩, List.mem_of_getElem? (i := 57) (by decide +kernel), List.mem_of_getElem? (i := 355) (by decide +kernel), List.mem_of_getElem? (i := 356) (by decide +kernel)⟩
theorem lw_p8 : lw_okq (⟨"CodeLister$Assembler", "readLine", "(LCodeLister$Text;)V"⟩, 2) := ⟨⟨by decide +kernel, by decide +kernel⟩, List.mem_of_getElem? (i := 77) (by decide +kernel), List.mem_of_getElem? (i := 405) (by decide +kernel), List.mem_of_getElem? (i := 406) (by decide +kernel)⟩
theorem lw_p9 : lw_okq (⟨"CodeLister$Text", "goesOnWith", "(Ljava/lang/String;)Z"⟩, 4) := ⟨⟨by decide +kernel, by decide +kernel⟩, List.mem_of_getElem? (i := 57) (by decide +kernel), List.mem_of_getElem? (i := 413) (by decide +kernel), List.mem_of_getElem? (i := 414) (by decide +kernel)⟩
theorem lw_p10 : lw_okq (⟨"CodeLister$Text", "takeAmount", "()I"⟩, 4) := ⟨⟨by decide +kernel, by decide +kernel⟩, List.mem_of_getElem? (i := 57) (by decide +kernel), List.mem_of_getElem? (i := 449) (by decide +kernel), List.mem_of_getElem? (i := 450) (by decide +kernel)⟩
theorem lw_p11 : lw_okq (⟨"CodeLister$Assembler", "addBytes", "(III)V"⟩, 2) := ⟨⟨by decide +kernel, by decide +kernel⟩, List.mem_of_getElem? (i := 77) (by decide +kernel), List.mem_of_getElem? (i := 457) (by decide +kernel), List.mem_of_getElem? (i := 458) (by decide +kernel)⟩
theorem lw_p12 : lw_okq (⟨"CodeLister$Assembler", "addByte", "(I)V"⟩, 2) := ⟨⟨by decide +kernel, by decide +kernel⟩, List.mem_of_getElem? (i := 77) (by decide +kernel), List.mem_of_getElem? (i := 462) (by decide +kernel), List.mem_of_getElem? (i := 463) (by decide +kernel)⟩
theorem lw_p13 : lw_okq (⟨"CodeListerModel", "has", "(I)Z"⟩, 12) := ⟨⟨by decide +kernel, by decide +kernel⟩, List.mem_of_getElem? (i := 486) (by decide +kernel), List.mem_of_getElem? (i := 537) (by decide +kernel), List.mem_of_getElem? (i := 538) (by decide +kernel)⟩
theorem lw_p14 : lw_okq (⟨"CodeListerModel", "wipe", "()V"⟩, 12) := ⟨⟨by decide +kernel, by decide +kernel⟩, List.mem_of_getElem? (i := 486) (by decide +kernel), List.mem_of_getElem? (i := 568) (by decide +kernel), List.mem_of_getElem? (i := 569) (by decide +kernel)⟩
theorem lw_p15 : lw_okq (⟨"CodeListerModel", "close", "(Z)I"⟩, 12) := ⟨⟨by decide +kernel, by decide +kernel⟩, List.mem_of_getElem? (i := 486) (by decide +kernel), List.mem_of_getElem? (i := 572) (by decide +kernel), List.mem_of_getElem? (i := 573) (by decide +kernel)⟩
def lw_privs_1 : List (MethodName × Nat) := [(⟨"CodeLister", "isEntry", "(I)Z"⟩, 8), (⟨"CodeLister", "walkFromEntries", "()V"⟩, 8), (⟨"CodeLister$Walk", "comeToSuccessors", "(LCodeLister$Image;IZ)V"⟩, 4), (⟨"CodeLister", "listLine", "(I)I"⟩, 8), (⟨"CodeLister$Text", "add", "(C)V"⟩, 4), (⟨"CodeLister$Text", "addComma", "(I)V"⟩, 4), (⟨"CodeLister$Text", "addDigit", "(I)V"⟩, 4), (⟨"CodeLister$Text", "addNumber", "(I)V"⟩, 4), (⟨"CodeLister$Assembler", "readLine", "(LCodeLister$Text;)V"⟩, 2), (⟨"CodeLister$Text", "goesOnWith", "(Ljava/lang/String;)Z"⟩, 4), (⟨"CodeLister$Text", "takeAmount", "()I"⟩, 4), (⟨"CodeLister$Assembler", "addBytes", "(III)V"⟩, 2), (⟨"CodeLister$Assembler", "addByte", "(I)V"⟩, 2), (⟨"CodeListerModel", "has", "(I)Z"⟩, 12), (⟨"CodeListerModel", "wipe", "()V"⟩, 12), (⟨"CodeListerModel", "close", "(Z)I"⟩, 12)]
theorem lw_r1 : ∀ q ∈ lw_privs_1, lw_okq q := List.forall_mem_cons.mpr ⟨lw_p0, List.forall_mem_cons.mpr ⟨lw_p1, List.forall_mem_cons.mpr ⟨lw_p2, List.forall_mem_cons.mpr ⟨lw_p3, List.forall_mem_cons.mpr ⟨lw_p4, List.forall_mem_cons.mpr ⟨lw_p5, List.forall_mem_cons.mpr ⟨lw_p6, List.forall_mem_cons.mpr ⟨lw_p7, List.forall_mem_cons.mpr ⟨lw_p8, List.forall_mem_cons.mpr ⟨lw_p9, List.forall_mem_cons.mpr ⟨lw_p10, List.forall_mem_cons.mpr ⟨lw_p11, List.forall_mem_cons.mpr ⟨lw_p12, List.forall_mem_cons.mpr ⟨lw_p13, List.forall_mem_cons.mpr ⟨lw_p14, List.forall_mem_cons.mpr ⟨lw_p15, fun _ h => absurd h List.not_mem_nil⟩⟩⟩⟩⟩⟩⟩⟩⟩⟩⟩⟩⟩⟩⟩⟩
theorem lw_p16 : lw_okq (⟨"CodeListerModel", "follow", "(IZ)Z"⟩, 12) := ⟨⟨by decide +kernel, by decide +kernel⟩, List.mem_of_getElem? (i := 486) (by decide +kernel), List.mem_of_getElem? (i := 576) (by decide +kernel), List.mem_of_getElem? (i := 577) (by decide +kernel)⟩
theorem lw_p17 : lw_okq (⟨"CodeListerModel", "set", "(I)Z"⟩, 12) := ⟨⟨by decide +kernel, by decide +kernel⟩, List.mem_of_getElem? (i := 486) (by decide +kernel), List.mem_of_getElem? (i := 581) (by decide +kernel), List.mem_of_getElem? (i := 582) (by decide +kernel)⟩
theorem lw_p18 : lw_okq (⟨"CodeListerModel", "data", "(I)V"⟩, 12) := ⟨⟨by decide +kernel, by decide +kernel⟩, List.mem_of_getElem? (i := 486) (by decide +kernel), List.mem_of_getElem? (i := 602) (by decide +kernel), List.mem_of_getElem? (i := 603) (by decide +kernel)⟩
theorem lw_p19 : lw_okq (⟨"CodeListerModel", "name", "(III)V"⟩, 12) := ⟨⟨by decide +kernel, by decide +kernel⟩, List.mem_of_getElem? (i := 486) (by decide +kernel), List.mem_of_getElem? (i := 606) (by decide +kernel), List.mem_of_getElem? (i := 607) (by decide +kernel)⟩
theorem lw_p20 : lw_okq (⟨"CodeListerModel", "put", "(I)V"⟩, 12) := ⟨⟨by decide +kernel, by decide +kernel⟩, List.mem_of_getElem? (i := 486) (by decide +kernel), List.mem_of_getElem? (i := 610) (by decide +kernel), List.mem_of_getElem? (i := 611) (by decide +kernel)⟩
theorem lw_p21 : lw_okq (⟨"CodeListerModel", "number", "(I)V"⟩, 12) := ⟨⟨by decide +kernel, by decide +kernel⟩, List.mem_of_getElem? (i := 486) (by decide +kernel), List.mem_of_getElem? (i := 614) (by decide +kernel), List.mem_of_getElem? (i := 615) (by decide +kernel)⟩
theorem lw_p22 : lw_okq (⟨"CodeListerModel", "print", "(II)V"⟩, 12) := ⟨⟨by decide +kernel, by decide +kernel⟩, List.mem_of_getElem? (i := 486) (by decide +kernel), List.mem_of_getElem? (i := 618) (by decide +kernel), List.mem_of_getElem? (i := 619) (by decide +kernel)⟩
theorem lw_p23 : lw_okq (⟨"CodeListerModel", "front", "(I)V"⟩, 12) := ⟨⟨by decide +kernel, by decide +kernel⟩, List.mem_of_getElem? (i := 486) (by decide +kernel), List.mem_of_getElem? (i := 622) (by decide +kernel), List.mem_of_getElem? (i := 623) (by decide +kernel)⟩
theorem lw_p24 : lw_okq (⟨"CodeListerModel", "register", "(I)V"⟩, 12) := ⟨⟨by decide +kernel, by decide +kernel⟩, List.mem_of_getElem? (i := 486) (by decide +kernel), List.mem_of_getElem? (i := 626) (by decide +kernel), List.mem_of_getElem? (i := 627) (by decide +kernel)⟩
theorem lw_p25 : lw_okq (⟨"CodeListerModel", "understand", "(I)I"⟩, 12) := ⟨⟨by decide +kernel, by decide +kernel⟩, List.mem_of_getElem? (i := 486) (by decide +kernel), List.mem_of_getElem? (i := 646) (by decide +kernel), List.mem_of_getElem? (i := 647) (by decide +kernel)⟩
theorem lw_p26 : lw_okq (⟨"CodeListerModel", "here", "(I)Z"⟩, 12) := ⟨⟨by decide +kernel, by decide +kernel⟩, List.mem_of_getElem? (i := 486) (by decide +kernel), List.mem_of_getElem? (i := 650) (by decide +kernel), List.mem_of_getElem? (i := 651) (by decide +kernel)⟩
theorem lw_p27 : lw_okq (⟨"CodeListerModel", "begins", "(I)Z"⟩, 12) := ⟨⟨by decide +kernel, by decide +kernel⟩, List.mem_of_getElem? (i := 486) (by decide +kernel), List.mem_of_getElem? (i := 654) (by decide +kernel), List.mem_of_getElem? (i := 655) (by decide +kernel)⟩
def lw_privs_2 : List (MethodName × Nat) := [(⟨"CodeListerModel", "follow", "(IZ)Z"⟩, 12), (⟨"CodeListerModel", "set", "(I)Z"⟩, 12), (⟨"CodeListerModel", "data", "(I)V"⟩, 12), (⟨"CodeListerModel", "name", "(III)V"⟩, 12), (⟨"CodeListerModel", "put", "(I)V"⟩, 12), (⟨"CodeListerModel", "number", "(I)V"⟩, 12), (⟨"CodeListerModel", "print", "(II)V"⟩, 12), (⟨"CodeListerModel", "front", "(I)V"⟩, 12), (⟨"CodeListerModel", "register", "(I)V"⟩, 12), (⟨"CodeListerModel", "understand", "(I)I"⟩, 12), (⟨"CodeListerModel", "here", "(I)Z"⟩, 12), (⟨"CodeListerModel", "begins", "(I)Z"⟩, 12)]
theorem lw_r2 : ∀ q ∈ lw_privs_2, lw_okq q := List.forall_mem_cons.mpr ⟨lw_p16, List.forall_mem_cons.mpr ⟨lw_p17, List.forall_mem_cons.mpr ⟨lw_p18, List.forall_mem_cons.mpr ⟨lw_p19, List.forall_mem_cons.mpr ⟨lw_p20, List.forall_mem_cons.mpr ⟨lw_p21, List.forall_mem_cons.mpr ⟨lw_p22, List.forall_mem_cons.mpr ⟨lw_p23, List.forall_mem_cons.mpr ⟨lw_p24, List.forall_mem_cons.mpr ⟨lw_p25, List.forall_mem_cons.mpr ⟨lw_p26, List.forall_mem_cons.mpr ⟨lw_p27, fun _ h => absurd h List.not_mem_nil⟩⟩⟩⟩⟩⟩⟩⟩⟩⟩⟩⟩
def lw_privs : List (MethodName × Nat) := lw_privs_1 ++ (lw_privs_2)
def lw_tbl : List Cond := k2_sels lw_privs ++ tables_1
theorem lw_privs_ok : ∀ q ∈ lw_privs, lw_okq q := by
  show ∀ q ∈ lw_privs_1 ++ (lw_privs_2), lw_okq q
  exact List.forall_mem_append.mpr ⟨lw_r1, lw_r2⟩
end
section
def lw_g : List Cond := lw_tbl.filter goodWord
theorem lg_i {w : Cond} {i : Nat} (h : lw_tbl[i]? = some w) (hg : goodWord w = true) : w ∈ lw_g := List.mem_filter.mpr ⟨List.mem_of_getElem? h, hg⟩
abbrev R_As : String := "CodeLister$Assembler"
def F_As : u_T := fun k => match k with
  | 0 => ("CodeLister$Assembler", "bytes", "[I", true)
  | _ => ("CodeLister$Assembler", "count", "I", false)
def t_As : Nat → FieldType := fun k => match k with
  | 0 => .array .int
  | _ => .int
theorem n_As : ∀ a, a < 2 → ∀ b, b < 2 → a ≠ b → (F_As a).2.1 ≠ (F_As b).2.1 := by decide +kernel
theorem t_As_ok : ∀ k, k < 2 → parseFieldDescriptor (F_As k).2.2.1 = some (t_As k) := by decide +kernel
theorem in_As : ∀ w ∈ u_ws R_As F_As 2, w ∈ lw_g := by decide +kernel
abbrev R_Im : String := "CodeLister$Image"
def F_Im : u_T := fun k => match k with
  | 0 => ("CodeLister$Image", "bytes", "[I", true)
  | _ => ("CodeLister$Image", "count", "I", false)
def t_Im : Nat → FieldType := fun k => match k with
  | 0 => .array .int
  | _ => .int
theorem n_Im : ∀ a, a < 2 → ∀ b, b < 2 → a ≠ b → (F_Im a).2.1 ≠ (F_Im b).2.1 := by decide +kernel
theorem t_Im_ok : ∀ k, k < 2 → parseFieldDescriptor (F_Im k).2.2.1 = some (t_Im k) := by decide +kernel
theorem in_Im : ∀ w ∈ u_ws R_Im F_Im 2, w ∈ lw_g := by decide +kernel
abbrev R_Te : String := "CodeLister$Text"
def F_Te : u_T := fun k => match k with
  | 0 => ("CodeLister$Text", "characters", "[C", true)
  | 1 => ("CodeLister$Text", "count", "I", false)
  | 2 => ("CodeLister$Text", "place", "I", false)
  | _ => ("CodeLister$Text", "right", "Z", false)
def t_Te : Nat → FieldType := fun k => match k with
  | 0 => .array .char
  | 1 => .int
  | 2 => .int
  | _ => .boolean
theorem n_Te : ∀ a, a < 4 → ∀ b, b < 4 → a ≠ b → (F_Te a).2.1 ≠ (F_Te b).2.1 := by decide +kernel
theorem t_Te_ok : ∀ k, k < 4 → parseFieldDescriptor (F_Te k).2.2.1 = some (t_Te k) := by decide +kernel
theorem in_Te : ∀ w ∈ u_ws R_Te F_Te 4, w ∈ lw_g := by decide +kernel
abbrev R_Wa : String := "CodeLister$Walk"
def F_Wa : u_T := fun k => match k with
  | 0 => ("CodeLister$Walk", "found", "[I", true)
  | 1 => ("CodeLister$Walk", "isFound", "[Z", true)
  | 2 => ("CodeLister$Walk", "addresses", "I", false)
  | _ => ("CodeLister$Walk", "count", "I", false)
def t_Wa : Nat → FieldType := fun k => match k with
  | 0 => .array .int
  | 1 => .array .boolean
  | 2 => .int
  | _ => .int
theorem n_Wa : ∀ a, a < 4 → ∀ b, b < 4 → a ≠ b → (F_Wa a).2.1 ≠ (F_Wa b).2.1 := by decide +kernel
theorem t_Wa_ok : ∀ k, k < 4 → parseFieldDescriptor (F_Wa k).2.2.1 = some (t_Wa k) := by decide +kernel
theorem in_Wa : ∀ w ∈ u_ws R_Wa F_Wa 4, w ∈ lw_g := by decide +kernel
abbrev R_Co : String := "CodeLister"
def F_Co : u_T := fun k => match k with
  | 0 => ("CodeLister", "image", "LCodeLister$Image;", true)
  | 1 => ("CodeLister", "entries", "[I", true)
  | 2 => ("CodeLister", "entryCount", "I", false)
  | 3 => ("CodeLister", "walk", "LCodeLister$Walk;", true)
  | 4 => ("CodeLister", "text", "LCodeLister$Text;", true)
  | 5 => ("CodeLister", "assembler", "LCodeLister$Assembler;", true)
  | 6 => ("CodeLister", "madeBytes", "[I", true)
  | _ => ("CodeLister", "madeCount", "I", false)
def t_Co : Nat → FieldType := fun k => match k with
  | 0 => .object "CodeLister$Image"
  | 1 => .array .int
  | 2 => .int
  | 3 => .object "CodeLister$Walk"
  | 4 => .object "CodeLister$Text"
  | 5 => .object "CodeLister$Assembler"
  | 6 => .array .int
  | _ => .int
theorem n_Co : ∀ a, a < 8 → ∀ b, b < 8 → a ≠ b → (F_Co a).2.1 ≠ (F_Co b).2.1 := by decide +kernel
theorem t_Co_ok : ∀ k, k < 8 → parseFieldDescriptor (F_Co k).2.2.1 = some (t_Co k) := by decide +kernel
theorem in_Co : ∀ w ∈ u_ws R_Co F_Co 8, w ∈ lw_g := by decide +kernel
abbrev R_Mo : String := "CodeListerModel"
def F_Mo : u_T := fun k => match k with
  | 0 => ("CodeListerModel", "image", "[I", true)
  | 1 => ("CodeListerModel", "entries", "[I", true)
  | 2 => ("CodeListerModel", "text", "[I", true)
  | 3 => ("CodeListerModel", "out", "[I", true)
  | 4 => ("CodeListerModel", "bytes", "[I", true)
  | 5 => ("CodeListerModel", "mark", "[Z", true)
  | 6 => ("CodeListerModel", "line", "[I", true)
  | 7 => ("CodeListerModel", "size", "I", false)
  | 8 => ("CodeListerModel", "entered", "I", false)
  | 9 => ("CodeListerModel", "length", "I", false)
  | 10 => ("CodeListerModel", "makes", "I", false)
  | _ => ("CodeListerModel", "width", "I", false)
def t_Mo : Nat → FieldType := fun k => match k with
  | 0 => .array .int
  | 1 => .array .int
  | 2 => .array .int
  | 3 => .array .int
  | 4 => .array .int
  | 5 => .array .boolean
  | 6 => .array .int
  | 7 => .int
  | 8 => .int
  | 9 => .int
  | 10 => .int
  | _ => .int
theorem n_Mo : ∀ a, a < 12 → ∀ b, b < 12 → a ≠ b → (F_Mo a).2.1 ≠ (F_Mo b).2.1 := by decide +kernel
theorem t_Mo_ok : ∀ k, k < 12 → parseFieldDescriptor (F_Mo k).2.2.1 = some (t_Mo k) := by decide +kernel
theorem in_Mo : ∀ w ∈ u_ws R_Mo F_Mo 12, w ∈ lw_g := by decide +kernel
abbrev R_Ki : String := "CodeLister$Kinds"
abbrev classes : List vw_C := [(R_As, F_As, 2), (R_Im, F_Im, 2), (R_Te, F_Te, 4), (R_Wa, F_Wa, 4), (R_Co, F_Co, 8), (R_Mo, F_Mo, 12)]
abbrev b_Co_init : ByteArray := prog_1_method_1_code
abbrev y_Co_init : MethodName := ⟨"CodeLister", "<init>", "()V"⟩
abbrev b_Co_append : ByteArray := prog_1_method_2_code
abbrev y_Co_append : MethodName := ⟨"CodeLister", "append", "(II)I"⟩
abbrev b_Co_enter : ByteArray := prog_1_method_3_code
abbrev y_Co_enter : MethodName := ⟨"CodeLister", "enter", "(I)Z"⟩
abbrev b_Co_clear : ByteArray := prog_1_method_4_code
abbrev y_Co_clear : MethodName := ⟨"CodeLister", "clear", "()V"⟩
abbrev b_Co_size : ByteArray := prog_1_method_5_code
abbrev y_Co_size : MethodName := ⟨"CodeLister", "size", "()I"⟩
abbrev b_Co_byteAt : ByteArray := prog_1_method_6_code
abbrev y_Co_byteAt : MethodName := ⟨"CodeLister", "byteAt", "(I)I"⟩
abbrev b_Co_entry : ByteArray := prog_1_method_7_code
abbrev y_Co_entry : MethodName := ⟨"CodeLister", "entry", "(I)I"⟩
abbrev b_Co_length : ByteArray := prog_1_method_8_code
abbrev y_Co_length : MethodName := ⟨"CodeLister", "length", "(I)I"⟩
abbrev b_Co_reach : ByteArray := prog_1_method_9_code
abbrev y_Co_reach : MethodName := ⟨"CodeLister", "reach", "()I"⟩
abbrev b_Co_reached : ByteArray := prog_1_method_10_code
abbrev y_Co_reached : MethodName := ⟨"CodeLister", "reached", "(I)Z"⟩
abbrev b_Co_body : ByteArray := prog_1_method_11_code
abbrev y_Co_body : MethodName := ⟨"CodeLister", "body", "(I)I"⟩
abbrev b_Co_sweep : ByteArray := prog_1_method_12_code
abbrev y_Co_sweep : MethodName := ⟨"CodeLister", "sweep", "()I"⟩
abbrev b_Co_list : ByteArray := prog_1_method_13_code
abbrev y_Co_list : MethodName := ⟨"CodeLister", "list", "()I"⟩
abbrev b_Co_textLength : ByteArray := prog_1_method_14_code
abbrev y_Co_textLength : MethodName := ⟨"CodeLister", "textLength", "()I"⟩
abbrev b_Co_charAt : ByteArray := prog_1_method_15_code
abbrev y_Co_charAt : MethodName := ⟨"CodeLister", "charAt", "(I)I"⟩
abbrev b_Co_type : ByteArray := prog_1_method_16_code
abbrev y_Co_type : MethodName := ⟨"CodeLister", "type", "(II)Z"⟩
abbrev b_Co_assemble : ByteArray := prog_1_method_17_code
abbrev y_Co_assemble : MethodName := ⟨"CodeLister", "assemble", "()I"⟩
abbrev b_Co_made : ByteArray := prog_1_method_18_code
abbrev y_Co_made : MethodName := ⟨"CodeLister", "made", "(I)I"⟩
abbrev b_Co_isEntry : ByteArray := prog_1_method_19_code
abbrev y_Co_isEntry : MethodName := ⟨"CodeLister", "isEntry", "(I)Z"⟩
abbrev b_Co_walkFromEntries : ByteArray := prog_1_method_20_code
abbrev y_Co_walkFromEntries : MethodName := ⟨"CodeLister", "walkFromEntries", "()V"⟩
abbrev b_Co_listLine : ByteArray := prog_1_method_21_code
abbrev y_Co_listLine : MethodName := ⟨"CodeLister", "listLine", "(I)I"⟩
abbrev b_Mo_init : ByteArray := prog_8_method_1_code
abbrev y_Mo_init : MethodName := ⟨"CodeListerModel", "<init>", "()V"⟩
abbrev b_Mo_append : ByteArray := prog_8_method_2_code
abbrev y_Mo_append : MethodName := ⟨"CodeListerModel", "append", "(II)I"⟩
abbrev b_Mo_has : ByteArray := prog_8_method_3_code
abbrev y_Mo_has : MethodName := ⟨"CodeListerModel", "has", "(I)Z"⟩
abbrev b_Mo_enter : ByteArray := prog_8_method_4_code
abbrev y_Mo_enter : MethodName := ⟨"CodeListerModel", "enter", "(I)Z"⟩
abbrev b_Mo_clear : ByteArray := prog_8_method_5_code
abbrev y_Mo_clear : MethodName := ⟨"CodeListerModel", "clear", "()V"⟩
abbrev b_Mo_size : ByteArray := prog_8_method_6_code
abbrev y_Mo_size : MethodName := ⟨"CodeListerModel", "size", "()I"⟩
abbrev b_Mo_byteAt : ByteArray := prog_8_method_7_code
abbrev y_Mo_byteAt : MethodName := ⟨"CodeListerModel", "byteAt", "(I)I"⟩
abbrev b_Mo_entry : ByteArray := prog_8_method_8_code
abbrev y_Mo_entry : MethodName := ⟨"CodeListerModel", "entry", "(I)I"⟩
abbrev b_Mo_longOf : ByteArray := prog_8_method_9_code
abbrev y_Mo_longOf : MethodName := ⟨"CodeListerModel", "longOf", "(I)I"⟩
abbrev b_Mo_length : ByteArray := prog_8_method_10_code
abbrev y_Mo_length : MethodName := ⟨"CodeListerModel", "length", "(I)I"⟩
abbrev b_Mo_set : ByteArray := prog_8_method_11_code
abbrev y_Mo_set : MethodName := ⟨"CodeListerModel", "set", "(I)Z"⟩
abbrev b_Mo_follow : ByteArray := prog_8_method_12_code
abbrev y_Mo_follow : MethodName := ⟨"CodeListerModel", "follow", "(IZ)Z"⟩
abbrev b_Mo_close : ByteArray := prog_8_method_13_code
abbrev y_Mo_close : MethodName := ⟨"CodeListerModel", "close", "(Z)I"⟩
abbrev b_Mo_wipe : ByteArray := prog_8_method_14_code
abbrev y_Mo_wipe : MethodName := ⟨"CodeListerModel", "wipe", "()V"⟩
abbrev b_Mo_reach : ByteArray := prog_8_method_15_code
abbrev y_Mo_reach : MethodName := ⟨"CodeListerModel", "reach", "()I"⟩
abbrev b_Mo_reached : ByteArray := prog_8_method_16_code
abbrev y_Mo_reached : MethodName := ⟨"CodeListerModel", "reached", "(I)Z"⟩
abbrev b_Mo_body : ByteArray := prog_8_method_17_code
abbrev y_Mo_body : MethodName := ⟨"CodeListerModel", "body", "(I)I"⟩
abbrev b_Mo_sweep : ByteArray := prog_8_method_18_code
abbrev y_Mo_sweep : MethodName := ⟨"CodeListerModel", "sweep", "()I"⟩
abbrev b_Mo_put : ByteArray := prog_8_method_19_code
abbrev y_Mo_put : MethodName := ⟨"CodeListerModel", "put", "(I)V"⟩
abbrev b_Mo_name : ByteArray := prog_8_method_20_code
abbrev y_Mo_name : MethodName := ⟨"CodeListerModel", "name", "(III)V"⟩
abbrev b_Mo_number : ByteArray := prog_8_method_21_code
abbrev y_Mo_number : MethodName := ⟨"CodeListerModel", "number", "(I)V"⟩
abbrev b_Mo_register : ByteArray := prog_8_method_22_code
abbrev y_Mo_register : MethodName := ⟨"CodeListerModel", "register", "(I)V"⟩
abbrev b_Mo_front : ByteArray := prog_8_method_23_code
abbrev y_Mo_front : MethodName := ⟨"CodeListerModel", "front", "(I)V"⟩
abbrev b_Mo_print : ByteArray := prog_8_method_24_code
abbrev y_Mo_print : MethodName := ⟨"CodeListerModel", "print", "(II)V"⟩
abbrev b_Mo_data : ByteArray := prog_8_method_25_code
abbrev y_Mo_data : MethodName := ⟨"CodeListerModel", "data", "(I)V"⟩
abbrev b_Mo_list : ByteArray := prog_8_method_26_code
abbrev y_Mo_list : MethodName := ⟨"CodeListerModel", "list", "()I"⟩
abbrev b_Mo_textLength : ByteArray := prog_8_method_27_code
abbrev y_Mo_textLength : MethodName := ⟨"CodeListerModel", "textLength", "()I"⟩
abbrev b_Mo_charAt : ByteArray := prog_8_method_28_code
abbrev y_Mo_charAt : MethodName := ⟨"CodeListerModel", "charAt", "(I)I"⟩
abbrev b_Mo_type : ByteArray := prog_8_method_29_code
abbrev y_Mo_type : MethodName := ⟨"CodeListerModel", "type", "(II)Z"⟩
abbrev b_Mo_begins : ByteArray := prog_8_method_30_code
abbrev y_Mo_begins : MethodName := ⟨"CodeListerModel", "begins", "(I)Z"⟩
abbrev b_Mo_here : ByteArray := prog_8_method_31_code
abbrev y_Mo_here : MethodName := ⟨"CodeListerModel", "here", "(I)Z"⟩
abbrev b_Mo_understand : ByteArray := prog_8_method_32_code
abbrev y_Mo_understand : MethodName := ⟨"CodeListerModel", "understand", "(I)I"⟩
abbrev b_Mo_assemble : ByteArray := prog_8_method_33_code
abbrev y_Mo_assemble : MethodName := ⟨"CodeListerModel", "assemble", "()I"⟩
abbrev b_Mo_made : ByteArray := prog_8_method_34_code
abbrev y_Mo_made : MethodName := ⟨"CodeListerModel", "made", "(I)I"⟩
abbrev b_As_init : ByteArray := prog_2_method_1_code
abbrev y_As_init : MethodName := ⟨"CodeLister$Assembler", "<init>", "()V"⟩
abbrev b_As_count : ByteArray := prog_2_method_2_code
abbrev y_As_count : MethodName := ⟨"CodeLister$Assembler", "count", "()I"⟩
abbrev b_As_copyTo : ByteArray := prog_2_method_3_code
abbrev y_As_copyTo : MethodName := ⟨"CodeLister$Assembler", "copyTo", "([I)V"⟩
abbrev b_As_read : ByteArray := prog_2_method_4_code
abbrev y_As_read : MethodName := ⟨"CodeLister$Assembler", "read", "(LCodeLister$Text;)Z"⟩
abbrev b_As_readLine : ByteArray := prog_2_method_5_code
abbrev y_As_readLine : MethodName := ⟨"CodeLister$Assembler", "readLine", "(LCodeLister$Text;)V"⟩
abbrev b_As_readRegisters : ByteArray := prog_2_method_6_code
abbrev y_As_readRegisters : MethodName := ⟨"CodeLister$Assembler", "readRegisters", "(LCodeLister$Text;I)I"⟩
abbrev b_As_readNumber : ByteArray := prog_2_method_7_code
abbrev y_As_readNumber : MethodName := ⟨"CodeLister$Assembler", "readNumber", "(LCodeLister$Text;I)I"⟩
abbrev b_As_addBytes : ByteArray := prog_2_method_8_code
abbrev y_As_addBytes : MethodName := ⟨"CodeLister$Assembler", "addBytes", "(III)V"⟩
abbrev b_As_addByte : ByteArray := prog_2_method_9_code
abbrev y_As_addByte : MethodName := ⟨"CodeLister$Assembler", "addByte", "(I)V"⟩
abbrev b_Im_init : ByteArray := prog_3_method_1_code
abbrev y_Im_init : MethodName := ⟨"CodeLister$Image", "<init>", "()V"⟩
abbrev b_Im_count : ByteArray := prog_3_method_2_code
abbrev y_Im_count : MethodName := ⟨"CodeLister$Image", "count", "()I"⟩
abbrev b_Im_holds : ByteArray := prog_3_method_3_code
abbrev y_Im_holds : MethodName := ⟨"CodeLister$Image", "holds", "(I)Z"⟩
abbrev b_Im_at : ByteArray := prog_3_method_4_code
abbrev y_Im_at : MethodName := ⟨"CodeLister$Image", "at", "(I)I"⟩
abbrev b_Im_add : ByteArray := prog_3_method_5_code
abbrev y_Im_add : MethodName := ⟨"CodeLister$Image", "add", "(I)V"⟩
abbrev b_Im_drop : ByteArray := prog_3_method_6_code
abbrev y_Im_drop : MethodName := ⟨"CodeLister$Image", "drop", "()V"⟩
abbrev b_Im_codeKind : ByteArray := prog_3_method_7_code
abbrev y_Im_codeKind : MethodName := ⟨"CodeLister$Image", "codeKind", "(I)I"⟩
abbrev b_Im_codeLength : ByteArray := prog_3_method_8_code
abbrev y_Im_codeLength : MethodName := ⟨"CodeLister$Image", "codeLength", "(I)I"⟩
abbrev b_Im_number : ByteArray := prog_3_method_9_code
abbrev y_Im_number : MethodName := ⟨"CodeLister$Image", "number", "(II)I"⟩
abbrev b_Ki_ofFirst : ByteArray := prog_4_method_2_code
abbrev y_Ki_ofFirst : MethodName := ⟨"CodeLister$Kinds", "ofFirst", "(I)I"⟩
abbrev b_Ki_first : ByteArray := prog_4_method_3_code
abbrev y_Ki_first : MethodName := ⟨"CodeLister$Kinds", "first", "(I)I"⟩
abbrev b_Ki_registers : ByteArray := prog_4_method_4_code
abbrev y_Ki_registers : MethodName := ⟨"CodeLister$Kinds", "registers", "(I)I"⟩
abbrev b_Ki_number : ByteArray := prog_4_method_5_code
abbrev y_Ki_number : MethodName := ⟨"CodeLister$Kinds", "number", "(I)I"⟩
abbrev b_Ki_bytes : ByteArray := prog_4_method_6_code
abbrev y_Ki_bytes : MethodName := ⟨"CodeLister$Kinds", "bytes", "(I)I"⟩
abbrev b_Ki_lowest : ByteArray := prog_4_method_7_code
abbrev y_Ki_lowest : MethodName := ⟨"CodeLister$Kinds", "lowest", "(I)I"⟩
abbrev b_Ki_highest : ByteArray := prog_4_method_8_code
abbrev y_Ki_highest : MethodName := ⟨"CodeLister$Kinds", "highest", "(I)I"⟩
abbrev b_Ki_fallsThrough : ByteArray := prog_4_method_9_code
abbrev y_Ki_fallsThrough : MethodName := ⟨"CodeLister$Kinds", "fallsThrough", "(I)Z"⟩
abbrev b_Ki_opening : ByteArray := prog_4_method_10_code
abbrev y_Ki_opening : MethodName := ⟨"CodeLister$Kinds", "opening", "(I)Ljava/lang/String;"⟩
abbrev b_Te_init : ByteArray := prog_5_method_1_code
abbrev y_Te_init : MethodName := ⟨"CodeLister$Text", "<init>", "()V"⟩
abbrev b_Te_count : ByteArray := prog_5_method_2_code
abbrev y_Te_count : MethodName := ⟨"CodeLister$Text", "count", "()I"⟩
abbrev b_Te_at : ByteArray := prog_5_method_3_code
abbrev y_Te_at : MethodName := ⟨"CodeLister$Text", "at", "(I)I"⟩
abbrev b_Te_drop : ByteArray := prog_5_method_4_code
abbrev y_Te_drop : MethodName := ⟨"CodeLister$Text", "drop", "()V"⟩
abbrev b_Te_put : ByteArray := prog_5_method_5_code
abbrev y_Te_put : MethodName := ⟨"CodeLister$Text", "put", "(IC)V"⟩
abbrev b_Te_addLine : ByteArray := prog_5_method_6_code
abbrev y_Te_addLine : MethodName := ⟨"CodeLister$Text", "addLine", "(III)V"⟩
abbrev b_Te_add : ByteArray := prog_5_method_7_code
abbrev y_Te_add : MethodName := ⟨"CodeLister$Text", "add", "(C)V"⟩
abbrev b_Te_addComma : ByteArray := prog_5_method_8_code
abbrev y_Te_addComma : MethodName := ⟨"CodeLister$Text", "addComma", "(I)V"⟩
abbrev b_Te_addDigit : ByteArray := prog_5_method_9_code
abbrev y_Te_addDigit : MethodName := ⟨"CodeLister$Text", "addDigit", "(I)V"⟩
abbrev b_Te_addNumber : ByteArray := prog_5_method_10_code
abbrev y_Te_addNumber : MethodName := ⟨"CodeLister$Text", "addNumber", "(I)V"⟩
abbrev b_Te_startReading : ByteArray := prog_5_method_11_code
abbrev y_Te_startReading : MethodName := ⟨"CodeLister$Text", "startReading", "()V"⟩
abbrev b_Te_isRight : ByteArray := prog_5_method_12_code
abbrev y_Te_isRight : MethodName := ⟨"CodeLister$Text", "isRight", "()Z"⟩
abbrev b_Te_hasMore : ByteArray := prog_5_method_13_code
abbrev y_Te_hasMore : MethodName := ⟨"CodeLister$Text", "hasMore", "()Z"⟩
abbrev b_Te_take : ByteArray := prog_5_method_14_code
abbrev y_Te_take : MethodName := ⟨"CodeLister$Text", "take", "(C)V"⟩
abbrev b_Te_takeComma : ByteArray := prog_5_method_15_code
abbrev y_Te_takeComma : MethodName := ⟨"CodeLister$Text", "takeComma", "(I)V"⟩
abbrev b_Te_takeKind : ByteArray := prog_5_method_16_code
abbrev y_Te_takeKind : MethodName := ⟨"CodeLister$Text", "takeKind", "()I"⟩
abbrev b_Te_goesOnWith : ByteArray := prog_5_method_17_code
abbrev y_Te_goesOnWith : MethodName := ⟨"CodeLister$Text", "goesOnWith", "(Ljava/lang/String;)Z"⟩
abbrev b_Te_takeRegister : ByteArray := prog_5_method_18_code
abbrev y_Te_takeRegister : MethodName := ⟨"CodeLister$Text", "takeRegister", "()I"⟩
abbrev b_Te_takeNumber : ByteArray := prog_5_method_19_code
abbrev y_Te_takeNumber : MethodName := ⟨"CodeLister$Text", "takeNumber", "(II)I"⟩
abbrev b_Te_takeAmount : ByteArray := prog_5_method_20_code
abbrev y_Te_takeAmount : MethodName := ⟨"CodeLister$Text", "takeAmount", "()I"⟩
abbrev b_Te_isDigit : ByteArray := prog_5_method_21_code
abbrev y_Te_isDigit : MethodName := ⟨"CodeLister$Text", "isDigit", "(I)Z"⟩
abbrev b_Wa_init : ByteArray := prog_6_method_1_code
abbrev y_Wa_init : MethodName := ⟨"CodeLister$Walk", "<init>", "()V"⟩
abbrev b_Wa_count : ByteArray := prog_6_method_2_code
abbrev y_Wa_count : MethodName := ⟨"CodeLister$Walk", "count", "()I"⟩
abbrev b_Wa_start : ByteArray := prog_6_method_3_code
abbrev y_Wa_start : MethodName := ⟨"CodeLister$Walk", "start", "(I)V"⟩
abbrev b_Wa_cameTo : ByteArray := prog_6_method_4_code
abbrev y_Wa_cameTo : MethodName := ⟨"CodeLister$Walk", "cameTo", "(I)Z"⟩
abbrev b_Wa_comeTo : ByteArray := prog_6_method_5_code
abbrev y_Wa_comeTo : MethodName := ⟨"CodeLister$Walk", "comeTo", "(I)V"⟩
abbrev b_Wa_follow : ByteArray := prog_6_method_6_code
abbrev y_Wa_follow : MethodName := ⟨"CodeLister$Walk", "follow", "(LCodeLister$Image;Z)V"⟩
abbrev b_Wa_comeToSuccessors : ByteArray := prog_6_method_7_code
abbrev y_Wa_comeToSuccessors : MethodName := ⟨"CodeLister$Walk", "comeToSuccessors", "(LCodeLister$Image;IZ)V"⟩
abbrev b_St_length : ByteArray := prog_10_method_54_code
abbrev y_St_length : MethodName := ⟨"java/lang/String", "length", "()I"⟩
abbrev b_St_coder : ByteArray := prog_10_method_152_code
abbrev y_St_coder : MethodName := ⟨"java/lang/String", "coder", "()B"⟩
abbrev b_St_charAt : ByteArray := prog_10_method_56_code
abbrev y_St_charAt : MethodName := ⟨"java/lang/String", "charAt", "(I)C"⟩
abbrev b_St_isLatin1 : ByteArray := prog_10_method_154_code
abbrev y_St_isLatin1 : MethodName := ⟨"java/lang/String", "isLatin1", "()Z"⟩
abbrev b_Sl_charAt : ByteArray := prog_11_method_2_code
abbrev y_Sl_charAt : MethodName := ⟨"java/lang/StringLatin1", "charAt", "([BI)C"⟩
abbrev b_St_checkIndex : ByteArray := prog_10_method_155_code
abbrev y_St_checkIndex : MethodName := ⟨"java/lang/String", "checkIndex", "(II)V"⟩
abbrev b_Pr_checkIndex : ByteArray := prog_14_method_11_code
abbrev y_Pr_checkIndex : MethodName := ⟨"jdk/internal/util/Preconditions", "checkIndex", "(IILjava/util/function/BiFunction;)I"⟩
end
section
theorem kp_Co_isEntry : Cond.selects "CodeLister" ⟨"CodeLister", "isEntry", "(I)Z"⟩ ⟨"CodeLister", "isEntry", "(I)Z"⟩ ∈ lw_g := lg_i (i := 0) (by decide +kernel) rfl
theorem kp_Co_walkFromEntries : Cond.selects "CodeLister" ⟨"CodeLister", "walkFromEntries", "()V"⟩ ⟨"CodeLister", "walkFromEntries", "()V"⟩ ∈ lw_g := lg_i (i := 1) (by decide +kernel) rfl
theorem kp_Wa_comeToSuccessors : Cond.selects "CodeLister$Walk" ⟨"CodeLister$Walk", "comeToSuccessors", "(LCodeLister$Image;IZ)V"⟩ ⟨"CodeLister$Walk", "comeToSuccessors", "(LCodeLister$Image;IZ)V"⟩ ∈ lw_g := lg_i (i := 2) (by decide +kernel) rfl
theorem kp_Co_listLine : Cond.selects "CodeLister" ⟨"CodeLister", "listLine", "(I)I"⟩ ⟨"CodeLister", "listLine", "(I)I"⟩ ∈ lw_g := lg_i (i := 3) (by decide +kernel) rfl
theorem kp_Te_add : Cond.selects "CodeLister$Text" ⟨"CodeLister$Text", "add", "(C)V"⟩ ⟨"CodeLister$Text", "add", "(C)V"⟩ ∈ lw_g := lg_i (i := 4) (by decide +kernel) rfl
theorem kp_Te_addComma : Cond.selects "CodeLister$Text" ⟨"CodeLister$Text", "addComma", "(I)V"⟩ ⟨"CodeLister$Text", "addComma", "(I)V"⟩ ∈ lw_g := lg_i (i := 5) (by decide +kernel) rfl
theorem kp_Te_addDigit : Cond.selects "CodeLister$Text" ⟨"CodeLister$Text", "addDigit", "(I)V"⟩ ⟨"CodeLister$Text", "addDigit", "(I)V"⟩ ∈ lw_g := lg_i (i := 6) (by decide +kernel) rfl
theorem kp_Te_addNumber : Cond.selects "CodeLister$Text" ⟨"CodeLister$Text", "addNumber", "(I)V"⟩ ⟨"CodeLister$Text", "addNumber", "(I)V"⟩ ∈ lw_g := lg_i (i := 7) (by decide +kernel) rfl
theorem kp_As_readLine : Cond.selects "CodeLister$Assembler" ⟨"CodeLister$Assembler", "readLine", "(LCodeLister$Text;)V"⟩ ⟨"CodeLister$Assembler", "readLine", "(LCodeLister$Text;)V"⟩ ∈ lw_g := lg_i (i := 8) (by decide +kernel) rfl
theorem kp_Te_goesOnWith : Cond.selects "CodeLister$Text" ⟨"CodeLister$Text", "goesOnWith", "(Ljava/lang/String;)Z"⟩ ⟨"CodeLister$Text", "goesOnWith", "(Ljava/lang/String;)Z"⟩ ∈ lw_g := lg_i (i := 9) (by decide +kernel) rfl
theorem kp_Te_takeAmount : Cond.selects "CodeLister$Text" ⟨"CodeLister$Text", "takeAmount", "()I"⟩ ⟨"CodeLister$Text", "takeAmount", "()I"⟩ ∈ lw_g := lg_i (i := 10) (by decide +kernel) rfl
theorem kp_As_addBytes : Cond.selects "CodeLister$Assembler" ⟨"CodeLister$Assembler", "addBytes", "(III)V"⟩ ⟨"CodeLister$Assembler", "addBytes", "(III)V"⟩ ∈ lw_g := lg_i (i := 11) (by decide +kernel) rfl
theorem kp_As_addByte : Cond.selects "CodeLister$Assembler" ⟨"CodeLister$Assembler", "addByte", "(I)V"⟩ ⟨"CodeLister$Assembler", "addByte", "(I)V"⟩ ∈ lw_g := lg_i (i := 12) (by decide +kernel) rfl
theorem kp_Mo_has : Cond.selects "CodeListerModel" ⟨"CodeListerModel", "has", "(I)Z"⟩ ⟨"CodeListerModel", "has", "(I)Z"⟩ ∈ lw_g := lg_i (i := 13) (by decide +kernel) rfl
theorem kp_Mo_wipe : Cond.selects "CodeListerModel" ⟨"CodeListerModel", "wipe", "()V"⟩ ⟨"CodeListerModel", "wipe", "()V"⟩ ∈ lw_g := lg_i (i := 14) (by decide +kernel) rfl
theorem kp_Mo_close : Cond.selects "CodeListerModel" ⟨"CodeListerModel", "close", "(Z)I"⟩ ⟨"CodeListerModel", "close", "(Z)I"⟩ ∈ lw_g := lg_i (i := 15) (by decide +kernel) rfl
theorem kp_Mo_follow : Cond.selects "CodeListerModel" ⟨"CodeListerModel", "follow", "(IZ)Z"⟩ ⟨"CodeListerModel", "follow", "(IZ)Z"⟩ ∈ lw_g := lg_i (i := 16) (by decide +kernel) rfl
theorem kp_Mo_set : Cond.selects "CodeListerModel" ⟨"CodeListerModel", "set", "(I)Z"⟩ ⟨"CodeListerModel", "set", "(I)Z"⟩ ∈ lw_g := lg_i (i := 17) (by decide +kernel) rfl
theorem kp_Mo_data : Cond.selects "CodeListerModel" ⟨"CodeListerModel", "data", "(I)V"⟩ ⟨"CodeListerModel", "data", "(I)V"⟩ ∈ lw_g := lg_i (i := 18) (by decide +kernel) rfl
theorem kp_Mo_name : Cond.selects "CodeListerModel" ⟨"CodeListerModel", "name", "(III)V"⟩ ⟨"CodeListerModel", "name", "(III)V"⟩ ∈ lw_g := lg_i (i := 19) (by decide +kernel) rfl
theorem kp_Mo_put : Cond.selects "CodeListerModel" ⟨"CodeListerModel", "put", "(I)V"⟩ ⟨"CodeListerModel", "put", "(I)V"⟩ ∈ lw_g := lg_i (i := 20) (by decide +kernel) rfl
theorem kp_Mo_number : Cond.selects "CodeListerModel" ⟨"CodeListerModel", "number", "(I)V"⟩ ⟨"CodeListerModel", "number", "(I)V"⟩ ∈ lw_g := lg_i (i := 21) (by decide +kernel) rfl
theorem kp_Mo_print : Cond.selects "CodeListerModel" ⟨"CodeListerModel", "print", "(II)V"⟩ ⟨"CodeListerModel", "print", "(II)V"⟩ ∈ lw_g := lg_i (i := 22) (by decide +kernel) rfl
theorem kp_Mo_front : Cond.selects "CodeListerModel" ⟨"CodeListerModel", "front", "(I)V"⟩ ⟨"CodeListerModel", "front", "(I)V"⟩ ∈ lw_g := lg_i (i := 23) (by decide +kernel) rfl
theorem kp_Mo_register : Cond.selects "CodeListerModel" ⟨"CodeListerModel", "register", "(I)V"⟩ ⟨"CodeListerModel", "register", "(I)V"⟩ ∈ lw_g := lg_i (i := 24) (by decide +kernel) rfl
theorem kp_Mo_understand : Cond.selects "CodeListerModel" ⟨"CodeListerModel", "understand", "(I)I"⟩ ⟨"CodeListerModel", "understand", "(I)I"⟩ ∈ lw_g := lg_i (i := 25) (by decide +kernel) rfl
theorem kp_Mo_here : Cond.selects "CodeListerModel" ⟨"CodeListerModel", "here", "(I)Z"⟩ ⟨"CodeListerModel", "here", "(I)Z"⟩ ∈ lw_g := lg_i (i := 26) (by decide +kernel) rfl
theorem kp_Mo_begins : Cond.selects "CodeListerModel" ⟨"CodeListerModel", "begins", "(I)Z"⟩ ⟨"CodeListerModel", "begins", "(I)Z"⟩ ∈ lw_g := lg_i (i := 27) (by decide +kernel) rfl
theorem k_0 : Cond.initialized "CodeListerLaw" ∈ lw_g := lg_i (i := 28) (by decide +kernel) rfl
theorem k_1 : Cond.initialized "CodeLister" ∈ lw_g := lg_i (i := 29) (by decide +kernel) rfl
theorem k_2 : Cond.initialized "CodeLister$Image" ∈ lw_g := lg_i (i := 30) (by decide +kernel) rfl
theorem k_3 : Cond.initialized "CodeLister$Walk" ∈ lw_g := lg_i (i := 31) (by decide +kernel) rfl
theorem k_4 : Cond.initialized "CodeLister$Text" ∈ lw_g := lg_i (i := 32) (by decide +kernel) rfl
theorem k_5 : Cond.initialized "CodeLister$Assembler" ∈ lw_g := lg_i (i := 33) (by decide +kernel) rfl
theorem k_6 : Cond.initialized "CodeListerModel" ∈ lw_g := lg_i (i := 34) (by decide +kernel) rfl
theorem k_7 : Cond.initialized "CodeLister$Kinds" ∈ lw_g := lg_i (i := 35) (by decide +kernel) rfl
theorem k_8 : Cond.initialized "java/lang/Math" ∈ lw_g := lg_i (i := 36) (by decide +kernel) rfl
theorem k_9 : Cond.initialized "java/lang/String" ∈ lw_g := lg_i (i := 37) (by decide +kernel) rfl
theorem k_10 : Cond.initialized "java/lang/StringLatin1" ∈ lw_g := lg_i (i := 38) (by decide +kernel) rfl
theorem k_11 : Cond.initialized "jdk/internal/util/Preconditions" ∈ lw_g := lg_i (i := 39) (by decide +kernel) rfl
theorem k_12 : Cond.initialized "java/lang/StringUTF16" ∈ lw_g := lg_i (i := 40) (by decide +kernel) rfl
theorem k_13 : Cond.initialized "java/lang/System" ∈ lw_g := lg_i (i := 41) (by decide +kernel) rfl
theorem k_14 : Cond.classLink "CodeListerLaw" 7 "CodeLister" ∈ lw_g := lg_i (i := 42) (by decide +kernel) rfl
theorem k_15 : Cond.instantiable "CodeLister" 8 ∈ lw_g := lg_i (i := 43) (by decide +kernel) rfl
theorem k_16 : Cond.methodLink "CodeListerLaw" 9 ⟨"CodeLister", "<init>", "()V"⟩ ∈ lw_g := lg_i (i := 44) (by decide +kernel) rfl
theorem k_17 : Cond.instanceMethod ⟨"CodeLister", "<init>", "()V"⟩ ∈ lw_g := lg_i (i := 45) (by decide +kernel) rfl
theorem k_18 : Cond.code ⟨"CodeLister", "<init>", "()V"⟩ prog_1_method_1_code 1 none ∈ lw_g := lg_i (i := 46) (by decide +kernel) rfl
theorem k_19 : Cond.methodLink "CodeLister" 1 ⟨"java/lang/Object", "<init>", "()V"⟩ ∈ lw_g := lg_i (i := 47) (by decide +kernel) rfl
theorem k_20 : Cond.instanceMethod ⟨"java/lang/Object", "<init>", "()V"⟩ ∈ lw_g := lg_i (i := 48) (by decide +kernel) rfl
theorem k_21 : Cond.code ⟨"java/lang/Object", "<init>", "()V"⟩ object_method_1_code 1 none ∈ lw_g := lg_i (i := 49) (by decide +kernel) rfl
theorem k_22 : Cond.classLink "CodeLister" 7 "CodeLister$Image" ∈ lw_g := lg_i (i := 50) (by decide +kernel) rfl
theorem k_23 : Cond.instantiable "CodeLister$Image" 2 ∈ lw_g := lg_i (i := 51) (by decide +kernel) rfl
theorem k_24 : Cond.methodLink "CodeLister" 9 ⟨"CodeLister$Image", "<init>", "()V"⟩ ∈ lw_g := lg_i (i := 52) (by decide +kernel) rfl
theorem k_25 : Cond.instanceMethod ⟨"CodeLister$Image", "<init>", "()V"⟩ ∈ lw_g := lg_i (i := 53) (by decide +kernel) rfl
theorem k_26 : Cond.code ⟨"CodeLister$Image", "<init>", "()V"⟩ prog_3_method_1_code 1 none ∈ lw_g := lg_i (i := 54) (by decide +kernel) rfl
theorem k_27 : Cond.methodLink "CodeLister$Image" 3 ⟨"java/lang/Object", "<init>", "()V"⟩ ∈ lw_g := lg_i (i := 55) (by decide +kernel) rfl
theorem k_28 : Cond.fieldLink "CodeLister$Image" 9 "CodeLister$Image" "bytes" "[I" ∈ lw_g := lg_i (i := 56) (by decide +kernel) rfl
theorem k_29 : Cond.fieldLink "CodeLister$Image" 15 "CodeLister$Image" "count" "I" ∈ lw_g := lg_i (i := 57) (by decide +kernel) rfl
theorem k_30 : Cond.laysFinal "CodeLister$Image" "CodeLister$Image" "bytes" "[I" ∈ lw_g := lg_i (i := 58) (by decide +kernel) rfl
theorem k_31 : Cond.soleField "CodeLister$Image" "bytes" ∈ lw_g := lg_i (i := 59) (by decide +kernel) rfl
theorem k_32 : Cond.lays "CodeLister$Image" "CodeLister$Image" "count" "I" ∈ lw_g := lg_i (i := 60) (by decide +kernel) rfl
theorem k_33 : Cond.soleField "CodeLister$Image" "count" ∈ lw_g := lg_i (i := 61) (by decide +kernel) rfl
theorem k_34 : Cond.superclass "CodeLister$Image" "java/lang/Object" ∈ lw_g := lg_i (i := 62) (by decide +kernel) rfl
theorem k_35 : Cond.arrayClass .int ∈ lw_g := lg_i (i := 63) (by decide +kernel) rfl
theorem k_36 : Cond.classLink "CodeLister" 20 "CodeLister$Walk" ∈ lw_g := lg_i (i := 64) (by decide +kernel) rfl
theorem k_37 : Cond.instantiable "CodeLister$Walk" 4 ∈ lw_g := lg_i (i := 65) (by decide +kernel) rfl
theorem k_38 : Cond.methodLink "CodeLister" 22 ⟨"CodeLister$Walk", "<init>", "()V"⟩ ∈ lw_g := lg_i (i := 66) (by decide +kernel) rfl
theorem k_39 : Cond.instanceMethod ⟨"CodeLister$Walk", "<init>", "()V"⟩ ∈ lw_g := lg_i (i := 67) (by decide +kernel) rfl
theorem k_40 : Cond.code ⟨"CodeLister$Walk", "<init>", "()V"⟩ prog_6_method_1_code 1 none ∈ lw_g := lg_i (i := 68) (by decide +kernel) rfl
theorem k_41 : Cond.methodLink "CodeLister$Walk" 3 ⟨"java/lang/Object", "<init>", "()V"⟩ ∈ lw_g := lg_i (i := 69) (by decide +kernel) rfl
theorem k_42 : Cond.fieldLink "CodeLister$Walk" 9 "CodeLister$Walk" "found" "[I" ∈ lw_g := lg_i (i := 70) (by decide +kernel) rfl
theorem k_43 : Cond.fieldLink "CodeLister$Walk" 15 "CodeLister$Walk" "isFound" "[Z" ∈ lw_g := lg_i (i := 71) (by decide +kernel) rfl
theorem k_44 : Cond.fieldLink "CodeLister$Walk" 29 "CodeLister$Walk" "addresses" "I" ∈ lw_g := lg_i (i := 72) (by decide +kernel) rfl
theorem k_45 : Cond.fieldLink "CodeLister$Walk" 19 "CodeLister$Walk" "count" "I" ∈ lw_g := lg_i (i := 73) (by decide +kernel) rfl
theorem k_46 : Cond.laysFinal "CodeLister$Walk" "CodeLister$Walk" "found" "[I" ∈ lw_g := lg_i (i := 74) (by decide +kernel) rfl
theorem k_47 : Cond.soleField "CodeLister$Walk" "found" ∈ lw_g := lg_i (i := 75) (by decide +kernel) rfl
theorem k_48 : Cond.laysFinal "CodeLister$Walk" "CodeLister$Walk" "isFound" "[Z" ∈ lw_g := lg_i (i := 76) (by decide +kernel) rfl
theorem k_49 : Cond.soleField "CodeLister$Walk" "isFound" ∈ lw_g := lg_i (i := 77) (by decide +kernel) rfl
theorem k_50 : Cond.lays "CodeLister$Walk" "CodeLister$Walk" "addresses" "I" ∈ lw_g := lg_i (i := 78) (by decide +kernel) rfl
theorem k_51 : Cond.soleField "CodeLister$Walk" "addresses" ∈ lw_g := lg_i (i := 79) (by decide +kernel) rfl
theorem k_52 : Cond.lays "CodeLister$Walk" "CodeLister$Walk" "count" "I" ∈ lw_g := lg_i (i := 80) (by decide +kernel) rfl
theorem k_53 : Cond.soleField "CodeLister$Walk" "count" ∈ lw_g := lg_i (i := 81) (by decide +kernel) rfl
theorem k_54 : Cond.superclass "CodeLister$Walk" "java/lang/Object" ∈ lw_g := lg_i (i := 82) (by decide +kernel) rfl
theorem k_55 : Cond.arrayClass .boolean ∈ lw_g := lg_i (i := 83) (by decide +kernel) rfl
theorem k_56 : Cond.classLink "CodeLister" 27 "CodeLister$Text" ∈ lw_g := lg_i (i := 84) (by decide +kernel) rfl
theorem k_57 : Cond.instantiable "CodeLister$Text" 4 ∈ lw_g := lg_i (i := 85) (by decide +kernel) rfl
theorem k_58 : Cond.methodLink "CodeLister" 29 ⟨"CodeLister$Text", "<init>", "()V"⟩ ∈ lw_g := lg_i (i := 86) (by decide +kernel) rfl
theorem k_59 : Cond.instanceMethod ⟨"CodeLister$Text", "<init>", "()V"⟩ ∈ lw_g := lg_i (i := 87) (by decide +kernel) rfl
theorem k_60 : Cond.code ⟨"CodeLister$Text", "<init>", "()V"⟩ prog_5_method_1_code 1 none ∈ lw_g := lg_i (i := 88) (by decide +kernel) rfl
theorem k_61 : Cond.methodLink "CodeLister$Text" 3 ⟨"java/lang/Object", "<init>", "()V"⟩ ∈ lw_g := lg_i (i := 89) (by decide +kernel) rfl
theorem k_62 : Cond.fieldLink "CodeLister$Text" 9 "CodeLister$Text" "characters" "[C" ∈ lw_g := lg_i (i := 90) (by decide +kernel) rfl
theorem k_63 : Cond.fieldLink "CodeLister$Text" 15 "CodeLister$Text" "count" "I" ∈ lw_g := lg_i (i := 91) (by decide +kernel) rfl
theorem k_64 : Cond.fieldLink "CodeLister$Text" 69 "CodeLister$Text" "place" "I" ∈ lw_g := lg_i (i := 92) (by decide +kernel) rfl
theorem k_65 : Cond.fieldLink "CodeLister$Text" 72 "CodeLister$Text" "right" "Z" ∈ lw_g := lg_i (i := 93) (by decide +kernel) rfl
theorem k_66 : Cond.laysFinal "CodeLister$Text" "CodeLister$Text" "characters" "[C" ∈ lw_g := lg_i (i := 94) (by decide +kernel) rfl
theorem k_67 : Cond.soleField "CodeLister$Text" "characters" ∈ lw_g := lg_i (i := 95) (by decide +kernel) rfl
theorem k_68 : Cond.lays "CodeLister$Text" "CodeLister$Text" "count" "I" ∈ lw_g := lg_i (i := 96) (by decide +kernel) rfl
theorem k_69 : Cond.soleField "CodeLister$Text" "count" ∈ lw_g := lg_i (i := 97) (by decide +kernel) rfl
theorem k_70 : Cond.lays "CodeLister$Text" "CodeLister$Text" "place" "I" ∈ lw_g := lg_i (i := 98) (by decide +kernel) rfl
theorem k_71 : Cond.soleField "CodeLister$Text" "place" ∈ lw_g := lg_i (i := 99) (by decide +kernel) rfl
theorem k_72 : Cond.lays "CodeLister$Text" "CodeLister$Text" "right" "Z" ∈ lw_g := lg_i (i := 100) (by decide +kernel) rfl
theorem k_73 : Cond.soleField "CodeLister$Text" "right" ∈ lw_g := lg_i (i := 101) (by decide +kernel) rfl
theorem k_74 : Cond.superclass "CodeLister$Text" "java/lang/Object" ∈ lw_g := lg_i (i := 102) (by decide +kernel) rfl
theorem k_75 : Cond.arrayClass .char ∈ lw_g := lg_i (i := 103) (by decide +kernel) rfl
theorem k_76 : Cond.classLink "CodeLister" 34 "CodeLister$Assembler" ∈ lw_g := lg_i (i := 104) (by decide +kernel) rfl
theorem k_77 : Cond.instantiable "CodeLister$Assembler" 2 ∈ lw_g := lg_i (i := 105) (by decide +kernel) rfl
theorem k_78 : Cond.methodLink "CodeLister" 36 ⟨"CodeLister$Assembler", "<init>", "()V"⟩ ∈ lw_g := lg_i (i := 106) (by decide +kernel) rfl
theorem k_79 : Cond.instanceMethod ⟨"CodeLister$Assembler", "<init>", "()V"⟩ ∈ lw_g := lg_i (i := 107) (by decide +kernel) rfl
theorem k_80 : Cond.code ⟨"CodeLister$Assembler", "<init>", "()V"⟩ prog_2_method_1_code 1 none ∈ lw_g := lg_i (i := 108) (by decide +kernel) rfl
theorem k_81 : Cond.methodLink "CodeLister$Assembler" 3 ⟨"java/lang/Object", "<init>", "()V"⟩ ∈ lw_g := lg_i (i := 109) (by decide +kernel) rfl
theorem k_82 : Cond.fieldLink "CodeLister$Assembler" 9 "CodeLister$Assembler" "bytes" "[I" ∈ lw_g := lg_i (i := 110) (by decide +kernel) rfl
theorem k_83 : Cond.fieldLink "CodeLister$Assembler" 15 "CodeLister$Assembler" "count" "I" ∈ lw_g := lg_i (i := 111) (by decide +kernel) rfl
theorem k_84 : Cond.laysFinal "CodeLister$Assembler" "CodeLister$Assembler" "bytes" "[I" ∈ lw_g := lg_i (i := 112) (by decide +kernel) rfl
theorem k_85 : Cond.soleField "CodeLister$Assembler" "bytes" ∈ lw_g := lg_i (i := 113) (by decide +kernel) rfl
theorem k_86 : Cond.lays "CodeLister$Assembler" "CodeLister$Assembler" "count" "I" ∈ lw_g := lg_i (i := 114) (by decide +kernel) rfl
theorem k_87 : Cond.soleField "CodeLister$Assembler" "count" ∈ lw_g := lg_i (i := 115) (by decide +kernel) rfl
theorem k_88 : Cond.superclass "CodeLister$Assembler" "java/lang/Object" ∈ lw_g := lg_i (i := 116) (by decide +kernel) rfl
theorem k_89 : Cond.fieldLink "CodeLister" 10 "CodeLister" "image" "LCodeLister$Image;" ∈ lw_g := lg_i (i := 117) (by decide +kernel) rfl
theorem k_90 : Cond.fieldLink "CodeLister" 16 "CodeLister" "entries" "[I" ∈ lw_g := lg_i (i := 118) (by decide +kernel) rfl
theorem k_91 : Cond.fieldLink "CodeLister" 59 "CodeLister" "entryCount" "I" ∈ lw_g := lg_i (i := 119) (by decide +kernel) rfl
theorem k_92 : Cond.fieldLink "CodeLister" 23 "CodeLister" "walk" "LCodeLister$Walk;" ∈ lw_g := lg_i (i := 120) (by decide +kernel) rfl
theorem k_93 : Cond.fieldLink "CodeLister" 30 "CodeLister" "text" "LCodeLister$Text;" ∈ lw_g := lg_i (i := 121) (by decide +kernel) rfl
theorem k_94 : Cond.fieldLink "CodeLister" 37 "CodeLister" "assembler" "LCodeLister$Assembler;" ∈ lw_g := lg_i (i := 122) (by decide +kernel) rfl
theorem k_95 : Cond.fieldLink "CodeLister" 41 "CodeLister" "madeBytes" "[I" ∈ lw_g := lg_i (i := 123) (by decide +kernel) rfl
theorem k_96 : Cond.fieldLink "CodeLister" 67 "CodeLister" "madeCount" "I" ∈ lw_g := lg_i (i := 124) (by decide +kernel) rfl
theorem k_97 : Cond.laysFinal "CodeLister" "CodeLister" "image" "LCodeLister$Image;" ∈ lw_g := lg_i (i := 125) (by decide +kernel) rfl
theorem k_98 : Cond.soleField "CodeLister" "image" ∈ lw_g := lg_i (i := 126) (by decide +kernel) rfl
theorem k_99 : Cond.laysFinal "CodeLister" "CodeLister" "entries" "[I" ∈ lw_g := lg_i (i := 127) (by decide +kernel) rfl
theorem k_100 : Cond.soleField "CodeLister" "entries" ∈ lw_g := lg_i (i := 128) (by decide +kernel) rfl
theorem k_101 : Cond.lays "CodeLister" "CodeLister" "entryCount" "I" ∈ lw_g := lg_i (i := 129) (by decide +kernel) rfl
theorem k_102 : Cond.soleField "CodeLister" "entryCount" ∈ lw_g := lg_i (i := 130) (by decide +kernel) rfl
theorem k_103 : Cond.laysFinal "CodeLister" "CodeLister" "walk" "LCodeLister$Walk;" ∈ lw_g := lg_i (i := 131) (by decide +kernel) rfl
theorem k_104 : Cond.soleField "CodeLister" "walk" ∈ lw_g := lg_i (i := 132) (by decide +kernel) rfl
theorem k_105 : Cond.laysFinal "CodeLister" "CodeLister" "text" "LCodeLister$Text;" ∈ lw_g := lg_i (i := 133) (by decide +kernel) rfl
theorem k_106 : Cond.soleField "CodeLister" "text" ∈ lw_g := lg_i (i := 134) (by decide +kernel) rfl
theorem k_107 : Cond.laysFinal "CodeLister" "CodeLister" "assembler" "LCodeLister$Assembler;" ∈ lw_g := lg_i (i := 135) (by decide +kernel) rfl
theorem k_108 : Cond.soleField "CodeLister" "assembler" ∈ lw_g := lg_i (i := 136) (by decide +kernel) rfl
theorem k_109 : Cond.laysFinal "CodeLister" "CodeLister" "madeBytes" "[I" ∈ lw_g := lg_i (i := 137) (by decide +kernel) rfl
theorem k_110 : Cond.soleField "CodeLister" "madeBytes" ∈ lw_g := lg_i (i := 138) (by decide +kernel) rfl
theorem k_111 : Cond.lays "CodeLister" "CodeLister" "madeCount" "I" ∈ lw_g := lg_i (i := 139) (by decide +kernel) rfl
theorem k_112 : Cond.soleField "CodeLister" "madeCount" ∈ lw_g := lg_i (i := 140) (by decide +kernel) rfl
theorem k_113 : Cond.superclass "CodeLister" "java/lang/Object" ∈ lw_g := lg_i (i := 141) (by decide +kernel) rfl
theorem k_114 : Cond.methodLink "CodeListerLaw" 13 ⟨"CodeLister", "append", "(II)I"⟩ ∈ lw_g := lg_i (i := 142) (by decide +kernel) rfl
theorem k_115 : Cond.instanceMethod ⟨"CodeLister", "append", "(II)I"⟩ ∈ lw_g := lg_i (i := 143) (by decide +kernel) rfl
theorem k_116 : Cond.selects "CodeLister" ⟨"CodeLister", "append", "(II)I"⟩ ⟨"CodeLister", "append", "(II)I"⟩ ∈ lw_g := lg_i (i := 144) (by decide +kernel) rfl
theorem k_117 : Cond.code ⟨"CodeLister", "append", "(II)I"⟩ prog_1_method_2_code 4 (some .int) ∈ lw_g := lg_i (i := 145) (by decide +kernel) rfl
theorem k_118 : Cond.methodLink "CodeLister" 44 ⟨"CodeLister$Image", "count", "()I"⟩ ∈ lw_g := lg_i (i := 146) (by decide +kernel) rfl
theorem k_119 : Cond.instanceMethod ⟨"CodeLister$Image", "count", "()I"⟩ ∈ lw_g := lg_i (i := 147) (by decide +kernel) rfl
theorem k_120 : Cond.selects "CodeLister$Image" ⟨"CodeLister$Image", "count", "()I"⟩ ⟨"CodeLister$Image", "count", "()I"⟩ ∈ lw_g := lg_i (i := 148) (by decide +kernel) rfl
theorem k_121 : Cond.code ⟨"CodeLister$Image", "count", "()I"⟩ prog_3_method_2_code 1 (some .int) ∈ lw_g := lg_i (i := 149) (by decide +kernel) rfl
theorem k_122 : Cond.methodLink "CodeLister" 48 ⟨"CodeLister$Image", "add", "(I)V"⟩ ∈ lw_g := lg_i (i := 150) (by decide +kernel) rfl
theorem k_123 : Cond.instanceMethod ⟨"CodeLister$Image", "add", "(I)V"⟩ ∈ lw_g := lg_i (i := 151) (by decide +kernel) rfl
theorem k_124 : Cond.selects "CodeLister$Image" ⟨"CodeLister$Image", "add", "(I)V"⟩ ⟨"CodeLister$Image", "add", "(I)V"⟩ ∈ lw_g := lg_i (i := 152) (by decide +kernel) rfl
theorem k_125 : Cond.code ⟨"CodeLister$Image", "add", "(I)V"⟩ prog_3_method_5_code 2 none ∈ lw_g := lg_i (i := 153) (by decide +kernel) rfl
theorem k_126 : Cond.methodLink "CodeListerLaw" 18 ⟨"CodeLister", "enter", "(I)Z"⟩ ∈ lw_g := lg_i (i := 154) (by decide +kernel) rfl
theorem k_127 : Cond.instanceMethod ⟨"CodeLister", "enter", "(I)Z"⟩ ∈ lw_g := lg_i (i := 155) (by decide +kernel) rfl
theorem k_128 : Cond.selects "CodeLister" ⟨"CodeLister", "enter", "(I)Z"⟩ ⟨"CodeLister", "enter", "(I)Z"⟩ ∈ lw_g := lg_i (i := 156) (by decide +kernel) rfl
theorem k_129 : Cond.code ⟨"CodeLister", "enter", "(I)Z"⟩ prog_1_method_3_code 2 (some .boolean) ∈ lw_g := lg_i (i := 157) (by decide +kernel) rfl
theorem k_130 : Cond.methodLink "CodeLister" 52 ⟨"CodeLister$Image", "holds", "(I)Z"⟩ ∈ lw_g := lg_i (i := 158) (by decide +kernel) rfl
theorem k_131 : Cond.instanceMethod ⟨"CodeLister$Image", "holds", "(I)Z"⟩ ∈ lw_g := lg_i (i := 159) (by decide +kernel) rfl
theorem k_132 : Cond.selects "CodeLister$Image" ⟨"CodeLister$Image", "holds", "(I)Z"⟩ ⟨"CodeLister$Image", "holds", "(I)Z"⟩ ∈ lw_g := lg_i (i := 160) (by decide +kernel) rfl
theorem k_133 : Cond.code ⟨"CodeLister$Image", "holds", "(I)Z"⟩ prog_3_method_3_code 2 (some .boolean) ∈ lw_g := lg_i (i := 161) (by decide +kernel) rfl
theorem k_134 : Cond.methodLink "CodeLister" 56 ⟨"CodeLister", "isEntry", "(I)Z"⟩ ∈ lw_g := lg_i (i := 162) (by decide +kernel) rfl
theorem k_135 : Cond.privateMethod ⟨"CodeLister", "isEntry", "(I)Z"⟩ ∈ lw_tbl := List.mem_of_getElem? (i := 163) (by decide +kernel)
theorem k_136 : Cond.instanceMethod ⟨"CodeLister", "isEntry", "(I)Z"⟩ ∈ lw_g := lg_i (i := 164) (by decide +kernel) rfl
theorem k_137 : Cond.code ⟨"CodeLister", "isEntry", "(I)Z"⟩ prog_1_method_19_code 3 (some .boolean) ∈ lw_g := lg_i (i := 165) (by decide +kernel) rfl
theorem k_138 : Cond.methodLink "CodeListerLaw" 23 ⟨"CodeLister", "clear", "()V"⟩ ∈ lw_g := lg_i (i := 166) (by decide +kernel) rfl
theorem k_139 : Cond.instanceMethod ⟨"CodeLister", "clear", "()V"⟩ ∈ lw_g := lg_i (i := 167) (by decide +kernel) rfl
theorem k_140 : Cond.selects "CodeLister" ⟨"CodeLister", "clear", "()V"⟩ ⟨"CodeLister", "clear", "()V"⟩ ∈ lw_g := lg_i (i := 168) (by decide +kernel) rfl
theorem k_141 : Cond.code ⟨"CodeLister", "clear", "()V"⟩ prog_1_method_4_code 1 none ∈ lw_g := lg_i (i := 169) (by decide +kernel) rfl
theorem k_142 : Cond.methodLink "CodeLister" 63 ⟨"CodeLister$Image", "drop", "()V"⟩ ∈ lw_g := lg_i (i := 170) (by decide +kernel) rfl
theorem k_143 : Cond.instanceMethod ⟨"CodeLister$Image", "drop", "()V"⟩ ∈ lw_g := lg_i (i := 171) (by decide +kernel) rfl
theorem k_144 : Cond.selects "CodeLister$Image" ⟨"CodeLister$Image", "drop", "()V"⟩ ⟨"CodeLister$Image", "drop", "()V"⟩ ∈ lw_g := lg_i (i := 172) (by decide +kernel) rfl
theorem k_145 : Cond.code ⟨"CodeLister$Image", "drop", "()V"⟩ prog_3_method_6_code 1 none ∈ lw_g := lg_i (i := 173) (by decide +kernel) rfl
theorem k_146 : Cond.methodLink "CodeLister" 66 ⟨"CodeLister$Text", "drop", "()V"⟩ ∈ lw_g := lg_i (i := 174) (by decide +kernel) rfl
theorem k_147 : Cond.instanceMethod ⟨"CodeLister$Text", "drop", "()V"⟩ ∈ lw_g := lg_i (i := 175) (by decide +kernel) rfl
theorem k_148 : Cond.selects "CodeLister$Text" ⟨"CodeLister$Text", "drop", "()V"⟩ ⟨"CodeLister$Text", "drop", "()V"⟩ ∈ lw_g := lg_i (i := 176) (by decide +kernel) rfl
theorem k_149 : Cond.code ⟨"CodeLister$Text", "drop", "()V"⟩ prog_5_method_4_code 1 none ∈ lw_g := lg_i (i := 177) (by decide +kernel) rfl
theorem k_150 : Cond.methodLink "CodeListerLaw" 27 ⟨"CodeLister", "size", "()I"⟩ ∈ lw_g := lg_i (i := 178) (by decide +kernel) rfl
theorem k_151 : Cond.instanceMethod ⟨"CodeLister", "size", "()I"⟩ ∈ lw_g := lg_i (i := 179) (by decide +kernel) rfl
theorem k_152 : Cond.selects "CodeLister" ⟨"CodeLister", "size", "()I"⟩ ⟨"CodeLister", "size", "()I"⟩ ∈ lw_g := lg_i (i := 180) (by decide +kernel) rfl
theorem k_153 : Cond.code ⟨"CodeLister", "size", "()I"⟩ prog_1_method_5_code 1 (some .int) ∈ lw_g := lg_i (i := 181) (by decide +kernel) rfl
theorem k_154 : Cond.methodLink "CodeListerLaw" 32 ⟨"CodeLister", "byteAt", "(I)I"⟩ ∈ lw_g := lg_i (i := 182) (by decide +kernel) rfl
theorem k_155 : Cond.instanceMethod ⟨"CodeLister", "byteAt", "(I)I"⟩ ∈ lw_g := lg_i (i := 183) (by decide +kernel) rfl
theorem k_156 : Cond.selects "CodeLister" ⟨"CodeLister", "byteAt", "(I)I"⟩ ⟨"CodeLister", "byteAt", "(I)I"⟩ ∈ lw_g := lg_i (i := 184) (by decide +kernel) rfl
theorem k_157 : Cond.code ⟨"CodeLister", "byteAt", "(I)I"⟩ prog_1_method_6_code 2 (some .int) ∈ lw_g := lg_i (i := 185) (by decide +kernel) rfl
theorem k_158 : Cond.methodLink "CodeLister" 70 ⟨"CodeLister$Image", "at", "(I)I"⟩ ∈ lw_g := lg_i (i := 186) (by decide +kernel) rfl
theorem k_159 : Cond.instanceMethod ⟨"CodeLister$Image", "at", "(I)I"⟩ ∈ lw_g := lg_i (i := 187) (by decide +kernel) rfl
theorem k_160 : Cond.selects "CodeLister$Image" ⟨"CodeLister$Image", "at", "(I)I"⟩ ⟨"CodeLister$Image", "at", "(I)I"⟩ ∈ lw_g := lg_i (i := 188) (by decide +kernel) rfl
theorem k_161 : Cond.code ⟨"CodeLister$Image", "at", "(I)I"⟩ prog_3_method_4_code 2 (some .int) ∈ lw_g := lg_i (i := 189) (by decide +kernel) rfl
theorem k_162 : Cond.methodLink "CodeLister$Image" 19 ⟨"CodeLister$Image", "holds", "(I)Z"⟩ ∈ lw_g := lg_i (i := 190) (by decide +kernel) rfl
theorem k_163 : Cond.methodLink "CodeListerLaw" 37 ⟨"CodeLister", "entry", "(I)I"⟩ ∈ lw_g := lg_i (i := 191) (by decide +kernel) rfl
theorem k_164 : Cond.instanceMethod ⟨"CodeLister", "entry", "(I)I"⟩ ∈ lw_g := lg_i (i := 192) (by decide +kernel) rfl
theorem k_165 : Cond.selects "CodeLister" ⟨"CodeLister", "entry", "(I)I"⟩ ⟨"CodeLister", "entry", "(I)I"⟩ ∈ lw_g := lg_i (i := 193) (by decide +kernel) rfl
theorem k_166 : Cond.code ⟨"CodeLister", "entry", "(I)I"⟩ prog_1_method_7_code 2 (some .int) ∈ lw_g := lg_i (i := 194) (by decide +kernel) rfl
theorem k_167 : Cond.methodLink "CodeListerLaw" 41 ⟨"CodeLister", "length", "(I)I"⟩ ∈ lw_g := lg_i (i := 195) (by decide +kernel) rfl
theorem k_168 : Cond.instanceMethod ⟨"CodeLister", "length", "(I)I"⟩ ∈ lw_g := lg_i (i := 196) (by decide +kernel) rfl
theorem k_169 : Cond.selects "CodeLister" ⟨"CodeLister", "length", "(I)I"⟩ ⟨"CodeLister", "length", "(I)I"⟩ ∈ lw_g := lg_i (i := 197) (by decide +kernel) rfl
theorem k_170 : Cond.code ⟨"CodeLister", "length", "(I)I"⟩ prog_1_method_8_code 2 (some .int) ∈ lw_g := lg_i (i := 198) (by decide +kernel) rfl
theorem k_171 : Cond.methodLink "CodeLister" 74 ⟨"CodeLister$Image", "codeLength", "(I)I"⟩ ∈ lw_g := lg_i (i := 199) (by decide +kernel) rfl
theorem k_172 : Cond.instanceMethod ⟨"CodeLister$Image", "codeLength", "(I)I"⟩ ∈ lw_g := lg_i (i := 200) (by decide +kernel) rfl
theorem k_173 : Cond.selects "CodeLister$Image" ⟨"CodeLister$Image", "codeLength", "(I)I"⟩ ⟨"CodeLister$Image", "codeLength", "(I)I"⟩ ∈ lw_g := lg_i (i := 201) (by decide +kernel) rfl
theorem k_174 : Cond.code ⟨"CodeLister$Image", "codeLength", "(I)I"⟩ prog_3_method_8_code 3 (some .int) ∈ lw_g := lg_i (i := 202) (by decide +kernel) rfl
theorem k_175 : Cond.methodLink "CodeLister$Image" 34 ⟨"CodeLister$Image", "codeKind", "(I)I"⟩ ∈ lw_g := lg_i (i := 203) (by decide +kernel) rfl
theorem k_176 : Cond.instanceMethod ⟨"CodeLister$Image", "codeKind", "(I)I"⟩ ∈ lw_g := lg_i (i := 204) (by decide +kernel) rfl
theorem k_177 : Cond.selects "CodeLister$Image" ⟨"CodeLister$Image", "codeKind", "(I)I"⟩ ⟨"CodeLister$Image", "codeKind", "(I)I"⟩ ∈ lw_g := lg_i (i := 205) (by decide +kernel) rfl
theorem k_178 : Cond.code ⟨"CodeLister$Image", "codeKind", "(I)I"⟩ prog_3_method_7_code 3 (some .int) ∈ lw_g := lg_i (i := 206) (by decide +kernel) rfl
theorem k_179 : Cond.methodLink "CodeLister$Image" 23 ⟨"CodeLister$Image", "at", "(I)I"⟩ ∈ lw_g := lg_i (i := 207) (by decide +kernel) rfl
theorem k_180 : Cond.methodLink "CodeLister$Image" 27 ⟨"CodeLister$Kinds", "ofFirst", "(I)I"⟩ ∈ lw_g := lg_i (i := 208) (by decide +kernel) rfl
theorem k_181 : Cond.static ⟨"CodeLister$Kinds", "ofFirst", "(I)I"⟩ ∈ lw_g := lg_i (i := 209) (by decide +kernel) rfl
theorem k_182 : Cond.code ⟨"CodeLister$Kinds", "ofFirst", "(I)I"⟩ prog_4_method_2_code 3 (some .int) ∈ lw_g := lg_i (i := 210) (by decide +kernel) rfl
theorem k_183 : Cond.fieldLink "CodeLister$Kinds" 11 "CodeLister$Kinds" "REGISTERS" "[I" ∈ lw_g := lg_i (i := 211) (by decide +kernel) rfl
theorem k_184 : Cond.laysStatic "CodeLister$Kinds" "REGISTERS" "[I" ∈ lw_tbl := List.mem_of_getElem? (i := 212) (by decide +kernel)
theorem k_185 : Cond.fieldLink "CodeLister$Kinds" 15 "CodeLister$Kinds" "FIRST" "[I" ∈ lw_g := lg_i (i := 213) (by decide +kernel) rfl
theorem k_186 : Cond.laysStatic "CodeLister$Kinds" "FIRST" "[I" ∈ lw_tbl := List.mem_of_getElem? (i := 214) (by decide +kernel)
theorem k_187 : Cond.methodLink "CodeLister$Image" 32 ⟨"CodeLister$Kinds", "bytes", "(I)I"⟩ ∈ lw_g := lg_i (i := 215) (by decide +kernel) rfl
theorem k_188 : Cond.static ⟨"CodeLister$Kinds", "bytes", "(I)I"⟩ ∈ lw_g := lg_i (i := 216) (by decide +kernel) rfl
theorem k_189 : Cond.code ⟨"CodeLister$Kinds", "bytes", "(I)I"⟩ prog_4_method_6_code 1 (some .int) ∈ lw_g := lg_i (i := 217) (by decide +kernel) rfl
theorem k_190 : Cond.fieldLink "CodeLister$Kinds" 18 "CodeLister$Kinds" "NUMBER" "[I" ∈ lw_g := lg_i (i := 218) (by decide +kernel) rfl
theorem k_191 : Cond.laysStatic "CodeLister$Kinds" "NUMBER" "[I" ∈ lw_tbl := List.mem_of_getElem? (i := 219) (by decide +kernel)
theorem k_192 : Cond.methodLink "CodeListerLaw" 45 ⟨"CodeLister", "reach", "()I"⟩ ∈ lw_g := lg_i (i := 220) (by decide +kernel) rfl
theorem k_193 : Cond.instanceMethod ⟨"CodeLister", "reach", "()I"⟩ ∈ lw_g := lg_i (i := 221) (by decide +kernel) rfl
theorem k_194 : Cond.selects "CodeLister" ⟨"CodeLister", "reach", "()I"⟩ ⟨"CodeLister", "reach", "()I"⟩ ∈ lw_g := lg_i (i := 222) (by decide +kernel) rfl
theorem k_195 : Cond.code ⟨"CodeLister", "reach", "()I"⟩ prog_1_method_9_code 1 (some .int) ∈ lw_g := lg_i (i := 223) (by decide +kernel) rfl
theorem k_196 : Cond.methodLink "CodeLister" 77 ⟨"CodeLister", "walkFromEntries", "()V"⟩ ∈ lw_g := lg_i (i := 224) (by decide +kernel) rfl
theorem k_197 : Cond.privateMethod ⟨"CodeLister", "walkFromEntries", "()V"⟩ ∈ lw_tbl := List.mem_of_getElem? (i := 225) (by decide +kernel)
theorem k_198 : Cond.instanceMethod ⟨"CodeLister", "walkFromEntries", "()V"⟩ ∈ lw_g := lg_i (i := 226) (by decide +kernel) rfl
theorem k_199 : Cond.code ⟨"CodeLister", "walkFromEntries", "()V"⟩ prog_1_method_20_code 2 none ∈ lw_g := lg_i (i := 227) (by decide +kernel) rfl
theorem k_200 : Cond.methodLink "CodeLister" 84 ⟨"CodeLister$Walk", "start", "(I)V"⟩ ∈ lw_g := lg_i (i := 228) (by decide +kernel) rfl
theorem k_201 : Cond.instanceMethod ⟨"CodeLister$Walk", "start", "(I)V"⟩ ∈ lw_g := lg_i (i := 229) (by decide +kernel) rfl
theorem k_202 : Cond.selects "CodeLister$Walk" ⟨"CodeLister$Walk", "start", "(I)V"⟩ ⟨"CodeLister$Walk", "start", "(I)V"⟩ ∈ lw_g := lg_i (i := 230) (by decide +kernel) rfl
theorem k_203 : Cond.code ⟨"CodeLister$Walk", "start", "(I)V"⟩ prog_6_method_3_code 3 none ∈ lw_g := lg_i (i := 231) (by decide +kernel) rfl
theorem k_204 : Cond.methodLink "CodeLister$Walk" 23 ⟨"java/lang/Math", "min", "(II)I"⟩ ∈ lw_g := lg_i (i := 232) (by decide +kernel) rfl
theorem k_205 : Cond.static ⟨"java/lang/Math", "min", "(II)I"⟩ ∈ lw_g := lg_i (i := 233) (by decide +kernel) rfl
theorem k_206 : Cond.code ⟨"java/lang/Math", "min", "(II)I"⟩ prog_9_method_69_code 2 (some .int) ∈ lw_g := lg_i (i := 234) (by decide +kernel) rfl
theorem k_207 : Cond.methodLink "CodeLister" 87 ⟨"CodeLister$Walk", "comeTo", "(I)V"⟩ ∈ lw_g := lg_i (i := 235) (by decide +kernel) rfl
theorem k_208 : Cond.instanceMethod ⟨"CodeLister$Walk", "comeTo", "(I)V"⟩ ∈ lw_g := lg_i (i := 236) (by decide +kernel) rfl
theorem k_209 : Cond.selects "CodeLister$Walk" ⟨"CodeLister$Walk", "comeTo", "(I)V"⟩ ⟨"CodeLister$Walk", "comeTo", "(I)V"⟩ ∈ lw_g := lg_i (i := 237) (by decide +kernel) rfl
theorem k_210 : Cond.code ⟨"CodeLister$Walk", "comeTo", "(I)V"⟩ prog_6_method_5_code 2 none ∈ lw_g := lg_i (i := 238) (by decide +kernel) rfl
theorem k_211 : Cond.methodLink "CodeLister" 90 ⟨"CodeLister$Walk", "follow", "(LCodeLister$Image;Z)V"⟩ ∈ lw_g := lg_i (i := 239) (by decide +kernel) rfl
theorem k_212 : Cond.instanceMethod ⟨"CodeLister$Walk", "follow", "(LCodeLister$Image;Z)V"⟩ ∈ lw_g := lg_i (i := 240) (by decide +kernel) rfl
theorem k_213 : Cond.selects "CodeLister$Walk" ⟨"CodeLister$Walk", "follow", "(LCodeLister$Image;Z)V"⟩ ⟨"CodeLister$Walk", "follow", "(LCodeLister$Image;Z)V"⟩ ∈ lw_g := lg_i (i := 241) (by decide +kernel) rfl
theorem k_214 : Cond.code ⟨"CodeLister$Walk", "follow", "(LCodeLister$Image;Z)V"⟩ prog_6_method_6_code 4 none ∈ lw_g := lg_i (i := 242) (by decide +kernel) rfl
theorem k_215 : Cond.methodLink "CodeLister$Walk" 32 ⟨"CodeLister$Walk", "comeToSuccessors", "(LCodeLister$Image;IZ)V"⟩ ∈ lw_g := lg_i (i := 243) (by decide +kernel) rfl
theorem k_216 : Cond.privateMethod ⟨"CodeLister$Walk", "comeToSuccessors", "(LCodeLister$Image;IZ)V"⟩ ∈ lw_tbl := List.mem_of_getElem? (i := 244) (by decide +kernel)
theorem k_217 : Cond.instanceMethod ⟨"CodeLister$Walk", "comeToSuccessors", "(LCodeLister$Image;IZ)V"⟩ ∈ lw_g := lg_i (i := 245) (by decide +kernel) rfl
theorem k_218 : Cond.code ⟨"CodeLister$Walk", "comeToSuccessors", "(LCodeLister$Image;IZ)V"⟩ prog_6_method_7_code 6 none ∈ lw_g := lg_i (i := 246) (by decide +kernel) rfl
theorem k_219 : Cond.methodLink "CodeLister$Walk" 36 ⟨"CodeLister$Image", "codeKind", "(I)I"⟩ ∈ lw_g := lg_i (i := 247) (by decide +kernel) rfl
theorem k_220 : Cond.methodLink "CodeLister$Walk" 42 ⟨"CodeLister$Kinds", "bytes", "(I)I"⟩ ∈ lw_g := lg_i (i := 248) (by decide +kernel) rfl
theorem k_221 : Cond.methodLink "CodeLister$Walk" 47 ⟨"CodeLister$Kinds", "fallsThrough", "(I)Z"⟩ ∈ lw_g := lg_i (i := 249) (by decide +kernel) rfl
theorem k_222 : Cond.static ⟨"CodeLister$Kinds", "fallsThrough", "(I)Z"⟩ ∈ lw_g := lg_i (i := 250) (by decide +kernel) rfl
theorem k_223 : Cond.code ⟨"CodeLister$Kinds", "fallsThrough", "(I)Z"⟩ prog_4_method_9_code 1 (some .boolean) ∈ lw_g := lg_i (i := 251) (by decide +kernel) rfl
theorem k_224 : Cond.methodLink "CodeLister$Walk" 51 ⟨"CodeLister$Walk", "comeTo", "(I)V"⟩ ∈ lw_g := lg_i (i := 252) (by decide +kernel) rfl
theorem k_225 : Cond.methodLink "CodeLister$Walk" 55 ⟨"CodeLister$Image", "number", "(II)I"⟩ ∈ lw_g := lg_i (i := 253) (by decide +kernel) rfl
theorem k_226 : Cond.instanceMethod ⟨"CodeLister$Image", "number", "(II)I"⟩ ∈ lw_g := lg_i (i := 254) (by decide +kernel) rfl
theorem k_227 : Cond.selects "CodeLister$Image" ⟨"CodeLister$Image", "number", "(II)I"⟩ ⟨"CodeLister$Image", "number", "(II)I"⟩ ∈ lw_g := lg_i (i := 255) (by decide +kernel) rfl
theorem k_228 : Cond.code ⟨"CodeLister$Image", "number", "(II)I"⟩ prog_3_method_9_code 3 (some .int) ∈ lw_g := lg_i (i := 256) (by decide +kernel) rfl
theorem k_229 : Cond.methodLink "CodeLister$Image" 37 ⟨"CodeLister$Kinds", "number", "(I)I"⟩ ∈ lw_g := lg_i (i := 257) (by decide +kernel) rfl
theorem k_230 : Cond.static ⟨"CodeLister$Kinds", "number", "(I)I"⟩ ∈ lw_g := lg_i (i := 258) (by decide +kernel) rfl
theorem k_231 : Cond.code ⟨"CodeLister$Kinds", "number", "(I)I"⟩ prog_4_method_5_code 1 (some .int) ∈ lw_g := lg_i (i := 259) (by decide +kernel) rfl
theorem k_232 : Cond.methodLink "CodeLister" 80 ⟨"CodeLister$Walk", "count", "()I"⟩ ∈ lw_g := lg_i (i := 260) (by decide +kernel) rfl
theorem k_233 : Cond.instanceMethod ⟨"CodeLister$Walk", "count", "()I"⟩ ∈ lw_g := lg_i (i := 261) (by decide +kernel) rfl
theorem k_234 : Cond.selects "CodeLister$Walk" ⟨"CodeLister$Walk", "count", "()I"⟩ ⟨"CodeLister$Walk", "count", "()I"⟩ ∈ lw_g := lg_i (i := 262) (by decide +kernel) rfl
theorem k_235 : Cond.code ⟨"CodeLister$Walk", "count", "()I"⟩ prog_6_method_2_code 1 (some .int) ∈ lw_g := lg_i (i := 263) (by decide +kernel) rfl
theorem k_236 : Cond.methodLink "CodeListerLaw" 49 ⟨"CodeLister", "reached", "(I)Z"⟩ ∈ lw_g := lg_i (i := 264) (by decide +kernel) rfl
theorem k_237 : Cond.instanceMethod ⟨"CodeLister", "reached", "(I)Z"⟩ ∈ lw_g := lg_i (i := 265) (by decide +kernel) rfl
theorem k_238 : Cond.selects "CodeLister" ⟨"CodeLister", "reached", "(I)Z"⟩ ⟨"CodeLister", "reached", "(I)Z"⟩ ∈ lw_g := lg_i (i := 266) (by decide +kernel) rfl
theorem k_239 : Cond.code ⟨"CodeLister", "reached", "(I)Z"⟩ prog_1_method_10_code 2 (some .boolean) ∈ lw_g := lg_i (i := 267) (by decide +kernel) rfl
theorem k_240 : Cond.methodLink "CodeLister" 81 ⟨"CodeLister$Walk", "cameTo", "(I)Z"⟩ ∈ lw_g := lg_i (i := 268) (by decide +kernel) rfl
theorem k_241 : Cond.instanceMethod ⟨"CodeLister$Walk", "cameTo", "(I)Z"⟩ ∈ lw_g := lg_i (i := 269) (by decide +kernel) rfl
theorem k_242 : Cond.selects "CodeLister$Walk" ⟨"CodeLister$Walk", "cameTo", "(I)Z"⟩ ⟨"CodeLister$Walk", "cameTo", "(I)Z"⟩ ∈ lw_g := lg_i (i := 270) (by decide +kernel) rfl
theorem k_243 : Cond.code ⟨"CodeLister$Walk", "cameTo", "(I)Z"⟩ prog_6_method_4_code 2 (some .boolean) ∈ lw_g := lg_i (i := 271) (by decide +kernel) rfl
theorem k_244 : Cond.methodLink "CodeListerLaw" 53 ⟨"CodeLister", "body", "(I)I"⟩ ∈ lw_g := lg_i (i := 272) (by decide +kernel) rfl
theorem k_245 : Cond.instanceMethod ⟨"CodeLister", "body", "(I)I"⟩ ∈ lw_g := lg_i (i := 273) (by decide +kernel) rfl
theorem k_246 : Cond.selects "CodeLister" ⟨"CodeLister", "body", "(I)I"⟩ ⟨"CodeLister", "body", "(I)I"⟩ ∈ lw_g := lg_i (i := 274) (by decide +kernel) rfl
theorem k_247 : Cond.code ⟨"CodeLister", "body", "(I)I"⟩ prog_1_method_11_code 2 (some .int) ∈ lw_g := lg_i (i := 275) (by decide +kernel) rfl
theorem k_248 : Cond.methodLink "CodeListerLaw" 57 ⟨"CodeLister", "sweep", "()I"⟩ ∈ lw_g := lg_i (i := 276) (by decide +kernel) rfl
theorem k_249 : Cond.instanceMethod ⟨"CodeLister", "sweep", "()I"⟩ ∈ lw_g := lg_i (i := 277) (by decide +kernel) rfl
theorem k_250 : Cond.selects "CodeLister" ⟨"CodeLister", "sweep", "()I"⟩ ⟨"CodeLister", "sweep", "()I"⟩ ∈ lw_g := lg_i (i := 278) (by decide +kernel) rfl
theorem k_251 : Cond.code ⟨"CodeLister", "sweep", "()I"⟩ prog_1_method_12_code 4 (some .int) ∈ lw_g := lg_i (i := 279) (by decide +kernel) rfl
theorem k_252 : Cond.methodLink "CodeLister" 94 ⟨"java/lang/Math", "max", "(II)I"⟩ ∈ lw_g := lg_i (i := 280) (by decide +kernel) rfl
theorem k_253 : Cond.static ⟨"java/lang/Math", "max", "(II)I"⟩ ∈ lw_g := lg_i (i := 281) (by decide +kernel) rfl
theorem k_254 : Cond.code ⟨"java/lang/Math", "max", "(II)I"⟩ prog_9_method_65_code 2 (some .int) ∈ lw_g := lg_i (i := 282) (by decide +kernel) rfl
theorem k_255 : Cond.methodLink "CodeListerLaw" 61 ⟨"CodeLister", "list", "()I"⟩ ∈ lw_g := lg_i (i := 283) (by decide +kernel) rfl
theorem k_256 : Cond.instanceMethod ⟨"CodeLister", "list", "()I"⟩ ∈ lw_g := lg_i (i := 284) (by decide +kernel) rfl
theorem k_257 : Cond.selects "CodeLister" ⟨"CodeLister", "list", "()I"⟩ ⟨"CodeLister", "list", "()I"⟩ ∈ lw_g := lg_i (i := 285) (by decide +kernel) rfl
theorem k_258 : Cond.code ⟨"CodeLister", "list", "()I"⟩ prog_1_method_13_code 2 (some .int) ∈ lw_g := lg_i (i := 286) (by decide +kernel) rfl
theorem k_259 : Cond.methodLink "CodeLister" 100 ⟨"CodeLister", "listLine", "(I)I"⟩ ∈ lw_g := lg_i (i := 287) (by decide +kernel) rfl
theorem k_260 : Cond.privateMethod ⟨"CodeLister", "listLine", "(I)I"⟩ ∈ lw_tbl := List.mem_of_getElem? (i := 288) (by decide +kernel)
theorem k_261 : Cond.instanceMethod ⟨"CodeLister", "listLine", "(I)I"⟩ ∈ lw_g := lg_i (i := 289) (by decide +kernel) rfl
theorem k_262 : Cond.code ⟨"CodeLister", "listLine", "(I)I"⟩ prog_1_method_21_code 3 (some .int) ∈ lw_g := lg_i (i := 290) (by decide +kernel) rfl
theorem k_263 : Cond.methodLink "CodeLister" 118 ⟨"CodeLister$Image", "codeKind", "(I)I"⟩ ∈ lw_g := lg_i (i := 291) (by decide +kernel) rfl
theorem k_264 : Cond.methodLink "CodeLister" 123 ⟨"CodeLister$Text", "addLine", "(III)V"⟩ ∈ lw_g := lg_i (i := 292) (by decide +kernel) rfl
theorem k_265 : Cond.instanceMethod ⟨"CodeLister$Text", "addLine", "(III)V"⟩ ∈ lw_g := lg_i (i := 293) (by decide +kernel) rfl
theorem k_266 : Cond.selects "CodeLister$Text" ⟨"CodeLister$Text", "addLine", "(III)V"⟩ ⟨"CodeLister$Text", "addLine", "(III)V"⟩ ∈ lw_g := lg_i (i := 294) (by decide +kernel) rfl
theorem k_267 : Cond.code ⟨"CodeLister$Text", "addLine", "(III)V"⟩ prog_5_method_6_code 7 none ∈ lw_g := lg_i (i := 295) (by decide +kernel) rfl
theorem k_268 : Cond.methodLink "CodeLister$Text" 25 ⟨"CodeLister$Kinds", "opening", "(I)Ljava/lang/String;"⟩ ∈ lw_g := lg_i (i := 296) (by decide +kernel) rfl
theorem k_269 : Cond.static ⟨"CodeLister$Kinds", "opening", "(I)Ljava/lang/String;"⟩ ∈ lw_g := lg_i (i := 297) (by decide +kernel) rfl
theorem k_270 : Cond.code ⟨"CodeLister$Kinds", "opening", "(I)Ljava/lang/String;"⟩ prog_4_method_10_code 1 (some (.object "java/lang/String")) ∈ lw_g := lg_i (i := 298) (by decide +kernel) rfl
theorem k_271 : Cond.stringRef "CodeLister$Kinds" 22 "NOP" ∈ lw_tbl := List.mem_of_getElem? (i := 299) (by decide +kernel)
theorem k_272 : Cond.stringRef "CodeLister$Kinds" 24 "HALT" ∈ lw_tbl := List.mem_of_getElem? (i := 300) (by decide +kernel)
theorem k_273 : Cond.stringRef "CodeLister$Kinds" 26 "RET" ∈ lw_tbl := List.mem_of_getElem? (i := 301) (by decide +kernel)
theorem k_274 : Cond.stringRef "CodeLister$Kinds" 28 "INC " ∈ lw_tbl := List.mem_of_getElem? (i := 302) (by decide +kernel)
theorem k_275 : Cond.stringRef "CodeLister$Kinds" 30 "LDI " ∈ lw_tbl := List.mem_of_getElem? (i := 303) (by decide +kernel)
theorem k_276 : Cond.stringRef "CodeLister$Kinds" 32 "MOV " ∈ lw_tbl := List.mem_of_getElem? (i := 304) (by decide +kernel)
theorem k_277 : Cond.stringRef "CodeLister$Kinds" 34 "ADD " ∈ lw_tbl := List.mem_of_getElem? (i := 305) (by decide +kernel)
theorem k_278 : Cond.stringRef "CodeLister$Kinds" 36 "JMP " ∈ lw_tbl := List.mem_of_getElem? (i := 306) (by decide +kernel)
theorem k_279 : Cond.stringRef "CodeLister$Kinds" 38 "CALL " ∈ lw_tbl := List.mem_of_getElem? (i := 307) (by decide +kernel)
theorem k_280 : Cond.stringRef "CodeLister$Kinds" 40 "JZ " ∈ lw_tbl := List.mem_of_getElem? (i := 308) (by decide +kernel)
theorem k_281 : Cond.stringRef "CodeLister$Kinds" 42 "BNZ " ∈ lw_tbl := List.mem_of_getElem? (i := 309) (by decide +kernel)
theorem k_282 : Cond.stringRef "CodeLister$Kinds" 44 "LD " ∈ lw_tbl := List.mem_of_getElem? (i := 310) (by decide +kernel)
theorem k_283 : Cond.stringRef "CodeLister$Kinds" 46 "ST " ∈ lw_tbl := List.mem_of_getElem? (i := 311) (by decide +kernel)
theorem k_284 : Cond.stringRef "CodeLister$Kinds" 48 ".byte " ∈ lw_tbl := List.mem_of_getElem? (i := 312) (by decide +kernel)
theorem k_285 : Cond.methodLink "CodeLister$Text" 31 ⟨"java/lang/String", "length", "()I"⟩ ∈ lw_g := lg_i (i := 313) (by decide +kernel) rfl
theorem k_286 : Cond.instanceMethod ⟨"java/lang/String", "length", "()I"⟩ ∈ lw_g := lg_i (i := 314) (by decide +kernel) rfl
theorem k_287 : Cond.selects "java/lang/String" ⟨"java/lang/String", "length", "()I"⟩ ⟨"java/lang/String", "length", "()I"⟩ ∈ lw_g := lg_i (i := 315) (by decide +kernel) rfl
theorem k_288 : Cond.code ⟨"java/lang/String", "length", "()I"⟩ prog_10_method_54_code 1 (some .int) ∈ lw_g := lg_i (i := 316) (by decide +kernel) rfl
theorem k_289 : Cond.methodLink "java/lang/String" 335 ⟨"java/lang/String", "coder", "()B"⟩ ∈ lw_g := lg_i (i := 317) (by decide +kernel) rfl
theorem k_290 : Cond.instanceMethod ⟨"java/lang/String", "coder", "()B"⟩ ∈ lw_g := lg_i (i := 318) (by decide +kernel) rfl
theorem k_291 : Cond.selects "java/lang/String" ⟨"java/lang/String", "coder", "()B"⟩ ⟨"java/lang/String", "coder", "()B"⟩ ∈ lw_g := lg_i (i := 319) (by decide +kernel) rfl
theorem k_292 : Cond.code ⟨"java/lang/String", "coder", "()B"⟩ prog_10_method_152_code 1 (some .byte) ∈ lw_g := lg_i (i := 320) (by decide +kernel) rfl
theorem k_293 : Cond.fieldLink "java/lang/String" 38 "java/lang/String" "COMPACT_STRINGS" "Z" ∈ lw_g := lg_i (i := 321) (by decide +kernel) rfl
theorem k_294 : Cond.laysStatic "java/lang/String" "COMPACT_STRINGS" "Z" ∈ lw_tbl := List.mem_of_getElem? (i := 322) (by decide +kernel)
theorem k_295 : Cond.methodLink "CodeLister$Text" 37 ⟨"java/lang/String", "charAt", "(I)C"⟩ ∈ lw_g := lg_i (i := 323) (by decide +kernel) rfl
theorem k_296 : Cond.instanceMethod ⟨"java/lang/String", "charAt", "(I)C"⟩ ∈ lw_g := lg_i (i := 324) (by decide +kernel) rfl
theorem k_297 : Cond.selects "java/lang/String" ⟨"java/lang/String", "charAt", "(I)C"⟩ ⟨"java/lang/String", "charAt", "(I)C"⟩ ∈ lw_g := lg_i (i := 325) (by decide +kernel) rfl
theorem k_298 : Cond.code ⟨"java/lang/String", "charAt", "(I)C"⟩ prog_10_method_56_code 2 (some .char) ∈ lw_g := lg_i (i := 326) (by decide +kernel) rfl
theorem k_299 : Cond.methodLink "java/lang/String" 492 ⟨"java/lang/String", "isLatin1", "()Z"⟩ ∈ lw_g := lg_i (i := 327) (by decide +kernel) rfl
theorem k_300 : Cond.instanceMethod ⟨"java/lang/String", "isLatin1", "()Z"⟩ ∈ lw_g := lg_i (i := 328) (by decide +kernel) rfl
theorem k_301 : Cond.selects "java/lang/String" ⟨"java/lang/String", "isLatin1", "()Z"⟩ ⟨"java/lang/String", "isLatin1", "()Z"⟩ ∈ lw_g := lg_i (i := 329) (by decide +kernel) rfl
theorem k_302 : Cond.code ⟨"java/lang/String", "isLatin1", "()Z"⟩ prog_10_method_154_code 1 (some .boolean) ∈ lw_g := lg_i (i := 330) (by decide +kernel) rfl
theorem k_303 : Cond.methodLink "java/lang/String" 495 ⟨"java/lang/StringLatin1", "charAt", "([BI)C"⟩ ∈ lw_g := lg_i (i := 331) (by decide +kernel) rfl
theorem k_304 : Cond.static ⟨"java/lang/StringLatin1", "charAt", "([BI)C"⟩ ∈ lw_g := lg_i (i := 332) (by decide +kernel) rfl
theorem k_305 : Cond.code ⟨"java/lang/StringLatin1", "charAt", "([BI)C"⟩ prog_11_method_2_code 2 (some .char) ∈ lw_g := lg_i (i := 333) (by decide +kernel) rfl
theorem k_306 : Cond.methodLink "java/lang/StringLatin1" 9 ⟨"java/lang/String", "checkIndex", "(II)V"⟩ ∈ lw_g := lg_i (i := 334) (by decide +kernel) rfl
theorem k_307 : Cond.static ⟨"java/lang/String", "checkIndex", "(II)V"⟩ ∈ lw_g := lg_i (i := 335) (by decide +kernel) rfl
theorem k_308 : Cond.code ⟨"java/lang/String", "checkIndex", "(II)V"⟩ prog_10_method_155_code 2 none ∈ lw_g := lg_i (i := 336) (by decide +kernel) rfl
theorem k_309 : Cond.fieldLink "java/lang/String" 1053 "jdk/internal/util/Preconditions" "SIOOBE_FORMATTER" "Ljava/util/function/BiFunction;" ∈ lw_g := lg_i (i := 337) (by decide +kernel) rfl
theorem k_310 : Cond.laysStatic "jdk/internal/util/Preconditions" "SIOOBE_FORMATTER" "Ljava/util/function/BiFunction;" ∈ lw_tbl := List.mem_of_getElem? (i := 338) (by decide +kernel)
theorem k_311 : Cond.methodLink "java/lang/String" 1059 ⟨"jdk/internal/util/Preconditions", "checkIndex", "(IILjava/util/function/BiFunction;)I"⟩ ∈ lw_g := lg_i (i := 339) (by decide +kernel) rfl
theorem k_312 : Cond.static ⟨"jdk/internal/util/Preconditions", "checkIndex", "(IILjava/util/function/BiFunction;)I"⟩ ∈ lw_g := lg_i (i := 340) (by decide +kernel) rfl
theorem k_313 : Cond.code ⟨"jdk/internal/util/Preconditions", "checkIndex", "(IILjava/util/function/BiFunction;)I"⟩ prog_14_method_11_code 3 (some .int) ∈ lw_g := lg_i (i := 341) (by decide +kernel) rfl
theorem k_314 : Cond.methodLink "java/lang/String" 498 ⟨"java/lang/StringUTF16", "charAt", "([BI)C"⟩ ∈ lw_g := lg_i (i := 342) (by decide +kernel) rfl
theorem k_315 : Cond.static ⟨"java/lang/StringUTF16", "charAt", "([BI)C"⟩ ∈ lw_g := lg_i (i := 343) (by decide +kernel) rfl
theorem k_316 : Cond.code ⟨"java/lang/StringUTF16", "charAt", "([BI)C"⟩ prog_12_method_83_code 2 (some .char) ∈ lw_g := lg_i (i := 344) (by decide +kernel) rfl
theorem k_317 : Cond.methodLink "java/lang/StringUTF16" 67 ⟨"java/lang/StringUTF16", "checkIndex", "(I[B)V"⟩ ∈ lw_g := lg_i (i := 345) (by decide +kernel) rfl
theorem k_318 : Cond.static ⟨"java/lang/StringUTF16", "checkIndex", "(I[B)V"⟩ ∈ lw_g := lg_i (i := 346) (by decide +kernel) rfl
theorem k_319 : Cond.code ⟨"java/lang/StringUTF16", "checkIndex", "(I[B)V"⟩ prog_12_method_91_code 2 none ∈ lw_g := lg_i (i := 347) (by decide +kernel) rfl
theorem k_320 : Cond.methodLink "java/lang/StringUTF16" 48 ⟨"java/lang/StringUTF16", "length", "([B)I"⟩ ∈ lw_g := lg_i (i := 348) (by decide +kernel) rfl
theorem k_321 : Cond.static ⟨"java/lang/StringUTF16", "length", "([B)I"⟩ ∈ lw_g := lg_i (i := 349) (by decide +kernel) rfl
theorem k_322 : Cond.code ⟨"java/lang/StringUTF16", "length", "([B)I"⟩ prog_12_method_6_code 1 (some .int) ∈ lw_g := lg_i (i := 350) (by decide +kernel) rfl
theorem k_323 : Cond.methodLink "java/lang/StringUTF16" 414 ⟨"java/lang/String", "checkIndex", "(II)V"⟩ ∈ lw_g := lg_i (i := 351) (by decide +kernel) rfl
theorem k_324 : Cond.methodLink "java/lang/StringUTF16" 71 ⟨"java/lang/StringUTF16", "getChar", "([BI)C"⟩ ∈ lw_g := lg_i (i := 352) (by decide +kernel) rfl
theorem k_325 : Cond.static ⟨"java/lang/StringUTF16", "getChar", "([BI)C"⟩ ∈ lw_g := lg_i (i := 353) (by decide +kernel) rfl
theorem k_326 : Cond.code ⟨"java/lang/StringUTF16", "getChar", "([BI)C"⟩ prog_12_method_5_code 2 (some .char) ∈ lw_g := lg_i (i := 354) (by decide +kernel) rfl
theorem k_327 : Cond.fieldLink "java/lang/StringUTF16" 44 "java/lang/StringUTF16" "$assertionsDisabled" "Z" ∈ lw_g := lg_i (i := 355) (by decide +kernel) rfl
theorem k_328 : Cond.laysStatic "java/lang/StringUTF16" "$assertionsDisabled" "Z" ∈ lw_tbl := List.mem_of_getElem? (i := 356) (by decide +kernel)
theorem k_329 : Cond.fieldLink "java/lang/StringUTF16" 59 "java/lang/StringUTF16" "HI_BYTE_SHIFT" "I" ∈ lw_g := lg_i (i := 357) (by decide +kernel) rfl
theorem k_330 : Cond.laysStatic "java/lang/StringUTF16" "HI_BYTE_SHIFT" "I" ∈ lw_tbl := List.mem_of_getElem? (i := 358) (by decide +kernel)
theorem k_331 : Cond.fieldLink "java/lang/StringUTF16" 63 "java/lang/StringUTF16" "LO_BYTE_SHIFT" "I" ∈ lw_g := lg_i (i := 359) (by decide +kernel) rfl
theorem k_332 : Cond.laysStatic "java/lang/StringUTF16" "LO_BYTE_SHIFT" "I" ∈ lw_tbl := List.mem_of_getElem? (i := 360) (by decide +kernel)
theorem k_333 : Cond.methodLink "CodeLister$Text" 41 ⟨"CodeLister$Text", "add", "(C)V"⟩ ∈ lw_g := lg_i (i := 361) (by decide +kernel) rfl
theorem k_334 : Cond.privateMethod ⟨"CodeLister$Text", "add", "(C)V"⟩ ∈ lw_tbl := List.mem_of_getElem? (i := 362) (by decide +kernel)
theorem k_335 : Cond.instanceMethod ⟨"CodeLister$Text", "add", "(C)V"⟩ ∈ lw_g := lg_i (i := 363) (by decide +kernel) rfl
theorem k_336 : Cond.code ⟨"CodeLister$Text", "add", "(C)V"⟩ prog_5_method_7_code 2 none ∈ lw_g := lg_i (i := 364) (by decide +kernel) rfl
theorem k_337 : Cond.methodLink "CodeLister$Text" 62 ⟨"CodeLister$Text", "put", "(IC)V"⟩ ∈ lw_g := lg_i (i := 365) (by decide +kernel) rfl
theorem k_338 : Cond.instanceMethod ⟨"CodeLister$Text", "put", "(IC)V"⟩ ∈ lw_g := lg_i (i := 366) (by decide +kernel) rfl
theorem k_339 : Cond.selects "CodeLister$Text" ⟨"CodeLister$Text", "put", "(IC)V"⟩ ⟨"CodeLister$Text", "put", "(IC)V"⟩ ∈ lw_g := lg_i (i := 367) (by decide +kernel) rfl
theorem k_340 : Cond.code ⟨"CodeLister$Text", "put", "(IC)V"⟩ prog_5_method_5_code 3 none ∈ lw_g := lg_i (i := 368) (by decide +kernel) rfl
theorem k_341 : Cond.methodLink "CodeLister$Text" 19 ⟨"java/lang/Math", "max", "(II)I"⟩ ∈ lw_g := lg_i (i := 369) (by decide +kernel) rfl
theorem k_342 : Cond.methodLink "CodeLister$Text" 45 ⟨"CodeLister$Kinds", "registers", "(I)I"⟩ ∈ lw_g := lg_i (i := 370) (by decide +kernel) rfl
theorem k_343 : Cond.static ⟨"CodeLister$Kinds", "registers", "(I)I"⟩ ∈ lw_g := lg_i (i := 371) (by decide +kernel) rfl
theorem k_344 : Cond.code ⟨"CodeLister$Kinds", "registers", "(I)I"⟩ prog_4_method_4_code 1 (some .int) ∈ lw_g := lg_i (i := 372) (by decide +kernel) rfl
theorem k_345 : Cond.methodLink "CodeLister$Text" 49 ⟨"CodeLister$Text", "addComma", "(I)V"⟩ ∈ lw_g := lg_i (i := 373) (by decide +kernel) rfl
theorem k_346 : Cond.privateMethod ⟨"CodeLister$Text", "addComma", "(I)V"⟩ ∈ lw_tbl := List.mem_of_getElem? (i := 374) (by decide +kernel)
theorem k_347 : Cond.instanceMethod ⟨"CodeLister$Text", "addComma", "(I)V"⟩ ∈ lw_g := lg_i (i := 375) (by decide +kernel) rfl
theorem k_348 : Cond.code ⟨"CodeLister$Text", "addComma", "(I)V"⟩ prog_5_method_8_code 2 none ∈ lw_g := lg_i (i := 376) (by decide +kernel) rfl
theorem k_349 : Cond.methodLink "CodeLister$Text" 53 ⟨"CodeLister$Text", "addDigit", "(I)V"⟩ ∈ lw_g := lg_i (i := 377) (by decide +kernel) rfl
theorem k_350 : Cond.privateMethod ⟨"CodeLister$Text", "addDigit", "(I)V"⟩ ∈ lw_tbl := List.mem_of_getElem? (i := 378) (by decide +kernel)
theorem k_351 : Cond.instanceMethod ⟨"CodeLister$Text", "addDigit", "(I)V"⟩ ∈ lw_g := lg_i (i := 379) (by decide +kernel) rfl
theorem k_352 : Cond.code ⟨"CodeLister$Text", "addDigit", "(I)V"⟩ prog_5_method_9_code 2 none ∈ lw_g := lg_i (i := 380) (by decide +kernel) rfl
theorem k_353 : Cond.methodLink "CodeLister$Text" 56 ⟨"CodeLister$Kinds", "number", "(I)I"⟩ ∈ lw_g := lg_i (i := 381) (by decide +kernel) rfl
theorem k_354 : Cond.methodLink "CodeLister$Text" 59 ⟨"CodeLister$Text", "addNumber", "(I)V"⟩ ∈ lw_g := lg_i (i := 382) (by decide +kernel) rfl
theorem k_355 : Cond.privateMethod ⟨"CodeLister$Text", "addNumber", "(I)V"⟩ ∈ lw_tbl := List.mem_of_getElem? (i := 383) (by decide +kernel)
theorem k_356 : Cond.instanceMethod ⟨"CodeLister$Text", "addNumber", "(I)V"⟩ ∈ lw_g := lg_i (i := 384) (by decide +kernel) rfl
theorem k_357 : Cond.code ⟨"CodeLister$Text", "addNumber", "(I)V"⟩ prog_5_method_10_code 4 none ∈ lw_g := lg_i (i := 385) (by decide +kernel) rfl
theorem k_358 : Cond.methodLink "CodeLister$Text" 66 ⟨"java/lang/Math", "abs", "(I)I"⟩ ∈ lw_g := lg_i (i := 386) (by decide +kernel) rfl
theorem k_359 : Cond.static ⟨"java/lang/Math", "abs", "(I)I"⟩ ∈ lw_g := lg_i (i := 387) (by decide +kernel) rfl
theorem k_360 : Cond.code ⟨"java/lang/Math", "abs", "(I)I"⟩ prog_9_method_59_code 1 (some .int) ∈ lw_g := lg_i (i := 388) (by decide +kernel) rfl
theorem k_361 : Cond.methodLink "CodeLister" 127 ⟨"CodeLister$Kinds", "first", "(I)I"⟩ ∈ lw_g := lg_i (i := 389) (by decide +kernel) rfl
theorem k_362 : Cond.static ⟨"CodeLister$Kinds", "first", "(I)I"⟩ ∈ lw_g := lg_i (i := 390) (by decide +kernel) rfl
theorem k_363 : Cond.code ⟨"CodeLister$Kinds", "first", "(I)I"⟩ prog_4_method_3_code 1 (some .int) ∈ lw_g := lg_i (i := 391) (by decide +kernel) rfl
theorem k_364 : Cond.methodLink "CodeLister" 130 ⟨"CodeLister$Image", "number", "(II)I"⟩ ∈ lw_g := lg_i (i := 392) (by decide +kernel) rfl
theorem k_365 : Cond.methodLink "CodeLister" 133 ⟨"CodeLister$Kinds", "bytes", "(I)I"⟩ ∈ lw_g := lg_i (i := 393) (by decide +kernel) rfl
theorem k_366 : Cond.methodLink "CodeLister" 103 ⟨"CodeLister$Text", "count", "()I"⟩ ∈ lw_g := lg_i (i := 394) (by decide +kernel) rfl
theorem k_367 : Cond.instanceMethod ⟨"CodeLister$Text", "count", "()I"⟩ ∈ lw_g := lg_i (i := 395) (by decide +kernel) rfl
theorem k_368 : Cond.selects "CodeLister$Text" ⟨"CodeLister$Text", "count", "()I"⟩ ⟨"CodeLister$Text", "count", "()I"⟩ ∈ lw_g := lg_i (i := 396) (by decide +kernel) rfl
theorem k_369 : Cond.code ⟨"CodeLister$Text", "count", "()I"⟩ prog_5_method_2_code 1 (some .int) ∈ lw_g := lg_i (i := 397) (by decide +kernel) rfl
theorem k_370 : Cond.arrayClass .byte ∈ lw_g := lg_i (i := 398) (by decide +kernel) rfl
theorem k_371 : Cond.methodLink "CodeListerLaw" 65 ⟨"CodeLister", "textLength", "()I"⟩ ∈ lw_g := lg_i (i := 399) (by decide +kernel) rfl
theorem k_372 : Cond.instanceMethod ⟨"CodeLister", "textLength", "()I"⟩ ∈ lw_g := lg_i (i := 400) (by decide +kernel) rfl
theorem k_373 : Cond.selects "CodeLister" ⟨"CodeLister", "textLength", "()I"⟩ ⟨"CodeLister", "textLength", "()I"⟩ ∈ lw_g := lg_i (i := 401) (by decide +kernel) rfl
theorem k_374 : Cond.code ⟨"CodeLister", "textLength", "()I"⟩ prog_1_method_14_code 1 (some .int) ∈ lw_g := lg_i (i := 402) (by decide +kernel) rfl
theorem k_375 : Cond.methodLink "CodeListerLaw" 69 ⟨"CodeLister", "charAt", "(I)I"⟩ ∈ lw_g := lg_i (i := 403) (by decide +kernel) rfl
theorem k_376 : Cond.instanceMethod ⟨"CodeLister", "charAt", "(I)I"⟩ ∈ lw_g := lg_i (i := 404) (by decide +kernel) rfl
theorem k_377 : Cond.selects "CodeLister" ⟨"CodeLister", "charAt", "(I)I"⟩ ⟨"CodeLister", "charAt", "(I)I"⟩ ∈ lw_g := lg_i (i := 405) (by decide +kernel) rfl
theorem k_378 : Cond.code ⟨"CodeLister", "charAt", "(I)I"⟩ prog_1_method_15_code 2 (some .int) ∈ lw_g := lg_i (i := 406) (by decide +kernel) rfl
theorem k_379 : Cond.methodLink "CodeLister" 104 ⟨"CodeLister$Text", "at", "(I)I"⟩ ∈ lw_g := lg_i (i := 407) (by decide +kernel) rfl
theorem k_380 : Cond.instanceMethod ⟨"CodeLister$Text", "at", "(I)I"⟩ ∈ lw_g := lg_i (i := 408) (by decide +kernel) rfl
theorem k_381 : Cond.selects "CodeLister$Text" ⟨"CodeLister$Text", "at", "(I)I"⟩ ⟨"CodeLister$Text", "at", "(I)I"⟩ ∈ lw_g := lg_i (i := 409) (by decide +kernel) rfl
theorem k_382 : Cond.code ⟨"CodeLister$Text", "at", "(I)I"⟩ prog_5_method_3_code 2 (some .int) ∈ lw_g := lg_i (i := 410) (by decide +kernel) rfl
theorem k_383 : Cond.methodLink "CodeListerLaw" 73 ⟨"CodeLister", "type", "(II)Z"⟩ ∈ lw_g := lg_i (i := 411) (by decide +kernel) rfl
theorem k_384 : Cond.instanceMethod ⟨"CodeLister", "type", "(II)Z"⟩ ∈ lw_g := lg_i (i := 412) (by decide +kernel) rfl
theorem k_385 : Cond.selects "CodeLister" ⟨"CodeLister", "type", "(II)Z"⟩ ⟨"CodeLister", "type", "(II)Z"⟩ ∈ lw_g := lg_i (i := 413) (by decide +kernel) rfl
theorem k_386 : Cond.code ⟨"CodeLister", "type", "(II)Z"⟩ prog_1_method_16_code 3 (some .boolean) ∈ lw_g := lg_i (i := 414) (by decide +kernel) rfl
theorem k_387 : Cond.methodLink "CodeLister" 105 ⟨"CodeLister$Text", "put", "(IC)V"⟩ ∈ lw_g := lg_i (i := 415) (by decide +kernel) rfl
theorem k_388 : Cond.methodLink "CodeListerLaw" 78 ⟨"CodeLister", "assemble", "()I"⟩ ∈ lw_g := lg_i (i := 416) (by decide +kernel) rfl
theorem k_389 : Cond.instanceMethod ⟨"CodeLister", "assemble", "()I"⟩ ∈ lw_g := lg_i (i := 417) (by decide +kernel) rfl
theorem k_390 : Cond.selects "CodeLister" ⟨"CodeLister", "assemble", "()I"⟩ ⟨"CodeLister", "assemble", "()I"⟩ ∈ lw_g := lg_i (i := 418) (by decide +kernel) rfl
theorem k_391 : Cond.code ⟨"CodeLister", "assemble", "()I"⟩ prog_1_method_17_code 1 (some .int) ∈ lw_g := lg_i (i := 419) (by decide +kernel) rfl
theorem k_392 : Cond.methodLink "CodeLister" 109 ⟨"CodeLister$Assembler", "read", "(LCodeLister$Text;)Z"⟩ ∈ lw_g := lg_i (i := 420) (by decide +kernel) rfl
theorem k_393 : Cond.instanceMethod ⟨"CodeLister$Assembler", "read", "(LCodeLister$Text;)Z"⟩ ∈ lw_g := lg_i (i := 421) (by decide +kernel) rfl
theorem k_394 : Cond.selects "CodeLister$Assembler" ⟨"CodeLister$Assembler", "read", "(LCodeLister$Text;)Z"⟩ ⟨"CodeLister$Assembler", "read", "(LCodeLister$Text;)Z"⟩ ∈ lw_g := lg_i (i := 422) (by decide +kernel) rfl
theorem k_395 : Cond.code ⟨"CodeLister$Assembler", "read", "(LCodeLister$Text;)Z"⟩ prog_2_method_4_code 3 (some .boolean) ∈ lw_g := lg_i (i := 423) (by decide +kernel) rfl
theorem k_396 : Cond.methodLink "CodeLister$Assembler" 31 ⟨"CodeLister$Text", "startReading", "()V"⟩ ∈ lw_g := lg_i (i := 424) (by decide +kernel) rfl
theorem k_397 : Cond.instanceMethod ⟨"CodeLister$Text", "startReading", "()V"⟩ ∈ lw_g := lg_i (i := 425) (by decide +kernel) rfl
theorem k_398 : Cond.selects "CodeLister$Text" ⟨"CodeLister$Text", "startReading", "()V"⟩ ⟨"CodeLister$Text", "startReading", "()V"⟩ ∈ lw_g := lg_i (i := 426) (by decide +kernel) rfl
theorem k_399 : Cond.code ⟨"CodeLister$Text", "startReading", "()V"⟩ prog_5_method_11_code 1 none ∈ lw_g := lg_i (i := 427) (by decide +kernel) rfl
theorem k_400 : Cond.methodLink "CodeLister$Assembler" 36 ⟨"CodeLister$Text", "hasMore", "()Z"⟩ ∈ lw_g := lg_i (i := 428) (by decide +kernel) rfl
theorem k_401 : Cond.instanceMethod ⟨"CodeLister$Text", "hasMore", "()Z"⟩ ∈ lw_g := lg_i (i := 429) (by decide +kernel) rfl
theorem k_402 : Cond.selects "CodeLister$Text" ⟨"CodeLister$Text", "hasMore", "()Z"⟩ ⟨"CodeLister$Text", "hasMore", "()Z"⟩ ∈ lw_g := lg_i (i := 430) (by decide +kernel) rfl
theorem k_403 : Cond.code ⟨"CodeLister$Text", "hasMore", "()Z"⟩ prog_5_method_13_code 1 (some .boolean) ∈ lw_g := lg_i (i := 431) (by decide +kernel) rfl
theorem k_404 : Cond.methodLink "CodeLister$Assembler" 40 ⟨"CodeLister$Assembler", "readLine", "(LCodeLister$Text;)V"⟩ ∈ lw_g := lg_i (i := 432) (by decide +kernel) rfl
theorem k_405 : Cond.privateMethod ⟨"CodeLister$Assembler", "readLine", "(LCodeLister$Text;)V"⟩ ∈ lw_tbl := List.mem_of_getElem? (i := 433) (by decide +kernel)
theorem k_406 : Cond.instanceMethod ⟨"CodeLister$Assembler", "readLine", "(LCodeLister$Text;)V"⟩ ∈ lw_g := lg_i (i := 434) (by decide +kernel) rfl
theorem k_407 : Cond.code ⟨"CodeLister$Assembler", "readLine", "(LCodeLister$Text;)V"⟩ prog_2_method_5_code 5 none ∈ lw_g := lg_i (i := 435) (by decide +kernel) rfl
theorem k_408 : Cond.methodLink "CodeLister$Assembler" 47 ⟨"CodeLister$Text", "takeKind", "()I"⟩ ∈ lw_g := lg_i (i := 436) (by decide +kernel) rfl
theorem k_409 : Cond.instanceMethod ⟨"CodeLister$Text", "takeKind", "()I"⟩ ∈ lw_g := lg_i (i := 437) (by decide +kernel) rfl
theorem k_410 : Cond.selects "CodeLister$Text" ⟨"CodeLister$Text", "takeKind", "()I"⟩ ⟨"CodeLister$Text", "takeKind", "()I"⟩ ∈ lw_g := lg_i (i := 438) (by decide +kernel) rfl
theorem k_411 : Cond.code ⟨"CodeLister$Text", "takeKind", "()I"⟩ prog_5_method_16_code 3 (some .int) ∈ lw_g := lg_i (i := 439) (by decide +kernel) rfl
theorem k_412 : Cond.methodLink "CodeLister$Text" 82 ⟨"CodeLister$Text", "goesOnWith", "(Ljava/lang/String;)Z"⟩ ∈ lw_g := lg_i (i := 440) (by decide +kernel) rfl
theorem k_413 : Cond.privateMethod ⟨"CodeLister$Text", "goesOnWith", "(Ljava/lang/String;)Z"⟩ ∈ lw_tbl := List.mem_of_getElem? (i := 441) (by decide +kernel)
theorem k_414 : Cond.instanceMethod ⟨"CodeLister$Text", "goesOnWith", "(Ljava/lang/String;)Z"⟩ ∈ lw_g := lg_i (i := 442) (by decide +kernel) rfl
theorem k_415 : Cond.code ⟨"CodeLister$Text", "goesOnWith", "(Ljava/lang/String;)Z"⟩ prog_5_method_17_code 3 (some .boolean) ∈ lw_g := lg_i (i := 443) (by decide +kernel) rfl
theorem k_416 : Cond.methodLink "CodeLister$Text" 76 ⟨"CodeLister$Text", "at", "(I)I"⟩ ∈ lw_g := lg_i (i := 444) (by decide +kernel) rfl
theorem k_417 : Cond.methodLink "CodeLister$Assembler" 51 ⟨"CodeLister$Assembler", "readRegisters", "(LCodeLister$Text;I)I"⟩ ∈ lw_g := lg_i (i := 445) (by decide +kernel) rfl
theorem k_418 : Cond.static ⟨"CodeLister$Assembler", "readRegisters", "(LCodeLister$Text;I)I"⟩ ∈ lw_g := lg_i (i := 446) (by decide +kernel) rfl
theorem k_419 : Cond.code ⟨"CodeLister$Assembler", "readRegisters", "(LCodeLister$Text;I)I"⟩ prog_2_method_6_code 4 (some .int) ∈ lw_g := lg_i (i := 447) (by decide +kernel) rfl
theorem k_420 : Cond.methodLink "CodeLister$Assembler" 66 ⟨"CodeLister$Kinds", "registers", "(I)I"⟩ ∈ lw_g := lg_i (i := 448) (by decide +kernel) rfl
theorem k_421 : Cond.methodLink "CodeLister$Assembler" 72 ⟨"CodeLister$Text", "takeComma", "(I)V"⟩ ∈ lw_g := lg_i (i := 449) (by decide +kernel) rfl
theorem k_422 : Cond.instanceMethod ⟨"CodeLister$Text", "takeComma", "(I)V"⟩ ∈ lw_g := lg_i (i := 450) (by decide +kernel) rfl
theorem k_423 : Cond.selects "CodeLister$Text" ⟨"CodeLister$Text", "takeComma", "(I)V"⟩ ⟨"CodeLister$Text", "takeComma", "(I)V"⟩ ∈ lw_g := lg_i (i := 451) (by decide +kernel) rfl
theorem k_424 : Cond.code ⟨"CodeLister$Text", "takeComma", "(I)V"⟩ prog_5_method_15_code 2 none ∈ lw_g := lg_i (i := 452) (by decide +kernel) rfl
theorem k_425 : Cond.methodLink "CodeLister$Text" 79 ⟨"CodeLister$Text", "take", "(C)V"⟩ ∈ lw_g := lg_i (i := 453) (by decide +kernel) rfl
theorem k_426 : Cond.instanceMethod ⟨"CodeLister$Text", "take", "(C)V"⟩ ∈ lw_g := lg_i (i := 454) (by decide +kernel) rfl
theorem k_427 : Cond.selects "CodeLister$Text" ⟨"CodeLister$Text", "take", "(C)V"⟩ ⟨"CodeLister$Text", "take", "(C)V"⟩ ∈ lw_g := lg_i (i := 455) (by decide +kernel) rfl
theorem k_428 : Cond.code ⟨"CodeLister$Text", "take", "(C)V"⟩ prog_5_method_14_code 2 none ∈ lw_g := lg_i (i := 456) (by decide +kernel) rfl
theorem k_429 : Cond.methodLink "CodeLister$Assembler" 76 ⟨"CodeLister$Text", "takeRegister", "()I"⟩ ∈ lw_g := lg_i (i := 457) (by decide +kernel) rfl
theorem k_430 : Cond.instanceMethod ⟨"CodeLister$Text", "takeRegister", "()I"⟩ ∈ lw_g := lg_i (i := 458) (by decide +kernel) rfl
theorem k_431 : Cond.selects "CodeLister$Text" ⟨"CodeLister$Text", "takeRegister", "()I"⟩ ⟨"CodeLister$Text", "takeRegister", "()I"⟩ ∈ lw_g := lg_i (i := 459) (by decide +kernel) rfl
theorem k_432 : Cond.code ⟨"CodeLister$Text", "takeRegister", "()I"⟩ prog_5_method_18_code 2 (some .int) ∈ lw_g := lg_i (i := 460) (by decide +kernel) rfl
theorem k_433 : Cond.methodLink "CodeLister$Assembler" 55 ⟨"CodeLister$Assembler", "readNumber", "(LCodeLister$Text;I)I"⟩ ∈ lw_g := lg_i (i := 461) (by decide +kernel) rfl
theorem k_434 : Cond.static ⟨"CodeLister$Assembler", "readNumber", "(LCodeLister$Text;I)I"⟩ ∈ lw_g := lg_i (i := 462) (by decide +kernel) rfl
theorem k_435 : Cond.code ⟨"CodeLister$Assembler", "readNumber", "(LCodeLister$Text;I)I"⟩ prog_2_method_7_code 3 (some .int) ∈ lw_g := lg_i (i := 463) (by decide +kernel) rfl
theorem k_436 : Cond.methodLink "CodeLister$Assembler" 79 ⟨"CodeLister$Kinds", "number", "(I)I"⟩ ∈ lw_g := lg_i (i := 464) (by decide +kernel) rfl
theorem k_437 : Cond.methodLink "CodeLister$Assembler" 82 ⟨"CodeLister$Kinds", "lowest", "(I)I"⟩ ∈ lw_g := lg_i (i := 465) (by decide +kernel) rfl
theorem k_438 : Cond.static ⟨"CodeLister$Kinds", "lowest", "(I)I"⟩ ∈ lw_g := lg_i (i := 466) (by decide +kernel) rfl
theorem k_439 : Cond.code ⟨"CodeLister$Kinds", "lowest", "(I)I"⟩ prog_4_method_7_code 1 (some .int) ∈ lw_g := lg_i (i := 467) (by decide +kernel) rfl
theorem k_440 : Cond.methodLink "CodeLister$Assembler" 85 ⟨"CodeLister$Kinds", "highest", "(I)I"⟩ ∈ lw_g := lg_i (i := 468) (by decide +kernel) rfl
theorem k_441 : Cond.static ⟨"CodeLister$Kinds", "highest", "(I)I"⟩ ∈ lw_g := lg_i (i := 469) (by decide +kernel) rfl
theorem k_442 : Cond.code ⟨"CodeLister$Kinds", "highest", "(I)I"⟩ prog_4_method_8_code 1 (some .int) ∈ lw_g := lg_i (i := 470) (by decide +kernel) rfl
theorem k_443 : Cond.constant "CodeLister$Kinds" 21 (65535 : Int32) ∈ lw_g := lg_i (i := 471) (by decide +kernel) rfl
theorem k_444 : Cond.methodLink "CodeLister$Assembler" 88 ⟨"CodeLister$Text", "takeNumber", "(II)I"⟩ ∈ lw_g := lg_i (i := 472) (by decide +kernel) rfl
theorem k_445 : Cond.instanceMethod ⟨"CodeLister$Text", "takeNumber", "(II)I"⟩ ∈ lw_g := lg_i (i := 473) (by decide +kernel) rfl
theorem k_446 : Cond.selects "CodeLister$Text" ⟨"CodeLister$Text", "takeNumber", "(II)I"⟩ ⟨"CodeLister$Text", "takeNumber", "(II)I"⟩ ∈ lw_g := lg_i (i := 474) (by decide +kernel) rfl
theorem k_447 : Cond.code ⟨"CodeLister$Text", "takeNumber", "(II)I"⟩ prog_5_method_19_code 6 (some .int) ∈ lw_g := lg_i (i := 475) (by decide +kernel) rfl
theorem k_448 : Cond.methodLink "CodeLister$Text" 86 ⟨"CodeLister$Text", "takeAmount", "()I"⟩ ∈ lw_g := lg_i (i := 476) (by decide +kernel) rfl
theorem k_449 : Cond.privateMethod ⟨"CodeLister$Text", "takeAmount", "()I"⟩ ∈ lw_tbl := List.mem_of_getElem? (i := 477) (by decide +kernel)
theorem k_450 : Cond.instanceMethod ⟨"CodeLister$Text", "takeAmount", "()I"⟩ ∈ lw_g := lg_i (i := 478) (by decide +kernel) rfl
theorem k_451 : Cond.code ⟨"CodeLister$Text", "takeAmount", "()I"⟩ prog_5_method_20_code 4 (some .int) ∈ lw_g := lg_i (i := 479) (by decide +kernel) rfl
theorem k_452 : Cond.methodLink "CodeLister$Text" 89 ⟨"CodeLister$Text", "isDigit", "(I)Z"⟩ ∈ lw_g := lg_i (i := 480) (by decide +kernel) rfl
theorem k_453 : Cond.static ⟨"CodeLister$Text", "isDigit", "(I)Z"⟩ ∈ lw_g := lg_i (i := 481) (by decide +kernel) rfl
theorem k_454 : Cond.code ⟨"CodeLister$Text", "isDigit", "(I)Z"⟩ prog_5_method_21_code 1 (some .boolean) ∈ lw_g := lg_i (i := 482) (by decide +kernel) rfl
theorem k_455 : Cond.methodLink "CodeLister$Assembler" 58 ⟨"CodeLister$Text", "take", "(C)V"⟩ ∈ lw_g := lg_i (i := 483) (by decide +kernel) rfl
theorem k_456 : Cond.methodLink "CodeLister$Assembler" 62 ⟨"CodeLister$Assembler", "addBytes", "(III)V"⟩ ∈ lw_g := lg_i (i := 484) (by decide +kernel) rfl
theorem k_457 : Cond.privateMethod ⟨"CodeLister$Assembler", "addBytes", "(III)V"⟩ ∈ lw_tbl := List.mem_of_getElem? (i := 485) (by decide +kernel)
theorem k_458 : Cond.instanceMethod ⟨"CodeLister$Assembler", "addBytes", "(III)V"⟩ ∈ lw_g := lg_i (i := 486) (by decide +kernel) rfl
theorem k_459 : Cond.code ⟨"CodeLister$Assembler", "addBytes", "(III)V"⟩ prog_2_method_8_code 4 none ∈ lw_g := lg_i (i := 487) (by decide +kernel) rfl
theorem k_460 : Cond.methodLink "CodeLister$Assembler" 91 ⟨"CodeLister$Kinds", "first", "(I)I"⟩ ∈ lw_g := lg_i (i := 488) (by decide +kernel) rfl
theorem k_461 : Cond.methodLink "CodeLister$Assembler" 94 ⟨"CodeLister$Assembler", "addByte", "(I)V"⟩ ∈ lw_g := lg_i (i := 489) (by decide +kernel) rfl
theorem k_462 : Cond.privateMethod ⟨"CodeLister$Assembler", "addByte", "(I)V"⟩ ∈ lw_tbl := List.mem_of_getElem? (i := 490) (by decide +kernel)
theorem k_463 : Cond.instanceMethod ⟨"CodeLister$Assembler", "addByte", "(I)V"⟩ ∈ lw_g := lg_i (i := 491) (by decide +kernel) rfl
theorem k_464 : Cond.code ⟨"CodeLister$Assembler", "addByte", "(I)V"⟩ prog_2_method_9_code 2 none ∈ lw_g := lg_i (i := 492) (by decide +kernel) rfl
theorem k_465 : Cond.methodLink "CodeLister$Assembler" 44 ⟨"CodeLister$Text", "isRight", "()Z"⟩ ∈ lw_g := lg_i (i := 493) (by decide +kernel) rfl
theorem k_466 : Cond.instanceMethod ⟨"CodeLister$Text", "isRight", "()Z"⟩ ∈ lw_g := lg_i (i := 494) (by decide +kernel) rfl
theorem k_467 : Cond.selects "CodeLister$Text" ⟨"CodeLister$Text", "isRight", "()Z"⟩ ⟨"CodeLister$Text", "isRight", "()Z"⟩ ∈ lw_g := lg_i (i := 495) (by decide +kernel) rfl
theorem k_468 : Cond.code ⟨"CodeLister$Text", "isRight", "()Z"⟩ prog_5_method_12_code 1 (some .boolean) ∈ lw_g := lg_i (i := 496) (by decide +kernel) rfl
theorem k_469 : Cond.methodLink "CodeLister" 113 ⟨"CodeLister$Assembler", "count", "()I"⟩ ∈ lw_g := lg_i (i := 497) (by decide +kernel) rfl
theorem k_470 : Cond.instanceMethod ⟨"CodeLister$Assembler", "count", "()I"⟩ ∈ lw_g := lg_i (i := 498) (by decide +kernel) rfl
theorem k_471 : Cond.selects "CodeLister$Assembler" ⟨"CodeLister$Assembler", "count", "()I"⟩ ⟨"CodeLister$Assembler", "count", "()I"⟩ ∈ lw_g := lg_i (i := 499) (by decide +kernel) rfl
theorem k_472 : Cond.code ⟨"CodeLister$Assembler", "count", "()I"⟩ prog_2_method_2_code 1 (some .int) ∈ lw_g := lg_i (i := 500) (by decide +kernel) rfl
theorem k_473 : Cond.methodLink "CodeLister" 114 ⟨"CodeLister$Assembler", "copyTo", "([I)V"⟩ ∈ lw_g := lg_i (i := 501) (by decide +kernel) rfl
theorem k_474 : Cond.instanceMethod ⟨"CodeLister$Assembler", "copyTo", "([I)V"⟩ ∈ lw_g := lg_i (i := 502) (by decide +kernel) rfl
theorem k_475 : Cond.selects "CodeLister$Assembler" ⟨"CodeLister$Assembler", "copyTo", "([I)V"⟩ ⟨"CodeLister$Assembler", "copyTo", "([I)V"⟩ ∈ lw_g := lg_i (i := 503) (by decide +kernel) rfl
theorem k_476 : Cond.code ⟨"CodeLister$Assembler", "copyTo", "([I)V"⟩ prog_2_method_3_code 2 none ∈ lw_g := lg_i (i := 504) (by decide +kernel) rfl
theorem k_477 : Cond.methodLink "CodeLister$Assembler" 19 ⟨"java/lang/Math", "min", "(II)I"⟩ ∈ lw_g := lg_i (i := 505) (by decide +kernel) rfl
theorem k_478 : Cond.methodLink "CodeLister$Assembler" 25 ⟨"java/lang/System", "arraycopy", "(Ljava/lang/Object;ILjava/lang/Object;II)V"⟩ ∈ lw_g := lg_i (i := 506) (by decide +kernel) rfl
theorem k_479 : Cond.static ⟨"java/lang/System", "arraycopy", "(Ljava/lang/Object;ILjava/lang/Object;II)V"⟩ ∈ lw_g := lg_i (i := 507) (by decide +kernel) rfl
theorem k_480 : Cond.native ⟨"java/lang/System", "arraycopy", "(Ljava/lang/Object;ILjava/lang/Object;II)V"⟩ ∈ lw_g := lg_i (i := 508) (by decide +kernel) rfl
theorem k_481 : Cond.methodLink "CodeListerLaw" 82 ⟨"CodeLister", "made", "(I)I"⟩ ∈ lw_g := lg_i (i := 509) (by decide +kernel) rfl
theorem k_482 : Cond.instanceMethod ⟨"CodeLister", "made", "(I)I"⟩ ∈ lw_g := lg_i (i := 510) (by decide +kernel) rfl
theorem k_483 : Cond.selects "CodeLister" ⟨"CodeLister", "made", "(I)I"⟩ ⟨"CodeLister", "made", "(I)I"⟩ ∈ lw_g := lg_i (i := 511) (by decide +kernel) rfl
theorem k_484 : Cond.code ⟨"CodeLister", "made", "(I)I"⟩ prog_1_method_18_code 2 (some .int) ∈ lw_g := lg_i (i := 512) (by decide +kernel) rfl
theorem k_485 : Cond.classLink "CodeListerLaw" 10 "CodeListerModel" ∈ lw_g := lg_i (i := 513) (by decide +kernel) rfl
theorem k_486 : Cond.instantiable "CodeListerModel" 12 ∈ lw_g := lg_i (i := 514) (by decide +kernel) rfl
theorem k_487 : Cond.methodLink "CodeListerLaw" 12 ⟨"CodeListerModel", "<init>", "()V"⟩ ∈ lw_g := lg_i (i := 515) (by decide +kernel) rfl
theorem k_488 : Cond.instanceMethod ⟨"CodeListerModel", "<init>", "()V"⟩ ∈ lw_g := lg_i (i := 516) (by decide +kernel) rfl
theorem k_489 : Cond.code ⟨"CodeListerModel", "<init>", "()V"⟩ prog_8_method_1_code 1 none ∈ lw_g := lg_i (i := 517) (by decide +kernel) rfl
theorem k_490 : Cond.methodLink "CodeListerModel" 1 ⟨"java/lang/Object", "<init>", "()V"⟩ ∈ lw_g := lg_i (i := 518) (by decide +kernel) rfl
theorem k_491 : Cond.fieldLink "CodeListerModel" 7 "CodeListerModel" "image" "[I" ∈ lw_g := lg_i (i := 519) (by decide +kernel) rfl
theorem k_492 : Cond.fieldLink "CodeListerModel" 13 "CodeListerModel" "entries" "[I" ∈ lw_g := lg_i (i := 520) (by decide +kernel) rfl
theorem k_493 : Cond.fieldLink "CodeListerModel" 16 "CodeListerModel" "text" "[I" ∈ lw_g := lg_i (i := 521) (by decide +kernel) rfl
theorem k_494 : Cond.fieldLink "CodeListerModel" 19 "CodeListerModel" "out" "[I" ∈ lw_g := lg_i (i := 522) (by decide +kernel) rfl
theorem k_495 : Cond.fieldLink "CodeListerModel" 22 "CodeListerModel" "bytes" "[I" ∈ lw_g := lg_i (i := 523) (by decide +kernel) rfl
theorem k_496 : Cond.fieldLink "CodeListerModel" 25 "CodeListerModel" "mark" "[Z" ∈ lw_g := lg_i (i := 524) (by decide +kernel) rfl
theorem k_497 : Cond.fieldLink "CodeListerModel" 29 "CodeListerModel" "line" "[I" ∈ lw_g := lg_i (i := 525) (by decide +kernel) rfl
theorem k_498 : Cond.fieldLink "CodeListerModel" 32 "CodeListerModel" "size" "I" ∈ lw_g := lg_i (i := 526) (by decide +kernel) rfl
theorem k_499 : Cond.fieldLink "CodeListerModel" 40 "CodeListerModel" "entered" "I" ∈ lw_g := lg_i (i := 527) (by decide +kernel) rfl
theorem k_500 : Cond.fieldLink "CodeListerModel" 43 "CodeListerModel" "length" "I" ∈ lw_g := lg_i (i := 528) (by decide +kernel) rfl
theorem k_501 : Cond.fieldLink "CodeListerModel" 46 "CodeListerModel" "makes" "I" ∈ lw_g := lg_i (i := 529) (by decide +kernel) rfl
theorem k_502 : Cond.fieldLink "CodeListerModel" 73 "CodeListerModel" "width" "I" ∈ lw_g := lg_i (i := 530) (by decide +kernel) rfl
theorem k_503 : Cond.laysFinal "CodeListerModel" "CodeListerModel" "image" "[I" ∈ lw_g := lg_i (i := 531) (by decide +kernel) rfl
theorem k_504 : Cond.soleField "CodeListerModel" "image" ∈ lw_g := lg_i (i := 532) (by decide +kernel) rfl
theorem k_505 : Cond.laysFinal "CodeListerModel" "CodeListerModel" "entries" "[I" ∈ lw_g := lg_i (i := 533) (by decide +kernel) rfl
theorem k_506 : Cond.soleField "CodeListerModel" "entries" ∈ lw_g := lg_i (i := 534) (by decide +kernel) rfl
theorem k_507 : Cond.laysFinal "CodeListerModel" "CodeListerModel" "text" "[I" ∈ lw_g := lg_i (i := 535) (by decide +kernel) rfl
theorem k_508 : Cond.soleField "CodeListerModel" "text" ∈ lw_g := lg_i (i := 536) (by decide +kernel) rfl
theorem k_509 : Cond.laysFinal "CodeListerModel" "CodeListerModel" "out" "[I" ∈ lw_g := lg_i (i := 537) (by decide +kernel) rfl
theorem k_510 : Cond.soleField "CodeListerModel" "out" ∈ lw_g := lg_i (i := 538) (by decide +kernel) rfl
theorem k_511 : Cond.laysFinal "CodeListerModel" "CodeListerModel" "bytes" "[I" ∈ lw_g := lg_i (i := 539) (by decide +kernel) rfl
theorem k_512 : Cond.soleField "CodeListerModel" "bytes" ∈ lw_g := lg_i (i := 540) (by decide +kernel) rfl
theorem k_513 : Cond.laysFinal "CodeListerModel" "CodeListerModel" "mark" "[Z" ∈ lw_g := lg_i (i := 541) (by decide +kernel) rfl
theorem k_514 : Cond.soleField "CodeListerModel" "mark" ∈ lw_g := lg_i (i := 542) (by decide +kernel) rfl
theorem k_515 : Cond.laysFinal "CodeListerModel" "CodeListerModel" "line" "[I" ∈ lw_g := lg_i (i := 543) (by decide +kernel) rfl
theorem k_516 : Cond.soleField "CodeListerModel" "line" ∈ lw_g := lg_i (i := 544) (by decide +kernel) rfl
theorem k_517 : Cond.lays "CodeListerModel" "CodeListerModel" "size" "I" ∈ lw_g := lg_i (i := 545) (by decide +kernel) rfl
theorem k_518 : Cond.soleField "CodeListerModel" "size" ∈ lw_g := lg_i (i := 546) (by decide +kernel) rfl
theorem k_519 : Cond.lays "CodeListerModel" "CodeListerModel" "entered" "I" ∈ lw_g := lg_i (i := 547) (by decide +kernel) rfl
theorem k_520 : Cond.soleField "CodeListerModel" "entered" ∈ lw_g := lg_i (i := 548) (by decide +kernel) rfl
theorem k_521 : Cond.lays "CodeListerModel" "CodeListerModel" "length" "I" ∈ lw_g := lg_i (i := 549) (by decide +kernel) rfl
theorem k_522 : Cond.soleField "CodeListerModel" "length" ∈ lw_g := lg_i (i := 550) (by decide +kernel) rfl
theorem k_523 : Cond.lays "CodeListerModel" "CodeListerModel" "makes" "I" ∈ lw_g := lg_i (i := 551) (by decide +kernel) rfl
theorem k_524 : Cond.soleField "CodeListerModel" "makes" ∈ lw_g := lg_i (i := 552) (by decide +kernel) rfl
theorem k_525 : Cond.lays "CodeListerModel" "CodeListerModel" "width" "I" ∈ lw_g := lg_i (i := 553) (by decide +kernel) rfl
theorem k_526 : Cond.soleField "CodeListerModel" "width" ∈ lw_g := lg_i (i := 554) (by decide +kernel) rfl
theorem k_527 : Cond.superclass "CodeListerModel" "java/lang/Object" ∈ lw_g := lg_i (i := 555) (by decide +kernel) rfl
theorem k_528 : Cond.methodLink "CodeListerLaw" 17 ⟨"CodeListerModel", "append", "(II)I"⟩ ∈ lw_g := lg_i (i := 556) (by decide +kernel) rfl
theorem k_529 : Cond.instanceMethod ⟨"CodeListerModel", "append", "(II)I"⟩ ∈ lw_g := lg_i (i := 557) (by decide +kernel) rfl
theorem k_530 : Cond.selects "CodeListerModel" ⟨"CodeListerModel", "append", "(II)I"⟩ ⟨"CodeListerModel", "append", "(II)I"⟩ ∈ lw_g := lg_i (i := 558) (by decide +kernel) rfl
theorem k_531 : Cond.code ⟨"CodeListerModel", "append", "(II)I"⟩ prog_8_method_2_code 4 (some .int) ∈ lw_g := lg_i (i := 559) (by decide +kernel) rfl
theorem k_532 : Cond.methodLink "CodeListerLaw" 22 ⟨"CodeListerModel", "enter", "(I)Z"⟩ ∈ lw_g := lg_i (i := 560) (by decide +kernel) rfl
theorem k_533 : Cond.instanceMethod ⟨"CodeListerModel", "enter", "(I)Z"⟩ ∈ lw_g := lg_i (i := 561) (by decide +kernel) rfl
theorem k_534 : Cond.selects "CodeListerModel" ⟨"CodeListerModel", "enter", "(I)Z"⟩ ⟨"CodeListerModel", "enter", "(I)Z"⟩ ∈ lw_g := lg_i (i := 562) (by decide +kernel) rfl
theorem k_535 : Cond.code ⟨"CodeListerModel", "enter", "(I)Z"⟩ prog_8_method_4_code 3 (some .boolean) ∈ lw_g := lg_i (i := 563) (by decide +kernel) rfl
theorem k_536 : Cond.methodLink "CodeListerModel" 36 ⟨"CodeListerModel", "has", "(I)Z"⟩ ∈ lw_g := lg_i (i := 564) (by decide +kernel) rfl
theorem k_537 : Cond.privateMethod ⟨"CodeListerModel", "has", "(I)Z"⟩ ∈ lw_tbl := List.mem_of_getElem? (i := 565) (by decide +kernel)
theorem k_538 : Cond.instanceMethod ⟨"CodeListerModel", "has", "(I)Z"⟩ ∈ lw_g := lg_i (i := 566) (by decide +kernel) rfl
theorem k_539 : Cond.code ⟨"CodeListerModel", "has", "(I)Z"⟩ prog_8_method_3_code 2 (some .boolean) ∈ lw_g := lg_i (i := 567) (by decide +kernel) rfl
theorem k_540 : Cond.methodLink "CodeListerLaw" 26 ⟨"CodeListerModel", "clear", "()V"⟩ ∈ lw_g := lg_i (i := 568) (by decide +kernel) rfl
theorem k_541 : Cond.instanceMethod ⟨"CodeListerModel", "clear", "()V"⟩ ∈ lw_g := lg_i (i := 569) (by decide +kernel) rfl
theorem k_542 : Cond.selects "CodeListerModel" ⟨"CodeListerModel", "clear", "()V"⟩ ⟨"CodeListerModel", "clear", "()V"⟩ ∈ lw_g := lg_i (i := 570) (by decide +kernel) rfl
theorem k_543 : Cond.code ⟨"CodeListerModel", "clear", "()V"⟩ prog_8_method_5_code 1 none ∈ lw_g := lg_i (i := 571) (by decide +kernel) rfl
theorem k_544 : Cond.methodLink "CodeListerLaw" 31 ⟨"CodeListerModel", "size", "()I"⟩ ∈ lw_g := lg_i (i := 572) (by decide +kernel) rfl
theorem k_545 : Cond.instanceMethod ⟨"CodeListerModel", "size", "()I"⟩ ∈ lw_g := lg_i (i := 573) (by decide +kernel) rfl
theorem k_546 : Cond.selects "CodeListerModel" ⟨"CodeListerModel", "size", "()I"⟩ ⟨"CodeListerModel", "size", "()I"⟩ ∈ lw_g := lg_i (i := 574) (by decide +kernel) rfl
theorem k_547 : Cond.code ⟨"CodeListerModel", "size", "()I"⟩ prog_8_method_6_code 1 (some .int) ∈ lw_g := lg_i (i := 575) (by decide +kernel) rfl
theorem k_548 : Cond.methodLink "CodeListerLaw" 36 ⟨"CodeListerModel", "byteAt", "(I)I"⟩ ∈ lw_g := lg_i (i := 576) (by decide +kernel) rfl
theorem k_549 : Cond.instanceMethod ⟨"CodeListerModel", "byteAt", "(I)I"⟩ ∈ lw_g := lg_i (i := 577) (by decide +kernel) rfl
theorem k_550 : Cond.selects "CodeListerModel" ⟨"CodeListerModel", "byteAt", "(I)I"⟩ ⟨"CodeListerModel", "byteAt", "(I)I"⟩ ∈ lw_g := lg_i (i := 578) (by decide +kernel) rfl
theorem k_551 : Cond.code ⟨"CodeListerModel", "byteAt", "(I)I"⟩ prog_8_method_7_code 2 (some .int) ∈ lw_g := lg_i (i := 579) (by decide +kernel) rfl
theorem k_552 : Cond.methodLink "CodeListerLaw" 40 ⟨"CodeListerModel", "entry", "(I)I"⟩ ∈ lw_g := lg_i (i := 580) (by decide +kernel) rfl
theorem k_553 : Cond.instanceMethod ⟨"CodeListerModel", "entry", "(I)I"⟩ ∈ lw_g := lg_i (i := 581) (by decide +kernel) rfl
theorem k_554 : Cond.selects "CodeListerModel" ⟨"CodeListerModel", "entry", "(I)I"⟩ ⟨"CodeListerModel", "entry", "(I)I"⟩ ∈ lw_g := lg_i (i := 582) (by decide +kernel) rfl
theorem k_555 : Cond.code ⟨"CodeListerModel", "entry", "(I)I"⟩ prog_8_method_8_code 2 (some .int) ∈ lw_g := lg_i (i := 583) (by decide +kernel) rfl
theorem k_556 : Cond.methodLink "CodeListerLaw" 44 ⟨"CodeListerModel", "length", "(I)I"⟩ ∈ lw_g := lg_i (i := 584) (by decide +kernel) rfl
theorem k_557 : Cond.instanceMethod ⟨"CodeListerModel", "length", "(I)I"⟩ ∈ lw_g := lg_i (i := 585) (by decide +kernel) rfl
theorem k_558 : Cond.selects "CodeListerModel" ⟨"CodeListerModel", "length", "(I)I"⟩ ⟨"CodeListerModel", "length", "(I)I"⟩ ∈ lw_g := lg_i (i := 586) (by decide +kernel) rfl
theorem k_559 : Cond.code ⟨"CodeListerModel", "length", "(I)I"⟩ prog_8_method_10_code 3 (some .int) ∈ lw_g := lg_i (i := 587) (by decide +kernel) rfl
theorem k_560 : Cond.methodLink "CodeListerModel" 49 ⟨"CodeListerModel", "longOf", "(I)I"⟩ ∈ lw_g := lg_i (i := 588) (by decide +kernel) rfl
theorem k_561 : Cond.static ⟨"CodeListerModel", "longOf", "(I)I"⟩ ∈ lw_g := lg_i (i := 589) (by decide +kernel) rfl
theorem k_562 : Cond.code ⟨"CodeListerModel", "longOf", "(I)I"⟩ prog_8_method_9_code 2 (some .int) ∈ lw_g := lg_i (i := 590) (by decide +kernel) rfl
theorem k_563 : Cond.methodLink "CodeListerLaw" 48 ⟨"CodeListerModel", "reach", "()I"⟩ ∈ lw_g := lg_i (i := 591) (by decide +kernel) rfl
theorem k_564 : Cond.instanceMethod ⟨"CodeListerModel", "reach", "()I"⟩ ∈ lw_g := lg_i (i := 592) (by decide +kernel) rfl
theorem k_565 : Cond.selects "CodeListerModel" ⟨"CodeListerModel", "reach", "()I"⟩ ⟨"CodeListerModel", "reach", "()I"⟩ ∈ lw_g := lg_i (i := 593) (by decide +kernel) rfl
theorem k_566 : Cond.code ⟨"CodeListerModel", "reach", "()I"⟩ prog_8_method_15_code 2 (some .int) ∈ lw_g := lg_i (i := 594) (by decide +kernel) rfl
theorem k_567 : Cond.methodLink "CodeListerModel" 62 ⟨"CodeListerModel", "wipe", "()V"⟩ ∈ lw_g := lg_i (i := 595) (by decide +kernel) rfl
theorem k_568 : Cond.privateMethod ⟨"CodeListerModel", "wipe", "()V"⟩ ∈ lw_tbl := List.mem_of_getElem? (i := 596) (by decide +kernel)
theorem k_569 : Cond.instanceMethod ⟨"CodeListerModel", "wipe", "()V"⟩ ∈ lw_g := lg_i (i := 597) (by decide +kernel) rfl
theorem k_570 : Cond.code ⟨"CodeListerModel", "wipe", "()V"⟩ prog_8_method_14_code 2 none ∈ lw_g := lg_i (i := 598) (by decide +kernel) rfl
theorem k_571 : Cond.methodLink "CodeListerModel" 65 ⟨"CodeListerModel", "close", "(Z)I"⟩ ∈ lw_g := lg_i (i := 599) (by decide +kernel) rfl
theorem k_572 : Cond.privateMethod ⟨"CodeListerModel", "close", "(Z)I"⟩ ∈ lw_tbl := List.mem_of_getElem? (i := 600) (by decide +kernel)
theorem k_573 : Cond.instanceMethod ⟨"CodeListerModel", "close", "(Z)I"⟩ ∈ lw_g := lg_i (i := 601) (by decide +kernel) rfl
theorem k_574 : Cond.code ⟨"CodeListerModel", "close", "(Z)I"⟩ prog_8_method_13_code 5 (some .int) ∈ lw_g := lg_i (i := 602) (by decide +kernel) rfl
theorem k_575 : Cond.methodLink "CodeListerModel" 58 ⟨"CodeListerModel", "follow", "(IZ)Z"⟩ ∈ lw_g := lg_i (i := 603) (by decide +kernel) rfl
theorem k_576 : Cond.privateMethod ⟨"CodeListerModel", "follow", "(IZ)Z"⟩ ∈ lw_tbl := List.mem_of_getElem? (i := 604) (by decide +kernel)
theorem k_577 : Cond.instanceMethod ⟨"CodeListerModel", "follow", "(IZ)Z"⟩ ∈ lw_g := lg_i (i := 605) (by decide +kernel) rfl
theorem k_578 : Cond.code ⟨"CodeListerModel", "follow", "(IZ)Z"⟩ prog_8_method_12_code 6 (some .boolean) ∈ lw_g := lg_i (i := 606) (by decide +kernel) rfl
theorem k_579 : Cond.methodLink "CodeListerModel" 53 ⟨"CodeListerModel", "length", "(I)I"⟩ ∈ lw_g := lg_i (i := 607) (by decide +kernel) rfl
theorem k_580 : Cond.methodLink "CodeListerModel" 55 ⟨"CodeListerModel", "set", "(I)Z"⟩ ∈ lw_g := lg_i (i := 608) (by decide +kernel) rfl
theorem k_581 : Cond.privateMethod ⟨"CodeListerModel", "set", "(I)Z"⟩ ∈ lw_tbl := List.mem_of_getElem? (i := 609) (by decide +kernel)
theorem k_582 : Cond.instanceMethod ⟨"CodeListerModel", "set", "(I)Z"⟩ ∈ lw_g := lg_i (i := 610) (by decide +kernel) rfl
theorem k_583 : Cond.code ⟨"CodeListerModel", "set", "(I)Z"⟩ prog_8_method_11_code 2 (some .boolean) ∈ lw_g := lg_i (i := 611) (by decide +kernel) rfl
theorem k_584 : Cond.methodLink "CodeListerLaw" 52 ⟨"CodeListerModel", "reached", "(I)Z"⟩ ∈ lw_g := lg_i (i := 612) (by decide +kernel) rfl
theorem k_585 : Cond.instanceMethod ⟨"CodeListerModel", "reached", "(I)Z"⟩ ∈ lw_g := lg_i (i := 613) (by decide +kernel) rfl
theorem k_586 : Cond.selects "CodeListerModel" ⟨"CodeListerModel", "reached", "(I)Z"⟩ ⟨"CodeListerModel", "reached", "(I)Z"⟩ ∈ lw_g := lg_i (i := 614) (by decide +kernel) rfl
theorem k_587 : Cond.code ⟨"CodeListerModel", "reached", "(I)Z"⟩ prog_8_method_16_code 3 (some .boolean) ∈ lw_g := lg_i (i := 615) (by decide +kernel) rfl
theorem k_588 : Cond.methodLink "CodeListerModel" 69 ⟨"CodeListerModel", "reach", "()I"⟩ ∈ lw_g := lg_i (i := 616) (by decide +kernel) rfl
theorem k_589 : Cond.methodLink "CodeListerLaw" 56 ⟨"CodeListerModel", "body", "(I)I"⟩ ∈ lw_g := lg_i (i := 617) (by decide +kernel) rfl
theorem k_590 : Cond.instanceMethod ⟨"CodeListerModel", "body", "(I)I"⟩ ∈ lw_g := lg_i (i := 618) (by decide +kernel) rfl
theorem k_591 : Cond.selects "CodeListerModel" ⟨"CodeListerModel", "body", "(I)I"⟩ ⟨"CodeListerModel", "body", "(I)I"⟩ ∈ lw_g := lg_i (i := 619) (by decide +kernel) rfl
theorem k_592 : Cond.code ⟨"CodeListerModel", "body", "(I)I"⟩ prog_8_method_17_code 2 (some .int) ∈ lw_g := lg_i (i := 620) (by decide +kernel) rfl
theorem k_593 : Cond.methodLink "CodeListerLaw" 60 ⟨"CodeListerModel", "sweep", "()I"⟩ ∈ lw_g := lg_i (i := 621) (by decide +kernel) rfl
theorem k_594 : Cond.instanceMethod ⟨"CodeListerModel", "sweep", "()I"⟩ ∈ lw_g := lg_i (i := 622) (by decide +kernel) rfl
theorem k_595 : Cond.selects "CodeListerModel" ⟨"CodeListerModel", "sweep", "()I"⟩ ⟨"CodeListerModel", "sweep", "()I"⟩ ∈ lw_g := lg_i (i := 623) (by decide +kernel) rfl
theorem k_596 : Cond.code ⟨"CodeListerModel", "sweep", "()I"⟩ prog_8_method_18_code 4 (some .int) ∈ lw_g := lg_i (i := 624) (by decide +kernel) rfl
theorem k_597 : Cond.methodLink "CodeListerLaw" 64 ⟨"CodeListerModel", "list", "()I"⟩ ∈ lw_g := lg_i (i := 625) (by decide +kernel) rfl
theorem k_598 : Cond.instanceMethod ⟨"CodeListerModel", "list", "()I"⟩ ∈ lw_g := lg_i (i := 626) (by decide +kernel) rfl
theorem k_599 : Cond.selects "CodeListerModel" ⟨"CodeListerModel", "list", "()I"⟩ ⟨"CodeListerModel", "list", "()I"⟩ ∈ lw_g := lg_i (i := 627) (by decide +kernel) rfl
theorem k_600 : Cond.code ⟨"CodeListerModel", "list", "()I"⟩ prog_8_method_26_code 8 (some .int) ∈ lw_g := lg_i (i := 628) (by decide +kernel) rfl
theorem k_601 : Cond.methodLink "CodeListerModel" 93 ⟨"CodeListerModel", "data", "(I)V"⟩ ∈ lw_g := lg_i (i := 629) (by decide +kernel) rfl
theorem k_602 : Cond.privateMethod ⟨"CodeListerModel", "data", "(I)V"⟩ ∈ lw_tbl := List.mem_of_getElem? (i := 630) (by decide +kernel)
theorem k_603 : Cond.instanceMethod ⟨"CodeListerModel", "data", "(I)V"⟩ ∈ lw_g := lg_i (i := 631) (by decide +kernel) rfl
theorem k_604 : Cond.code ⟨"CodeListerModel", "data", "(I)V"⟩ prog_8_method_25_code 2 none ∈ lw_g := lg_i (i := 632) (by decide +kernel) rfl
theorem k_605 : Cond.methodLink "CodeListerModel" 80 ⟨"CodeListerModel", "name", "(III)V"⟩ ∈ lw_g := lg_i (i := 633) (by decide +kernel) rfl
theorem k_606 : Cond.privateMethod ⟨"CodeListerModel", "name", "(III)V"⟩ ∈ lw_tbl := List.mem_of_getElem? (i := 634) (by decide +kernel)
theorem k_607 : Cond.instanceMethod ⟨"CodeListerModel", "name", "(III)V"⟩ ∈ lw_g := lg_i (i := 635) (by decide +kernel) rfl
theorem k_608 : Cond.code ⟨"CodeListerModel", "name", "(III)V"⟩ prog_8_method_20_code 4 none ∈ lw_g := lg_i (i := 636) (by decide +kernel) rfl
theorem k_609 : Cond.methodLink "CodeListerModel" 76 ⟨"CodeListerModel", "put", "(I)V"⟩ ∈ lw_g := lg_i (i := 637) (by decide +kernel) rfl
theorem k_610 : Cond.privateMethod ⟨"CodeListerModel", "put", "(I)V"⟩ ∈ lw_tbl := List.mem_of_getElem? (i := 638) (by decide +kernel)
theorem k_611 : Cond.instanceMethod ⟨"CodeListerModel", "put", "(I)V"⟩ ∈ lw_g := lg_i (i := 639) (by decide +kernel) rfl
theorem k_612 : Cond.code ⟨"CodeListerModel", "put", "(I)V"⟩ prog_8_method_19_code 2 none ∈ lw_g := lg_i (i := 640) (by decide +kernel) rfl
theorem k_613 : Cond.methodLink "CodeListerModel" 90 ⟨"CodeListerModel", "number", "(I)V"⟩ ∈ lw_g := lg_i (i := 641) (by decide +kernel) rfl
theorem k_614 : Cond.privateMethod ⟨"CodeListerModel", "number", "(I)V"⟩ ∈ lw_tbl := List.mem_of_getElem? (i := 642) (by decide +kernel)
theorem k_615 : Cond.instanceMethod ⟨"CodeListerModel", "number", "(I)V"⟩ ∈ lw_g := lg_i (i := 643) (by decide +kernel) rfl
theorem k_616 : Cond.code ⟨"CodeListerModel", "number", "(I)V"⟩ prog_8_method_21_code 3 none ∈ lw_g := lg_i (i := 644) (by decide +kernel) rfl
theorem k_617 : Cond.methodLink "CodeListerModel" 96 ⟨"CodeListerModel", "print", "(II)V"⟩ ∈ lw_g := lg_i (i := 645) (by decide +kernel) rfl
theorem k_618 : Cond.privateMethod ⟨"CodeListerModel", "print", "(II)V"⟩ ∈ lw_tbl := List.mem_of_getElem? (i := 646) (by decide +kernel)
theorem k_619 : Cond.instanceMethod ⟨"CodeListerModel", "print", "(II)V"⟩ ∈ lw_g := lg_i (i := 647) (by decide +kernel) rfl
theorem k_620 : Cond.code ⟨"CodeListerModel", "print", "(II)V"⟩ prog_8_method_24_code 3 none ∈ lw_g := lg_i (i := 648) (by decide +kernel) rfl
theorem k_621 : Cond.methodLink "CodeListerModel" 87 ⟨"CodeListerModel", "front", "(I)V"⟩ ∈ lw_g := lg_i (i := 649) (by decide +kernel) rfl
theorem k_622 : Cond.privateMethod ⟨"CodeListerModel", "front", "(I)V"⟩ ∈ lw_tbl := List.mem_of_getElem? (i := 650) (by decide +kernel)
theorem k_623 : Cond.instanceMethod ⟨"CodeListerModel", "front", "(I)V"⟩ ∈ lw_g := lg_i (i := 651) (by decide +kernel) rfl
theorem k_624 : Cond.code ⟨"CodeListerModel", "front", "(I)V"⟩ prog_8_method_23_code 3 none ∈ lw_g := lg_i (i := 652) (by decide +kernel) rfl
theorem k_625 : Cond.methodLink "CodeListerModel" 84 ⟨"CodeListerModel", "register", "(I)V"⟩ ∈ lw_g := lg_i (i := 653) (by decide +kernel) rfl
theorem k_626 : Cond.privateMethod ⟨"CodeListerModel", "register", "(I)V"⟩ ∈ lw_tbl := List.mem_of_getElem? (i := 654) (by decide +kernel)
theorem k_627 : Cond.instanceMethod ⟨"CodeListerModel", "register", "(I)V"⟩ ∈ lw_g := lg_i (i := 655) (by decide +kernel) rfl
theorem k_628 : Cond.code ⟨"CodeListerModel", "register", "(I)V"⟩ prog_8_method_22_code 2 none ∈ lw_g := lg_i (i := 656) (by decide +kernel) rfl
theorem k_629 : Cond.methodLink "CodeListerLaw" 68 ⟨"CodeListerModel", "textLength", "()I"⟩ ∈ lw_g := lg_i (i := 657) (by decide +kernel) rfl
theorem k_630 : Cond.instanceMethod ⟨"CodeListerModel", "textLength", "()I"⟩ ∈ lw_g := lg_i (i := 658) (by decide +kernel) rfl
theorem k_631 : Cond.selects "CodeListerModel" ⟨"CodeListerModel", "textLength", "()I"⟩ ⟨"CodeListerModel", "textLength", "()I"⟩ ∈ lw_g := lg_i (i := 659) (by decide +kernel) rfl
theorem k_632 : Cond.code ⟨"CodeListerModel", "textLength", "()I"⟩ prog_8_method_27_code 1 (some .int) ∈ lw_g := lg_i (i := 660) (by decide +kernel) rfl
theorem k_633 : Cond.methodLink "CodeListerLaw" 72 ⟨"CodeListerModel", "charAt", "(I)I"⟩ ∈ lw_g := lg_i (i := 661) (by decide +kernel) rfl
theorem k_634 : Cond.instanceMethod ⟨"CodeListerModel", "charAt", "(I)I"⟩ ∈ lw_g := lg_i (i := 662) (by decide +kernel) rfl
theorem k_635 : Cond.selects "CodeListerModel" ⟨"CodeListerModel", "charAt", "(I)I"⟩ ⟨"CodeListerModel", "charAt", "(I)I"⟩ ∈ lw_g := lg_i (i := 663) (by decide +kernel) rfl
theorem k_636 : Cond.code ⟨"CodeListerModel", "charAt", "(I)I"⟩ prog_8_method_28_code 2 (some .int) ∈ lw_g := lg_i (i := 664) (by decide +kernel) rfl
theorem k_637 : Cond.methodLink "CodeListerLaw" 77 ⟨"CodeListerModel", "type", "(II)Z"⟩ ∈ lw_g := lg_i (i := 665) (by decide +kernel) rfl
theorem k_638 : Cond.instanceMethod ⟨"CodeListerModel", "type", "(II)Z"⟩ ∈ lw_g := lg_i (i := 666) (by decide +kernel) rfl
theorem k_639 : Cond.selects "CodeListerModel" ⟨"CodeListerModel", "type", "(II)Z"⟩ ⟨"CodeListerModel", "type", "(II)Z"⟩ ∈ lw_g := lg_i (i := 667) (by decide +kernel) rfl
theorem k_640 : Cond.code ⟨"CodeListerModel", "type", "(II)Z"⟩ prog_8_method_29_code 3 (some .boolean) ∈ lw_g := lg_i (i := 668) (by decide +kernel) rfl
theorem k_641 : Cond.methodLink "CodeListerLaw" 81 ⟨"CodeListerModel", "assemble", "()I"⟩ ∈ lw_g := lg_i (i := 669) (by decide +kernel) rfl
theorem k_642 : Cond.instanceMethod ⟨"CodeListerModel", "assemble", "()I"⟩ ∈ lw_g := lg_i (i := 670) (by decide +kernel) rfl
theorem k_643 : Cond.selects "CodeListerModel" ⟨"CodeListerModel", "assemble", "()I"⟩ ⟨"CodeListerModel", "assemble", "()I"⟩ ∈ lw_g := lg_i (i := 671) (by decide +kernel) rfl
theorem k_644 : Cond.code ⟨"CodeListerModel", "assemble", "()I"⟩ prog_8_method_33_code 10 (some .int) ∈ lw_g := lg_i (i := 672) (by decide +kernel) rfl
theorem k_645 : Cond.methodLink "CodeListerModel" 108 ⟨"CodeListerModel", "understand", "(I)I"⟩ ∈ lw_g := lg_i (i := 673) (by decide +kernel) rfl
theorem k_646 : Cond.privateMethod ⟨"CodeListerModel", "understand", "(I)I"⟩ ∈ lw_tbl := List.mem_of_getElem? (i := 674) (by decide +kernel)
theorem k_647 : Cond.instanceMethod ⟨"CodeListerModel", "understand", "(I)I"⟩ ∈ lw_g := lg_i (i := 675) (by decide +kernel) rfl
theorem k_648 : Cond.code ⟨"CodeListerModel", "understand", "(I)I"⟩ prog_8_method_32_code 7 (some .int) ∈ lw_g := lg_i (i := 676) (by decide +kernel) rfl
theorem k_649 : Cond.methodLink "CodeListerModel" 103 ⟨"CodeListerModel", "here", "(I)Z"⟩ ∈ lw_g := lg_i (i := 677) (by decide +kernel) rfl
theorem k_650 : Cond.privateMethod ⟨"CodeListerModel", "here", "(I)Z"⟩ ∈ lw_tbl := List.mem_of_getElem? (i := 678) (by decide +kernel)
theorem k_651 : Cond.instanceMethod ⟨"CodeListerModel", "here", "(I)Z"⟩ ∈ lw_g := lg_i (i := 679) (by decide +kernel) rfl
theorem k_652 : Cond.code ⟨"CodeListerModel", "here", "(I)Z"⟩ prog_8_method_31_code 3 (some .boolean) ∈ lw_g := lg_i (i := 680) (by decide +kernel) rfl
theorem k_653 : Cond.methodLink "CodeListerModel" 100 ⟨"CodeListerModel", "begins", "(I)Z"⟩ ∈ lw_g := lg_i (i := 681) (by decide +kernel) rfl
theorem k_654 : Cond.privateMethod ⟨"CodeListerModel", "begins", "(I)Z"⟩ ∈ lw_tbl := List.mem_of_getElem? (i := 682) (by decide +kernel)
theorem k_655 : Cond.instanceMethod ⟨"CodeListerModel", "begins", "(I)Z"⟩ ∈ lw_g := lg_i (i := 683) (by decide +kernel) rfl
theorem k_656 : Cond.code ⟨"CodeListerModel", "begins", "(I)Z"⟩ prog_8_method_30_code 3 (some .boolean) ∈ lw_g := lg_i (i := 684) (by decide +kernel) rfl
theorem k_657 : Cond.constant "CodeListerModel" 106 (204800 : Int32) ∈ lw_g := lg_i (i := 685) (by decide +kernel) rfl
theorem k_658 : Cond.constant "CodeListerModel" 107 (65535 : Int32) ∈ lw_g := lg_i (i := 686) (by decide +kernel) rfl
theorem k_659 : Cond.methodLink "CodeListerLaw" 85 ⟨"CodeListerModel", "made", "(I)I"⟩ ∈ lw_g := lg_i (i := 687) (by decide +kernel) rfl
theorem k_660 : Cond.instanceMethod ⟨"CodeListerModel", "made", "(I)I"⟩ ∈ lw_g := lg_i (i := 688) (by decide +kernel) rfl
theorem k_661 : Cond.selects "CodeListerModel" ⟨"CodeListerModel", "made", "(I)I"⟩ ⟨"CodeListerModel", "made", "(I)I"⟩ ∈ lw_g := lg_i (i := 689) (by decide +kernel) rfl
theorem k_662 : Cond.code ⟨"CodeListerModel", "made", "(I)I"⟩ prog_8_method_34_code 2 (some .int) ∈ lw_g := lg_i (i := 690) (by decide +kernel) rfl
theorem k_663 : Cond.fieldLink "java/lang/String" 9 "java/lang/String" "value" "[B" ∈ lw_g := lg_i (i := 691) (by decide +kernel) rfl
theorem k_664 : Cond.fieldLink "java/lang/String" 15 "java/lang/String" "coder" "B" ∈ lw_g := lg_i (i := 692) (by decide +kernel) rfl
end
section
theorem d_Co_init_0 : decode b_Co_init 0 = .ok (.aload_n 0, 1) := by decide +kernel
theorem d_Co_init_1 : decode b_Co_init 1 = .ok (.invokespecial 1, 3) := by decide +kernel
theorem d_Co_init_4 : decode b_Co_init 4 = .ok (.aload_n 0, 1) := by decide +kernel
theorem d_Co_init_5 : decode b_Co_init 5 = .ok (.new 7, 3) := by decide +kernel
theorem d_Co_init_8 : decode b_Co_init 8 = .ok (.dup, 1) := by decide +kernel
theorem d_Co_init_9 : decode b_Co_init 9 = .ok (.invokespecial 9, 3) := by decide +kernel
theorem d_Co_init_12 : decode b_Co_init 12 = .ok (.putfield 10, 3) := by decide +kernel
theorem d_Co_init_15 : decode b_Co_init 15 = .ok (.aload_n 0, 1) := by decide +kernel
theorem d_Co_init_16 : decode b_Co_init 16 = .ok (.bipush 16, 2) := by decide +kernel
theorem d_Co_init_18 : decode b_Co_init 18 = .ok (.newarray .int, 2) := by decide +kernel
theorem d_Co_init_20 : decode b_Co_init 20 = .ok (.putfield 16, 3) := by decide +kernel
theorem d_Co_init_23 : decode b_Co_init 23 = .ok (.aload_n 0, 1) := by decide +kernel
theorem d_Co_init_24 : decode b_Co_init 24 = .ok (.new 20, 3) := by decide +kernel
theorem d_Co_init_27 : decode b_Co_init 27 = .ok (.dup, 1) := by decide +kernel
theorem d_Co_init_28 : decode b_Co_init 28 = .ok (.invokespecial 22, 3) := by decide +kernel
theorem d_Co_init_31 : decode b_Co_init 31 = .ok (.putfield 23, 3) := by decide +kernel
theorem d_Co_init_34 : decode b_Co_init 34 = .ok (.aload_n 0, 1) := by decide +kernel
theorem d_Co_init_35 : decode b_Co_init 35 = .ok (.new 27, 3) := by decide +kernel
theorem d_Co_init_38 : decode b_Co_init 38 = .ok (.dup, 1) := by decide +kernel
theorem d_Co_init_39 : decode b_Co_init 39 = .ok (.invokespecial 29, 3) := by decide +kernel
theorem d_Co_init_42 : decode b_Co_init 42 = .ok (.putfield 30, 3) := by decide +kernel
theorem d_Co_init_45 : decode b_Co_init 45 = .ok (.aload_n 0, 1) := by decide +kernel
theorem d_Co_init_46 : decode b_Co_init 46 = .ok (.new 34, 3) := by decide +kernel
theorem d_Co_init_49 : decode b_Co_init 49 = .ok (.dup, 1) := by decide +kernel
theorem d_Co_init_50 : decode b_Co_init 50 = .ok (.invokespecial 36, 3) := by decide +kernel
theorem d_Co_init_53 : decode b_Co_init 53 = .ok (.putfield 37, 3) := by decide +kernel
theorem d_Co_init_56 : decode b_Co_init 56 = .ok (.aload_n 0, 1) := by decide +kernel
theorem d_Co_init_57 : decode b_Co_init 57 = .ok (.sipush 160, 3) := by decide +kernel
theorem d_Co_init_60 : decode b_Co_init 60 = .ok (.newarray .int, 2) := by decide +kernel
theorem d_Co_init_62 : decode b_Co_init 62 = .ok (.putfield 41, 3) := by decide +kernel
theorem d_Co_init_65 : decode b_Co_init 65 = .ok (.return_, 1) := by decide +kernel
theorem d_Co_append_0 : decode b_Co_append 0 = .ok (.iload_n 2, 1) := by decide +kernel
theorem d_Co_append_1 : decode b_Co_append 1 = .ok (.iconst 1, 1) := by decide +kernel
theorem d_Co_append_2 : decode b_Co_append 2 = .ok (.if_icmp .lt 8, 3) := by decide +kernel
theorem d_Co_append_5 : decode b_Co_append 5 = .ok (.iload_n 2, 1) := by decide +kernel
theorem d_Co_append_6 : decode b_Co_append 6 = .ok (.iconst 4, 1) := by decide +kernel
theorem d_Co_append_7 : decode b_Co_append 7 = .ok (.if_icmp .le 5, 3) := by decide +kernel
theorem d_Co_append_10 : decode b_Co_append 10 = .ok (.iconst (-1), 1) := by decide +kernel
theorem d_Co_append_11 : decode b_Co_append 11 = .ok (.ireturn, 1) := by decide +kernel
theorem d_Co_append_12 : decode b_Co_append 12 = .ok (.aload_n 0, 1) := by decide +kernel
theorem d_Co_append_13 : decode b_Co_append 13 = .ok (.getfield 10, 3) := by decide +kernel
theorem d_Co_append_16 : decode b_Co_append 16 = .ok (.invokevirtual 44, 3) := by decide +kernel
theorem d_Co_append_19 : decode b_Co_append 19 = .ok (.iload_n 2, 1) := by decide +kernel
theorem d_Co_append_20 : decode b_Co_append 20 = .ok (.iadd, 1) := by decide +kernel
theorem d_Co_append_21 : decode b_Co_append 21 = .ok (.sipush 160, 3) := by decide +kernel
theorem d_Co_append_24 : decode b_Co_append 24 = .ok (.if_icmp .le 6, 3) := by decide +kernel
theorem d_Co_append_27 : decode b_Co_append 27 = .ok (.bipush (-2), 2) := by decide +kernel
theorem d_Co_append_29 : decode b_Co_append 29 = .ok (.ireturn, 1) := by decide +kernel
theorem d_Co_append_30 : decode b_Co_append 30 = .ok (.iconst 0, 1) := by decide +kernel
theorem d_Co_append_31 : decode b_Co_append 31 = .ok (.istore_n 3, 1) := by decide +kernel
theorem d_Co_append_32 : decode b_Co_append 32 = .ok (.iload_n 3, 1) := by decide +kernel
theorem d_Co_append_33 : decode b_Co_append 33 = .ok (.iload_n 2, 1) := by decide +kernel
theorem d_Co_append_34 : decode b_Co_append 34 = .ok (.if_icmp .ge 29, 3) := by decide +kernel
theorem d_Co_append_37 : decode b_Co_append 37 = .ok (.aload_n 0, 1) := by decide +kernel
theorem d_Co_append_38 : decode b_Co_append 38 = .ok (.getfield 10, 3) := by decide +kernel
theorem d_Co_append_41 : decode b_Co_append 41 = .ok (.iload_n 1, 1) := by decide +kernel
theorem d_Co_append_42 : decode b_Co_append 42 = .ok (.bipush 24, 2) := by decide +kernel
theorem d_Co_append_44 : decode b_Co_append 44 = .ok (.bipush 8, 2) := by decide +kernel
theorem d_Co_append_46 : decode b_Co_append 46 = .ok (.iload_n 3, 1) := by decide +kernel
theorem d_Co_append_47 : decode b_Co_append 47 = .ok (.imul, 1) := by decide +kernel
theorem d_Co_append_48 : decode b_Co_append 48 = .ok (.isub, 1) := by decide +kernel
theorem d_Co_append_49 : decode b_Co_append 49 = .ok (.iushr, 1) := by decide +kernel
theorem d_Co_append_50 : decode b_Co_append 50 = .ok (.sipush 255, 3) := by decide +kernel
theorem d_Co_append_53 : decode b_Co_append 53 = .ok (.iand, 1) := by decide +kernel
theorem d_Co_append_54 : decode b_Co_append 54 = .ok (.invokevirtual 48, 3) := by decide +kernel
theorem d_Co_append_57 : decode b_Co_append 57 = .ok (.iinc 3 1, 3) := by decide +kernel
theorem d_Co_append_60 : decode b_Co_append 60 = .ok (.goto (-28), 3) := by decide +kernel
theorem d_Co_append_63 : decode b_Co_append 63 = .ok (.aload_n 0, 1) := by decide +kernel
theorem d_Co_append_64 : decode b_Co_append 64 = .ok (.getfield 10, 3) := by decide +kernel
theorem d_Co_append_67 : decode b_Co_append 67 = .ok (.invokevirtual 44, 3) := by decide +kernel
theorem d_Co_append_70 : decode b_Co_append 70 = .ok (.ireturn, 1) := by decide +kernel
theorem d_Co_enter_0 : decode b_Co_enter 0 = .ok (.aload_n 0, 1) := by decide +kernel
theorem d_Co_enter_1 : decode b_Co_enter 1 = .ok (.getfield 10, 3) := by decide +kernel
theorem d_Co_enter_4 : decode b_Co_enter 4 = .ok (.iload_n 1, 1) := by decide +kernel
theorem d_Co_enter_5 : decode b_Co_enter 5 = .ok (.invokevirtual 52, 3) := by decide +kernel
theorem d_Co_enter_8 : decode b_Co_enter 8 = .ok (.ifCond .eq 20, 3) := by decide +kernel
theorem d_Co_enter_11 : decode b_Co_enter 11 = .ok (.aload_n 0, 1) := by decide +kernel
theorem d_Co_enter_12 : decode b_Co_enter 12 = .ok (.iload_n 1, 1) := by decide +kernel
theorem d_Co_enter_13 : decode b_Co_enter 13 = .ok (.invokevirtual 56, 3) := by decide +kernel
theorem d_Co_enter_16 : decode b_Co_enter 16 = .ok (.ifCond .ne 12, 3) := by decide +kernel
theorem d_Co_enter_19 : decode b_Co_enter 19 = .ok (.aload_n 0, 1) := by decide +kernel
theorem d_Co_enter_20 : decode b_Co_enter 20 = .ok (.getfield 59, 3) := by decide +kernel
theorem d_Co_enter_23 : decode b_Co_enter 23 = .ok (.bipush 16, 2) := by decide +kernel
theorem d_Co_enter_25 : decode b_Co_enter 25 = .ok (.if_icmp .lt 5, 3) := by decide +kernel
theorem d_Co_enter_28 : decode b_Co_enter 28 = .ok (.iconst 0, 1) := by decide +kernel
theorem d_Co_enter_29 : decode b_Co_enter 29 = .ok (.ireturn, 1) := by decide +kernel
theorem d_Co_enter_30 : decode b_Co_enter 30 = .ok (.aload_n 0, 1) := by decide +kernel
theorem d_Co_enter_31 : decode b_Co_enter 31 = .ok (.getfield 16, 3) := by decide +kernel
theorem d_Co_enter_34 : decode b_Co_enter 34 = .ok (.aload_n 0, 1) := by decide +kernel
theorem d_Co_enter_35 : decode b_Co_enter 35 = .ok (.getfield 59, 3) := by decide +kernel
theorem d_Co_enter_38 : decode b_Co_enter 38 = .ok (.iload_n 1, 1) := by decide +kernel
theorem d_Co_enter_39 : decode b_Co_enter 39 = .ok (.iastore, 1) := by decide +kernel
theorem d_Co_enter_40 : decode b_Co_enter 40 = .ok (.aload_n 0, 1) := by decide +kernel
theorem d_Co_enter_41 : decode b_Co_enter 41 = .ok (.dup, 1) := by decide +kernel
theorem d_Co_enter_42 : decode b_Co_enter 42 = .ok (.getfield 59, 3) := by decide +kernel
theorem d_Co_enter_45 : decode b_Co_enter 45 = .ok (.iconst 1, 1) := by decide +kernel
theorem d_Co_enter_46 : decode b_Co_enter 46 = .ok (.iadd, 1) := by decide +kernel
theorem d_Co_enter_47 : decode b_Co_enter 47 = .ok (.putfield 59, 3) := by decide +kernel
theorem d_Co_enter_50 : decode b_Co_enter 50 = .ok (.iconst 1, 1) := by decide +kernel
theorem d_Co_enter_51 : decode b_Co_enter 51 = .ok (.ireturn, 1) := by decide +kernel
theorem d_Co_clear_0 : decode b_Co_clear 0 = .ok (.aload_n 0, 1) := by decide +kernel
theorem d_Co_clear_1 : decode b_Co_clear 1 = .ok (.getfield 10, 3) := by decide +kernel
theorem d_Co_clear_4 : decode b_Co_clear 4 = .ok (.invokevirtual 63, 3) := by decide +kernel
theorem d_Co_clear_7 : decode b_Co_clear 7 = .ok (.aload_n 0, 1) := by decide +kernel
theorem d_Co_clear_8 : decode b_Co_clear 8 = .ok (.iconst 0, 1) := by decide +kernel
theorem d_Co_clear_9 : decode b_Co_clear 9 = .ok (.putfield 59, 3) := by decide +kernel
theorem d_Co_clear_12 : decode b_Co_clear 12 = .ok (.aload_n 0, 1) := by decide +kernel
theorem d_Co_clear_13 : decode b_Co_clear 13 = .ok (.getfield 30, 3) := by decide +kernel
theorem d_Co_clear_16 : decode b_Co_clear 16 = .ok (.invokevirtual 66, 3) := by decide +kernel
theorem d_Co_clear_19 : decode b_Co_clear 19 = .ok (.aload_n 0, 1) := by decide +kernel
theorem d_Co_clear_20 : decode b_Co_clear 20 = .ok (.iconst 0, 1) := by decide +kernel
theorem d_Co_clear_21 : decode b_Co_clear 21 = .ok (.putfield 67, 3) := by decide +kernel
theorem d_Co_clear_24 : decode b_Co_clear 24 = .ok (.return_, 1) := by decide +kernel
theorem d_Co_size_0 : decode b_Co_size 0 = .ok (.aload_n 0, 1) := by decide +kernel
theorem d_Co_size_1 : decode b_Co_size 1 = .ok (.getfield 10, 3) := by decide +kernel
theorem d_Co_size_4 : decode b_Co_size 4 = .ok (.invokevirtual 44, 3) := by decide +kernel
theorem d_Co_size_7 : decode b_Co_size 7 = .ok (.ireturn, 1) := by decide +kernel
theorem d_Co_byteAt_0 : decode b_Co_byteAt 0 = .ok (.aload_n 0, 1) := by decide +kernel
theorem d_Co_byteAt_1 : decode b_Co_byteAt 1 = .ok (.getfield 10, 3) := by decide +kernel
theorem d_Co_byteAt_4 : decode b_Co_byteAt 4 = .ok (.iload_n 1, 1) := by decide +kernel
theorem d_Co_byteAt_5 : decode b_Co_byteAt 5 = .ok (.invokevirtual 70, 3) := by decide +kernel
theorem d_Co_byteAt_8 : decode b_Co_byteAt 8 = .ok (.ireturn, 1) := by decide +kernel
theorem d_Co_entry_0 : decode b_Co_entry 0 = .ok (.iload_n 1, 1) := by decide +kernel
theorem d_Co_entry_1 : decode b_Co_entry 1 = .ok (.ifCond .lt 20, 3) := by decide +kernel
theorem d_Co_entry_4 : decode b_Co_entry 4 = .ok (.iload_n 1, 1) := by decide +kernel
theorem d_Co_entry_5 : decode b_Co_entry 5 = .ok (.aload_n 0, 1) := by decide +kernel
theorem d_Co_entry_6 : decode b_Co_entry 6 = .ok (.getfield 59, 3) := by decide +kernel
theorem d_Co_entry_9 : decode b_Co_entry 9 = .ok (.if_icmp .ge 12, 3) := by decide +kernel
theorem d_Co_entry_12 : decode b_Co_entry 12 = .ok (.aload_n 0, 1) := by decide +kernel
theorem d_Co_entry_13 : decode b_Co_entry 13 = .ok (.getfield 16, 3) := by decide +kernel
theorem d_Co_entry_16 : decode b_Co_entry 16 = .ok (.iload_n 1, 1) := by decide +kernel
theorem d_Co_entry_17 : decode b_Co_entry 17 = .ok (.iaload, 1) := by decide +kernel
theorem d_Co_entry_18 : decode b_Co_entry 18 = .ok (.goto 4, 3) := by decide +kernel
theorem d_Co_entry_21 : decode b_Co_entry 21 = .ok (.iconst (-1), 1) := by decide +kernel
theorem d_Co_entry_22 : decode b_Co_entry 22 = .ok (.ireturn, 1) := by decide +kernel
theorem d_Co_length_0 : decode b_Co_length 0 = .ok (.aload_n 0, 1) := by decide +kernel
theorem d_Co_length_1 : decode b_Co_length 1 = .ok (.getfield 10, 3) := by decide +kernel
theorem d_Co_length_4 : decode b_Co_length 4 = .ok (.iload_n 1, 1) := by decide +kernel
theorem d_Co_length_5 : decode b_Co_length 5 = .ok (.invokevirtual 74, 3) := by decide +kernel
theorem d_Co_length_8 : decode b_Co_length 8 = .ok (.ireturn, 1) := by decide +kernel
theorem d_Co_reach_0 : decode b_Co_reach 0 = .ok (.aload_n 0, 1) := by decide +kernel
theorem d_Co_reach_1 : decode b_Co_reach 1 = .ok (.invokevirtual 77, 3) := by decide +kernel
theorem d_Co_reach_4 : decode b_Co_reach 4 = .ok (.aload_n 0, 1) := by decide +kernel
theorem d_Co_reach_5 : decode b_Co_reach 5 = .ok (.getfield 23, 3) := by decide +kernel
theorem d_Co_reach_8 : decode b_Co_reach 8 = .ok (.invokevirtual 80, 3) := by decide +kernel
theorem d_Co_reach_11 : decode b_Co_reach 11 = .ok (.ireturn, 1) := by decide +kernel
theorem d_Co_reached_0 : decode b_Co_reached 0 = .ok (.aload_n 0, 1) := by decide +kernel
theorem d_Co_reached_1 : decode b_Co_reached 1 = .ok (.invokevirtual 77, 3) := by decide +kernel
theorem d_Co_reached_4 : decode b_Co_reached 4 = .ok (.aload_n 0, 1) := by decide +kernel
theorem d_Co_reached_5 : decode b_Co_reached 5 = .ok (.getfield 23, 3) := by decide +kernel
theorem d_Co_reached_8 : decode b_Co_reached 8 = .ok (.iload_n 1, 1) := by decide +kernel
theorem d_Co_reached_9 : decode b_Co_reached 9 = .ok (.invokevirtual 81, 3) := by decide +kernel
theorem d_Co_reached_12 : decode b_Co_reached 12 = .ok (.ireturn, 1) := by decide +kernel
theorem d_Co_body_0 : decode b_Co_body 0 = .ok (.aload_n 0, 1) := by decide +kernel
theorem d_Co_body_1 : decode b_Co_body 1 = .ok (.getfield 23, 3) := by decide +kernel
theorem d_Co_body_4 : decode b_Co_body 4 = .ok (.aload_n 0, 1) := by decide +kernel
theorem d_Co_body_5 : decode b_Co_body 5 = .ok (.getfield 10, 3) := by decide +kernel
theorem d_Co_body_8 : decode b_Co_body 8 = .ok (.invokevirtual 44, 3) := by decide +kernel
theorem d_Co_body_11 : decode b_Co_body 11 = .ok (.invokevirtual 84, 3) := by decide +kernel
theorem d_Co_body_14 : decode b_Co_body 14 = .ok (.aload_n 0, 1) := by decide +kernel
theorem d_Co_body_15 : decode b_Co_body 15 = .ok (.getfield 23, 3) := by decide +kernel
theorem d_Co_body_18 : decode b_Co_body 18 = .ok (.iload_n 1, 1) := by decide +kernel
theorem d_Co_body_19 : decode b_Co_body 19 = .ok (.invokevirtual 87, 3) := by decide +kernel
theorem d_Co_body_22 : decode b_Co_body 22 = .ok (.aload_n 0, 1) := by decide +kernel
theorem d_Co_body_23 : decode b_Co_body 23 = .ok (.getfield 23, 3) := by decide +kernel
theorem d_Co_body_26 : decode b_Co_body 26 = .ok (.aload_n 0, 1) := by decide +kernel
theorem d_Co_body_27 : decode b_Co_body 27 = .ok (.getfield 10, 3) := by decide +kernel
theorem d_Co_body_30 : decode b_Co_body 30 = .ok (.iconst 0, 1) := by decide +kernel
theorem d_Co_body_31 : decode b_Co_body 31 = .ok (.invokevirtual 90, 3) := by decide +kernel
theorem d_Co_body_34 : decode b_Co_body 34 = .ok (.aload_n 0, 1) := by decide +kernel
theorem d_Co_body_35 : decode b_Co_body 35 = .ok (.getfield 23, 3) := by decide +kernel
theorem d_Co_body_38 : decode b_Co_body 38 = .ok (.invokevirtual 80, 3) := by decide +kernel
theorem d_Co_body_41 : decode b_Co_body 41 = .ok (.ireturn, 1) := by decide +kernel
theorem d_Co_sweep_0 : decode b_Co_sweep 0 = .ok (.iconst 0, 1) := by decide +kernel
theorem d_Co_sweep_1 : decode b_Co_sweep 1 = .ok (.istore_n 1, 1) := by decide +kernel
theorem d_Co_sweep_2 : decode b_Co_sweep 2 = .ok (.iconst 0, 1) := by decide +kernel
theorem d_Co_sweep_3 : decode b_Co_sweep 3 = .ok (.istore_n 2, 1) := by decide +kernel
theorem d_Co_sweep_4 : decode b_Co_sweep 4 = .ok (.iload_n 2, 1) := by decide +kernel
theorem d_Co_sweep_5 : decode b_Co_sweep 5 = .ok (.aload_n 0, 1) := by decide +kernel
theorem d_Co_sweep_6 : decode b_Co_sweep 6 = .ok (.getfield 10, 3) := by decide +kernel
theorem d_Co_sweep_9 : decode b_Co_sweep 9 = .ok (.invokevirtual 44, 3) := by decide +kernel
theorem d_Co_sweep_12 : decode b_Co_sweep 12 = .ok (.if_icmp .ge 30, 3) := by decide +kernel
theorem d_Co_sweep_15 : decode b_Co_sweep 15 = .ok (.aload_n 0, 1) := by decide +kernel
theorem d_Co_sweep_16 : decode b_Co_sweep 16 = .ok (.getfield 10, 3) := by decide +kernel
theorem d_Co_sweep_19 : decode b_Co_sweep 19 = .ok (.iload_n 2, 1) := by decide +kernel
theorem d_Co_sweep_20 : decode b_Co_sweep 20 = .ok (.invokevirtual 74, 3) := by decide +kernel
theorem d_Co_sweep_23 : decode b_Co_sweep 23 = .ok (.istore_n 3, 1) := by decide +kernel
theorem d_Co_sweep_24 : decode b_Co_sweep 24 = .ok (.iload_n 3, 1) := by decide +kernel
theorem d_Co_sweep_25 : decode b_Co_sweep 25 = .ok (.ifCond .le 6, 3) := by decide +kernel
theorem d_Co_sweep_28 : decode b_Co_sweep 28 = .ok (.iinc 1 1, 3) := by decide +kernel
theorem d_Co_sweep_31 : decode b_Co_sweep 31 = .ok (.iload_n 2, 1) := by decide +kernel
theorem d_Co_sweep_32 : decode b_Co_sweep 32 = .ok (.iconst 1, 1) := by decide +kernel
theorem d_Co_sweep_33 : decode b_Co_sweep 33 = .ok (.iload_n 3, 1) := by decide +kernel
theorem d_Co_sweep_34 : decode b_Co_sweep 34 = .ok (.invokestatic 94, 3) := by decide +kernel
theorem d_Co_sweep_37 : decode b_Co_sweep 37 = .ok (.iadd, 1) := by decide +kernel
theorem d_Co_sweep_38 : decode b_Co_sweep 38 = .ok (.istore_n 2, 1) := by decide +kernel
theorem d_Co_sweep_39 : decode b_Co_sweep 39 = .ok (.goto (-35), 3) := by decide +kernel
theorem d_Co_sweep_42 : decode b_Co_sweep 42 = .ok (.iload_n 1, 1) := by decide +kernel
theorem d_Co_sweep_43 : decode b_Co_sweep 43 = .ok (.ireturn, 1) := by decide +kernel
theorem d_Co_list_0 : decode b_Co_list 0 = .ok (.aload_n 0, 1) := by decide +kernel
theorem d_Co_list_1 : decode b_Co_list 1 = .ok (.invokevirtual 77, 3) := by decide +kernel
theorem d_Co_list_4 : decode b_Co_list 4 = .ok (.aload_n 0, 1) := by decide +kernel
theorem d_Co_list_5 : decode b_Co_list 5 = .ok (.getfield 30, 3) := by decide +kernel
theorem d_Co_list_8 : decode b_Co_list 8 = .ok (.invokevirtual 66, 3) := by decide +kernel
theorem d_Co_list_11 : decode b_Co_list 11 = .ok (.iconst 0, 1) := by decide +kernel
theorem d_Co_list_12 : decode b_Co_list 12 = .ok (.istore_n 1, 1) := by decide +kernel
theorem d_Co_list_13 : decode b_Co_list 13 = .ok (.iload_n 1, 1) := by decide +kernel
theorem d_Co_list_14 : decode b_Co_list 14 = .ok (.aload_n 0, 1) := by decide +kernel
theorem d_Co_list_15 : decode b_Co_list 15 = .ok (.getfield 10, 3) := by decide +kernel
theorem d_Co_list_18 : decode b_Co_list 18 = .ok (.invokevirtual 44, 3) := by decide +kernel
theorem d_Co_list_21 : decode b_Co_list 21 = .ok (.if_icmp .ge 18, 3) := by decide +kernel
theorem d_Co_list_24 : decode b_Co_list 24 = .ok (.iload_n 1, 1) := by decide +kernel
theorem d_Co_list_25 : decode b_Co_list 25 = .ok (.iconst 1, 1) := by decide +kernel
theorem d_Co_list_26 : decode b_Co_list 26 = .ok (.aload_n 0, 1) := by decide +kernel
theorem d_Co_list_27 : decode b_Co_list 27 = .ok (.iload_n 1, 1) := by decide +kernel
theorem d_Co_list_28 : decode b_Co_list 28 = .ok (.invokevirtual 100, 3) := by decide +kernel
theorem d_Co_list_31 : decode b_Co_list 31 = .ok (.invokestatic 94, 3) := by decide +kernel
theorem d_Co_list_34 : decode b_Co_list 34 = .ok (.iadd, 1) := by decide +kernel
theorem d_Co_list_35 : decode b_Co_list 35 = .ok (.istore_n 1, 1) := by decide +kernel
theorem d_Co_list_36 : decode b_Co_list 36 = .ok (.goto (-23), 3) := by decide +kernel
theorem d_Co_list_39 : decode b_Co_list 39 = .ok (.aload_n 0, 1) := by decide +kernel
theorem d_Co_list_40 : decode b_Co_list 40 = .ok (.getfield 30, 3) := by decide +kernel
theorem d_Co_list_43 : decode b_Co_list 43 = .ok (.invokevirtual 103, 3) := by decide +kernel
theorem d_Co_list_46 : decode b_Co_list 46 = .ok (.ireturn, 1) := by decide +kernel
theorem d_Co_textLength_0 : decode b_Co_textLength 0 = .ok (.aload_n 0, 1) := by decide +kernel
theorem d_Co_textLength_1 : decode b_Co_textLength 1 = .ok (.getfield 30, 3) := by decide +kernel
theorem d_Co_textLength_4 : decode b_Co_textLength 4 = .ok (.invokevirtual 103, 3) := by decide +kernel
theorem d_Co_textLength_7 : decode b_Co_textLength 7 = .ok (.ireturn, 1) := by decide +kernel
theorem d_Co_charAt_0 : decode b_Co_charAt 0 = .ok (.aload_n 0, 1) := by decide +kernel
theorem d_Co_charAt_1 : decode b_Co_charAt 1 = .ok (.getfield 30, 3) := by decide +kernel
theorem d_Co_charAt_4 : decode b_Co_charAt 4 = .ok (.iload_n 1, 1) := by decide +kernel
theorem d_Co_charAt_5 : decode b_Co_charAt 5 = .ok (.invokevirtual 104, 3) := by decide +kernel
theorem d_Co_charAt_8 : decode b_Co_charAt 8 = .ok (.ireturn, 1) := by decide +kernel
theorem d_Co_type_0 : decode b_Co_type 0 = .ok (.iload_n 1, 1) := by decide +kernel
theorem d_Co_type_1 : decode b_Co_type 1 = .ok (.ifCond .lt 32, 3) := by decide +kernel
theorem d_Co_type_4 : decode b_Co_type 4 = .ok (.iload_n 1, 1) := by decide +kernel
theorem d_Co_type_5 : decode b_Co_type 5 = .ok (.aload_n 0, 1) := by decide +kernel
theorem d_Co_type_6 : decode b_Co_type 6 = .ok (.getfield 30, 3) := by decide +kernel
theorem d_Co_type_9 : decode b_Co_type 9 = .ok (.invokevirtual 103, 3) := by decide +kernel
theorem d_Co_type_12 : decode b_Co_type 12 = .ok (.if_icmp .gt 21, 3) := by decide +kernel
theorem d_Co_type_15 : decode b_Co_type 15 = .ok (.iload_n 1, 1) := by decide +kernel
theorem d_Co_type_16 : decode b_Co_type 16 = .ok (.sipush 2400, 3) := by decide +kernel
theorem d_Co_type_19 : decode b_Co_type 19 = .ok (.if_icmp .ge 14, 3) := by decide +kernel
theorem d_Co_type_22 : decode b_Co_type 22 = .ok (.iload_n 2, 1) := by decide +kernel
theorem d_Co_type_23 : decode b_Co_type 23 = .ok (.ifCond .lt 10, 3) := by decide +kernel
theorem d_Co_type_26 : decode b_Co_type 26 = .ok (.iload_n 2, 1) := by decide +kernel
theorem d_Co_type_27 : decode b_Co_type 27 = .ok (.sipush 255, 3) := by decide +kernel
theorem d_Co_type_30 : decode b_Co_type 30 = .ok (.if_icmp .le 5, 3) := by decide +kernel
theorem d_Co_type_33 : decode b_Co_type 33 = .ok (.iconst 0, 1) := by decide +kernel
theorem d_Co_type_34 : decode b_Co_type 34 = .ok (.ireturn, 1) := by decide +kernel
theorem d_Co_type_35 : decode b_Co_type 35 = .ok (.aload_n 0, 1) := by decide +kernel
theorem d_Co_type_36 : decode b_Co_type 36 = .ok (.getfield 30, 3) := by decide +kernel
theorem d_Co_type_39 : decode b_Co_type 39 = .ok (.iload_n 1, 1) := by decide +kernel
theorem d_Co_type_40 : decode b_Co_type 40 = .ok (.iload_n 2, 1) := by decide +kernel
theorem d_Co_type_41 : decode b_Co_type 41 = .ok (.i2c, 1) := by decide +kernel
theorem d_Co_type_42 : decode b_Co_type 42 = .ok (.invokevirtual 105, 3) := by decide +kernel
theorem d_Co_type_45 : decode b_Co_type 45 = .ok (.iconst 1, 1) := by decide +kernel
theorem d_Co_type_46 : decode b_Co_type 46 = .ok (.ireturn, 1) := by decide +kernel
theorem d_Co_assemble_0 : decode b_Co_assemble 0 = .ok (.aload_n 0, 1) := by decide +kernel
theorem d_Co_assemble_1 : decode b_Co_assemble 1 = .ok (.getfield 37, 3) := by decide +kernel
theorem d_Co_assemble_4 : decode b_Co_assemble 4 = .ok (.aload_n 0, 1) := by decide +kernel
theorem d_Co_assemble_5 : decode b_Co_assemble 5 = .ok (.getfield 30, 3) := by decide +kernel
theorem d_Co_assemble_8 : decode b_Co_assemble 8 = .ok (.invokevirtual 109, 3) := by decide +kernel
theorem d_Co_assemble_11 : decode b_Co_assemble 11 = .ok (.ifCond .ne 5, 3) := by decide +kernel
theorem d_Co_assemble_14 : decode b_Co_assemble 14 = .ok (.iconst (-1), 1) := by decide +kernel
theorem d_Co_assemble_15 : decode b_Co_assemble 15 = .ok (.ireturn, 1) := by decide +kernel
theorem d_Co_assemble_16 : decode b_Co_assemble 16 = .ok (.aload_n 0, 1) := by decide +kernel
theorem d_Co_assemble_17 : decode b_Co_assemble 17 = .ok (.getfield 37, 3) := by decide +kernel
theorem d_Co_assemble_20 : decode b_Co_assemble 20 = .ok (.invokevirtual 113, 3) := by decide +kernel
theorem d_Co_assemble_23 : decode b_Co_assemble 23 = .ok (.sipush 160, 3) := by decide +kernel
theorem d_Co_assemble_26 : decode b_Co_assemble 26 = .ok (.if_icmp .le 6, 3) := by decide +kernel
theorem d_Co_assemble_29 : decode b_Co_assemble 29 = .ok (.bipush (-2), 2) := by decide +kernel
theorem d_Co_assemble_31 : decode b_Co_assemble 31 = .ok (.ireturn, 1) := by decide +kernel
theorem d_Co_assemble_32 : decode b_Co_assemble 32 = .ok (.aload_n 0, 1) := by decide +kernel
theorem d_Co_assemble_33 : decode b_Co_assemble 33 = .ok (.aload_n 0, 1) := by decide +kernel
theorem d_Co_assemble_34 : decode b_Co_assemble 34 = .ok (.getfield 37, 3) := by decide +kernel
theorem d_Co_assemble_37 : decode b_Co_assemble 37 = .ok (.invokevirtual 113, 3) := by decide +kernel
theorem d_Co_assemble_40 : decode b_Co_assemble 40 = .ok (.putfield 67, 3) := by decide +kernel
theorem d_Co_assemble_43 : decode b_Co_assemble 43 = .ok (.aload_n 0, 1) := by decide +kernel
theorem d_Co_assemble_44 : decode b_Co_assemble 44 = .ok (.getfield 37, 3) := by decide +kernel
theorem d_Co_assemble_47 : decode b_Co_assemble 47 = .ok (.aload_n 0, 1) := by decide +kernel
theorem d_Co_assemble_48 : decode b_Co_assemble 48 = .ok (.getfield 41, 3) := by decide +kernel
theorem d_Co_assemble_51 : decode b_Co_assemble 51 = .ok (.invokevirtual 114, 3) := by decide +kernel
theorem d_Co_assemble_54 : decode b_Co_assemble 54 = .ok (.aload_n 0, 1) := by decide +kernel
theorem d_Co_assemble_55 : decode b_Co_assemble 55 = .ok (.getfield 67, 3) := by decide +kernel
theorem d_Co_assemble_58 : decode b_Co_assemble 58 = .ok (.ireturn, 1) := by decide +kernel
theorem d_Co_made_0 : decode b_Co_made 0 = .ok (.iload_n 1, 1) := by decide +kernel
theorem d_Co_made_1 : decode b_Co_made 1 = .ok (.ifCond .lt 20, 3) := by decide +kernel
theorem d_Co_made_4 : decode b_Co_made 4 = .ok (.iload_n 1, 1) := by decide +kernel
theorem d_Co_made_5 : decode b_Co_made 5 = .ok (.aload_n 0, 1) := by decide +kernel
theorem d_Co_made_6 : decode b_Co_made 6 = .ok (.getfield 67, 3) := by decide +kernel
theorem d_Co_made_9 : decode b_Co_made 9 = .ok (.if_icmp .ge 12, 3) := by decide +kernel
theorem d_Co_made_12 : decode b_Co_made 12 = .ok (.aload_n 0, 1) := by decide +kernel
theorem d_Co_made_13 : decode b_Co_made 13 = .ok (.getfield 41, 3) := by decide +kernel
theorem d_Co_made_16 : decode b_Co_made 16 = .ok (.iload_n 1, 1) := by decide +kernel
theorem d_Co_made_17 : decode b_Co_made 17 = .ok (.iaload, 1) := by decide +kernel
theorem d_Co_made_18 : decode b_Co_made 18 = .ok (.goto 4, 3) := by decide +kernel
theorem d_Co_made_21 : decode b_Co_made 21 = .ok (.iconst (-1), 1) := by decide +kernel
theorem d_Co_made_22 : decode b_Co_made 22 = .ok (.ireturn, 1) := by decide +kernel
theorem d_Co_isEntry_0 : decode b_Co_isEntry 0 = .ok (.iconst 0, 1) := by decide +kernel
theorem d_Co_isEntry_1 : decode b_Co_isEntry 1 = .ok (.istore_n 2, 1) := by decide +kernel
theorem d_Co_isEntry_2 : decode b_Co_isEntry 2 = .ok (.iload_n 2, 1) := by decide +kernel
theorem d_Co_isEntry_3 : decode b_Co_isEntry 3 = .ok (.aload_n 0, 1) := by decide +kernel
theorem d_Co_isEntry_4 : decode b_Co_isEntry 4 = .ok (.getfield 59, 3) := by decide +kernel
theorem d_Co_isEntry_7 : decode b_Co_isEntry 7 = .ok (.if_icmp .ge 21, 3) := by decide +kernel
theorem d_Co_isEntry_10 : decode b_Co_isEntry 10 = .ok (.aload_n 0, 1) := by decide +kernel
theorem d_Co_isEntry_11 : decode b_Co_isEntry 11 = .ok (.getfield 16, 3) := by decide +kernel
theorem d_Co_isEntry_14 : decode b_Co_isEntry 14 = .ok (.iload_n 2, 1) := by decide +kernel
theorem d_Co_isEntry_15 : decode b_Co_isEntry 15 = .ok (.iaload, 1) := by decide +kernel
theorem d_Co_isEntry_16 : decode b_Co_isEntry 16 = .ok (.iload_n 1, 1) := by decide +kernel
theorem d_Co_isEntry_17 : decode b_Co_isEntry 17 = .ok (.if_icmp .ne 5, 3) := by decide +kernel
theorem d_Co_isEntry_20 : decode b_Co_isEntry 20 = .ok (.iconst 1, 1) := by decide +kernel
theorem d_Co_isEntry_21 : decode b_Co_isEntry 21 = .ok (.ireturn, 1) := by decide +kernel
theorem d_Co_isEntry_22 : decode b_Co_isEntry 22 = .ok (.iinc 2 1, 3) := by decide +kernel
theorem d_Co_isEntry_25 : decode b_Co_isEntry 25 = .ok (.goto (-23), 3) := by decide +kernel
theorem d_Co_isEntry_28 : decode b_Co_isEntry 28 = .ok (.iconst 0, 1) := by decide +kernel
theorem d_Co_isEntry_29 : decode b_Co_isEntry 29 = .ok (.ireturn, 1) := by decide +kernel
theorem d_Co_walkFromEntries_0 : decode b_Co_walkFromEntries 0 = .ok (.aload_n 0, 1) := by decide +kernel
theorem d_Co_walkFromEntries_1 : decode b_Co_walkFromEntries 1 = .ok (.getfield 23, 3) := by decide +kernel
theorem d_Co_walkFromEntries_4 : decode b_Co_walkFromEntries 4 = .ok (.aload_n 0, 1) := by decide +kernel
theorem d_Co_walkFromEntries_5 : decode b_Co_walkFromEntries 5 = .ok (.getfield 10, 3) := by decide +kernel
theorem d_Co_walkFromEntries_8 : decode b_Co_walkFromEntries 8 = .ok (.invokevirtual 44, 3) := by decide +kernel
theorem d_Co_walkFromEntries_11 : decode b_Co_walkFromEntries 11 = .ok (.invokevirtual 84, 3) := by decide +kernel
theorem d_Co_walkFromEntries_14 : decode b_Co_walkFromEntries 14 = .ok (.iconst 0, 1) := by decide +kernel
theorem d_Co_walkFromEntries_15 : decode b_Co_walkFromEntries 15 = .ok (.istore_n 1, 1) := by decide +kernel
theorem d_Co_walkFromEntries_16 : decode b_Co_walkFromEntries 16 = .ok (.iload_n 1, 1) := by decide +kernel
theorem d_Co_walkFromEntries_17 : decode b_Co_walkFromEntries 17 = .ok (.aload_n 0, 1) := by decide +kernel
theorem d_Co_walkFromEntries_18 : decode b_Co_walkFromEntries 18 = .ok (.getfield 59, 3) := by decide +kernel
theorem d_Co_walkFromEntries_21 : decode b_Co_walkFromEntries 21 = .ok (.if_icmp .ge 22, 3) := by decide +kernel
theorem d_Co_walkFromEntries_24 : decode b_Co_walkFromEntries 24 = .ok (.aload_n 0, 1) := by decide +kernel
theorem d_Co_walkFromEntries_25 : decode b_Co_walkFromEntries 25 = .ok (.getfield 23, 3) := by decide +kernel
theorem d_Co_walkFromEntries_28 : decode b_Co_walkFromEntries 28 = .ok (.aload_n 0, 1) := by decide +kernel
theorem d_Co_walkFromEntries_29 : decode b_Co_walkFromEntries 29 = .ok (.getfield 16, 3) := by decide +kernel
theorem d_Co_walkFromEntries_32 : decode b_Co_walkFromEntries 32 = .ok (.iload_n 1, 1) := by decide +kernel
theorem d_Co_walkFromEntries_33 : decode b_Co_walkFromEntries 33 = .ok (.iaload, 1) := by decide +kernel
theorem d_Co_walkFromEntries_34 : decode b_Co_walkFromEntries 34 = .ok (.invokevirtual 87, 3) := by decide +kernel
theorem d_Co_walkFromEntries_37 : decode b_Co_walkFromEntries 37 = .ok (.iinc 1 1, 3) := by decide +kernel
theorem d_Co_walkFromEntries_40 : decode b_Co_walkFromEntries 40 = .ok (.goto (-24), 3) := by decide +kernel
theorem d_Co_walkFromEntries_43 : decode b_Co_walkFromEntries 43 = .ok (.aload_n 0, 1) := by decide +kernel
theorem d_Co_walkFromEntries_44 : decode b_Co_walkFromEntries 44 = .ok (.getfield 23, 3) := by decide +kernel
theorem d_Co_walkFromEntries_47 : decode b_Co_walkFromEntries 47 = .ok (.aload_n 0, 1) := by decide +kernel
theorem d_Co_walkFromEntries_48 : decode b_Co_walkFromEntries 48 = .ok (.getfield 10, 3) := by decide +kernel
theorem d_Co_walkFromEntries_51 : decode b_Co_walkFromEntries 51 = .ok (.iconst 1, 1) := by decide +kernel
theorem d_Co_walkFromEntries_52 : decode b_Co_walkFromEntries 52 = .ok (.invokevirtual 90, 3) := by decide +kernel
theorem d_Co_walkFromEntries_55 : decode b_Co_walkFromEntries 55 = .ok (.return_, 1) := by decide +kernel
theorem d_Co_listLine_0 : decode b_Co_listLine 0 = .ok (.aload_n 0, 1) := by decide +kernel
theorem d_Co_listLine_1 : decode b_Co_listLine 1 = .ok (.getfield 23, 3) := by decide +kernel
theorem d_Co_listLine_4 : decode b_Co_listLine 4 = .ok (.iload_n 1, 1) := by decide +kernel
theorem d_Co_listLine_5 : decode b_Co_listLine 5 = .ok (.invokevirtual 81, 3) := by decide +kernel
theorem d_Co_listLine_8 : decode b_Co_listLine 8 = .ok (.ifCond .eq 14, 3) := by decide +kernel
theorem d_Co_listLine_11 : decode b_Co_listLine 11 = .ok (.aload_n 0, 1) := by decide +kernel
theorem d_Co_listLine_12 : decode b_Co_listLine 12 = .ok (.getfield 10, 3) := by decide +kernel
theorem d_Co_listLine_15 : decode b_Co_listLine 15 = .ok (.iload_n 1, 1) := by decide +kernel
theorem d_Co_listLine_16 : decode b_Co_listLine 16 = .ok (.invokevirtual 118, 3) := by decide +kernel
theorem d_Co_listLine_19 : decode b_Co_listLine 19 = .ok (.goto 4, 3) := by decide +kernel
theorem d_Co_listLine_22 : decode b_Co_listLine 22 = .ok (.iconst (-1), 1) := by decide +kernel
theorem d_Co_listLine_23 : decode b_Co_listLine 23 = .ok (.istore_n 2, 1) := by decide +kernel
theorem d_Co_listLine_24 : decode b_Co_listLine 24 = .ok (.iload_n 2, 1) := by decide +kernel
theorem d_Co_listLine_25 : decode b_Co_listLine 25 = .ok (.iconst (-1), 1) := by decide +kernel
theorem d_Co_listLine_26 : decode b_Co_listLine 26 = .ok (.if_icmp .ne 23, 3) := by decide +kernel
theorem d_Co_listLine_29 : decode b_Co_listLine 29 = .ok (.aload_n 0, 1) := by decide +kernel
theorem d_Co_listLine_30 : decode b_Co_listLine 30 = .ok (.getfield 30, 3) := by decide +kernel
theorem d_Co_listLine_33 : decode b_Co_listLine 33 = .ok (.bipush 13, 2) := by decide +kernel
theorem d_Co_listLine_35 : decode b_Co_listLine 35 = .ok (.iconst 0, 1) := by decide +kernel
theorem d_Co_listLine_36 : decode b_Co_listLine 36 = .ok (.aload_n 0, 1) := by decide +kernel
theorem d_Co_listLine_37 : decode b_Co_listLine 37 = .ok (.getfield 10, 3) := by decide +kernel
theorem d_Co_listLine_40 : decode b_Co_listLine 40 = .ok (.iload_n 1, 1) := by decide +kernel
theorem d_Co_listLine_41 : decode b_Co_listLine 41 = .ok (.invokevirtual 70, 3) := by decide +kernel
theorem d_Co_listLine_44 : decode b_Co_listLine 44 = .ok (.invokevirtual 123, 3) := by decide +kernel
theorem d_Co_listLine_47 : decode b_Co_listLine 47 = .ok (.iconst 1, 1) := by decide +kernel
theorem d_Co_listLine_48 : decode b_Co_listLine 48 = .ok (.ireturn, 1) := by decide +kernel
theorem d_Co_listLine_49 : decode b_Co_listLine 49 = .ok (.aload_n 0, 1) := by decide +kernel
theorem d_Co_listLine_50 : decode b_Co_listLine 50 = .ok (.getfield 30, 3) := by decide +kernel
theorem d_Co_listLine_53 : decode b_Co_listLine 53 = .ok (.iload_n 2, 1) := by decide +kernel
theorem d_Co_listLine_54 : decode b_Co_listLine 54 = .ok (.aload_n 0, 1) := by decide +kernel
theorem d_Co_listLine_55 : decode b_Co_listLine 55 = .ok (.getfield 10, 3) := by decide +kernel
theorem d_Co_listLine_58 : decode b_Co_listLine 58 = .ok (.iload_n 1, 1) := by decide +kernel
theorem d_Co_listLine_59 : decode b_Co_listLine 59 = .ok (.invokevirtual 70, 3) := by decide +kernel
theorem d_Co_listLine_62 : decode b_Co_listLine 62 = .ok (.iload_n 2, 1) := by decide +kernel
theorem d_Co_listLine_63 : decode b_Co_listLine 63 = .ok (.invokestatic 127, 3) := by decide +kernel
theorem d_Co_listLine_66 : decode b_Co_listLine 66 = .ok (.isub, 1) := by decide +kernel
theorem d_Co_listLine_67 : decode b_Co_listLine 67 = .ok (.aload_n 0, 1) := by decide +kernel
theorem d_Co_listLine_68 : decode b_Co_listLine 68 = .ok (.getfield 10, 3) := by decide +kernel
theorem d_Co_listLine_71 : decode b_Co_listLine 71 = .ok (.iload_n 1, 1) := by decide +kernel
theorem d_Co_listLine_72 : decode b_Co_listLine 72 = .ok (.iload_n 2, 1) := by decide +kernel
theorem d_Co_listLine_73 : decode b_Co_listLine 73 = .ok (.invokevirtual 130, 3) := by decide +kernel
theorem d_Co_listLine_76 : decode b_Co_listLine 76 = .ok (.invokevirtual 123, 3) := by decide +kernel
theorem d_Co_listLine_79 : decode b_Co_listLine 79 = .ok (.iload_n 2, 1) := by decide +kernel
theorem d_Co_listLine_80 : decode b_Co_listLine 80 = .ok (.invokestatic 133, 3) := by decide +kernel
theorem d_Co_listLine_83 : decode b_Co_listLine 83 = .ok (.ireturn, 1) := by decide +kernel
theorem d_Mo_init_0 : decode b_Mo_init 0 = .ok (.aload_n 0, 1) := by decide +kernel
theorem d_Mo_init_1 : decode b_Mo_init 1 = .ok (.invokespecial 1, 3) := by decide +kernel
theorem d_Mo_init_4 : decode b_Mo_init 4 = .ok (.aload_n 0, 1) := by decide +kernel
theorem d_Mo_init_5 : decode b_Mo_init 5 = .ok (.sipush 160, 3) := by decide +kernel
theorem d_Mo_init_8 : decode b_Mo_init 8 = .ok (.newarray .int, 2) := by decide +kernel
theorem d_Mo_init_10 : decode b_Mo_init 10 = .ok (.putfield 7, 3) := by decide +kernel
theorem d_Mo_init_13 : decode b_Mo_init 13 = .ok (.aload_n 0, 1) := by decide +kernel
theorem d_Mo_init_14 : decode b_Mo_init 14 = .ok (.bipush 16, 2) := by decide +kernel
theorem d_Mo_init_16 : decode b_Mo_init 16 = .ok (.newarray .int, 2) := by decide +kernel
theorem d_Mo_init_18 : decode b_Mo_init 18 = .ok (.putfield 13, 3) := by decide +kernel
theorem d_Mo_init_21 : decode b_Mo_init 21 = .ok (.aload_n 0, 1) := by decide +kernel
theorem d_Mo_init_22 : decode b_Mo_init 22 = .ok (.sipush 2400, 3) := by decide +kernel
theorem d_Mo_init_25 : decode b_Mo_init 25 = .ok (.newarray .int, 2) := by decide +kernel
theorem d_Mo_init_27 : decode b_Mo_init 27 = .ok (.putfield 16, 3) := by decide +kernel
theorem d_Mo_init_30 : decode b_Mo_init 30 = .ok (.aload_n 0, 1) := by decide +kernel
theorem d_Mo_init_31 : decode b_Mo_init 31 = .ok (.sipush 160, 3) := by decide +kernel
theorem d_Mo_init_34 : decode b_Mo_init 34 = .ok (.newarray .int, 2) := by decide +kernel
theorem d_Mo_init_36 : decode b_Mo_init 36 = .ok (.putfield 19, 3) := by decide +kernel
theorem d_Mo_init_39 : decode b_Mo_init 39 = .ok (.aload_n 0, 1) := by decide +kernel
theorem d_Mo_init_40 : decode b_Mo_init 40 = .ok (.sipush 160, 3) := by decide +kernel
theorem d_Mo_init_43 : decode b_Mo_init 43 = .ok (.newarray .int, 2) := by decide +kernel
theorem d_Mo_init_45 : decode b_Mo_init 45 = .ok (.putfield 22, 3) := by decide +kernel
theorem d_Mo_init_48 : decode b_Mo_init 48 = .ok (.aload_n 0, 1) := by decide +kernel
theorem d_Mo_init_49 : decode b_Mo_init 49 = .ok (.sipush 160, 3) := by decide +kernel
theorem d_Mo_init_52 : decode b_Mo_init 52 = .ok (.newarray .boolean, 2) := by decide +kernel
theorem d_Mo_init_54 : decode b_Mo_init 54 = .ok (.putfield 25, 3) := by decide +kernel
theorem d_Mo_init_57 : decode b_Mo_init 57 = .ok (.aload_n 0, 1) := by decide +kernel
theorem d_Mo_init_58 : decode b_Mo_init 58 = .ok (.bipush 32, 2) := by decide +kernel
theorem d_Mo_init_60 : decode b_Mo_init 60 = .ok (.newarray .int, 2) := by decide +kernel
theorem d_Mo_init_62 : decode b_Mo_init 62 = .ok (.putfield 29, 3) := by decide +kernel
theorem d_Mo_init_65 : decode b_Mo_init 65 = .ok (.aload_n 0, 1) := by decide +kernel
theorem d_Mo_init_66 : decode b_Mo_init 66 = .ok (.iconst 0, 1) := by decide +kernel
theorem d_Mo_init_67 : decode b_Mo_init 67 = .ok (.putfield 32, 3) := by decide +kernel
theorem d_Mo_init_70 : decode b_Mo_init 70 = .ok (.return_, 1) := by decide +kernel
theorem d_Mo_append_0 : decode b_Mo_append 0 = .ok (.iload_n 2, 1) := by decide +kernel
theorem d_Mo_append_1 : decode b_Mo_append 1 = .ok (.iconst 1, 1) := by decide +kernel
theorem d_Mo_append_2 : decode b_Mo_append 2 = .ok (.if_icmp .lt 8, 3) := by decide +kernel
theorem d_Mo_append_5 : decode b_Mo_append 5 = .ok (.iload_n 2, 1) := by decide +kernel
theorem d_Mo_append_6 : decode b_Mo_append 6 = .ok (.iconst 4, 1) := by decide +kernel
theorem d_Mo_append_7 : decode b_Mo_append 7 = .ok (.if_icmp .le 5, 3) := by decide +kernel
theorem d_Mo_append_10 : decode b_Mo_append 10 = .ok (.iconst (-1), 1) := by decide +kernel
theorem d_Mo_append_11 : decode b_Mo_append 11 = .ok (.ireturn, 1) := by decide +kernel
theorem d_Mo_append_12 : decode b_Mo_append 12 = .ok (.aload_n 0, 1) := by decide +kernel
theorem d_Mo_append_13 : decode b_Mo_append 13 = .ok (.getfield 32, 3) := by decide +kernel
theorem d_Mo_append_16 : decode b_Mo_append 16 = .ok (.iload_n 2, 1) := by decide +kernel
theorem d_Mo_append_17 : decode b_Mo_append 17 = .ok (.iadd, 1) := by decide +kernel
theorem d_Mo_append_18 : decode b_Mo_append 18 = .ok (.sipush 160, 3) := by decide +kernel
theorem d_Mo_append_21 : decode b_Mo_append 21 = .ok (.if_icmp .le 6, 3) := by decide +kernel
theorem d_Mo_append_24 : decode b_Mo_append 24 = .ok (.bipush (-2), 2) := by decide +kernel
theorem d_Mo_append_26 : decode b_Mo_append 26 = .ok (.ireturn, 1) := by decide +kernel
theorem d_Mo_append_27 : decode b_Mo_append 27 = .ok (.iconst 0, 1) := by decide +kernel
theorem d_Mo_append_28 : decode b_Mo_append 28 = .ok (.istore_n 3, 1) := by decide +kernel
theorem d_Mo_append_29 : decode b_Mo_append 29 = .ok (.iload_n 3, 1) := by decide +kernel
theorem d_Mo_append_30 : decode b_Mo_append 30 = .ok (.iload_n 2, 1) := by decide +kernel
theorem d_Mo_append_31 : decode b_Mo_append 31 = .ok (.if_icmp .ge 33, 3) := by decide +kernel
theorem d_Mo_append_34 : decode b_Mo_append 34 = .ok (.aload_n 0, 1) := by decide +kernel
theorem d_Mo_append_35 : decode b_Mo_append 35 = .ok (.getfield 7, 3) := by decide +kernel
theorem d_Mo_append_38 : decode b_Mo_append 38 = .ok (.aload_n 0, 1) := by decide +kernel
theorem d_Mo_append_39 : decode b_Mo_append 39 = .ok (.getfield 32, 3) := by decide +kernel
theorem d_Mo_append_42 : decode b_Mo_append 42 = .ok (.iload_n 3, 1) := by decide +kernel
theorem d_Mo_append_43 : decode b_Mo_append 43 = .ok (.iadd, 1) := by decide +kernel
theorem d_Mo_append_44 : decode b_Mo_append 44 = .ok (.iload_n 1, 1) := by decide +kernel
theorem d_Mo_append_45 : decode b_Mo_append 45 = .ok (.bipush 24, 2) := by decide +kernel
theorem d_Mo_append_47 : decode b_Mo_append 47 = .ok (.bipush 8, 2) := by decide +kernel
theorem d_Mo_append_49 : decode b_Mo_append 49 = .ok (.iload_n 3, 1) := by decide +kernel
theorem d_Mo_append_50 : decode b_Mo_append 50 = .ok (.imul, 1) := by decide +kernel
theorem d_Mo_append_51 : decode b_Mo_append 51 = .ok (.isub, 1) := by decide +kernel
theorem d_Mo_append_52 : decode b_Mo_append 52 = .ok (.ishr, 1) := by decide +kernel
theorem d_Mo_append_53 : decode b_Mo_append 53 = .ok (.sipush 255, 3) := by decide +kernel
theorem d_Mo_append_56 : decode b_Mo_append 56 = .ok (.iand, 1) := by decide +kernel
theorem d_Mo_append_57 : decode b_Mo_append 57 = .ok (.iastore, 1) := by decide +kernel
theorem d_Mo_append_58 : decode b_Mo_append 58 = .ok (.iinc 3 1, 3) := by decide +kernel
theorem d_Mo_append_61 : decode b_Mo_append 61 = .ok (.goto (-32), 3) := by decide +kernel
theorem d_Mo_append_64 : decode b_Mo_append 64 = .ok (.aload_n 0, 1) := by decide +kernel
theorem d_Mo_append_65 : decode b_Mo_append 65 = .ok (.aload_n 0, 1) := by decide +kernel
theorem d_Mo_append_66 : decode b_Mo_append 66 = .ok (.getfield 32, 3) := by decide +kernel
theorem d_Mo_append_69 : decode b_Mo_append 69 = .ok (.iload_n 2, 1) := by decide +kernel
theorem d_Mo_append_70 : decode b_Mo_append 70 = .ok (.iadd, 1) := by decide +kernel
theorem d_Mo_append_71 : decode b_Mo_append 71 = .ok (.putfield 32, 3) := by decide +kernel
theorem d_Mo_append_74 : decode b_Mo_append 74 = .ok (.aload_n 0, 1) := by decide +kernel
theorem d_Mo_append_75 : decode b_Mo_append 75 = .ok (.getfield 32, 3) := by decide +kernel
theorem d_Mo_append_78 : decode b_Mo_append 78 = .ok (.ireturn, 1) := by decide +kernel
theorem d_Mo_has_0 : decode b_Mo_has 0 = .ok (.iload_n 1, 1) := by decide +kernel
theorem d_Mo_has_1 : decode b_Mo_has 1 = .ok (.ifCond .lt 15, 3) := by decide +kernel
theorem d_Mo_has_4 : decode b_Mo_has 4 = .ok (.iload_n 1, 1) := by decide +kernel
theorem d_Mo_has_5 : decode b_Mo_has 5 = .ok (.aload_n 0, 1) := by decide +kernel
theorem d_Mo_has_6 : decode b_Mo_has 6 = .ok (.getfield 32, 3) := by decide +kernel
theorem d_Mo_has_9 : decode b_Mo_has 9 = .ok (.if_icmp .ge 7, 3) := by decide +kernel
theorem d_Mo_has_12 : decode b_Mo_has 12 = .ok (.iconst 1, 1) := by decide +kernel
theorem d_Mo_has_13 : decode b_Mo_has 13 = .ok (.goto 4, 3) := by decide +kernel
end
section
theorem d_Mo_has_16 : decode b_Mo_has 16 = .ok (.iconst 0, 1) := by decide +kernel
theorem d_Mo_has_17 : decode b_Mo_has 17 = .ok (.ireturn, 1) := by decide +kernel
theorem d_Mo_enter_0 : decode b_Mo_enter 0 = .ok (.aload_n 0, 1) := by decide +kernel
theorem d_Mo_enter_1 : decode b_Mo_enter 1 = .ok (.iload_n 1, 1) := by decide +kernel
theorem d_Mo_enter_2 : decode b_Mo_enter 2 = .ok (.invokevirtual 36, 3) := by decide +kernel
theorem d_Mo_enter_5 : decode b_Mo_enter 5 = .ok (.ifCond .eq 12, 3) := by decide +kernel
theorem d_Mo_enter_8 : decode b_Mo_enter 8 = .ok (.aload_n 0, 1) := by decide +kernel
theorem d_Mo_enter_9 : decode b_Mo_enter 9 = .ok (.getfield 40, 3) := by decide +kernel
theorem d_Mo_enter_12 : decode b_Mo_enter 12 = .ok (.bipush 16, 2) := by decide +kernel
theorem d_Mo_enter_14 : decode b_Mo_enter 14 = .ok (.if_icmp .ne 5, 3) := by decide +kernel
theorem d_Mo_enter_17 : decode b_Mo_enter 17 = .ok (.iconst 0, 1) := by decide +kernel
theorem d_Mo_enter_18 : decode b_Mo_enter 18 = .ok (.ireturn, 1) := by decide +kernel
theorem d_Mo_enter_19 : decode b_Mo_enter 19 = .ok (.iconst 0, 1) := by decide +kernel
theorem d_Mo_enter_20 : decode b_Mo_enter 20 = .ok (.istore_n 2, 1) := by decide +kernel
theorem d_Mo_enter_21 : decode b_Mo_enter 21 = .ok (.iload_n 2, 1) := by decide +kernel
theorem d_Mo_enter_22 : decode b_Mo_enter 22 = .ok (.aload_n 0, 1) := by decide +kernel
theorem d_Mo_enter_23 : decode b_Mo_enter 23 = .ok (.getfield 40, 3) := by decide +kernel
theorem d_Mo_enter_26 : decode b_Mo_enter 26 = .ok (.if_icmp .ge 21, 3) := by decide +kernel
theorem d_Mo_enter_29 : decode b_Mo_enter 29 = .ok (.aload_n 0, 1) := by decide +kernel
theorem d_Mo_enter_30 : decode b_Mo_enter 30 = .ok (.getfield 13, 3) := by decide +kernel
theorem d_Mo_enter_33 : decode b_Mo_enter 33 = .ok (.iload_n 2, 1) := by decide +kernel
theorem d_Mo_enter_34 : decode b_Mo_enter 34 = .ok (.iaload, 1) := by decide +kernel
theorem d_Mo_enter_35 : decode b_Mo_enter 35 = .ok (.iload_n 1, 1) := by decide +kernel
theorem d_Mo_enter_36 : decode b_Mo_enter 36 = .ok (.if_icmp .ne 5, 3) := by decide +kernel
theorem d_Mo_enter_39 : decode b_Mo_enter 39 = .ok (.iconst 0, 1) := by decide +kernel
theorem d_Mo_enter_40 : decode b_Mo_enter 40 = .ok (.ireturn, 1) := by decide +kernel
theorem d_Mo_enter_41 : decode b_Mo_enter 41 = .ok (.iinc 2 1, 3) := by decide +kernel
theorem d_Mo_enter_44 : decode b_Mo_enter 44 = .ok (.goto (-23), 3) := by decide +kernel
theorem d_Mo_enter_47 : decode b_Mo_enter 47 = .ok (.aload_n 0, 1) := by decide +kernel
theorem d_Mo_enter_48 : decode b_Mo_enter 48 = .ok (.getfield 13, 3) := by decide +kernel
theorem d_Mo_enter_51 : decode b_Mo_enter 51 = .ok (.aload_n 0, 1) := by decide +kernel
theorem d_Mo_enter_52 : decode b_Mo_enter 52 = .ok (.getfield 40, 3) := by decide +kernel
theorem d_Mo_enter_55 : decode b_Mo_enter 55 = .ok (.iload_n 1, 1) := by decide +kernel
theorem d_Mo_enter_56 : decode b_Mo_enter 56 = .ok (.iastore, 1) := by decide +kernel
theorem d_Mo_enter_57 : decode b_Mo_enter 57 = .ok (.aload_n 0, 1) := by decide +kernel
theorem d_Mo_enter_58 : decode b_Mo_enter 58 = .ok (.aload_n 0, 1) := by decide +kernel
theorem d_Mo_enter_59 : decode b_Mo_enter 59 = .ok (.getfield 40, 3) := by decide +kernel
theorem d_Mo_enter_62 : decode b_Mo_enter 62 = .ok (.iconst 1, 1) := by decide +kernel
theorem d_Mo_enter_63 : decode b_Mo_enter 63 = .ok (.iadd, 1) := by decide +kernel
theorem d_Mo_enter_64 : decode b_Mo_enter 64 = .ok (.putfield 40, 3) := by decide +kernel
theorem d_Mo_enter_67 : decode b_Mo_enter 67 = .ok (.iconst 1, 1) := by decide +kernel
theorem d_Mo_enter_68 : decode b_Mo_enter 68 = .ok (.ireturn, 1) := by decide +kernel
theorem d_Mo_clear_0 : decode b_Mo_clear 0 = .ok (.aload_n 0, 1) := by decide +kernel
theorem d_Mo_clear_1 : decode b_Mo_clear 1 = .ok (.iconst 0, 1) := by decide +kernel
theorem d_Mo_clear_2 : decode b_Mo_clear 2 = .ok (.putfield 32, 3) := by decide +kernel
theorem d_Mo_clear_5 : decode b_Mo_clear 5 = .ok (.aload_n 0, 1) := by decide +kernel
theorem d_Mo_clear_6 : decode b_Mo_clear 6 = .ok (.iconst 0, 1) := by decide +kernel
theorem d_Mo_clear_7 : decode b_Mo_clear 7 = .ok (.putfield 40, 3) := by decide +kernel
theorem d_Mo_clear_10 : decode b_Mo_clear 10 = .ok (.aload_n 0, 1) := by decide +kernel
theorem d_Mo_clear_11 : decode b_Mo_clear 11 = .ok (.iconst 0, 1) := by decide +kernel
theorem d_Mo_clear_12 : decode b_Mo_clear 12 = .ok (.putfield 43, 3) := by decide +kernel
theorem d_Mo_clear_15 : decode b_Mo_clear 15 = .ok (.aload_n 0, 1) := by decide +kernel
theorem d_Mo_clear_16 : decode b_Mo_clear 16 = .ok (.iconst 0, 1) := by decide +kernel
theorem d_Mo_clear_17 : decode b_Mo_clear 17 = .ok (.putfield 46, 3) := by decide +kernel
theorem d_Mo_clear_20 : decode b_Mo_clear 20 = .ok (.return_, 1) := by decide +kernel
theorem d_Mo_size_0 : decode b_Mo_size 0 = .ok (.aload_n 0, 1) := by decide +kernel
theorem d_Mo_size_1 : decode b_Mo_size 1 = .ok (.getfield 32, 3) := by decide +kernel
theorem d_Mo_size_4 : decode b_Mo_size 4 = .ok (.ireturn, 1) := by decide +kernel
theorem d_Mo_byteAt_0 : decode b_Mo_byteAt 0 = .ok (.aload_n 0, 1) := by decide +kernel
theorem d_Mo_byteAt_1 : decode b_Mo_byteAt 1 = .ok (.iload_n 1, 1) := by decide +kernel
theorem d_Mo_byteAt_2 : decode b_Mo_byteAt 2 = .ok (.invokevirtual 36, 3) := by decide +kernel
theorem d_Mo_byteAt_5 : decode b_Mo_byteAt 5 = .ok (.ifCond .eq 12, 3) := by decide +kernel
theorem d_Mo_byteAt_8 : decode b_Mo_byteAt 8 = .ok (.aload_n 0, 1) := by decide +kernel
theorem d_Mo_byteAt_9 : decode b_Mo_byteAt 9 = .ok (.getfield 7, 3) := by decide +kernel
theorem d_Mo_byteAt_12 : decode b_Mo_byteAt 12 = .ok (.iload_n 1, 1) := by decide +kernel
theorem d_Mo_byteAt_13 : decode b_Mo_byteAt 13 = .ok (.iaload, 1) := by decide +kernel
theorem d_Mo_byteAt_14 : decode b_Mo_byteAt 14 = .ok (.goto 4, 3) := by decide +kernel
theorem d_Mo_byteAt_17 : decode b_Mo_byteAt 17 = .ok (.iconst (-1), 1) := by decide +kernel
theorem d_Mo_byteAt_18 : decode b_Mo_byteAt 18 = .ok (.ireturn, 1) := by decide +kernel
theorem d_Mo_entry_0 : decode b_Mo_entry 0 = .ok (.iload_n 1, 1) := by decide +kernel
theorem d_Mo_entry_1 : decode b_Mo_entry 1 = .ok (.ifCond .lt 20, 3) := by decide +kernel
theorem d_Mo_entry_4 : decode b_Mo_entry 4 = .ok (.iload_n 1, 1) := by decide +kernel
theorem d_Mo_entry_5 : decode b_Mo_entry 5 = .ok (.aload_n 0, 1) := by decide +kernel
theorem d_Mo_entry_6 : decode b_Mo_entry 6 = .ok (.getfield 40, 3) := by decide +kernel
theorem d_Mo_entry_9 : decode b_Mo_entry 9 = .ok (.if_icmp .ge 12, 3) := by decide +kernel
theorem d_Mo_entry_12 : decode b_Mo_entry 12 = .ok (.aload_n 0, 1) := by decide +kernel
theorem d_Mo_entry_13 : decode b_Mo_entry 13 = .ok (.getfield 13, 3) := by decide +kernel
theorem d_Mo_entry_16 : decode b_Mo_entry 16 = .ok (.iload_n 1, 1) := by decide +kernel
theorem d_Mo_entry_17 : decode b_Mo_entry 17 = .ok (.iaload, 1) := by decide +kernel
theorem d_Mo_entry_18 : decode b_Mo_entry 18 = .ok (.goto 4, 3) := by decide +kernel
theorem d_Mo_entry_21 : decode b_Mo_entry 21 = .ok (.iconst (-1), 1) := by decide +kernel
theorem d_Mo_entry_22 : decode b_Mo_entry 22 = .ok (.ireturn, 1) := by decide +kernel
theorem d_Mo_longOf_0 : decode b_Mo_longOf 0 = .ok (.iload_n 0, 1) := by decide +kernel
theorem d_Mo_longOf_1 : decode b_Mo_longOf 1 = .ok (.ifCond .lt 9, 3) := by decide +kernel
theorem d_Mo_longOf_4 : decode b_Mo_longOf 4 = .ok (.iload_n 0, 1) := by decide +kernel
theorem d_Mo_longOf_5 : decode b_Mo_longOf 5 = .ok (.bipush 119, 2) := by decide +kernel
theorem d_Mo_longOf_7 : decode b_Mo_longOf 7 = .ok (.if_icmp .le 5, 3) := by decide +kernel
theorem d_Mo_longOf_10 : decode b_Mo_longOf 10 = .ok (.iconst 0, 1) := by decide +kernel
theorem d_Mo_longOf_11 : decode b_Mo_longOf 11 = .ok (.ireturn, 1) := by decide +kernel
theorem d_Mo_longOf_12 : decode b_Mo_longOf 12 = .ok (.iload_n 0, 1) := by decide +kernel
theorem d_Mo_longOf_13 : decode b_Mo_longOf 13 = .ok (.bipush 16, 2) := by decide +kernel
theorem d_Mo_longOf_15 : decode b_Mo_longOf 15 = .ok (.idiv, 1) := by decide +kernel
theorem d_Mo_longOf_16 : decode b_Mo_longOf 16 = .ok (.istore_n 1, 1) := by decide +kernel
theorem d_Mo_longOf_17 : decode b_Mo_longOf 17 = .ok (.iload_n 1, 1) := by decide +kernel
theorem d_Mo_longOf_18 : decode b_Mo_longOf 18 = .ok (.ifCond .ne 14, 3) := by decide +kernel
theorem d_Mo_longOf_21 : decode b_Mo_longOf 21 = .ok (.iload_n 0, 1) := by decide +kernel
theorem d_Mo_longOf_22 : decode b_Mo_longOf 22 = .ok (.iconst 2, 1) := by decide +kernel
theorem d_Mo_longOf_23 : decode b_Mo_longOf 23 = .ok (.if_icmp .gt 7, 3) := by decide +kernel
theorem d_Mo_longOf_26 : decode b_Mo_longOf 26 = .ok (.iconst 1, 1) := by decide +kernel
theorem d_Mo_longOf_27 : decode b_Mo_longOf 27 = .ok (.goto 4, 3) := by decide +kernel
theorem d_Mo_longOf_30 : decode b_Mo_longOf 30 = .ok (.iconst 0, 1) := by decide +kernel
theorem d_Mo_longOf_31 : decode b_Mo_longOf 31 = .ok (.ireturn, 1) := by decide +kernel
theorem d_Mo_longOf_32 : decode b_Mo_longOf 32 = .ok (.iload_n 1, 1) := by decide +kernel
theorem d_Mo_longOf_33 : decode b_Mo_longOf 33 = .ok (.iconst 3, 1) := by decide +kernel
theorem d_Mo_longOf_34 : decode b_Mo_longOf 34 = .ok (.if_icmp .eq 8, 3) := by decide +kernel
theorem d_Mo_longOf_37 : decode b_Mo_longOf 37 = .ok (.iload_n 1, 1) := by decide +kernel
theorem d_Mo_longOf_38 : decode b_Mo_longOf 38 = .ok (.iconst 4, 1) := by decide +kernel
theorem d_Mo_longOf_39 : decode b_Mo_longOf 39 = .ok (.if_icmp .ne 5, 3) := by decide +kernel
theorem d_Mo_longOf_42 : decode b_Mo_longOf 42 = .ok (.iconst 1, 1) := by decide +kernel
theorem d_Mo_longOf_43 : decode b_Mo_longOf 43 = .ok (.ireturn, 1) := by decide +kernel
theorem d_Mo_longOf_44 : decode b_Mo_longOf 44 = .ok (.iload_n 1, 1) := by decide +kernel
theorem d_Mo_longOf_45 : decode b_Mo_longOf 45 = .ok (.iconst 5, 1) := by decide +kernel
theorem d_Mo_longOf_46 : decode b_Mo_longOf 46 = .ok (.if_icmp .ne 15, 3) := by decide +kernel
theorem d_Mo_longOf_49 : decode b_Mo_longOf 49 = .ok (.iload_n 0, 1) := by decide +kernel
theorem d_Mo_longOf_50 : decode b_Mo_longOf 50 = .ok (.bipush 85, 2) := by decide +kernel
theorem d_Mo_longOf_52 : decode b_Mo_longOf 52 = .ok (.if_icmp .gt 7, 3) := by decide +kernel
theorem d_Mo_longOf_55 : decode b_Mo_longOf 55 = .ok (.iconst 3, 1) := by decide +kernel
theorem d_Mo_longOf_56 : decode b_Mo_longOf 56 = .ok (.goto 4, 3) := by decide +kernel
theorem d_Mo_longOf_59 : decode b_Mo_longOf 59 = .ok (.iconst 0, 1) := by decide +kernel
theorem d_Mo_longOf_60 : decode b_Mo_longOf 60 = .ok (.ireturn, 1) := by decide +kernel
theorem d_Mo_longOf_61 : decode b_Mo_longOf 61 = .ok (.iload_n 1, 1) := by decide +kernel
theorem d_Mo_longOf_62 : decode b_Mo_longOf 62 = .ok (.bipush 7, 2) := by decide +kernel
theorem d_Mo_longOf_64 : decode b_Mo_longOf 64 = .ok (.if_icmp .ne 5, 3) := by decide +kernel
theorem d_Mo_longOf_67 : decode b_Mo_longOf 67 = .ok (.iconst 3, 1) := by decide +kernel
theorem d_Mo_longOf_68 : decode b_Mo_longOf 68 = .ok (.ireturn, 1) := by decide +kernel
theorem d_Mo_longOf_69 : decode b_Mo_longOf 69 = .ok (.iload_n 0, 1) := by decide +kernel
theorem d_Mo_longOf_70 : decode b_Mo_longOf 70 = .ok (.bipush 16, 2) := by decide +kernel
theorem d_Mo_longOf_72 : decode b_Mo_longOf 72 = .ok (.irem, 1) := by decide +kernel
theorem d_Mo_longOf_73 : decode b_Mo_longOf 73 = .ok (.iconst 3, 1) := by decide +kernel
theorem d_Mo_longOf_74 : decode b_Mo_longOf 74 = .ok (.if_icmp .le 5, 3) := by decide +kernel
theorem d_Mo_longOf_77 : decode b_Mo_longOf 77 = .ok (.iconst 0, 1) := by decide +kernel
theorem d_Mo_longOf_78 : decode b_Mo_longOf 78 = .ok (.ireturn, 1) := by decide +kernel
theorem d_Mo_longOf_79 : decode b_Mo_longOf 79 = .ok (.iload_n 1, 1) := by decide +kernel
theorem d_Mo_longOf_80 : decode b_Mo_longOf 80 = .ok (.iconst 1, 1) := by decide +kernel
theorem d_Mo_longOf_81 : decode b_Mo_longOf 81 = .ok (.if_icmp .ne 7, 3) := by decide +kernel
theorem d_Mo_longOf_84 : decode b_Mo_longOf 84 = .ok (.iconst 1, 1) := by decide +kernel
theorem d_Mo_longOf_85 : decode b_Mo_longOf 85 = .ok (.goto 4, 3) := by decide +kernel
theorem d_Mo_longOf_88 : decode b_Mo_longOf 88 = .ok (.iconst 2, 1) := by decide +kernel
theorem d_Mo_longOf_89 : decode b_Mo_longOf 89 = .ok (.ireturn, 1) := by decide +kernel
theorem d_Mo_length_0 : decode b_Mo_length 0 = .ok (.aload_n 0, 1) := by decide +kernel
theorem d_Mo_length_1 : decode b_Mo_length 1 = .ok (.iload_n 1, 1) := by decide +kernel
theorem d_Mo_length_2 : decode b_Mo_length 2 = .ok (.invokevirtual 36, 3) := by decide +kernel
theorem d_Mo_length_5 : decode b_Mo_length 5 = .ok (.ifCond .ne 5, 3) := by decide +kernel
theorem d_Mo_length_8 : decode b_Mo_length 8 = .ok (.iconst 0, 1) := by decide +kernel
theorem d_Mo_length_9 : decode b_Mo_length 9 = .ok (.ireturn, 1) := by decide +kernel
theorem d_Mo_length_10 : decode b_Mo_length 10 = .ok (.aload_n 0, 1) := by decide +kernel
theorem d_Mo_length_11 : decode b_Mo_length 11 = .ok (.getfield 7, 3) := by decide +kernel
theorem d_Mo_length_14 : decode b_Mo_length 14 = .ok (.iload_n 1, 1) := by decide +kernel
theorem d_Mo_length_15 : decode b_Mo_length 15 = .ok (.iaload, 1) := by decide +kernel
theorem d_Mo_length_16 : decode b_Mo_length 16 = .ok (.invokestatic 49, 3) := by decide +kernel
theorem d_Mo_length_19 : decode b_Mo_length 19 = .ok (.istore_n 2, 1) := by decide +kernel
theorem d_Mo_length_20 : decode b_Mo_length 20 = .ok (.iload_n 1, 1) := by decide +kernel
theorem d_Mo_length_21 : decode b_Mo_length 21 = .ok (.iload_n 2, 1) := by decide +kernel
theorem d_Mo_length_22 : decode b_Mo_length 22 = .ok (.iadd, 1) := by decide +kernel
theorem d_Mo_length_23 : decode b_Mo_length 23 = .ok (.aload_n 0, 1) := by decide +kernel
theorem d_Mo_length_24 : decode b_Mo_length 24 = .ok (.getfield 32, 3) := by decide +kernel
theorem d_Mo_length_27 : decode b_Mo_length 27 = .ok (.if_icmp .gt 7, 3) := by decide +kernel
theorem d_Mo_length_30 : decode b_Mo_length 30 = .ok (.iload_n 2, 1) := by decide +kernel
theorem d_Mo_length_31 : decode b_Mo_length 31 = .ok (.goto 4, 3) := by decide +kernel
theorem d_Mo_length_34 : decode b_Mo_length 34 = .ok (.iconst 0, 1) := by decide +kernel
theorem d_Mo_length_35 : decode b_Mo_length 35 = .ok (.ireturn, 1) := by decide +kernel
theorem d_Mo_set_0 : decode b_Mo_set 0 = .ok (.aload_n 0, 1) := by decide +kernel
theorem d_Mo_set_1 : decode b_Mo_set 1 = .ok (.iload_n 1, 1) := by decide +kernel
theorem d_Mo_set_2 : decode b_Mo_set 2 = .ok (.invokevirtual 36, 3) := by decide +kernel
theorem d_Mo_set_5 : decode b_Mo_set 5 = .ok (.ifCond .eq 12, 3) := by decide +kernel
theorem d_Mo_set_8 : decode b_Mo_set 8 = .ok (.aload_n 0, 1) := by decide +kernel
theorem d_Mo_set_9 : decode b_Mo_set 9 = .ok (.getfield 25, 3) := by decide +kernel
theorem d_Mo_set_12 : decode b_Mo_set 12 = .ok (.iload_n 1, 1) := by decide +kernel
theorem d_Mo_set_13 : decode b_Mo_set 13 = .ok (.baload, 1) := by decide +kernel
theorem d_Mo_set_14 : decode b_Mo_set 14 = .ok (.ifCond .eq 5, 3) := by decide +kernel
theorem d_Mo_set_17 : decode b_Mo_set 17 = .ok (.iconst 0, 1) := by decide +kernel
theorem d_Mo_set_18 : decode b_Mo_set 18 = .ok (.ireturn, 1) := by decide +kernel
theorem d_Mo_set_19 : decode b_Mo_set 19 = .ok (.aload_n 0, 1) := by decide +kernel
theorem d_Mo_set_20 : decode b_Mo_set 20 = .ok (.getfield 25, 3) := by decide +kernel
theorem d_Mo_set_23 : decode b_Mo_set 23 = .ok (.iload_n 1, 1) := by decide +kernel
theorem d_Mo_set_24 : decode b_Mo_set 24 = .ok (.iconst 1, 1) := by decide +kernel
theorem d_Mo_set_25 : decode b_Mo_set 25 = .ok (.bastore, 1) := by decide +kernel
theorem d_Mo_set_26 : decode b_Mo_set 26 = .ok (.iconst 1, 1) := by decide +kernel
theorem d_Mo_set_27 : decode b_Mo_set 27 = .ok (.ireturn, 1) := by decide +kernel
theorem d_Mo_follow_0 : decode b_Mo_follow 0 = .ok (.aload_n 0, 1) := by decide +kernel
theorem d_Mo_follow_1 : decode b_Mo_follow 1 = .ok (.iload_n 1, 1) := by decide +kernel
theorem d_Mo_follow_2 : decode b_Mo_follow 2 = .ok (.invokevirtual 53, 3) := by decide +kernel
theorem d_Mo_follow_5 : decode b_Mo_follow 5 = .ok (.istore_n 3, 1) := by decide +kernel
theorem d_Mo_follow_6 : decode b_Mo_follow 6 = .ok (.aload_n 0, 1) := by decide +kernel
theorem d_Mo_follow_7 : decode b_Mo_follow 7 = .ok (.getfield 7, 3) := by decide +kernel
theorem d_Mo_follow_10 : decode b_Mo_follow 10 = .ok (.iload_n 1, 1) := by decide +kernel
theorem d_Mo_follow_11 : decode b_Mo_follow 11 = .ok (.iaload, 1) := by decide +kernel
theorem d_Mo_follow_12 : decode b_Mo_follow 12 = .ok (.istore 4, 2) := by decide +kernel
theorem d_Mo_follow_14 : decode b_Mo_follow 14 = .ok (.iload_n 3, 1) := by decide +kernel
theorem d_Mo_follow_15 : decode b_Mo_follow 15 = .ok (.ifCond .ne 5, 3) := by decide +kernel
theorem d_Mo_follow_18 : decode b_Mo_follow 18 = .ok (.iconst 0, 1) := by decide +kernel
theorem d_Mo_follow_19 : decode b_Mo_follow 19 = .ok (.ireturn, 1) := by decide +kernel
theorem d_Mo_follow_20 : decode b_Mo_follow 20 = .ok (.iconst 0, 1) := by decide +kernel
theorem d_Mo_follow_21 : decode b_Mo_follow 21 = .ok (.istore 5, 2) := by decide +kernel
theorem d_Mo_follow_23 : decode b_Mo_follow 23 = .ok (.iload 4, 2) := by decide +kernel
theorem d_Mo_follow_25 : decode b_Mo_follow 25 = .ok (.iconst 1, 1) := by decide +kernel
theorem d_Mo_follow_26 : decode b_Mo_follow 26 = .ok (.if_icmp .eq 25, 3) := by decide +kernel
theorem d_Mo_follow_29 : decode b_Mo_follow 29 = .ok (.iload 4, 2) := by decide +kernel
theorem d_Mo_follow_31 : decode b_Mo_follow 31 = .ok (.iconst 2, 1) := by decide +kernel
theorem d_Mo_follow_32 : decode b_Mo_follow 32 = .ok (.if_icmp .eq 19, 3) := by decide +kernel
theorem d_Mo_follow_35 : decode b_Mo_follow 35 = .ok (.iload 4, 2) := by decide +kernel
theorem d_Mo_follow_37 : decode b_Mo_follow 37 = .ok (.bipush 80, 2) := by decide +kernel
theorem d_Mo_follow_39 : decode b_Mo_follow 39 = .ok (.if_icmp .eq 12, 3) := by decide +kernel
theorem d_Mo_follow_42 : decode b_Mo_follow 42 = .ok (.aload_n 0, 1) := by decide +kernel
theorem d_Mo_follow_43 : decode b_Mo_follow 43 = .ok (.iload_n 1, 1) := by decide +kernel
theorem d_Mo_follow_44 : decode b_Mo_follow 44 = .ok (.iload_n 3, 1) := by decide +kernel
theorem d_Mo_follow_45 : decode b_Mo_follow 45 = .ok (.iadd, 1) := by decide +kernel
theorem d_Mo_follow_46 : decode b_Mo_follow 46 = .ok (.invokevirtual 55, 3) := by decide +kernel
theorem d_Mo_follow_49 : decode b_Mo_follow 49 = .ok (.istore 5, 2) := by decide +kernel
theorem d_Mo_follow_51 : decode b_Mo_follow 51 = .ok (.iload 4, 2) := by decide +kernel
theorem d_Mo_follow_53 : decode b_Mo_follow 53 = .ok (.bipush 80, 2) := by decide +kernel
theorem d_Mo_follow_55 : decode b_Mo_follow 55 = .ok (.if_icmp .lt 52, 3) := by decide +kernel
theorem d_Mo_follow_58 : decode b_Mo_follow 58 = .ok (.iload 4, 2) := by decide +kernel
theorem d_Mo_follow_60 : decode b_Mo_follow 60 = .ok (.bipush 85, 2) := by decide +kernel
theorem d_Mo_follow_62 : decode b_Mo_follow 62 = .ok (.if_icmp .gt 45, 3) := by decide +kernel
theorem d_Mo_follow_65 : decode b_Mo_follow 65 = .ok (.iload 4, 2) := by decide +kernel
theorem d_Mo_follow_67 : decode b_Mo_follow 67 = .ok (.bipush 81, 2) := by decide +kernel
theorem d_Mo_follow_69 : decode b_Mo_follow 69 = .ok (.if_icmp .ne 7, 3) := by decide +kernel
theorem d_Mo_follow_72 : decode b_Mo_follow 72 = .ok (.iload_n 2, 1) := by decide +kernel
theorem d_Mo_follow_73 : decode b_Mo_follow 73 = .ok (.ifCond .eq 34, 3) := by decide +kernel
theorem d_Mo_follow_76 : decode b_Mo_follow 76 = .ok (.aload_n 0, 1) := by decide +kernel
theorem d_Mo_follow_77 : decode b_Mo_follow 77 = .ok (.sipush 256, 3) := by decide +kernel
theorem d_Mo_follow_80 : decode b_Mo_follow 80 = .ok (.aload_n 0, 1) := by decide +kernel
theorem d_Mo_follow_81 : decode b_Mo_follow 81 = .ok (.getfield 7, 3) := by decide +kernel
theorem d_Mo_follow_84 : decode b_Mo_follow 84 = .ok (.iload_n 1, 1) := by decide +kernel
theorem d_Mo_follow_85 : decode b_Mo_follow 85 = .ok (.iconst 1, 1) := by decide +kernel
theorem d_Mo_follow_86 : decode b_Mo_follow 86 = .ok (.iadd, 1) := by decide +kernel
theorem d_Mo_follow_87 : decode b_Mo_follow 87 = .ok (.iaload, 1) := by decide +kernel
theorem d_Mo_follow_88 : decode b_Mo_follow 88 = .ok (.imul, 1) := by decide +kernel
theorem d_Mo_follow_89 : decode b_Mo_follow 89 = .ok (.aload_n 0, 1) := by decide +kernel
theorem d_Mo_follow_90 : decode b_Mo_follow 90 = .ok (.getfield 7, 3) := by decide +kernel
theorem d_Mo_follow_93 : decode b_Mo_follow 93 = .ok (.iload_n 1, 1) := by decide +kernel
theorem d_Mo_follow_94 : decode b_Mo_follow 94 = .ok (.iconst 2, 1) := by decide +kernel
theorem d_Mo_follow_95 : decode b_Mo_follow 95 = .ok (.iadd, 1) := by decide +kernel
theorem d_Mo_follow_96 : decode b_Mo_follow 96 = .ok (.iaload, 1) := by decide +kernel
theorem d_Mo_follow_97 : decode b_Mo_follow 97 = .ok (.iadd, 1) := by decide +kernel
theorem d_Mo_follow_98 : decode b_Mo_follow 98 = .ok (.invokevirtual 55, 3) := by decide +kernel
theorem d_Mo_follow_101 : decode b_Mo_follow 101 = .ok (.ifCond .eq 6, 3) := by decide +kernel
theorem d_Mo_follow_104 : decode b_Mo_follow 104 = .ok (.iconst 1, 1) := by decide +kernel
theorem d_Mo_follow_105 : decode b_Mo_follow 105 = .ok (.istore 5, 2) := by decide +kernel
theorem d_Mo_follow_107 : decode b_Mo_follow 107 = .ok (.iload 4, 2) := by decide +kernel
theorem d_Mo_follow_109 : decode b_Mo_follow 109 = .ok (.bipush 96, 2) := by decide +kernel
theorem d_Mo_follow_111 : decode b_Mo_follow 111 = .ok (.if_icmp .lt 33, 3) := by decide +kernel
theorem d_Mo_follow_114 : decode b_Mo_follow 114 = .ok (.iload 4, 2) := by decide +kernel
theorem d_Mo_follow_116 : decode b_Mo_follow 116 = .ok (.bipush 99, 2) := by decide +kernel
theorem d_Mo_follow_118 : decode b_Mo_follow 118 = .ok (.if_icmp .gt 26, 3) := by decide +kernel
theorem d_Mo_follow_121 : decode b_Mo_follow 121 = .ok (.aload_n 0, 1) := by decide +kernel
theorem d_Mo_follow_122 : decode b_Mo_follow 122 = .ok (.iload_n 1, 1) := by decide +kernel
theorem d_Mo_follow_123 : decode b_Mo_follow 123 = .ok (.iload_n 3, 1) := by decide +kernel
theorem d_Mo_follow_124 : decode b_Mo_follow 124 = .ok (.iadd, 1) := by decide +kernel
theorem d_Mo_follow_125 : decode b_Mo_follow 125 = .ok (.aload_n 0, 1) := by decide +kernel
theorem d_Mo_follow_126 : decode b_Mo_follow 126 = .ok (.getfield 7, 3) := by decide +kernel
theorem d_Mo_follow_129 : decode b_Mo_follow 129 = .ok (.iload_n 1, 1) := by decide +kernel
theorem d_Mo_follow_130 : decode b_Mo_follow 130 = .ok (.iconst 1, 1) := by decide +kernel
theorem d_Mo_follow_131 : decode b_Mo_follow 131 = .ok (.iadd, 1) := by decide +kernel
theorem d_Mo_follow_132 : decode b_Mo_follow 132 = .ok (.iaload, 1) := by decide +kernel
theorem d_Mo_follow_133 : decode b_Mo_follow 133 = .ok (.i2b, 1) := by decide +kernel
theorem d_Mo_follow_134 : decode b_Mo_follow 134 = .ok (.iadd, 1) := by decide +kernel
theorem d_Mo_follow_135 : decode b_Mo_follow 135 = .ok (.invokevirtual 55, 3) := by decide +kernel
theorem d_Mo_follow_138 : decode b_Mo_follow 138 = .ok (.ifCond .eq 6, 3) := by decide +kernel
theorem d_Mo_follow_141 : decode b_Mo_follow 141 = .ok (.iconst 1, 1) := by decide +kernel
theorem d_Mo_follow_142 : decode b_Mo_follow 142 = .ok (.istore 5, 2) := by decide +kernel
theorem d_Mo_follow_144 : decode b_Mo_follow 144 = .ok (.iload 5, 2) := by decide +kernel
theorem d_Mo_follow_146 : decode b_Mo_follow 146 = .ok (.ireturn, 1) := by decide +kernel
theorem d_Mo_close_0 : decode b_Mo_close 0 = .ok (.iconst 1, 1) := by decide +kernel
theorem d_Mo_close_1 : decode b_Mo_close 1 = .ok (.istore_n 2, 1) := by decide +kernel
theorem d_Mo_close_2 : decode b_Mo_close 2 = .ok (.iconst 0, 1) := by decide +kernel
theorem d_Mo_close_3 : decode b_Mo_close 3 = .ok (.istore_n 3, 1) := by decide +kernel
theorem d_Mo_close_4 : decode b_Mo_close 4 = .ok (.iload_n 3, 1) := by decide +kernel
theorem d_Mo_close_5 : decode b_Mo_close 5 = .ok (.sipush 1000, 3) := by decide +kernel
theorem d_Mo_close_8 : decode b_Mo_close 8 = .ok (.if_icmp .ge 55, 3) := by decide +kernel
theorem d_Mo_close_11 : decode b_Mo_close 11 = .ok (.iload_n 2, 1) := by decide +kernel
theorem d_Mo_close_12 : decode b_Mo_close 12 = .ok (.ifCond .eq 51, 3) := by decide +kernel
theorem d_Mo_close_15 : decode b_Mo_close 15 = .ok (.iconst 0, 1) := by decide +kernel
theorem d_Mo_close_16 : decode b_Mo_close 16 = .ok (.istore_n 2, 1) := by decide +kernel
theorem d_Mo_close_17 : decode b_Mo_close 17 = .ok (.iconst 0, 1) := by decide +kernel
theorem d_Mo_close_18 : decode b_Mo_close 18 = .ok (.istore 4, 2) := by decide +kernel
theorem d_Mo_close_20 : decode b_Mo_close 20 = .ok (.iload 4, 2) := by decide +kernel
theorem d_Mo_close_22 : decode b_Mo_close 22 = .ok (.aload_n 0, 1) := by decide +kernel
theorem d_Mo_close_23 : decode b_Mo_close 23 = .ok (.getfield 32, 3) := by decide +kernel
theorem d_Mo_close_26 : decode b_Mo_close 26 = .ok (.if_icmp .ge 31, 3) := by decide +kernel
theorem d_Mo_close_29 : decode b_Mo_close 29 = .ok (.aload_n 0, 1) := by decide +kernel
theorem d_Mo_close_30 : decode b_Mo_close 30 = .ok (.getfield 25, 3) := by decide +kernel
theorem d_Mo_close_33 : decode b_Mo_close 33 = .ok (.iload 4, 2) := by decide +kernel
theorem d_Mo_close_35 : decode b_Mo_close 35 = .ok (.baload, 1) := by decide +kernel
theorem d_Mo_close_36 : decode b_Mo_close 36 = .ok (.ifCond .eq 15, 3) := by decide +kernel
theorem d_Mo_close_39 : decode b_Mo_close 39 = .ok (.aload_n 0, 1) := by decide +kernel
theorem d_Mo_close_40 : decode b_Mo_close 40 = .ok (.iload 4, 2) := by decide +kernel
theorem d_Mo_close_42 : decode b_Mo_close 42 = .ok (.iload_n 1, 1) := by decide +kernel
theorem d_Mo_close_43 : decode b_Mo_close 43 = .ok (.invokevirtual 58, 3) := by decide +kernel
theorem d_Mo_close_46 : decode b_Mo_close 46 = .ok (.ifCond .eq 5, 3) := by decide +kernel
theorem d_Mo_close_49 : decode b_Mo_close 49 = .ok (.iconst 1, 1) := by decide +kernel
theorem d_Mo_close_50 : decode b_Mo_close 50 = .ok (.istore_n 2, 1) := by decide +kernel
theorem d_Mo_close_51 : decode b_Mo_close 51 = .ok (.iinc 4 1, 3) := by decide +kernel
theorem d_Mo_close_54 : decode b_Mo_close 54 = .ok (.goto (-34), 3) := by decide +kernel
theorem d_Mo_close_57 : decode b_Mo_close 57 = .ok (.iinc 3 1, 3) := by decide +kernel
theorem d_Mo_close_60 : decode b_Mo_close 60 = .ok (.goto (-56), 3) := by decide +kernel
theorem d_Mo_close_63 : decode b_Mo_close 63 = .ok (.iconst 0, 1) := by decide +kernel
theorem d_Mo_close_64 : decode b_Mo_close 64 = .ok (.istore_n 3, 1) := by decide +kernel
theorem d_Mo_close_65 : decode b_Mo_close 65 = .ok (.iconst 0, 1) := by decide +kernel
theorem d_Mo_close_66 : decode b_Mo_close 66 = .ok (.istore 4, 2) := by decide +kernel
theorem d_Mo_close_68 : decode b_Mo_close 68 = .ok (.iload 4, 2) := by decide +kernel
theorem d_Mo_close_70 : decode b_Mo_close 70 = .ok (.aload_n 0, 1) := by decide +kernel
theorem d_Mo_close_71 : decode b_Mo_close 71 = .ok (.getfield 32, 3) := by decide +kernel
theorem d_Mo_close_74 : decode b_Mo_close 74 = .ok (.if_icmp .ge 23, 3) := by decide +kernel
theorem d_Mo_close_77 : decode b_Mo_close 77 = .ok (.aload_n 0, 1) := by decide +kernel
theorem d_Mo_close_78 : decode b_Mo_close 78 = .ok (.getfield 25, 3) := by decide +kernel
theorem d_Mo_close_81 : decode b_Mo_close 81 = .ok (.iload 4, 2) := by decide +kernel
theorem d_Mo_close_83 : decode b_Mo_close 83 = .ok (.baload, 1) := by decide +kernel
theorem d_Mo_close_84 : decode b_Mo_close 84 = .ok (.ifCond .eq 7, 3) := by decide +kernel
theorem d_Mo_close_87 : decode b_Mo_close 87 = .ok (.iload_n 3, 1) := by decide +kernel
theorem d_Mo_close_88 : decode b_Mo_close 88 = .ok (.iconst 1, 1) := by decide +kernel
theorem d_Mo_close_89 : decode b_Mo_close 89 = .ok (.iadd, 1) := by decide +kernel
theorem d_Mo_close_90 : decode b_Mo_close 90 = .ok (.istore_n 3, 1) := by decide +kernel
theorem d_Mo_close_91 : decode b_Mo_close 91 = .ok (.iinc 4 1, 3) := by decide +kernel
theorem d_Mo_close_94 : decode b_Mo_close 94 = .ok (.goto (-26), 3) := by decide +kernel
theorem d_Mo_close_97 : decode b_Mo_close 97 = .ok (.iload_n 3, 1) := by decide +kernel
theorem d_Mo_close_98 : decode b_Mo_close 98 = .ok (.ireturn, 1) := by decide +kernel
theorem d_Mo_wipe_0 : decode b_Mo_wipe 0 = .ok (.iconst 0, 1) := by decide +kernel
theorem d_Mo_wipe_1 : decode b_Mo_wipe 1 = .ok (.istore_n 1, 1) := by decide +kernel
theorem d_Mo_wipe_2 : decode b_Mo_wipe 2 = .ok (.iload_n 1, 1) := by decide +kernel
theorem d_Mo_wipe_3 : decode b_Mo_wipe 3 = .ok (.sipush 160, 3) := by decide +kernel
theorem d_Mo_wipe_6 : decode b_Mo_wipe 6 = .ok (.if_icmp .ge 16, 3) := by decide +kernel
theorem d_Mo_wipe_9 : decode b_Mo_wipe 9 = .ok (.aload_n 0, 1) := by decide +kernel
theorem d_Mo_wipe_10 : decode b_Mo_wipe 10 = .ok (.getfield 25, 3) := by decide +kernel
theorem d_Mo_wipe_13 : decode b_Mo_wipe 13 = .ok (.iload_n 1, 1) := by decide +kernel
theorem d_Mo_wipe_14 : decode b_Mo_wipe 14 = .ok (.iconst 0, 1) := by decide +kernel
theorem d_Mo_wipe_15 : decode b_Mo_wipe 15 = .ok (.bastore, 1) := by decide +kernel
theorem d_Mo_wipe_16 : decode b_Mo_wipe 16 = .ok (.iinc 1 1, 3) := by decide +kernel
theorem d_Mo_wipe_19 : decode b_Mo_wipe 19 = .ok (.goto (-17), 3) := by decide +kernel
theorem d_Mo_wipe_22 : decode b_Mo_wipe 22 = .ok (.return_, 1) := by decide +kernel
theorem d_Mo_reach_0 : decode b_Mo_reach 0 = .ok (.aload_n 0, 1) := by decide +kernel
theorem d_Mo_reach_1 : decode b_Mo_reach 1 = .ok (.invokevirtual 62, 3) := by decide +kernel
theorem d_Mo_reach_4 : decode b_Mo_reach 4 = .ok (.iconst 0, 1) := by decide +kernel
theorem d_Mo_reach_5 : decode b_Mo_reach 5 = .ok (.istore_n 1, 1) := by decide +kernel
theorem d_Mo_reach_6 : decode b_Mo_reach 6 = .ok (.iload_n 1, 1) := by decide +kernel
theorem d_Mo_reach_7 : decode b_Mo_reach 7 = .ok (.aload_n 0, 1) := by decide +kernel
theorem d_Mo_reach_8 : decode b_Mo_reach 8 = .ok (.getfield 40, 3) := by decide +kernel
theorem d_Mo_reach_11 : decode b_Mo_reach 11 = .ok (.if_icmp .ge 21, 3) := by decide +kernel
theorem d_Mo_reach_14 : decode b_Mo_reach 14 = .ok (.aload_n 0, 1) := by decide +kernel
theorem d_Mo_reach_15 : decode b_Mo_reach 15 = .ok (.getfield 25, 3) := by decide +kernel
theorem d_Mo_reach_18 : decode b_Mo_reach 18 = .ok (.aload_n 0, 1) := by decide +kernel
theorem d_Mo_reach_19 : decode b_Mo_reach 19 = .ok (.getfield 13, 3) := by decide +kernel
theorem d_Mo_reach_22 : decode b_Mo_reach 22 = .ok (.iload_n 1, 1) := by decide +kernel
theorem d_Mo_reach_23 : decode b_Mo_reach 23 = .ok (.iaload, 1) := by decide +kernel
theorem d_Mo_reach_24 : decode b_Mo_reach 24 = .ok (.iconst 1, 1) := by decide +kernel
theorem d_Mo_reach_25 : decode b_Mo_reach 25 = .ok (.bastore, 1) := by decide +kernel
theorem d_Mo_reach_26 : decode b_Mo_reach 26 = .ok (.iinc 1 1, 3) := by decide +kernel
theorem d_Mo_reach_29 : decode b_Mo_reach 29 = .ok (.goto (-23), 3) := by decide +kernel
theorem d_Mo_reach_32 : decode b_Mo_reach 32 = .ok (.aload_n 0, 1) := by decide +kernel
theorem d_Mo_reach_33 : decode b_Mo_reach 33 = .ok (.iconst 1, 1) := by decide +kernel
theorem d_Mo_reach_34 : decode b_Mo_reach 34 = .ok (.invokevirtual 65, 3) := by decide +kernel
theorem d_Mo_reach_37 : decode b_Mo_reach 37 = .ok (.ireturn, 1) := by decide +kernel
theorem d_Mo_reached_0 : decode b_Mo_reached 0 = .ok (.aload_n 0, 1) := by decide +kernel
theorem d_Mo_reached_1 : decode b_Mo_reached 1 = .ok (.invokevirtual 69, 3) := by decide +kernel
theorem d_Mo_reached_4 : decode b_Mo_reached 4 = .ok (.istore_n 2, 1) := by decide +kernel
theorem d_Mo_reached_5 : decode b_Mo_reached 5 = .ok (.iload_n 2, 1) := by decide +kernel
theorem d_Mo_reached_6 : decode b_Mo_reached 6 = .ok (.ifCond .le 24, 3) := by decide +kernel
theorem d_Mo_reached_9 : decode b_Mo_reached 9 = .ok (.aload_n 0, 1) := by decide +kernel
theorem d_Mo_reached_10 : decode b_Mo_reached 10 = .ok (.iload_n 1, 1) := by decide +kernel
theorem d_Mo_reached_11 : decode b_Mo_reached 11 = .ok (.invokevirtual 36, 3) := by decide +kernel
theorem d_Mo_reached_14 : decode b_Mo_reached 14 = .ok (.ifCond .eq 16, 3) := by decide +kernel
theorem d_Mo_reached_17 : decode b_Mo_reached 17 = .ok (.aload_n 0, 1) := by decide +kernel
theorem d_Mo_reached_18 : decode b_Mo_reached 18 = .ok (.getfield 25, 3) := by decide +kernel
theorem d_Mo_reached_21 : decode b_Mo_reached 21 = .ok (.iload_n 1, 1) := by decide +kernel
theorem d_Mo_reached_22 : decode b_Mo_reached 22 = .ok (.baload, 1) := by decide +kernel
theorem d_Mo_reached_23 : decode b_Mo_reached 23 = .ok (.ifCond .eq 7, 3) := by decide +kernel
theorem d_Mo_reached_26 : decode b_Mo_reached 26 = .ok (.iconst 1, 1) := by decide +kernel
theorem d_Mo_reached_27 : decode b_Mo_reached 27 = .ok (.goto 4, 3) := by decide +kernel
theorem d_Mo_reached_30 : decode b_Mo_reached 30 = .ok (.iconst 0, 1) := by decide +kernel
theorem d_Mo_reached_31 : decode b_Mo_reached 31 = .ok (.ireturn, 1) := by decide +kernel
theorem d_Mo_body_0 : decode b_Mo_body 0 = .ok (.aload_n 0, 1) := by decide +kernel
theorem d_Mo_body_1 : decode b_Mo_body 1 = .ok (.iload_n 1, 1) := by decide +kernel
theorem d_Mo_body_2 : decode b_Mo_body 2 = .ok (.invokevirtual 36, 3) := by decide +kernel
theorem d_Mo_body_5 : decode b_Mo_body 5 = .ok (.ifCond .ne 5, 3) := by decide +kernel
theorem d_Mo_body_8 : decode b_Mo_body 8 = .ok (.iconst 0, 1) := by decide +kernel
theorem d_Mo_body_9 : decode b_Mo_body 9 = .ok (.ireturn, 1) := by decide +kernel
theorem d_Mo_body_10 : decode b_Mo_body 10 = .ok (.aload_n 0, 1) := by decide +kernel
theorem d_Mo_body_11 : decode b_Mo_body 11 = .ok (.invokevirtual 62, 3) := by decide +kernel
theorem d_Mo_body_14 : decode b_Mo_body 14 = .ok (.aload_n 0, 1) := by decide +kernel
theorem d_Mo_body_15 : decode b_Mo_body 15 = .ok (.getfield 25, 3) := by decide +kernel
theorem d_Mo_body_18 : decode b_Mo_body 18 = .ok (.iload_n 1, 1) := by decide +kernel
theorem d_Mo_body_19 : decode b_Mo_body 19 = .ok (.iconst 1, 1) := by decide +kernel
theorem d_Mo_body_20 : decode b_Mo_body 20 = .ok (.bastore, 1) := by decide +kernel
theorem d_Mo_body_21 : decode b_Mo_body 21 = .ok (.aload_n 0, 1) := by decide +kernel
theorem d_Mo_body_22 : decode b_Mo_body 22 = .ok (.iconst 0, 1) := by decide +kernel
theorem d_Mo_body_23 : decode b_Mo_body 23 = .ok (.invokevirtual 65, 3) := by decide +kernel
theorem d_Mo_body_26 : decode b_Mo_body 26 = .ok (.ireturn, 1) := by decide +kernel
theorem d_Mo_sweep_0 : decode b_Mo_sweep 0 = .ok (.iconst 0, 1) := by decide +kernel
theorem d_Mo_sweep_1 : decode b_Mo_sweep 1 = .ok (.istore_n 1, 1) := by decide +kernel
theorem d_Mo_sweep_2 : decode b_Mo_sweep 2 = .ok (.iconst 0, 1) := by decide +kernel
theorem d_Mo_sweep_3 : decode b_Mo_sweep 3 = .ok (.istore_n 2, 1) := by decide +kernel
theorem d_Mo_sweep_4 : decode b_Mo_sweep 4 = .ok (.iconst 0, 1) := by decide +kernel
theorem d_Mo_sweep_5 : decode b_Mo_sweep 5 = .ok (.istore_n 3, 1) := by decide +kernel
theorem d_Mo_sweep_6 : decode b_Mo_sweep 6 = .ok (.iload_n 3, 1) := by decide +kernel
theorem d_Mo_sweep_7 : decode b_Mo_sweep 7 = .ok (.aload_n 0, 1) := by decide +kernel
theorem d_Mo_sweep_8 : decode b_Mo_sweep 8 = .ok (.getfield 32, 3) := by decide +kernel
theorem d_Mo_sweep_11 : decode b_Mo_sweep 11 = .ok (.if_icmp .ge 40, 3) := by decide +kernel
theorem d_Mo_sweep_14 : decode b_Mo_sweep 14 = .ok (.iload_n 2, 1) := by decide +kernel
theorem d_Mo_sweep_15 : decode b_Mo_sweep 15 = .ok (.ifCond .le 10, 3) := by decide +kernel
theorem d_Mo_sweep_18 : decode b_Mo_sweep 18 = .ok (.iload_n 2, 1) := by decide +kernel
theorem d_Mo_sweep_19 : decode b_Mo_sweep 19 = .ok (.iconst 1, 1) := by decide +kernel
theorem d_Mo_sweep_20 : decode b_Mo_sweep 20 = .ok (.isub, 1) := by decide +kernel
theorem d_Mo_sweep_21 : decode b_Mo_sweep 21 = .ok (.istore_n 2, 1) := by decide +kernel
theorem d_Mo_sweep_22 : decode b_Mo_sweep 22 = .ok (.goto 23, 3) := by decide +kernel
theorem d_Mo_sweep_25 : decode b_Mo_sweep 25 = .ok (.aload_n 0, 1) := by decide +kernel
theorem d_Mo_sweep_26 : decode b_Mo_sweep 26 = .ok (.iload_n 3, 1) := by decide +kernel
theorem d_Mo_sweep_27 : decode b_Mo_sweep 27 = .ok (.invokevirtual 53, 3) := by decide +kernel
theorem d_Mo_sweep_30 : decode b_Mo_sweep 30 = .ok (.ifCond .le 15, 3) := by decide +kernel
theorem d_Mo_sweep_33 : decode b_Mo_sweep 33 = .ok (.iload_n 1, 1) := by decide +kernel
theorem d_Mo_sweep_34 : decode b_Mo_sweep 34 = .ok (.iconst 1, 1) := by decide +kernel
theorem d_Mo_sweep_35 : decode b_Mo_sweep 35 = .ok (.iadd, 1) := by decide +kernel
theorem d_Mo_sweep_36 : decode b_Mo_sweep 36 = .ok (.istore_n 1, 1) := by decide +kernel
theorem d_Mo_sweep_37 : decode b_Mo_sweep 37 = .ok (.aload_n 0, 1) := by decide +kernel
theorem d_Mo_sweep_38 : decode b_Mo_sweep 38 = .ok (.iload_n 3, 1) := by decide +kernel
theorem d_Mo_sweep_39 : decode b_Mo_sweep 39 = .ok (.invokevirtual 53, 3) := by decide +kernel
theorem d_Mo_sweep_42 : decode b_Mo_sweep 42 = .ok (.iconst 1, 1) := by decide +kernel
theorem d_Mo_sweep_43 : decode b_Mo_sweep 43 = .ok (.isub, 1) := by decide +kernel
theorem d_Mo_sweep_44 : decode b_Mo_sweep 44 = .ok (.istore_n 2, 1) := by decide +kernel
theorem d_Mo_sweep_45 : decode b_Mo_sweep 45 = .ok (.iinc 3 1, 3) := by decide +kernel
theorem d_Mo_sweep_48 : decode b_Mo_sweep 48 = .ok (.goto (-42), 3) := by decide +kernel
theorem d_Mo_sweep_51 : decode b_Mo_sweep 51 = .ok (.iload_n 1, 1) := by decide +kernel
theorem d_Mo_sweep_52 : decode b_Mo_sweep 52 = .ok (.ireturn, 1) := by decide +kernel
theorem d_Mo_put_0 : decode b_Mo_put 0 = .ok (.aload_n 0, 1) := by decide +kernel
theorem d_Mo_put_1 : decode b_Mo_put 1 = .ok (.getfield 29, 3) := by decide +kernel
theorem d_Mo_put_4 : decode b_Mo_put 4 = .ok (.aload_n 0, 1) := by decide +kernel
theorem d_Mo_put_5 : decode b_Mo_put 5 = .ok (.getfield 73, 3) := by decide +kernel
theorem d_Mo_put_8 : decode b_Mo_put 8 = .ok (.iload_n 1, 1) := by decide +kernel
theorem d_Mo_put_9 : decode b_Mo_put 9 = .ok (.iastore, 1) := by decide +kernel
theorem d_Mo_put_10 : decode b_Mo_put 10 = .ok (.aload_n 0, 1) := by decide +kernel
theorem d_Mo_put_11 : decode b_Mo_put 11 = .ok (.aload_n 0, 1) := by decide +kernel
theorem d_Mo_put_12 : decode b_Mo_put 12 = .ok (.getfield 73, 3) := by decide +kernel
theorem d_Mo_put_15 : decode b_Mo_put 15 = .ok (.iconst 1, 1) := by decide +kernel
theorem d_Mo_put_16 : decode b_Mo_put 16 = .ok (.iadd, 1) := by decide +kernel
theorem d_Mo_put_17 : decode b_Mo_put 17 = .ok (.putfield 73, 3) := by decide +kernel
theorem d_Mo_put_20 : decode b_Mo_put 20 = .ok (.return_, 1) := by decide +kernel
theorem d_Mo_name_0 : decode b_Mo_name 0 = .ok (.aload_n 0, 1) := by decide +kernel
theorem d_Mo_name_1 : decode b_Mo_name 1 = .ok (.iload_n 1, 1) := by decide +kernel
theorem d_Mo_name_2 : decode b_Mo_name 2 = .ok (.invokevirtual 76, 3) := by decide +kernel
theorem d_Mo_name_5 : decode b_Mo_name 5 = .ok (.aload_n 0, 1) := by decide +kernel
theorem d_Mo_name_6 : decode b_Mo_name 6 = .ok (.iload_n 2, 1) := by decide +kernel
theorem d_Mo_name_7 : decode b_Mo_name 7 = .ok (.invokevirtual 76, 3) := by decide +kernel
theorem d_Mo_name_10 : decode b_Mo_name 10 = .ok (.iload_n 3, 1) := by decide +kernel
theorem d_Mo_name_11 : decode b_Mo_name 11 = .ok (.ifCond .le 8, 3) := by decide +kernel
theorem d_Mo_name_14 : decode b_Mo_name 14 = .ok (.aload_n 0, 1) := by decide +kernel
theorem d_Mo_name_15 : decode b_Mo_name 15 = .ok (.iload_n 3, 1) := by decide +kernel
theorem d_Mo_name_16 : decode b_Mo_name 16 = .ok (.invokevirtual 76, 3) := by decide +kernel
theorem d_Mo_name_19 : decode b_Mo_name 19 = .ok (.return_, 1) := by decide +kernel
theorem d_Mo_number_0 : decode b_Mo_number 0 = .ok (.iload_n 1, 1) := by decide +kernel
theorem d_Mo_number_1 : decode b_Mo_number 1 = .ok (.ifCond .ge 8, 3) := by decide +kernel
theorem d_Mo_number_4 : decode b_Mo_number 4 = .ok (.iload_n 1, 1) := by decide +kernel
theorem d_Mo_number_5 : decode b_Mo_number 5 = .ok (.ineg, 1) := by decide +kernel
theorem d_Mo_number_6 : decode b_Mo_number 6 = .ok (.goto 4, 3) := by decide +kernel
theorem d_Mo_number_9 : decode b_Mo_number 9 = .ok (.iload_n 1, 1) := by decide +kernel
theorem d_Mo_number_10 : decode b_Mo_number 10 = .ok (.istore_n 2, 1) := by decide +kernel
theorem d_Mo_number_11 : decode b_Mo_number 11 = .ok (.iload_n 1, 1) := by decide +kernel
theorem d_Mo_number_12 : decode b_Mo_number 12 = .ok (.ifCond .ge 9, 3) := by decide +kernel
theorem d_Mo_number_15 : decode b_Mo_number 15 = .ok (.aload_n 0, 1) := by decide +kernel
theorem d_Mo_number_16 : decode b_Mo_number 16 = .ok (.bipush 45, 2) := by decide +kernel
theorem d_Mo_number_18 : decode b_Mo_number 18 = .ok (.invokevirtual 76, 3) := by decide +kernel
theorem d_Mo_number_21 : decode b_Mo_number 21 = .ok (.iload_n 2, 1) := by decide +kernel
theorem d_Mo_number_22 : decode b_Mo_number 22 = .ok (.sipush 9999, 3) := by decide +kernel
theorem d_Mo_number_25 : decode b_Mo_number 25 = .ok (.if_icmp .le 15, 3) := by decide +kernel
theorem d_Mo_number_28 : decode b_Mo_number 28 = .ok (.aload_n 0, 1) := by decide +kernel
theorem d_Mo_number_29 : decode b_Mo_number 29 = .ok (.bipush 48, 2) := by decide +kernel
theorem d_Mo_number_31 : decode b_Mo_number 31 = .ok (.iload_n 2, 1) := by decide +kernel
theorem d_Mo_number_32 : decode b_Mo_number 32 = .ok (.sipush 10000, 3) := by decide +kernel
theorem d_Mo_number_35 : decode b_Mo_number 35 = .ok (.idiv, 1) := by decide +kernel
theorem d_Mo_number_36 : decode b_Mo_number 36 = .ok (.iadd, 1) := by decide +kernel
theorem d_Mo_number_37 : decode b_Mo_number 37 = .ok (.invokevirtual 76, 3) := by decide +kernel
theorem d_Mo_number_40 : decode b_Mo_number 40 = .ok (.iload_n 2, 1) := by decide +kernel
theorem d_Mo_number_41 : decode b_Mo_number 41 = .ok (.sipush 999, 3) := by decide +kernel
theorem d_Mo_number_44 : decode b_Mo_number 44 = .ok (.if_icmp .le 18, 3) := by decide +kernel
theorem d_Mo_number_47 : decode b_Mo_number 47 = .ok (.aload_n 0, 1) := by decide +kernel
theorem d_Mo_number_48 : decode b_Mo_number 48 = .ok (.bipush 48, 2) := by decide +kernel
theorem d_Mo_number_50 : decode b_Mo_number 50 = .ok (.iload_n 2, 1) := by decide +kernel
theorem d_Mo_number_51 : decode b_Mo_number 51 = .ok (.sipush 1000, 3) := by decide +kernel
theorem d_Mo_number_54 : decode b_Mo_number 54 = .ok (.idiv, 1) := by decide +kernel
theorem d_Mo_number_55 : decode b_Mo_number 55 = .ok (.bipush 10, 2) := by decide +kernel
theorem d_Mo_number_57 : decode b_Mo_number 57 = .ok (.irem, 1) := by decide +kernel
end
section
theorem d_Mo_number_58 : decode b_Mo_number 58 = .ok (.iadd, 1) := by decide +kernel
theorem d_Mo_number_59 : decode b_Mo_number 59 = .ok (.invokevirtual 76, 3) := by decide +kernel
theorem d_Mo_number_62 : decode b_Mo_number 62 = .ok (.iload_n 2, 1) := by decide +kernel
theorem d_Mo_number_63 : decode b_Mo_number 63 = .ok (.bipush 99, 2) := by decide +kernel
theorem d_Mo_number_65 : decode b_Mo_number 65 = .ok (.if_icmp .le 17, 3) := by decide +kernel
theorem d_Mo_number_68 : decode b_Mo_number 68 = .ok (.aload_n 0, 1) := by decide +kernel
theorem d_Mo_number_69 : decode b_Mo_number 69 = .ok (.bipush 48, 2) := by decide +kernel
theorem d_Mo_number_71 : decode b_Mo_number 71 = .ok (.iload_n 2, 1) := by decide +kernel
theorem d_Mo_number_72 : decode b_Mo_number 72 = .ok (.bipush 100, 2) := by decide +kernel
theorem d_Mo_number_74 : decode b_Mo_number 74 = .ok (.idiv, 1) := by decide +kernel
theorem d_Mo_number_75 : decode b_Mo_number 75 = .ok (.bipush 10, 2) := by decide +kernel
theorem d_Mo_number_77 : decode b_Mo_number 77 = .ok (.irem, 1) := by decide +kernel
theorem d_Mo_number_78 : decode b_Mo_number 78 = .ok (.iadd, 1) := by decide +kernel
theorem d_Mo_number_79 : decode b_Mo_number 79 = .ok (.invokevirtual 76, 3) := by decide +kernel
theorem d_Mo_number_82 : decode b_Mo_number 82 = .ok (.iload_n 2, 1) := by decide +kernel
theorem d_Mo_number_83 : decode b_Mo_number 83 = .ok (.bipush 9, 2) := by decide +kernel
theorem d_Mo_number_85 : decode b_Mo_number 85 = .ok (.if_icmp .le 17, 3) := by decide +kernel
theorem d_Mo_number_88 : decode b_Mo_number 88 = .ok (.aload_n 0, 1) := by decide +kernel
theorem d_Mo_number_89 : decode b_Mo_number 89 = .ok (.bipush 48, 2) := by decide +kernel
theorem d_Mo_number_91 : decode b_Mo_number 91 = .ok (.iload_n 2, 1) := by decide +kernel
theorem d_Mo_number_92 : decode b_Mo_number 92 = .ok (.bipush 10, 2) := by decide +kernel
theorem d_Mo_number_94 : decode b_Mo_number 94 = .ok (.idiv, 1) := by decide +kernel
theorem d_Mo_number_95 : decode b_Mo_number 95 = .ok (.bipush 10, 2) := by decide +kernel
theorem d_Mo_number_97 : decode b_Mo_number 97 = .ok (.irem, 1) := by decide +kernel
theorem d_Mo_number_98 : decode b_Mo_number 98 = .ok (.iadd, 1) := by decide +kernel
theorem d_Mo_number_99 : decode b_Mo_number 99 = .ok (.invokevirtual 76, 3) := by decide +kernel
theorem d_Mo_number_102 : decode b_Mo_number 102 = .ok (.aload_n 0, 1) := by decide +kernel
theorem d_Mo_number_103 : decode b_Mo_number 103 = .ok (.bipush 48, 2) := by decide +kernel
theorem d_Mo_number_105 : decode b_Mo_number 105 = .ok (.iload_n 2, 1) := by decide +kernel
theorem d_Mo_number_106 : decode b_Mo_number 106 = .ok (.bipush 10, 2) := by decide +kernel
theorem d_Mo_number_108 : decode b_Mo_number 108 = .ok (.irem, 1) := by decide +kernel
theorem d_Mo_number_109 : decode b_Mo_number 109 = .ok (.iadd, 1) := by decide +kernel
theorem d_Mo_number_110 : decode b_Mo_number 110 = .ok (.invokevirtual 76, 3) := by decide +kernel
theorem d_Mo_number_113 : decode b_Mo_number 113 = .ok (.return_, 1) := by decide +kernel
theorem d_Mo_register_0 : decode b_Mo_register 0 = .ok (.aload_n 0, 1) := by decide +kernel
theorem d_Mo_register_1 : decode b_Mo_register 1 = .ok (.bipush 114, 2) := by decide +kernel
theorem d_Mo_register_3 : decode b_Mo_register 3 = .ok (.invokevirtual 76, 3) := by decide +kernel
theorem d_Mo_register_6 : decode b_Mo_register 6 = .ok (.aload_n 0, 1) := by decide +kernel
theorem d_Mo_register_7 : decode b_Mo_register 7 = .ok (.bipush 48, 2) := by decide +kernel
theorem d_Mo_register_9 : decode b_Mo_register 9 = .ok (.iload_n 1, 1) := by decide +kernel
theorem d_Mo_register_10 : decode b_Mo_register 10 = .ok (.iadd, 1) := by decide +kernel
theorem d_Mo_register_11 : decode b_Mo_register 11 = .ok (.invokevirtual 76, 3) := by decide +kernel
theorem d_Mo_register_14 : decode b_Mo_register 14 = .ok (.return_, 1) := by decide +kernel
theorem d_Mo_front_0 : decode b_Mo_front 0 = .ok (.aload_n 0, 1) := by decide +kernel
theorem d_Mo_front_1 : decode b_Mo_front 1 = .ok (.iconst 0, 1) := by decide +kernel
theorem d_Mo_front_2 : decode b_Mo_front 2 = .ok (.putfield 73, 3) := by decide +kernel
theorem d_Mo_front_5 : decode b_Mo_front 5 = .ok (.iload_n 1, 1) := by decide +kernel
theorem d_Mo_front_6 : decode b_Mo_front 6 = .ok (.bipush 16, 2) := by decide +kernel
theorem d_Mo_front_8 : decode b_Mo_front 8 = .ok (.idiv, 1) := by decide +kernel
theorem d_Mo_front_9 : decode b_Mo_front 9 = .ok (.istore_n 2, 1) := by decide +kernel
theorem d_Mo_front_10 : decode b_Mo_front 10 = .ok (.iload_n 2, 1) := by decide +kernel
theorem d_Mo_front_11 : decode b_Mo_front 11 = .ok (.ifCond .ne 59, 3) := by decide +kernel
theorem d_Mo_front_14 : decode b_Mo_front 14 = .ok (.iload_n 1, 1) := by decide +kernel
theorem d_Mo_front_15 : decode b_Mo_front 15 = .ok (.ifCond .ne 13, 3) := by decide +kernel
theorem d_Mo_front_18 : decode b_Mo_front 18 = .ok (.aload_n 0, 1) := by decide +kernel
theorem d_Mo_front_19 : decode b_Mo_front 19 = .ok (.bipush 78, 2) := by decide +kernel
theorem d_Mo_front_21 : decode b_Mo_front 21 = .ok (.bipush 79, 2) := by decide +kernel
theorem d_Mo_front_23 : decode b_Mo_front 23 = .ok (.bipush 80, 2) := by decide +kernel
theorem d_Mo_front_25 : decode b_Mo_front 25 = .ok (.invokevirtual 80, 3) := by decide +kernel
theorem d_Mo_front_28 : decode b_Mo_front 28 = .ok (.iload_n 1, 1) := by decide +kernel
theorem d_Mo_front_29 : decode b_Mo_front 29 = .ok (.iconst 1, 1) := by decide +kernel
theorem d_Mo_front_30 : decode b_Mo_front 30 = .ok (.if_icmp .ne 13, 3) := by decide +kernel
theorem d_Mo_front_33 : decode b_Mo_front 33 = .ok (.aload_n 0, 1) := by decide +kernel
theorem d_Mo_front_34 : decode b_Mo_front 34 = .ok (.bipush 72, 2) := by decide +kernel
theorem d_Mo_front_36 : decode b_Mo_front 36 = .ok (.bipush 65, 2) := by decide +kernel
theorem d_Mo_front_38 : decode b_Mo_front 38 = .ok (.bipush 76, 2) := by decide +kernel
theorem d_Mo_front_40 : decode b_Mo_front 40 = .ok (.invokevirtual 80, 3) := by decide +kernel
theorem d_Mo_front_43 : decode b_Mo_front 43 = .ok (.iload_n 1, 1) := by decide +kernel
theorem d_Mo_front_44 : decode b_Mo_front 44 = .ok (.iconst 1, 1) := by decide +kernel
theorem d_Mo_front_45 : decode b_Mo_front 45 = .ok (.if_icmp .ne 9, 3) := by decide +kernel
theorem d_Mo_front_48 : decode b_Mo_front 48 = .ok (.aload_n 0, 1) := by decide +kernel
theorem d_Mo_front_49 : decode b_Mo_front 49 = .ok (.bipush 84, 2) := by decide +kernel
theorem d_Mo_front_51 : decode b_Mo_front 51 = .ok (.invokevirtual 76, 3) := by decide +kernel
theorem d_Mo_front_54 : decode b_Mo_front 54 = .ok (.iload_n 1, 1) := by decide +kernel
theorem d_Mo_front_55 : decode b_Mo_front 55 = .ok (.iconst 2, 1) := by decide +kernel
theorem d_Mo_front_56 : decode b_Mo_front 56 = .ok (.if_icmp .ne 13, 3) := by decide +kernel
theorem d_Mo_front_59 : decode b_Mo_front 59 = .ok (.aload_n 0, 1) := by decide +kernel
theorem d_Mo_front_60 : decode b_Mo_front 60 = .ok (.bipush 82, 2) := by decide +kernel
theorem d_Mo_front_62 : decode b_Mo_front 62 = .ok (.bipush 69, 2) := by decide +kernel
theorem d_Mo_front_64 : decode b_Mo_front 64 = .ok (.bipush 84, 2) := by decide +kernel
theorem d_Mo_front_66 : decode b_Mo_front 66 = .ok (.invokevirtual 80, 3) := by decide +kernel
theorem d_Mo_front_69 : decode b_Mo_front 69 = .ok (.return_, 1) := by decide +kernel
theorem d_Mo_front_70 : decode b_Mo_front 70 = .ok (.iload_n 2, 1) := by decide +kernel
theorem d_Mo_front_71 : decode b_Mo_front 71 = .ok (.iconst 1, 1) := by decide +kernel
theorem d_Mo_front_72 : decode b_Mo_front 72 = .ok (.if_icmp .ne 13, 3) := by decide +kernel
theorem d_Mo_front_75 : decode b_Mo_front 75 = .ok (.aload_n 0, 1) := by decide +kernel
theorem d_Mo_front_76 : decode b_Mo_front 76 = .ok (.bipush 73, 2) := by decide +kernel
theorem d_Mo_front_78 : decode b_Mo_front 78 = .ok (.bipush 78, 2) := by decide +kernel
theorem d_Mo_front_80 : decode b_Mo_front 80 = .ok (.bipush 67, 2) := by decide +kernel
theorem d_Mo_front_82 : decode b_Mo_front 82 = .ok (.invokevirtual 80, 3) := by decide +kernel
theorem d_Mo_front_85 : decode b_Mo_front 85 = .ok (.iload_n 2, 1) := by decide +kernel
theorem d_Mo_front_86 : decode b_Mo_front 86 = .ok (.iconst 2, 1) := by decide +kernel
theorem d_Mo_front_87 : decode b_Mo_front 87 = .ok (.if_icmp .ne 13, 3) := by decide +kernel
theorem d_Mo_front_90 : decode b_Mo_front 90 = .ok (.aload_n 0, 1) := by decide +kernel
theorem d_Mo_front_91 : decode b_Mo_front 91 = .ok (.bipush 76, 2) := by decide +kernel
theorem d_Mo_front_93 : decode b_Mo_front 93 = .ok (.bipush 68, 2) := by decide +kernel
theorem d_Mo_front_95 : decode b_Mo_front 95 = .ok (.bipush 73, 2) := by decide +kernel
theorem d_Mo_front_97 : decode b_Mo_front 97 = .ok (.invokevirtual 80, 3) := by decide +kernel
theorem d_Mo_front_100 : decode b_Mo_front 100 = .ok (.iload_n 2, 1) := by decide +kernel
theorem d_Mo_front_101 : decode b_Mo_front 101 = .ok (.iconst 3, 1) := by decide +kernel
theorem d_Mo_front_102 : decode b_Mo_front 102 = .ok (.if_icmp .ne 13, 3) := by decide +kernel
theorem d_Mo_front_105 : decode b_Mo_front 105 = .ok (.aload_n 0, 1) := by decide +kernel
theorem d_Mo_front_106 : decode b_Mo_front 106 = .ok (.bipush 77, 2) := by decide +kernel
theorem d_Mo_front_108 : decode b_Mo_front 108 = .ok (.bipush 79, 2) := by decide +kernel
theorem d_Mo_front_110 : decode b_Mo_front 110 = .ok (.bipush 86, 2) := by decide +kernel
theorem d_Mo_front_112 : decode b_Mo_front 112 = .ok (.invokevirtual 80, 3) := by decide +kernel
theorem d_Mo_front_115 : decode b_Mo_front 115 = .ok (.iload_n 2, 1) := by decide +kernel
theorem d_Mo_front_116 : decode b_Mo_front 116 = .ok (.iconst 4, 1) := by decide +kernel
theorem d_Mo_front_117 : decode b_Mo_front 117 = .ok (.if_icmp .ne 13, 3) := by decide +kernel
theorem d_Mo_front_120 : decode b_Mo_front 120 = .ok (.aload_n 0, 1) := by decide +kernel
theorem d_Mo_front_121 : decode b_Mo_front 121 = .ok (.bipush 65, 2) := by decide +kernel
theorem d_Mo_front_123 : decode b_Mo_front 123 = .ok (.bipush 68, 2) := by decide +kernel
theorem d_Mo_front_125 : decode b_Mo_front 125 = .ok (.bipush 68, 2) := by decide +kernel
theorem d_Mo_front_127 : decode b_Mo_front 127 = .ok (.invokevirtual 80, 3) := by decide +kernel
theorem d_Mo_front_130 : decode b_Mo_front 130 = .ok (.iload_n 1, 1) := by decide +kernel
theorem d_Mo_front_131 : decode b_Mo_front 131 = .ok (.bipush 80, 2) := by decide +kernel
theorem d_Mo_front_133 : decode b_Mo_front 133 = .ok (.if_icmp .ne 13, 3) := by decide +kernel
theorem d_Mo_front_136 : decode b_Mo_front 136 = .ok (.aload_n 0, 1) := by decide +kernel
theorem d_Mo_front_137 : decode b_Mo_front 137 = .ok (.bipush 74, 2) := by decide +kernel
theorem d_Mo_front_139 : decode b_Mo_front 139 = .ok (.bipush 77, 2) := by decide +kernel
theorem d_Mo_front_141 : decode b_Mo_front 141 = .ok (.bipush 80, 2) := by decide +kernel
theorem d_Mo_front_143 : decode b_Mo_front 143 = .ok (.invokevirtual 80, 3) := by decide +kernel
theorem d_Mo_front_146 : decode b_Mo_front 146 = .ok (.iload_n 1, 1) := by decide +kernel
theorem d_Mo_front_147 : decode b_Mo_front 147 = .ok (.bipush 81, 2) := by decide +kernel
theorem d_Mo_front_149 : decode b_Mo_front 149 = .ok (.if_icmp .ne 13, 3) := by decide +kernel
theorem d_Mo_front_152 : decode b_Mo_front 152 = .ok (.aload_n 0, 1) := by decide +kernel
theorem d_Mo_front_153 : decode b_Mo_front 153 = .ok (.bipush 67, 2) := by decide +kernel
theorem d_Mo_front_155 : decode b_Mo_front 155 = .ok (.bipush 65, 2) := by decide +kernel
theorem d_Mo_front_157 : decode b_Mo_front 157 = .ok (.bipush 76, 2) := by decide +kernel
theorem d_Mo_front_159 : decode b_Mo_front 159 = .ok (.invokevirtual 80, 3) := by decide +kernel
theorem d_Mo_front_162 : decode b_Mo_front 162 = .ok (.iload_n 1, 1) := by decide +kernel
theorem d_Mo_front_163 : decode b_Mo_front 163 = .ok (.bipush 81, 2) := by decide +kernel
theorem d_Mo_front_165 : decode b_Mo_front 165 = .ok (.if_icmp .ne 9, 3) := by decide +kernel
theorem d_Mo_front_168 : decode b_Mo_front 168 = .ok (.aload_n 0, 1) := by decide +kernel
theorem d_Mo_front_169 : decode b_Mo_front 169 = .ok (.bipush 76, 2) := by decide +kernel
theorem d_Mo_front_171 : decode b_Mo_front 171 = .ok (.invokevirtual 76, 3) := by decide +kernel
theorem d_Mo_front_174 : decode b_Mo_front 174 = .ok (.iload_n 1, 1) := by decide +kernel
theorem d_Mo_front_175 : decode b_Mo_front 175 = .ok (.bipush 82, 2) := by decide +kernel
theorem d_Mo_front_177 : decode b_Mo_front 177 = .ok (.if_icmp .lt 18, 3) := by decide +kernel
theorem d_Mo_front_180 : decode b_Mo_front 180 = .ok (.iload_n 1, 1) := by decide +kernel
theorem d_Mo_front_181 : decode b_Mo_front 181 = .ok (.bipush 85, 2) := by decide +kernel
theorem d_Mo_front_183 : decode b_Mo_front 183 = .ok (.if_icmp .gt 12, 3) := by decide +kernel
theorem d_Mo_front_186 : decode b_Mo_front 186 = .ok (.aload_n 0, 1) := by decide +kernel
theorem d_Mo_front_187 : decode b_Mo_front 187 = .ok (.bipush 74, 2) := by decide +kernel
theorem d_Mo_front_189 : decode b_Mo_front 189 = .ok (.bipush 90, 2) := by decide +kernel
theorem d_Mo_front_191 : decode b_Mo_front 191 = .ok (.iconst 0, 1) := by decide +kernel
theorem d_Mo_front_192 : decode b_Mo_front 192 = .ok (.invokevirtual 80, 3) := by decide +kernel
theorem d_Mo_front_195 : decode b_Mo_front 195 = .ok (.iload_n 2, 1) := by decide +kernel
theorem d_Mo_front_196 : decode b_Mo_front 196 = .ok (.bipush 6, 2) := by decide +kernel
theorem d_Mo_front_198 : decode b_Mo_front 198 = .ok (.if_icmp .ne 13, 3) := by decide +kernel
theorem d_Mo_front_201 : decode b_Mo_front 201 = .ok (.aload_n 0, 1) := by decide +kernel
theorem d_Mo_front_202 : decode b_Mo_front 202 = .ok (.bipush 66, 2) := by decide +kernel
theorem d_Mo_front_204 : decode b_Mo_front 204 = .ok (.bipush 78, 2) := by decide +kernel
theorem d_Mo_front_206 : decode b_Mo_front 206 = .ok (.bipush 90, 2) := by decide +kernel
theorem d_Mo_front_208 : decode b_Mo_front 208 = .ok (.invokevirtual 80, 3) := by decide +kernel
theorem d_Mo_front_211 : decode b_Mo_front 211 = .ok (.iload_n 1, 1) := by decide +kernel
theorem d_Mo_front_212 : decode b_Mo_front 212 = .ok (.bipush 112, 2) := by decide +kernel
theorem d_Mo_front_214 : decode b_Mo_front 214 = .ok (.if_icmp .lt 18, 3) := by decide +kernel
theorem d_Mo_front_217 : decode b_Mo_front 217 = .ok (.iload_n 1, 1) := by decide +kernel
theorem d_Mo_front_218 : decode b_Mo_front 218 = .ok (.bipush 115, 2) := by decide +kernel
theorem d_Mo_front_220 : decode b_Mo_front 220 = .ok (.if_icmp .gt 12, 3) := by decide +kernel
theorem d_Mo_front_223 : decode b_Mo_front 223 = .ok (.aload_n 0, 1) := by decide +kernel
theorem d_Mo_front_224 : decode b_Mo_front 224 = .ok (.bipush 76, 2) := by decide +kernel
theorem d_Mo_front_226 : decode b_Mo_front 226 = .ok (.bipush 68, 2) := by decide +kernel
theorem d_Mo_front_228 : decode b_Mo_front 228 = .ok (.iconst 0, 1) := by decide +kernel
theorem d_Mo_front_229 : decode b_Mo_front 229 = .ok (.invokevirtual 80, 3) := by decide +kernel
theorem d_Mo_front_232 : decode b_Mo_front 232 = .ok (.iload_n 1, 1) := by decide +kernel
theorem d_Mo_front_233 : decode b_Mo_front 233 = .ok (.bipush 116, 2) := by decide +kernel
theorem d_Mo_front_235 : decode b_Mo_front 235 = .ok (.if_icmp .lt 12, 3) := by decide +kernel
theorem d_Mo_front_238 : decode b_Mo_front 238 = .ok (.aload_n 0, 1) := by decide +kernel
theorem d_Mo_front_239 : decode b_Mo_front 239 = .ok (.bipush 83, 2) := by decide +kernel
theorem d_Mo_front_241 : decode b_Mo_front 241 = .ok (.bipush 84, 2) := by decide +kernel
theorem d_Mo_front_243 : decode b_Mo_front 243 = .ok (.iconst 0, 1) := by decide +kernel
theorem d_Mo_front_244 : decode b_Mo_front 244 = .ok (.invokevirtual 80, 3) := by decide +kernel
theorem d_Mo_front_247 : decode b_Mo_front 247 = .ok (.aload_n 0, 1) := by decide +kernel
theorem d_Mo_front_248 : decode b_Mo_front 248 = .ok (.bipush 32, 2) := by decide +kernel
theorem d_Mo_front_250 : decode b_Mo_front 250 = .ok (.invokevirtual 76, 3) := by decide +kernel
theorem d_Mo_front_253 : decode b_Mo_front 253 = .ok (.iload_n 2, 1) := by decide +kernel
theorem d_Mo_front_254 : decode b_Mo_front 254 = .ok (.iconst 3, 1) := by decide +kernel
theorem d_Mo_front_255 : decode b_Mo_front 255 = .ok (.if_icmp .eq 8, 3) := by decide +kernel
theorem d_Mo_front_258 : decode b_Mo_front 258 = .ok (.iload_n 2, 1) := by decide +kernel
theorem d_Mo_front_259 : decode b_Mo_front 259 = .ok (.iconst 4, 1) := by decide +kernel
theorem d_Mo_front_260 : decode b_Mo_front 260 = .ok (.if_icmp .ne 18, 3) := by decide +kernel
theorem d_Mo_front_263 : decode b_Mo_front 263 = .ok (.aload_n 0, 1) := by decide +kernel
theorem d_Mo_front_264 : decode b_Mo_front 264 = .ok (.iload_n 1, 1) := by decide +kernel
theorem d_Mo_front_265 : decode b_Mo_front 265 = .ok (.iconst 4, 1) := by decide +kernel
theorem d_Mo_front_266 : decode b_Mo_front 266 = .ok (.idiv, 1) := by decide +kernel
theorem d_Mo_front_267 : decode b_Mo_front 267 = .ok (.iconst 4, 1) := by decide +kernel
theorem d_Mo_front_268 : decode b_Mo_front 268 = .ok (.irem, 1) := by decide +kernel
theorem d_Mo_front_269 : decode b_Mo_front 269 = .ok (.invokevirtual 84, 3) := by decide +kernel
theorem d_Mo_front_272 : decode b_Mo_front 272 = .ok (.aload_n 0, 1) := by decide +kernel
theorem d_Mo_front_273 : decode b_Mo_front 273 = .ok (.bipush 44, 2) := by decide +kernel
theorem d_Mo_front_275 : decode b_Mo_front 275 = .ok (.invokevirtual 76, 3) := by decide +kernel
theorem d_Mo_front_278 : decode b_Mo_front 278 = .ok (.iload_n 1, 1) := by decide +kernel
theorem d_Mo_front_279 : decode b_Mo_front 279 = .ok (.bipush 82, 2) := by decide +kernel
theorem d_Mo_front_281 : decode b_Mo_front 281 = .ok (.if_icmp .lt 20, 3) := by decide +kernel
theorem d_Mo_front_284 : decode b_Mo_front 284 = .ok (.iload_n 1, 1) := by decide +kernel
theorem d_Mo_front_285 : decode b_Mo_front 285 = .ok (.bipush 85, 2) := by decide +kernel
theorem d_Mo_front_287 : decode b_Mo_front 287 = .ok (.if_icmp .gt 14, 3) := by decide +kernel
theorem d_Mo_front_290 : decode b_Mo_front 290 = .ok (.aload_n 0, 1) := by decide +kernel
theorem d_Mo_front_291 : decode b_Mo_front 291 = .ok (.iload_n 1, 1) := by decide +kernel
theorem d_Mo_front_292 : decode b_Mo_front 292 = .ok (.bipush 82, 2) := by decide +kernel
theorem d_Mo_front_294 : decode b_Mo_front 294 = .ok (.isub, 1) := by decide +kernel
theorem d_Mo_front_295 : decode b_Mo_front 295 = .ok (.invokevirtual 84, 3) := by decide +kernel
theorem d_Mo_front_298 : decode b_Mo_front 298 = .ok (.goto 15, 3) := by decide +kernel
theorem d_Mo_front_301 : decode b_Mo_front 301 = .ok (.iload_n 2, 1) := by decide +kernel
theorem d_Mo_front_302 : decode b_Mo_front 302 = .ok (.iconst 5, 1) := by decide +kernel
theorem d_Mo_front_303 : decode b_Mo_front 303 = .ok (.if_icmp .eq 10, 3) := by decide +kernel
theorem d_Mo_front_306 : decode b_Mo_front 306 = .ok (.aload_n 0, 1) := by decide +kernel
theorem d_Mo_front_307 : decode b_Mo_front 307 = .ok (.iload_n 1, 1) := by decide +kernel
theorem d_Mo_front_308 : decode b_Mo_front 308 = .ok (.iconst 4, 1) := by decide +kernel
theorem d_Mo_front_309 : decode b_Mo_front 309 = .ok (.irem, 1) := by decide +kernel
theorem d_Mo_front_310 : decode b_Mo_front 310 = .ok (.invokevirtual 84, 3) := by decide +kernel
theorem d_Mo_front_313 : decode b_Mo_front 313 = .ok (.iload_n 1, 1) := by decide +kernel
theorem d_Mo_front_314 : decode b_Mo_front 314 = .ok (.invokestatic 49, 3) := by decide +kernel
theorem d_Mo_front_317 : decode b_Mo_front 317 = .ok (.iconst 1, 1) := by decide +kernel
theorem d_Mo_front_318 : decode b_Mo_front 318 = .ok (.if_icmp .le 21, 3) := by decide +kernel
theorem d_Mo_front_321 : decode b_Mo_front 321 = .ok (.iload_n 1, 1) := by decide +kernel
theorem d_Mo_front_322 : decode b_Mo_front 322 = .ok (.bipush 80, 2) := by decide +kernel
theorem d_Mo_front_324 : decode b_Mo_front 324 = .ok (.if_icmp .eq 15, 3) := by decide +kernel
theorem d_Mo_front_327 : decode b_Mo_front 327 = .ok (.iload_n 1, 1) := by decide +kernel
theorem d_Mo_front_328 : decode b_Mo_front 328 = .ok (.bipush 81, 2) := by decide +kernel
theorem d_Mo_front_330 : decode b_Mo_front 330 = .ok (.if_icmp .eq 9, 3) := by decide +kernel
theorem d_Mo_front_333 : decode b_Mo_front 333 = .ok (.aload_n 0, 1) := by decide +kernel
theorem d_Mo_front_334 : decode b_Mo_front 334 = .ok (.bipush 44, 2) := by decide +kernel
theorem d_Mo_front_336 : decode b_Mo_front 336 = .ok (.invokevirtual 76, 3) := by decide +kernel
theorem d_Mo_front_339 : decode b_Mo_front 339 = .ok (.return_, 1) := by decide +kernel
theorem d_Mo_print_0 : decode b_Mo_print 0 = .ok (.aload_n 0, 1) := by decide +kernel
theorem d_Mo_print_1 : decode b_Mo_print 1 = .ok (.iload_n 1, 1) := by decide +kernel
theorem d_Mo_print_2 : decode b_Mo_print 2 = .ok (.invokevirtual 87, 3) := by decide +kernel
theorem d_Mo_print_5 : decode b_Mo_print 5 = .ok (.iload_n 1, 1) := by decide +kernel
theorem d_Mo_print_6 : decode b_Mo_print 6 = .ok (.invokestatic 49, 3) := by decide +kernel
theorem d_Mo_print_9 : decode b_Mo_print 9 = .ok (.iconst 1, 1) := by decide +kernel
theorem d_Mo_print_10 : decode b_Mo_print 10 = .ok (.if_icmp .le 8, 3) := by decide +kernel
theorem d_Mo_print_13 : decode b_Mo_print 13 = .ok (.aload_n 0, 1) := by decide +kernel
theorem d_Mo_print_14 : decode b_Mo_print 14 = .ok (.iload_n 2, 1) := by decide +kernel
theorem d_Mo_print_15 : decode b_Mo_print 15 = .ok (.invokevirtual 90, 3) := by decide +kernel
theorem d_Mo_print_18 : decode b_Mo_print 18 = .ok (.return_, 1) := by decide +kernel
theorem d_Mo_data_0 : decode b_Mo_data 0 = .ok (.aload_n 0, 1) := by decide +kernel
theorem d_Mo_data_1 : decode b_Mo_data 1 = .ok (.iconst 0, 1) := by decide +kernel
theorem d_Mo_data_2 : decode b_Mo_data 2 = .ok (.putfield 73, 3) := by decide +kernel
theorem d_Mo_data_5 : decode b_Mo_data 5 = .ok (.aload_n 0, 1) := by decide +kernel
theorem d_Mo_data_6 : decode b_Mo_data 6 = .ok (.bipush 46, 2) := by decide +kernel
theorem d_Mo_data_8 : decode b_Mo_data 8 = .ok (.bipush 98, 2) := by decide +kernel
theorem d_Mo_data_10 : decode b_Mo_data 10 = .ok (.bipush 121, 2) := by decide +kernel
theorem d_Mo_data_12 : decode b_Mo_data 12 = .ok (.invokevirtual 80, 3) := by decide +kernel
theorem d_Mo_data_15 : decode b_Mo_data 15 = .ok (.aload_n 0, 1) := by decide +kernel
theorem d_Mo_data_16 : decode b_Mo_data 16 = .ok (.bipush 116, 2) := by decide +kernel
theorem d_Mo_data_18 : decode b_Mo_data 18 = .ok (.bipush 101, 2) := by decide +kernel
theorem d_Mo_data_20 : decode b_Mo_data 20 = .ok (.bipush 32, 2) := by decide +kernel
theorem d_Mo_data_22 : decode b_Mo_data 22 = .ok (.invokevirtual 80, 3) := by decide +kernel
theorem d_Mo_data_25 : decode b_Mo_data 25 = .ok (.aload_n 0, 1) := by decide +kernel
theorem d_Mo_data_26 : decode b_Mo_data 26 = .ok (.iload_n 1, 1) := by decide +kernel
theorem d_Mo_data_27 : decode b_Mo_data 27 = .ok (.invokevirtual 90, 3) := by decide +kernel
theorem d_Mo_data_30 : decode b_Mo_data 30 = .ok (.return_, 1) := by decide +kernel
theorem d_Mo_list_0 : decode b_Mo_list 0 = .ok (.aload_n 0, 1) := by decide +kernel
theorem d_Mo_list_1 : decode b_Mo_list 1 = .ok (.invokevirtual 69, 3) := by decide +kernel
theorem d_Mo_list_4 : decode b_Mo_list 4 = .ok (.istore_n 1, 1) := by decide +kernel
theorem d_Mo_list_5 : decode b_Mo_list 5 = .ok (.aload_n 0, 1) := by decide +kernel
theorem d_Mo_list_6 : decode b_Mo_list 6 = .ok (.iconst 0, 1) := by decide +kernel
theorem d_Mo_list_7 : decode b_Mo_list 7 = .ok (.putfield 43, 3) := by decide +kernel
theorem d_Mo_list_10 : decode b_Mo_list 10 = .ok (.iconst 0, 1) := by decide +kernel
theorem d_Mo_list_11 : decode b_Mo_list 11 = .ok (.istore_n 2, 1) := by decide +kernel
theorem d_Mo_list_12 : decode b_Mo_list 12 = .ok (.iconst 0, 1) := by decide +kernel
theorem d_Mo_list_13 : decode b_Mo_list 13 = .ok (.istore_n 3, 1) := by decide +kernel
theorem d_Mo_list_14 : decode b_Mo_list 14 = .ok (.iload_n 3, 1) := by decide +kernel
theorem d_Mo_list_15 : decode b_Mo_list 15 = .ok (.aload_n 0, 1) := by decide +kernel
theorem d_Mo_list_16 : decode b_Mo_list 16 = .ok (.getfield 32, 3) := by decide +kernel
theorem d_Mo_list_19 : decode b_Mo_list 19 = .ok (.if_icmp .ge 196, 3) := by decide +kernel
theorem d_Mo_list_22 : decode b_Mo_list 22 = .ok (.iload_n 2, 1) := by decide +kernel
theorem d_Mo_list_23 : decode b_Mo_list 23 = .ok (.ifCond .le 10, 3) := by decide +kernel
theorem d_Mo_list_26 : decode b_Mo_list 26 = .ok (.iload_n 2, 1) := by decide +kernel
theorem d_Mo_list_27 : decode b_Mo_list 27 = .ok (.iconst 1, 1) := by decide +kernel
theorem d_Mo_list_28 : decode b_Mo_list 28 = .ok (.isub, 1) := by decide +kernel
theorem d_Mo_list_29 : decode b_Mo_list 29 = .ok (.istore_n 2, 1) := by decide +kernel
theorem d_Mo_list_30 : decode b_Mo_list 30 = .ok (.goto 179, 3) := by decide +kernel
theorem d_Mo_list_33 : decode b_Mo_list 33 = .ok (.aload_n 0, 1) := by decide +kernel
theorem d_Mo_list_34 : decode b_Mo_list 34 = .ok (.getfield 25, 3) := by decide +kernel
theorem d_Mo_list_37 : decode b_Mo_list 37 = .ok (.iload_n 3, 1) := by decide +kernel
theorem d_Mo_list_38 : decode b_Mo_list 38 = .ok (.baload, 1) := by decide +kernel
theorem d_Mo_list_39 : decode b_Mo_list 39 = .ok (.ifCond .eq 11, 3) := by decide +kernel
theorem d_Mo_list_42 : decode b_Mo_list 42 = .ok (.aload_n 0, 1) := by decide +kernel
theorem d_Mo_list_43 : decode b_Mo_list 43 = .ok (.iload_n 3, 1) := by decide +kernel
theorem d_Mo_list_44 : decode b_Mo_list 44 = .ok (.invokevirtual 53, 3) := by decide +kernel
theorem d_Mo_list_47 : decode b_Mo_list 47 = .ok (.goto 4, 3) := by decide +kernel
theorem d_Mo_list_50 : decode b_Mo_list 50 = .ok (.iconst 0, 1) := by decide +kernel
theorem d_Mo_list_51 : decode b_Mo_list 51 = .ok (.istore 4, 2) := by decide +kernel
theorem d_Mo_list_53 : decode b_Mo_list 53 = .ok (.iload 4, 2) := by decide +kernel
theorem d_Mo_list_55 : decode b_Mo_list 55 = .ok (.ifCond .ne 16, 3) := by decide +kernel
theorem d_Mo_list_58 : decode b_Mo_list 58 = .ok (.aload_n 0, 1) := by decide +kernel
theorem d_Mo_list_59 : decode b_Mo_list 59 = .ok (.aload_n 0, 1) := by decide +kernel
theorem d_Mo_list_60 : decode b_Mo_list 60 = .ok (.getfield 7, 3) := by decide +kernel
theorem d_Mo_list_63 : decode b_Mo_list 63 = .ok (.iload_n 3, 1) := by decide +kernel
theorem d_Mo_list_64 : decode b_Mo_list 64 = .ok (.iaload, 1) := by decide +kernel
theorem d_Mo_list_65 : decode b_Mo_list 65 = .ok (.invokevirtual 93, 3) := by decide +kernel
theorem d_Mo_list_68 : decode b_Mo_list 68 = .ok (.goto 85, 3) := by decide +kernel
theorem d_Mo_list_71 : decode b_Mo_list 71 = .ok (.aload_n 0, 1) := by decide +kernel
theorem d_Mo_list_72 : decode b_Mo_list 72 = .ok (.getfield 7, 3) := by decide +kernel
theorem d_Mo_list_75 : decode b_Mo_list 75 = .ok (.iload_n 3, 1) := by decide +kernel
theorem d_Mo_list_76 : decode b_Mo_list 76 = .ok (.iaload, 1) := by decide +kernel
theorem d_Mo_list_77 : decode b_Mo_list 77 = .ok (.istore 5, 2) := by decide +kernel
theorem d_Mo_list_79 : decode b_Mo_list 79 = .ok (.iload 4, 2) := by decide +kernel
theorem d_Mo_list_81 : decode b_Mo_list 81 = .ok (.iconst 1, 1) := by decide +kernel
theorem d_Mo_list_82 : decode b_Mo_list 82 = .ok (.if_icmp .le 14, 3) := by decide +kernel
theorem d_Mo_list_85 : decode b_Mo_list 85 = .ok (.aload_n 0, 1) := by decide +kernel
theorem d_Mo_list_86 : decode b_Mo_list 86 = .ok (.getfield 7, 3) := by decide +kernel
theorem d_Mo_list_89 : decode b_Mo_list 89 = .ok (.iload_n 3, 1) := by decide +kernel
theorem d_Mo_list_90 : decode b_Mo_list 90 = .ok (.iconst 1, 1) := by decide +kernel
theorem d_Mo_list_91 : decode b_Mo_list 91 = .ok (.iadd, 1) := by decide +kernel
theorem d_Mo_list_92 : decode b_Mo_list 92 = .ok (.iaload, 1) := by decide +kernel
theorem d_Mo_list_93 : decode b_Mo_list 93 = .ok (.goto 4, 3) := by decide +kernel
theorem d_Mo_list_96 : decode b_Mo_list 96 = .ok (.iconst 0, 1) := by decide +kernel
theorem d_Mo_list_97 : decode b_Mo_list 97 = .ok (.istore 6, 2) := by decide +kernel
theorem d_Mo_list_99 : decode b_Mo_list 99 = .ok (.iload 4, 2) := by decide +kernel
theorem d_Mo_list_101 : decode b_Mo_list 101 = .ok (.iconst 3, 1) := by decide +kernel
theorem d_Mo_list_102 : decode b_Mo_list 102 = .ok (.if_icmp .ne 21, 3) := by decide +kernel
theorem d_Mo_list_105 : decode b_Mo_list 105 = .ok (.sipush 256, 3) := by decide +kernel
theorem d_Mo_list_108 : decode b_Mo_list 108 = .ok (.iload 6, 2) := by decide +kernel
theorem d_Mo_list_110 : decode b_Mo_list 110 = .ok (.imul, 1) := by decide +kernel
theorem d_Mo_list_111 : decode b_Mo_list 111 = .ok (.aload_n 0, 1) := by decide +kernel
theorem d_Mo_list_112 : decode b_Mo_list 112 = .ok (.getfield 7, 3) := by decide +kernel
theorem d_Mo_list_115 : decode b_Mo_list 115 = .ok (.iload_n 3, 1) := by decide +kernel
theorem d_Mo_list_116 : decode b_Mo_list 116 = .ok (.iconst 2, 1) := by decide +kernel
theorem d_Mo_list_117 : decode b_Mo_list 117 = .ok (.iadd, 1) := by decide +kernel
theorem d_Mo_list_118 : decode b_Mo_list 118 = .ok (.iaload, 1) := by decide +kernel
theorem d_Mo_list_119 : decode b_Mo_list 119 = .ok (.iadd, 1) := by decide +kernel
theorem d_Mo_list_120 : decode b_Mo_list 120 = .ok (.goto 18, 3) := by decide +kernel
theorem d_Mo_list_123 : decode b_Mo_list 123 = .ok (.iload 5, 2) := by decide +kernel
theorem d_Mo_list_125 : decode b_Mo_list 125 = .ok (.bipush 96, 2) := by decide +kernel
theorem d_Mo_list_127 : decode b_Mo_list 127 = .ok (.if_icmp .lt 9, 3) := by decide +kernel
theorem d_Mo_list_130 : decode b_Mo_list 130 = .ok (.iload 6, 2) := by decide +kernel
theorem d_Mo_list_132 : decode b_Mo_list 132 = .ok (.i2b, 1) := by decide +kernel
theorem d_Mo_list_133 : decode b_Mo_list 133 = .ok (.goto 5, 3) := by decide +kernel
theorem d_Mo_list_136 : decode b_Mo_list 136 = .ok (.iload 6, 2) := by decide +kernel
theorem d_Mo_list_138 : decode b_Mo_list 138 = .ok (.istore 7, 2) := by decide +kernel
theorem d_Mo_list_140 : decode b_Mo_list 140 = .ok (.aload_n 0, 1) := by decide +kernel
theorem d_Mo_list_141 : decode b_Mo_list 141 = .ok (.iload 5, 2) := by decide +kernel
theorem d_Mo_list_143 : decode b_Mo_list 143 = .ok (.iload 7, 2) := by decide +kernel
theorem d_Mo_list_145 : decode b_Mo_list 145 = .ok (.invokevirtual 96, 3) := by decide +kernel
theorem d_Mo_list_148 : decode b_Mo_list 148 = .ok (.iload 4, 2) := by decide +kernel
theorem d_Mo_list_150 : decode b_Mo_list 150 = .ok (.iconst 1, 1) := by decide +kernel
theorem d_Mo_list_151 : decode b_Mo_list 151 = .ok (.isub, 1) := by decide +kernel
theorem d_Mo_list_152 : decode b_Mo_list 152 = .ok (.istore_n 2, 1) := by decide +kernel
theorem d_Mo_list_153 : decode b_Mo_list 153 = .ok (.aload_n 0, 1) := by decide +kernel
theorem d_Mo_list_154 : decode b_Mo_list 154 = .ok (.bipush 10, 2) := by decide +kernel
theorem d_Mo_list_156 : decode b_Mo_list 156 = .ok (.invokevirtual 76, 3) := by decide +kernel
theorem d_Mo_list_159 : decode b_Mo_list 159 = .ok (.iconst 0, 1) := by decide +kernel
theorem d_Mo_list_160 : decode b_Mo_list 160 = .ok (.istore 5, 2) := by decide +kernel
theorem d_Mo_list_162 : decode b_Mo_list 162 = .ok (.iload 5, 2) := by decide +kernel
theorem d_Mo_list_164 : decode b_Mo_list 164 = .ok (.aload_n 0, 1) := by decide +kernel
theorem d_Mo_list_165 : decode b_Mo_list 165 = .ok (.getfield 73, 3) := by decide +kernel
theorem d_Mo_list_168 : decode b_Mo_list 168 = .ok (.if_icmp .ge 28, 3) := by decide +kernel
theorem d_Mo_list_171 : decode b_Mo_list 171 = .ok (.aload_n 0, 1) := by decide +kernel
theorem d_Mo_list_172 : decode b_Mo_list 172 = .ok (.getfield 16, 3) := by decide +kernel
theorem d_Mo_list_175 : decode b_Mo_list 175 = .ok (.aload_n 0, 1) := by decide +kernel
theorem d_Mo_list_176 : decode b_Mo_list 176 = .ok (.getfield 43, 3) := by decide +kernel
theorem d_Mo_list_179 : decode b_Mo_list 179 = .ok (.iload 5, 2) := by decide +kernel
theorem d_Mo_list_181 : decode b_Mo_list 181 = .ok (.iadd, 1) := by decide +kernel
theorem d_Mo_list_182 : decode b_Mo_list 182 = .ok (.aload_n 0, 1) := by decide +kernel
theorem d_Mo_list_183 : decode b_Mo_list 183 = .ok (.getfield 29, 3) := by decide +kernel
theorem d_Mo_list_186 : decode b_Mo_list 186 = .ok (.iload 5, 2) := by decide +kernel
theorem d_Mo_list_188 : decode b_Mo_list 188 = .ok (.iaload, 1) := by decide +kernel
theorem d_Mo_list_189 : decode b_Mo_list 189 = .ok (.iastore, 1) := by decide +kernel
theorem d_Mo_list_190 : decode b_Mo_list 190 = .ok (.iinc 5 1, 3) := by decide +kernel
theorem d_Mo_list_193 : decode b_Mo_list 193 = .ok (.goto (-31), 3) := by decide +kernel
theorem d_Mo_list_196 : decode b_Mo_list 196 = .ok (.aload_n 0, 1) := by decide +kernel
theorem d_Mo_list_197 : decode b_Mo_list 197 = .ok (.aload_n 0, 1) := by decide +kernel
theorem d_Mo_list_198 : decode b_Mo_list 198 = .ok (.getfield 43, 3) := by decide +kernel
theorem d_Mo_list_201 : decode b_Mo_list 201 = .ok (.aload_n 0, 1) := by decide +kernel
theorem d_Mo_list_202 : decode b_Mo_list 202 = .ok (.getfield 73, 3) := by decide +kernel
theorem d_Mo_list_205 : decode b_Mo_list 205 = .ok (.iadd, 1) := by decide +kernel
theorem d_Mo_list_206 : decode b_Mo_list 206 = .ok (.putfield 43, 3) := by decide +kernel
theorem d_Mo_list_209 : decode b_Mo_list 209 = .ok (.iinc 3 1, 3) := by decide +kernel
theorem d_Mo_list_212 : decode b_Mo_list 212 = .ok (.goto (-198), 3) := by decide +kernel
theorem d_Mo_list_215 : decode b_Mo_list 215 = .ok (.aload_n 0, 1) := by decide +kernel
theorem d_Mo_list_216 : decode b_Mo_list 216 = .ok (.getfield 43, 3) := by decide +kernel
theorem d_Mo_list_219 : decode b_Mo_list 219 = .ok (.ireturn, 1) := by decide +kernel
theorem d_Mo_textLength_0 : decode b_Mo_textLength 0 = .ok (.aload_n 0, 1) := by decide +kernel
theorem d_Mo_textLength_1 : decode b_Mo_textLength 1 = .ok (.getfield 43, 3) := by decide +kernel
theorem d_Mo_textLength_4 : decode b_Mo_textLength 4 = .ok (.ireturn, 1) := by decide +kernel
theorem d_Mo_charAt_0 : decode b_Mo_charAt 0 = .ok (.iload_n 1, 1) := by decide +kernel
theorem d_Mo_charAt_1 : decode b_Mo_charAt 1 = .ok (.ifCond .lt 20, 3) := by decide +kernel
theorem d_Mo_charAt_4 : decode b_Mo_charAt 4 = .ok (.iload_n 1, 1) := by decide +kernel
theorem d_Mo_charAt_5 : decode b_Mo_charAt 5 = .ok (.aload_n 0, 1) := by decide +kernel
theorem d_Mo_charAt_6 : decode b_Mo_charAt 6 = .ok (.getfield 43, 3) := by decide +kernel
theorem d_Mo_charAt_9 : decode b_Mo_charAt 9 = .ok (.if_icmp .ge 12, 3) := by decide +kernel
theorem d_Mo_charAt_12 : decode b_Mo_charAt 12 = .ok (.aload_n 0, 1) := by decide +kernel
theorem d_Mo_charAt_13 : decode b_Mo_charAt 13 = .ok (.getfield 16, 3) := by decide +kernel
theorem d_Mo_charAt_16 : decode b_Mo_charAt 16 = .ok (.iload_n 1, 1) := by decide +kernel
theorem d_Mo_charAt_17 : decode b_Mo_charAt 17 = .ok (.iaload, 1) := by decide +kernel
theorem d_Mo_charAt_18 : decode b_Mo_charAt 18 = .ok (.goto 4, 3) := by decide +kernel
theorem d_Mo_charAt_21 : decode b_Mo_charAt 21 = .ok (.iconst (-1), 1) := by decide +kernel
theorem d_Mo_charAt_22 : decode b_Mo_charAt 22 = .ok (.ireturn, 1) := by decide +kernel
theorem d_Mo_type_0 : decode b_Mo_type 0 = .ok (.iload_n 1, 1) := by decide +kernel
theorem d_Mo_type_1 : decode b_Mo_type 1 = .ok (.ifCond .lt 29, 3) := by decide +kernel
theorem d_Mo_type_4 : decode b_Mo_type 4 = .ok (.iload_n 1, 1) := by decide +kernel
theorem d_Mo_type_5 : decode b_Mo_type 5 = .ok (.aload_n 0, 1) := by decide +kernel
theorem d_Mo_type_6 : decode b_Mo_type 6 = .ok (.getfield 43, 3) := by decide +kernel
theorem d_Mo_type_9 : decode b_Mo_type 9 = .ok (.if_icmp .gt 21, 3) := by decide +kernel
theorem d_Mo_type_12 : decode b_Mo_type 12 = .ok (.iload_n 1, 1) := by decide +kernel
theorem d_Mo_type_13 : decode b_Mo_type 13 = .ok (.sipush 2400, 3) := by decide +kernel
theorem d_Mo_type_16 : decode b_Mo_type 16 = .ok (.if_icmp .ge 14, 3) := by decide +kernel
theorem d_Mo_type_19 : decode b_Mo_type 19 = .ok (.iload_n 2, 1) := by decide +kernel
theorem d_Mo_type_20 : decode b_Mo_type 20 = .ok (.ifCond .lt 10, 3) := by decide +kernel
theorem d_Mo_type_23 : decode b_Mo_type 23 = .ok (.iload_n 2, 1) := by decide +kernel
theorem d_Mo_type_24 : decode b_Mo_type 24 = .ok (.sipush 255, 3) := by decide +kernel
theorem d_Mo_type_27 : decode b_Mo_type 27 = .ok (.if_icmp .le 5, 3) := by decide +kernel
theorem d_Mo_type_30 : decode b_Mo_type 30 = .ok (.iconst 0, 1) := by decide +kernel
theorem d_Mo_type_31 : decode b_Mo_type 31 = .ok (.ireturn, 1) := by decide +kernel
theorem d_Mo_type_32 : decode b_Mo_type 32 = .ok (.aload_n 0, 1) := by decide +kernel
theorem d_Mo_type_33 : decode b_Mo_type 33 = .ok (.getfield 16, 3) := by decide +kernel
theorem d_Mo_type_36 : decode b_Mo_type 36 = .ok (.iload_n 1, 1) := by decide +kernel
theorem d_Mo_type_37 : decode b_Mo_type 37 = .ok (.iload_n 2, 1) := by decide +kernel
theorem d_Mo_type_38 : decode b_Mo_type 38 = .ok (.iastore, 1) := by decide +kernel
theorem d_Mo_type_39 : decode b_Mo_type 39 = .ok (.iload_n 1, 1) := by decide +kernel
theorem d_Mo_type_40 : decode b_Mo_type 40 = .ok (.aload_n 0, 1) := by decide +kernel
theorem d_Mo_type_41 : decode b_Mo_type 41 = .ok (.getfield 43, 3) := by decide +kernel
theorem d_Mo_type_44 : decode b_Mo_type 44 = .ok (.if_icmp .ne 13, 3) := by decide +kernel
theorem d_Mo_type_47 : decode b_Mo_type 47 = .ok (.aload_n 0, 1) := by decide +kernel
theorem d_Mo_type_48 : decode b_Mo_type 48 = .ok (.aload_n 0, 1) := by decide +kernel
theorem d_Mo_type_49 : decode b_Mo_type 49 = .ok (.getfield 43, 3) := by decide +kernel
theorem d_Mo_type_52 : decode b_Mo_type 52 = .ok (.iconst 1, 1) := by decide +kernel
theorem d_Mo_type_53 : decode b_Mo_type 53 = .ok (.iadd, 1) := by decide +kernel
theorem d_Mo_type_54 : decode b_Mo_type 54 = .ok (.putfield 43, 3) := by decide +kernel
theorem d_Mo_type_57 : decode b_Mo_type 57 = .ok (.iconst 1, 1) := by decide +kernel
theorem d_Mo_type_58 : decode b_Mo_type 58 = .ok (.ireturn, 1) := by decide +kernel
theorem d_Mo_begins_0 : decode b_Mo_begins 0 = .ok (.iconst 0, 1) := by decide +kernel
theorem d_Mo_begins_1 : decode b_Mo_begins 1 = .ok (.istore_n 2, 1) := by decide +kernel
theorem d_Mo_begins_2 : decode b_Mo_begins 2 = .ok (.iload_n 2, 1) := by decide +kernel
theorem d_Mo_begins_3 : decode b_Mo_begins 3 = .ok (.aload_n 0, 1) := by decide +kernel
theorem d_Mo_begins_4 : decode b_Mo_begins 4 = .ok (.getfield 73, 3) := by decide +kernel
theorem d_Mo_begins_7 : decode b_Mo_begins 7 = .ok (.if_icmp .ge 38, 3) := by decide +kernel
theorem d_Mo_begins_10 : decode b_Mo_begins 10 = .ok (.iload_n 1, 1) := by decide +kernel
theorem d_Mo_begins_11 : decode b_Mo_begins 11 = .ok (.iload_n 2, 1) := by decide +kernel
theorem d_Mo_begins_12 : decode b_Mo_begins 12 = .ok (.iadd, 1) := by decide +kernel
theorem d_Mo_begins_13 : decode b_Mo_begins 13 = .ok (.aload_n 0, 1) := by decide +kernel
theorem d_Mo_begins_14 : decode b_Mo_begins 14 = .ok (.getfield 43, 3) := by decide +kernel
theorem d_Mo_begins_17 : decode b_Mo_begins 17 = .ok (.if_icmp .ge 20, 3) := by decide +kernel
theorem d_Mo_begins_20 : decode b_Mo_begins 20 = .ok (.aload_n 0, 1) := by decide +kernel
theorem d_Mo_begins_21 : decode b_Mo_begins 21 = .ok (.getfield 16, 3) := by decide +kernel
theorem d_Mo_begins_24 : decode b_Mo_begins 24 = .ok (.iload_n 1, 1) := by decide +kernel
theorem d_Mo_begins_25 : decode b_Mo_begins 25 = .ok (.iload_n 2, 1) := by decide +kernel
theorem d_Mo_begins_26 : decode b_Mo_begins 26 = .ok (.iadd, 1) := by decide +kernel
theorem d_Mo_begins_27 : decode b_Mo_begins 27 = .ok (.iaload, 1) := by decide +kernel
theorem d_Mo_begins_28 : decode b_Mo_begins 28 = .ok (.aload_n 0, 1) := by decide +kernel
theorem d_Mo_begins_29 : decode b_Mo_begins 29 = .ok (.getfield 29, 3) := by decide +kernel
theorem d_Mo_begins_32 : decode b_Mo_begins 32 = .ok (.iload_n 2, 1) := by decide +kernel
theorem d_Mo_begins_33 : decode b_Mo_begins 33 = .ok (.iaload, 1) := by decide +kernel
theorem d_Mo_begins_34 : decode b_Mo_begins 34 = .ok (.if_icmp .eq 5, 3) := by decide +kernel
theorem d_Mo_begins_37 : decode b_Mo_begins 37 = .ok (.iconst 0, 1) := by decide +kernel
theorem d_Mo_begins_38 : decode b_Mo_begins 38 = .ok (.ireturn, 1) := by decide +kernel
theorem d_Mo_begins_39 : decode b_Mo_begins 39 = .ok (.iinc 2 1, 3) := by decide +kernel
theorem d_Mo_begins_42 : decode b_Mo_begins 42 = .ok (.goto (-40), 3) := by decide +kernel
theorem d_Mo_begins_45 : decode b_Mo_begins 45 = .ok (.iconst 1, 1) := by decide +kernel
theorem d_Mo_begins_46 : decode b_Mo_begins 46 = .ok (.ireturn, 1) := by decide +kernel
theorem d_Mo_here_0 : decode b_Mo_here 0 = .ok (.aload_n 0, 1) := by decide +kernel
theorem d_Mo_here_1 : decode b_Mo_here 1 = .ok (.bipush 10, 2) := by decide +kernel
theorem d_Mo_here_3 : decode b_Mo_here 3 = .ok (.invokevirtual 76, 3) := by decide +kernel
theorem d_Mo_here_6 : decode b_Mo_here 6 = .ok (.aload_n 0, 1) := by decide +kernel
theorem d_Mo_here_7 : decode b_Mo_here 7 = .ok (.iload_n 1, 1) := by decide +kernel
theorem d_Mo_here_8 : decode b_Mo_here 8 = .ok (.invokevirtual 100, 3) := by decide +kernel
theorem d_Mo_here_11 : decode b_Mo_here 11 = .ok (.istore_n 2, 1) := by decide +kernel
theorem d_Mo_here_12 : decode b_Mo_here 12 = .ok (.aload_n 0, 1) := by decide +kernel
theorem d_Mo_here_13 : decode b_Mo_here 13 = .ok (.aload_n 0, 1) := by decide +kernel
theorem d_Mo_here_14 : decode b_Mo_here 14 = .ok (.getfield 73, 3) := by decide +kernel
theorem d_Mo_here_17 : decode b_Mo_here 17 = .ok (.iconst 1, 1) := by decide +kernel
theorem d_Mo_here_18 : decode b_Mo_here 18 = .ok (.isub, 1) := by decide +kernel
theorem d_Mo_here_19 : decode b_Mo_here 19 = .ok (.putfield 73, 3) := by decide +kernel
theorem d_Mo_here_22 : decode b_Mo_here 22 = .ok (.iload_n 2, 1) := by decide +kernel
theorem d_Mo_here_23 : decode b_Mo_here 23 = .ok (.ireturn, 1) := by decide +kernel
theorem d_Mo_understand_0 : decode b_Mo_understand 0 = .ok (.iconst 0, 1) := by decide +kernel
theorem d_Mo_understand_1 : decode b_Mo_understand 1 = .ok (.istore_n 2, 1) := by decide +kernel
theorem d_Mo_understand_2 : decode b_Mo_understand 2 = .ok (.iload_n 2, 1) := by decide +kernel
theorem d_Mo_understand_3 : decode b_Mo_understand 3 = .ok (.sipush 256, 3) := by decide +kernel
theorem d_Mo_understand_6 : decode b_Mo_understand 6 = .ok (.if_icmp .ge 36, 3) := by decide +kernel
theorem d_Mo_understand_9 : decode b_Mo_understand 9 = .ok (.aload_n 0, 1) := by decide +kernel
theorem d_Mo_understand_10 : decode b_Mo_understand 10 = .ok (.iload_n 2, 1) := by decide +kernel
theorem d_Mo_understand_11 : decode b_Mo_understand 11 = .ok (.invokevirtual 93, 3) := by decide +kernel
theorem d_Mo_understand_14 : decode b_Mo_understand 14 = .ok (.aload_n 0, 1) := by decide +kernel
theorem d_Mo_understand_15 : decode b_Mo_understand 15 = .ok (.iload_n 1, 1) := by decide +kernel
end
section
theorem d_Mo_understand_16 : decode b_Mo_understand 16 = .ok (.invokevirtual 103, 3) := by decide +kernel
theorem d_Mo_understand_19 : decode b_Mo_understand 19 = .ok (.ifCond .eq 17, 3) := by decide +kernel
theorem d_Mo_understand_22 : decode b_Mo_understand 22 = .ok (.sipush 300, 3) := by decide +kernel
theorem d_Mo_understand_25 : decode b_Mo_understand 25 = .ok (.sipush 1024, 3) := by decide +kernel
theorem d_Mo_understand_28 : decode b_Mo_understand 28 = .ok (.iload_n 2, 1) := by decide +kernel
theorem d_Mo_understand_29 : decode b_Mo_understand 29 = .ok (.sipush 200, 3) := by decide +kernel
theorem d_Mo_understand_32 : decode b_Mo_understand 32 = .ok (.iadd, 1) := by decide +kernel
theorem d_Mo_understand_33 : decode b_Mo_understand 33 = .ok (.imul, 1) := by decide +kernel
theorem d_Mo_understand_34 : decode b_Mo_understand 34 = .ok (.iadd, 1) := by decide +kernel
theorem d_Mo_understand_35 : decode b_Mo_understand 35 = .ok (.ireturn, 1) := by decide +kernel
theorem d_Mo_understand_36 : decode b_Mo_understand 36 = .ok (.iinc 2 1, 3) := by decide +kernel
theorem d_Mo_understand_39 : decode b_Mo_understand 39 = .ok (.goto (-37), 3) := by decide +kernel
theorem d_Mo_understand_42 : decode b_Mo_understand 42 = .ok (.iconst 0, 1) := by decide +kernel
theorem d_Mo_understand_43 : decode b_Mo_understand 43 = .ok (.istore_n 2, 1) := by decide +kernel
theorem d_Mo_understand_44 : decode b_Mo_understand 44 = .ok (.iload_n 2, 1) := by decide +kernel
theorem d_Mo_understand_45 : decode b_Mo_understand 45 = .ok (.bipush 120, 2) := by decide +kernel
theorem d_Mo_understand_47 : decode b_Mo_understand 47 = .ok (.if_icmp .ge 145, 3) := by decide +kernel
theorem d_Mo_understand_50 : decode b_Mo_understand 50 = .ok (.iload_n 2, 1) := by decide +kernel
theorem d_Mo_understand_51 : decode b_Mo_understand 51 = .ok (.invokestatic 49, 3) := by decide +kernel
theorem d_Mo_understand_54 : decode b_Mo_understand 54 = .ok (.istore_n 3, 1) := by decide +kernel
theorem d_Mo_understand_55 : decode b_Mo_understand 55 = .ok (.iload_n 3, 1) := by decide +kernel
theorem d_Mo_understand_56 : decode b_Mo_understand 56 = .ok (.ifCond .le 130, 3) := by decide +kernel
theorem d_Mo_understand_59 : decode b_Mo_understand 59 = .ok (.aload_n 0, 1) := by decide +kernel
theorem d_Mo_understand_60 : decode b_Mo_understand 60 = .ok (.iload_n 2, 1) := by decide +kernel
theorem d_Mo_understand_61 : decode b_Mo_understand 61 = .ok (.invokevirtual 87, 3) := by decide +kernel
theorem d_Mo_understand_64 : decode b_Mo_understand 64 = .ok (.iload_n 3, 1) := by decide +kernel
theorem d_Mo_understand_65 : decode b_Mo_understand 65 = .ok (.iconst 1, 1) := by decide +kernel
theorem d_Mo_understand_66 : decode b_Mo_understand 66 = .ok (.if_icmp .ne 16, 3) := by decide +kernel
theorem d_Mo_understand_69 : decode b_Mo_understand 69 = .ok (.aload_n 0, 1) := by decide +kernel
theorem d_Mo_understand_70 : decode b_Mo_understand 70 = .ok (.iload_n 1, 1) := by decide +kernel
theorem d_Mo_understand_71 : decode b_Mo_understand 71 = .ok (.invokevirtual 103, 3) := by decide +kernel
theorem d_Mo_understand_74 : decode b_Mo_understand 74 = .ok (.ifCond .eq 8, 3) := by decide +kernel
theorem d_Mo_understand_77 : decode b_Mo_understand 77 = .ok (.iload_n 2, 1) := by decide +kernel
theorem d_Mo_understand_78 : decode b_Mo_understand 78 = .ok (.ldc 106, 2) := by decide +kernel
theorem d_Mo_understand_80 : decode b_Mo_understand 80 = .ok (.iadd, 1) := by decide +kernel
theorem d_Mo_understand_81 : decode b_Mo_understand 81 = .ok (.ireturn, 1) := by decide +kernel
theorem d_Mo_understand_82 : decode b_Mo_understand 82 = .ok (.iload_n 3, 1) := by decide +kernel
theorem d_Mo_understand_83 : decode b_Mo_understand 83 = .ok (.iconst 1, 1) := by decide +kernel
theorem d_Mo_understand_84 : decode b_Mo_understand 84 = .ok (.if_icmp .le 102, 3) := by decide +kernel
theorem d_Mo_understand_87 : decode b_Mo_understand 87 = .ok (.aload_n 0, 1) := by decide +kernel
theorem d_Mo_understand_88 : decode b_Mo_understand 88 = .ok (.iload_n 1, 1) := by decide +kernel
theorem d_Mo_understand_89 : decode b_Mo_understand 89 = .ok (.invokevirtual 100, 3) := by decide +kernel
theorem d_Mo_understand_92 : decode b_Mo_understand 92 = .ok (.ifCond .eq 94, 3) := by decide +kernel
theorem d_Mo_understand_95 : decode b_Mo_understand 95 = .ok (.iload_n 2, 1) := by decide +kernel
theorem d_Mo_understand_96 : decode b_Mo_understand 96 = .ok (.bipush 96, 2) := by decide +kernel
theorem d_Mo_understand_98 : decode b_Mo_understand 98 = .ok (.if_icmp .lt 14, 3) := by decide +kernel
theorem d_Mo_understand_101 : decode b_Mo_understand 101 = .ok (.iload_n 2, 1) := by decide +kernel
theorem d_Mo_understand_102 : decode b_Mo_understand 102 = .ok (.bipush 99, 2) := by decide +kernel
theorem d_Mo_understand_104 : decode b_Mo_understand 104 = .ok (.if_icmp .gt 8, 3) := by decide +kernel
theorem d_Mo_understand_107 : decode b_Mo_understand 107 = .ok (.bipush (-128), 2) := by decide +kernel
theorem d_Mo_understand_109 : decode b_Mo_understand 109 = .ok (.goto 4, 3) := by decide +kernel
theorem d_Mo_understand_112 : decode b_Mo_understand 112 = .ok (.iconst 0, 1) := by decide +kernel
theorem d_Mo_understand_113 : decode b_Mo_understand 113 = .ok (.istore 4, 2) := by decide +kernel
theorem d_Mo_understand_115 : decode b_Mo_understand 115 = .ok (.iload_n 3, 1) := by decide +kernel
theorem d_Mo_understand_116 : decode b_Mo_understand 116 = .ok (.iconst 3, 1) := by decide +kernel
theorem d_Mo_understand_117 : decode b_Mo_understand 117 = .ok (.if_icmp .ne 8, 3) := by decide +kernel
theorem d_Mo_understand_120 : decode b_Mo_understand 120 = .ok (.ldc 107, 2) := by decide +kernel
theorem d_Mo_understand_122 : decode b_Mo_understand 122 = .ok (.goto 17, 3) := by decide +kernel
theorem d_Mo_understand_125 : decode b_Mo_understand 125 = .ok (.iload_n 2, 1) := by decide +kernel
theorem d_Mo_understand_126 : decode b_Mo_understand 126 = .ok (.bipush 96, 2) := by decide +kernel
theorem d_Mo_understand_128 : decode b_Mo_understand 128 = .ok (.if_icmp .lt 8, 3) := by decide +kernel
theorem d_Mo_understand_131 : decode b_Mo_understand 131 = .ok (.bipush 127, 2) := by decide +kernel
theorem d_Mo_understand_133 : decode b_Mo_understand 133 = .ok (.goto 6, 3) := by decide +kernel
theorem d_Mo_understand_136 : decode b_Mo_understand 136 = .ok (.sipush 255, 3) := by decide +kernel
theorem d_Mo_understand_139 : decode b_Mo_understand 139 = .ok (.istore 5, 2) := by decide +kernel
theorem d_Mo_understand_141 : decode b_Mo_understand 141 = .ok (.iload 4, 2) := by decide +kernel
theorem d_Mo_understand_143 : decode b_Mo_understand 143 = .ok (.istore 6, 2) := by decide +kernel
theorem d_Mo_understand_145 : decode b_Mo_understand 145 = .ok (.iload 6, 2) := by decide +kernel
theorem d_Mo_understand_147 : decode b_Mo_understand 147 = .ok (.iload 5, 2) := by decide +kernel
theorem d_Mo_understand_149 : decode b_Mo_understand 149 = .ok (.if_icmp .gt 37, 3) := by decide +kernel
theorem d_Mo_understand_152 : decode b_Mo_understand 152 = .ok (.aload_n 0, 1) := by decide +kernel
theorem d_Mo_understand_153 : decode b_Mo_understand 153 = .ok (.iload_n 2, 1) := by decide +kernel
theorem d_Mo_understand_154 : decode b_Mo_understand 154 = .ok (.iload 6, 2) := by decide +kernel
theorem d_Mo_understand_156 : decode b_Mo_understand 156 = .ok (.invokevirtual 96, 3) := by decide +kernel
theorem d_Mo_understand_159 : decode b_Mo_understand 159 = .ok (.aload_n 0, 1) := by decide +kernel
theorem d_Mo_understand_160 : decode b_Mo_understand 160 = .ok (.iload_n 1, 1) := by decide +kernel
theorem d_Mo_understand_161 : decode b_Mo_understand 161 = .ok (.invokevirtual 103, 3) := by decide +kernel
theorem d_Mo_understand_164 : decode b_Mo_understand 164 = .ok (.ifCond .eq 16, 3) := by decide +kernel
theorem d_Mo_understand_167 : decode b_Mo_understand 167 = .ok (.iload_n 2, 1) := by decide +kernel
theorem d_Mo_understand_168 : decode b_Mo_understand 168 = .ok (.sipush 1024, 3) := by decide +kernel
theorem d_Mo_understand_171 : decode b_Mo_understand 171 = .ok (.iload 6, 2) := by decide +kernel
theorem d_Mo_understand_173 : decode b_Mo_understand 173 = .ok (.sipush 200, 3) := by decide +kernel
theorem d_Mo_understand_176 : decode b_Mo_understand 176 = .ok (.iadd, 1) := by decide +kernel
theorem d_Mo_understand_177 : decode b_Mo_understand 177 = .ok (.imul, 1) := by decide +kernel
theorem d_Mo_understand_178 : decode b_Mo_understand 178 = .ok (.iadd, 1) := by decide +kernel
theorem d_Mo_understand_179 : decode b_Mo_understand 179 = .ok (.ireturn, 1) := by decide +kernel
theorem d_Mo_understand_180 : decode b_Mo_understand 180 = .ok (.iinc 6 1, 3) := by decide +kernel
theorem d_Mo_understand_183 : decode b_Mo_understand 183 = .ok (.goto (-38), 3) := by decide +kernel
theorem d_Mo_understand_186 : decode b_Mo_understand 186 = .ok (.iinc 2 1, 3) := by decide +kernel
theorem d_Mo_understand_189 : decode b_Mo_understand 189 = .ok (.goto (-145), 3) := by decide +kernel
theorem d_Mo_understand_192 : decode b_Mo_understand 192 = .ok (.iconst (-1), 1) := by decide +kernel
theorem d_Mo_understand_193 : decode b_Mo_understand 193 = .ok (.ireturn, 1) := by decide +kernel
theorem d_Mo_assemble_0 : decode b_Mo_assemble 0 = .ok (.iconst 0, 1) := by decide +kernel
theorem d_Mo_assemble_1 : decode b_Mo_assemble 1 = .ok (.istore_n 1, 1) := by decide +kernel
theorem d_Mo_assemble_2 : decode b_Mo_assemble 2 = .ok (.iconst 0, 1) := by decide +kernel
theorem d_Mo_assemble_3 : decode b_Mo_assemble 3 = .ok (.istore_n 2, 1) := by decide +kernel
theorem d_Mo_assemble_4 : decode b_Mo_assemble 4 = .ok (.iconst 0, 1) := by decide +kernel
theorem d_Mo_assemble_5 : decode b_Mo_assemble 5 = .ok (.istore_n 3, 1) := by decide +kernel
theorem d_Mo_assemble_6 : decode b_Mo_assemble 6 = .ok (.iload_n 3, 1) := by decide +kernel
theorem d_Mo_assemble_7 : decode b_Mo_assemble 7 = .ok (.sipush 2400, 3) := by decide +kernel
theorem d_Mo_assemble_10 : decode b_Mo_assemble 10 = .ok (.if_icmp .ge 166, 3) := by decide +kernel
theorem d_Mo_assemble_13 : decode b_Mo_assemble 13 = .ok (.iload_n 2, 1) := by decide +kernel
theorem d_Mo_assemble_14 : decode b_Mo_assemble 14 = .ok (.aload_n 0, 1) := by decide +kernel
theorem d_Mo_assemble_15 : decode b_Mo_assemble 15 = .ok (.getfield 43, 3) := by decide +kernel
theorem d_Mo_assemble_18 : decode b_Mo_assemble 18 = .ok (.if_icmp .ge 158, 3) := by decide +kernel
theorem d_Mo_assemble_21 : decode b_Mo_assemble 21 = .ok (.aload_n 0, 1) := by decide +kernel
theorem d_Mo_assemble_22 : decode b_Mo_assemble 22 = .ok (.iload_n 2, 1) := by decide +kernel
theorem d_Mo_assemble_23 : decode b_Mo_assemble 23 = .ok (.invokevirtual 108, 3) := by decide +kernel
theorem d_Mo_assemble_26 : decode b_Mo_assemble 26 = .ok (.istore 4, 2) := by decide +kernel
theorem d_Mo_assemble_28 : decode b_Mo_assemble 28 = .ok (.iload 4, 2) := by decide +kernel
theorem d_Mo_assemble_30 : decode b_Mo_assemble 30 = .ok (.ifCond .ge 5, 3) := by decide +kernel
theorem d_Mo_assemble_33 : decode b_Mo_assemble 33 = .ok (.iconst (-1), 1) := by decide +kernel
theorem d_Mo_assemble_34 : decode b_Mo_assemble 34 = .ok (.ireturn, 1) := by decide +kernel
theorem d_Mo_assemble_35 : decode b_Mo_assemble 35 = .ok (.iload_n 2, 1) := by decide +kernel
theorem d_Mo_assemble_36 : decode b_Mo_assemble 36 = .ok (.aload_n 0, 1) := by decide +kernel
theorem d_Mo_assemble_37 : decode b_Mo_assemble 37 = .ok (.getfield 73, 3) := by decide +kernel
theorem d_Mo_assemble_40 : decode b_Mo_assemble 40 = .ok (.iadd, 1) := by decide +kernel
theorem d_Mo_assemble_41 : decode b_Mo_assemble 41 = .ok (.iconst 1, 1) := by decide +kernel
theorem d_Mo_assemble_42 : decode b_Mo_assemble 42 = .ok (.iadd, 1) := by decide +kernel
theorem d_Mo_assemble_43 : decode b_Mo_assemble 43 = .ok (.istore_n 2, 1) := by decide +kernel
theorem d_Mo_assemble_44 : decode b_Mo_assemble 44 = .ok (.iload 4, 2) := by decide +kernel
theorem d_Mo_assemble_46 : decode b_Mo_assemble 46 = .ok (.sipush 1024, 3) := by decide +kernel
theorem d_Mo_assemble_49 : decode b_Mo_assemble 49 = .ok (.irem, 1) := by decide +kernel
theorem d_Mo_assemble_50 : decode b_Mo_assemble 50 = .ok (.istore 5, 2) := by decide +kernel
theorem d_Mo_assemble_52 : decode b_Mo_assemble 52 = .ok (.iload 4, 2) := by decide +kernel
theorem d_Mo_assemble_54 : decode b_Mo_assemble 54 = .ok (.sipush 1024, 3) := by decide +kernel
theorem d_Mo_assemble_57 : decode b_Mo_assemble 57 = .ok (.idiv, 1) := by decide +kernel
theorem d_Mo_assemble_58 : decode b_Mo_assemble 58 = .ok (.sipush 200, 3) := by decide +kernel
theorem d_Mo_assemble_61 : decode b_Mo_assemble 61 = .ok (.isub, 1) := by decide +kernel
theorem d_Mo_assemble_62 : decode b_Mo_assemble 62 = .ok (.istore 6, 2) := by decide +kernel
theorem d_Mo_assemble_64 : decode b_Mo_assemble 64 = .ok (.iload 5, 2) := by decide +kernel
theorem d_Mo_assemble_66 : decode b_Mo_assemble 66 = .ok (.sipush 300, 3) := by decide +kernel
theorem d_Mo_assemble_69 : decode b_Mo_assemble 69 = .ok (.if_icmp .ne 7, 3) := by decide +kernel
theorem d_Mo_assemble_72 : decode b_Mo_assemble 72 = .ok (.iconst 1, 1) := by decide +kernel
theorem d_Mo_assemble_73 : decode b_Mo_assemble 73 = .ok (.goto 8, 3) := by decide +kernel
theorem d_Mo_assemble_76 : decode b_Mo_assemble 76 = .ok (.iload 5, 2) := by decide +kernel
theorem d_Mo_assemble_78 : decode b_Mo_assemble 78 = .ok (.invokestatic 49, 3) := by decide +kernel
theorem d_Mo_assemble_81 : decode b_Mo_assemble 81 = .ok (.istore 7, 2) := by decide +kernel
theorem d_Mo_assemble_83 : decode b_Mo_assemble 83 = .ok (.iconst 0, 1) := by decide +kernel
theorem d_Mo_assemble_84 : decode b_Mo_assemble 84 = .ok (.istore 8, 2) := by decide +kernel
theorem d_Mo_assemble_86 : decode b_Mo_assemble 86 = .ok (.iload 8, 2) := by decide +kernel
theorem d_Mo_assemble_88 : decode b_Mo_assemble 88 = .ok (.iload 7, 2) := by decide +kernel
theorem d_Mo_assemble_90 : decode b_Mo_assemble 90 = .ok (.if_icmp .ge 80, 3) := by decide +kernel
theorem d_Mo_assemble_93 : decode b_Mo_assemble 93 = .ok (.iload 8, 2) := by decide +kernel
theorem d_Mo_assemble_95 : decode b_Mo_assemble 95 = .ok (.ifCond .ne 21, 3) := by decide +kernel
theorem d_Mo_assemble_98 : decode b_Mo_assemble 98 = .ok (.iload 5, 2) := by decide +kernel
theorem d_Mo_assemble_100 : decode b_Mo_assemble 100 = .ok (.sipush 300, 3) := by decide +kernel
theorem d_Mo_assemble_103 : decode b_Mo_assemble 103 = .ok (.if_icmp .ne 8, 3) := by decide +kernel
theorem d_Mo_assemble_106 : decode b_Mo_assemble 106 = .ok (.iload 6, 2) := by decide +kernel
theorem d_Mo_assemble_108 : decode b_Mo_assemble 108 = .ok (.goto 35, 3) := by decide +kernel
theorem d_Mo_assemble_111 : decode b_Mo_assemble 111 = .ok (.iload 5, 2) := by decide +kernel
theorem d_Mo_assemble_113 : decode b_Mo_assemble 113 = .ok (.goto 30, 3) := by decide +kernel
theorem d_Mo_assemble_116 : decode b_Mo_assemble 116 = .ok (.iload 7, 2) := by decide +kernel
theorem d_Mo_assemble_118 : decode b_Mo_assemble 118 = .ok (.iconst 3, 1) := by decide +kernel
theorem d_Mo_assemble_119 : decode b_Mo_assemble 119 = .ok (.if_icmp .ne 18, 3) := by decide +kernel
theorem d_Mo_assemble_122 : decode b_Mo_assemble 122 = .ok (.iload 8, 2) := by decide +kernel
theorem d_Mo_assemble_124 : decode b_Mo_assemble 124 = .ok (.iconst 1, 1) := by decide +kernel
theorem d_Mo_assemble_125 : decode b_Mo_assemble 125 = .ok (.if_icmp .ne 12, 3) := by decide +kernel
theorem d_Mo_assemble_128 : decode b_Mo_assemble 128 = .ok (.iload 6, 2) := by decide +kernel
theorem d_Mo_assemble_130 : decode b_Mo_assemble 130 = .ok (.sipush 256, 3) := by decide +kernel
theorem d_Mo_assemble_133 : decode b_Mo_assemble 133 = .ok (.idiv, 1) := by decide +kernel
theorem d_Mo_assemble_134 : decode b_Mo_assemble 134 = .ok (.goto 9, 3) := by decide +kernel
theorem d_Mo_assemble_137 : decode b_Mo_assemble 137 = .ok (.iload 6, 2) := by decide +kernel
theorem d_Mo_assemble_139 : decode b_Mo_assemble 139 = .ok (.sipush 255, 3) := by decide +kernel
theorem d_Mo_assemble_142 : decode b_Mo_assemble 142 = .ok (.iand, 1) := by decide +kernel
theorem d_Mo_assemble_143 : decode b_Mo_assemble 143 = .ok (.istore 9, 2) := by decide +kernel
theorem d_Mo_assemble_145 : decode b_Mo_assemble 145 = .ok (.iload_n 1, 1) := by decide +kernel
theorem d_Mo_assemble_146 : decode b_Mo_assemble 146 = .ok (.sipush 160, 3) := by decide +kernel
theorem d_Mo_assemble_149 : decode b_Mo_assemble 149 = .ok (.if_icmp .ge 11, 3) := by decide +kernel
theorem d_Mo_assemble_152 : decode b_Mo_assemble 152 = .ok (.aload_n 0, 1) := by decide +kernel
theorem d_Mo_assemble_153 : decode b_Mo_assemble 153 = .ok (.getfield 22, 3) := by decide +kernel
theorem d_Mo_assemble_156 : decode b_Mo_assemble 156 = .ok (.iload_n 1, 1) := by decide +kernel
theorem d_Mo_assemble_157 : decode b_Mo_assemble 157 = .ok (.iload 9, 2) := by decide +kernel
theorem d_Mo_assemble_159 : decode b_Mo_assemble 159 = .ok (.iastore, 1) := by decide +kernel
theorem d_Mo_assemble_160 : decode b_Mo_assemble 160 = .ok (.iload_n 1, 1) := by decide +kernel
theorem d_Mo_assemble_161 : decode b_Mo_assemble 161 = .ok (.iconst 1, 1) := by decide +kernel
theorem d_Mo_assemble_162 : decode b_Mo_assemble 162 = .ok (.iadd, 1) := by decide +kernel
theorem d_Mo_assemble_163 : decode b_Mo_assemble 163 = .ok (.istore_n 1, 1) := by decide +kernel
theorem d_Mo_assemble_164 : decode b_Mo_assemble 164 = .ok (.iinc 8 1, 3) := by decide +kernel
theorem d_Mo_assemble_167 : decode b_Mo_assemble 167 = .ok (.goto (-81), 3) := by decide +kernel
theorem d_Mo_assemble_170 : decode b_Mo_assemble 170 = .ok (.iinc 3 1, 3) := by decide +kernel
theorem d_Mo_assemble_173 : decode b_Mo_assemble 173 = .ok (.goto (-167), 3) := by decide +kernel
theorem d_Mo_assemble_176 : decode b_Mo_assemble 176 = .ok (.iload_n 1, 1) := by decide +kernel
theorem d_Mo_assemble_177 : decode b_Mo_assemble 177 = .ok (.sipush 160, 3) := by decide +kernel
theorem d_Mo_assemble_180 : decode b_Mo_assemble 180 = .ok (.if_icmp .le 6, 3) := by decide +kernel
theorem d_Mo_assemble_183 : decode b_Mo_assemble 183 = .ok (.bipush (-2), 2) := by decide +kernel
theorem d_Mo_assemble_185 : decode b_Mo_assemble 185 = .ok (.ireturn, 1) := by decide +kernel
theorem d_Mo_assemble_186 : decode b_Mo_assemble 186 = .ok (.aload_n 0, 1) := by decide +kernel
theorem d_Mo_assemble_187 : decode b_Mo_assemble 187 = .ok (.iload_n 1, 1) := by decide +kernel
theorem d_Mo_assemble_188 : decode b_Mo_assemble 188 = .ok (.putfield 46, 3) := by decide +kernel
theorem d_Mo_assemble_191 : decode b_Mo_assemble 191 = .ok (.iconst 0, 1) := by decide +kernel
theorem d_Mo_assemble_192 : decode b_Mo_assemble 192 = .ok (.istore_n 3, 1) := by decide +kernel
theorem d_Mo_assemble_193 : decode b_Mo_assemble 193 = .ok (.iload_n 3, 1) := by decide +kernel
theorem d_Mo_assemble_194 : decode b_Mo_assemble 194 = .ok (.iload_n 1, 1) := by decide +kernel
theorem d_Mo_assemble_195 : decode b_Mo_assemble 195 = .ok (.if_icmp .ge 21, 3) := by decide +kernel
theorem d_Mo_assemble_198 : decode b_Mo_assemble 198 = .ok (.aload_n 0, 1) := by decide +kernel
theorem d_Mo_assemble_199 : decode b_Mo_assemble 199 = .ok (.getfield 19, 3) := by decide +kernel
theorem d_Mo_assemble_202 : decode b_Mo_assemble 202 = .ok (.iload_n 3, 1) := by decide +kernel
theorem d_Mo_assemble_203 : decode b_Mo_assemble 203 = .ok (.aload_n 0, 1) := by decide +kernel
theorem d_Mo_assemble_204 : decode b_Mo_assemble 204 = .ok (.getfield 22, 3) := by decide +kernel
theorem d_Mo_assemble_207 : decode b_Mo_assemble 207 = .ok (.iload_n 3, 1) := by decide +kernel
theorem d_Mo_assemble_208 : decode b_Mo_assemble 208 = .ok (.iaload, 1) := by decide +kernel
theorem d_Mo_assemble_209 : decode b_Mo_assemble 209 = .ok (.iastore, 1) := by decide +kernel
theorem d_Mo_assemble_210 : decode b_Mo_assemble 210 = .ok (.iinc 3 1, 3) := by decide +kernel
theorem d_Mo_assemble_213 : decode b_Mo_assemble 213 = .ok (.goto (-20), 3) := by decide +kernel
theorem d_Mo_assemble_216 : decode b_Mo_assemble 216 = .ok (.iload_n 1, 1) := by decide +kernel
theorem d_Mo_assemble_217 : decode b_Mo_assemble 217 = .ok (.ireturn, 1) := by decide +kernel
theorem d_Mo_made_0 : decode b_Mo_made 0 = .ok (.iload_n 1, 1) := by decide +kernel
theorem d_Mo_made_1 : decode b_Mo_made 1 = .ok (.ifCond .lt 20, 3) := by decide +kernel
theorem d_Mo_made_4 : decode b_Mo_made 4 = .ok (.iload_n 1, 1) := by decide +kernel
theorem d_Mo_made_5 : decode b_Mo_made 5 = .ok (.aload_n 0, 1) := by decide +kernel
theorem d_Mo_made_6 : decode b_Mo_made 6 = .ok (.getfield 46, 3) := by decide +kernel
theorem d_Mo_made_9 : decode b_Mo_made 9 = .ok (.if_icmp .ge 12, 3) := by decide +kernel
theorem d_Mo_made_12 : decode b_Mo_made 12 = .ok (.aload_n 0, 1) := by decide +kernel
theorem d_Mo_made_13 : decode b_Mo_made 13 = .ok (.getfield 19, 3) := by decide +kernel
theorem d_Mo_made_16 : decode b_Mo_made 16 = .ok (.iload_n 1, 1) := by decide +kernel
theorem d_Mo_made_17 : decode b_Mo_made 17 = .ok (.iaload, 1) := by decide +kernel
theorem d_Mo_made_18 : decode b_Mo_made 18 = .ok (.goto 4, 3) := by decide +kernel
theorem d_Mo_made_21 : decode b_Mo_made 21 = .ok (.iconst (-1), 1) := by decide +kernel
theorem d_Mo_made_22 : decode b_Mo_made 22 = .ok (.ireturn, 1) := by decide +kernel
theorem d_As_init_0 : decode b_As_init 0 = .ok (.aload_n 0, 1) := by decide +kernel
theorem d_As_init_1 : decode b_As_init 1 = .ok (.invokespecial 3, 3) := by decide +kernel
theorem d_As_init_4 : decode b_As_init 4 = .ok (.aload_n 0, 1) := by decide +kernel
theorem d_As_init_5 : decode b_As_init 5 = .ok (.sipush 160, 3) := by decide +kernel
theorem d_As_init_8 : decode b_As_init 8 = .ok (.newarray .int, 2) := by decide +kernel
theorem d_As_init_10 : decode b_As_init 10 = .ok (.putfield 9, 3) := by decide +kernel
theorem d_As_init_13 : decode b_As_init 13 = .ok (.return_, 1) := by decide +kernel
theorem d_As_count_0 : decode b_As_count 0 = .ok (.aload_n 0, 1) := by decide +kernel
theorem d_As_count_1 : decode b_As_count 1 = .ok (.getfield 15, 3) := by decide +kernel
theorem d_As_count_4 : decode b_As_count 4 = .ok (.ireturn, 1) := by decide +kernel
theorem d_As_copyTo_0 : decode b_As_copyTo 0 = .ok (.aload_n 0, 1) := by decide +kernel
theorem d_As_copyTo_1 : decode b_As_copyTo 1 = .ok (.getfield 9, 3) := by decide +kernel
theorem d_As_copyTo_4 : decode b_As_copyTo 4 = .ok (.iconst 0, 1) := by decide +kernel
theorem d_As_copyTo_5 : decode b_As_copyTo 5 = .ok (.aload_n 1, 1) := by decide +kernel
theorem d_As_copyTo_6 : decode b_As_copyTo 6 = .ok (.iconst 0, 1) := by decide +kernel
theorem d_As_copyTo_7 : decode b_As_copyTo 7 = .ok (.aload_n 1, 1) := by decide +kernel
theorem d_As_copyTo_8 : decode b_As_copyTo 8 = .ok (.arraylength, 1) := by decide +kernel
theorem d_As_copyTo_9 : decode b_As_copyTo 9 = .ok (.aload_n 0, 1) := by decide +kernel
theorem d_As_copyTo_10 : decode b_As_copyTo 10 = .ok (.getfield 15, 3) := by decide +kernel
theorem d_As_copyTo_13 : decode b_As_copyTo 13 = .ok (.sipush 160, 3) := by decide +kernel
theorem d_As_copyTo_16 : decode b_As_copyTo 16 = .ok (.invokestatic 19, 3) := by decide +kernel
theorem d_As_copyTo_19 : decode b_As_copyTo 19 = .ok (.invokestatic 19, 3) := by decide +kernel
theorem d_As_copyTo_22 : decode b_As_copyTo 22 = .ok (.invokestatic 25, 3) := by decide +kernel
theorem d_As_copyTo_25 : decode b_As_copyTo 25 = .ok (.return_, 1) := by decide +kernel
theorem d_As_read_0 : decode b_As_read 0 = .ok (.aload_n 0, 1) := by decide +kernel
theorem d_As_read_1 : decode b_As_read 1 = .ok (.iconst 0, 1) := by decide +kernel
theorem d_As_read_2 : decode b_As_read 2 = .ok (.putfield 15, 3) := by decide +kernel
theorem d_As_read_5 : decode b_As_read 5 = .ok (.aload_n 1, 1) := by decide +kernel
theorem d_As_read_6 : decode b_As_read 6 = .ok (.invokevirtual 31, 3) := by decide +kernel
theorem d_As_read_9 : decode b_As_read 9 = .ok (.iconst 0, 1) := by decide +kernel
theorem d_As_read_10 : decode b_As_read 10 = .ok (.istore_n 2, 1) := by decide +kernel
theorem d_As_read_11 : decode b_As_read 11 = .ok (.iload_n 2, 1) := by decide +kernel
theorem d_As_read_12 : decode b_As_read 12 = .ok (.sipush 2400, 3) := by decide +kernel
theorem d_As_read_15 : decode b_As_read 15 = .ok (.if_icmp .ge 21, 3) := by decide +kernel
theorem d_As_read_18 : decode b_As_read 18 = .ok (.aload_n 1, 1) := by decide +kernel
theorem d_As_read_19 : decode b_As_read 19 = .ok (.invokevirtual 36, 3) := by decide +kernel
theorem d_As_read_22 : decode b_As_read 22 = .ok (.ifCond .eq 14, 3) := by decide +kernel
theorem d_As_read_25 : decode b_As_read 25 = .ok (.aload_n 0, 1) := by decide +kernel
theorem d_As_read_26 : decode b_As_read 26 = .ok (.aload_n 1, 1) := by decide +kernel
theorem d_As_read_27 : decode b_As_read 27 = .ok (.invokevirtual 40, 3) := by decide +kernel
theorem d_As_read_30 : decode b_As_read 30 = .ok (.iinc 2 1, 3) := by decide +kernel
theorem d_As_read_33 : decode b_As_read 33 = .ok (.goto (-22), 3) := by decide +kernel
theorem d_As_read_36 : decode b_As_read 36 = .ok (.aload_n 1, 1) := by decide +kernel
theorem d_As_read_37 : decode b_As_read 37 = .ok (.invokevirtual 44, 3) := by decide +kernel
theorem d_As_read_40 : decode b_As_read 40 = .ok (.ireturn, 1) := by decide +kernel
theorem d_As_readLine_0 : decode b_As_readLine 0 = .ok (.aload_n 1, 1) := by decide +kernel
theorem d_As_readLine_1 : decode b_As_readLine 1 = .ok (.invokevirtual 47, 3) := by decide +kernel
theorem d_As_readLine_4 : decode b_As_readLine 4 = .ok (.istore_n 2, 1) := by decide +kernel
theorem d_As_readLine_5 : decode b_As_readLine 5 = .ok (.iload_n 2, 1) := by decide +kernel
theorem d_As_readLine_6 : decode b_As_readLine 6 = .ok (.iconst (-1), 1) := by decide +kernel
theorem d_As_readLine_7 : decode b_As_readLine 7 = .ok (.if_icmp .ne 4, 3) := by decide +kernel
theorem d_As_readLine_10 : decode b_As_readLine 10 = .ok (.return_, 1) := by decide +kernel
theorem d_As_readLine_11 : decode b_As_readLine 11 = .ok (.aload_n 1, 1) := by decide +kernel
theorem d_As_readLine_12 : decode b_As_readLine 12 = .ok (.iload_n 2, 1) := by decide +kernel
theorem d_As_readLine_13 : decode b_As_readLine 13 = .ok (.invokestatic 51, 3) := by decide +kernel
theorem d_As_readLine_16 : decode b_As_readLine 16 = .ok (.istore_n 3, 1) := by decide +kernel
theorem d_As_readLine_17 : decode b_As_readLine 17 = .ok (.aload_n 1, 1) := by decide +kernel
theorem d_As_readLine_18 : decode b_As_readLine 18 = .ok (.iload_n 2, 1) := by decide +kernel
theorem d_As_readLine_19 : decode b_As_readLine 19 = .ok (.invokestatic 55, 3) := by decide +kernel
theorem d_As_readLine_22 : decode b_As_readLine 22 = .ok (.istore 4, 2) := by decide +kernel
theorem d_As_readLine_24 : decode b_As_readLine 24 = .ok (.aload_n 1, 1) := by decide +kernel
theorem d_As_readLine_25 : decode b_As_readLine 25 = .ok (.bipush 10, 2) := by decide +kernel
theorem d_As_readLine_27 : decode b_As_readLine 27 = .ok (.invokevirtual 58, 3) := by decide +kernel
theorem d_As_readLine_30 : decode b_As_readLine 30 = .ok (.aload_n 0, 1) := by decide +kernel
theorem d_As_readLine_31 : decode b_As_readLine 31 = .ok (.iload_n 2, 1) := by decide +kernel
theorem d_As_readLine_32 : decode b_As_readLine 32 = .ok (.iload_n 3, 1) := by decide +kernel
theorem d_As_readLine_33 : decode b_As_readLine 33 = .ok (.iload 4, 2) := by decide +kernel
theorem d_As_readLine_35 : decode b_As_readLine 35 = .ok (.invokevirtual 62, 3) := by decide +kernel
theorem d_As_readLine_38 : decode b_As_readLine 38 = .ok (.return_, 1) := by decide +kernel
theorem d_As_readRegisters_0 : decode b_As_readRegisters 0 = .ok (.iconst 0, 1) := by decide +kernel
theorem d_As_readRegisters_1 : decode b_As_readRegisters 1 = .ok (.istore_n 2, 1) := by decide +kernel
theorem d_As_readRegisters_2 : decode b_As_readRegisters 2 = .ok (.iconst 0, 1) := by decide +kernel
theorem d_As_readRegisters_3 : decode b_As_readRegisters 3 = .ok (.istore_n 3, 1) := by decide +kernel
theorem d_As_readRegisters_4 : decode b_As_readRegisters 4 = .ok (.iload_n 3, 1) := by decide +kernel
theorem d_As_readRegisters_5 : decode b_As_readRegisters 5 = .ok (.iload_n 1, 1) := by decide +kernel
theorem d_As_readRegisters_6 : decode b_As_readRegisters 6 = .ok (.invokestatic 66, 3) := by decide +kernel
theorem d_As_readRegisters_9 : decode b_As_readRegisters 9 = .ok (.if_icmp .ge 23, 3) := by decide +kernel
theorem d_As_readRegisters_12 : decode b_As_readRegisters 12 = .ok (.aload_n 0, 1) := by decide +kernel
theorem d_As_readRegisters_13 : decode b_As_readRegisters 13 = .ok (.iload_n 3, 1) := by decide +kernel
theorem d_As_readRegisters_14 : decode b_As_readRegisters 14 = .ok (.invokevirtual 72, 3) := by decide +kernel
theorem d_As_readRegisters_17 : decode b_As_readRegisters 17 = .ok (.iconst 4, 1) := by decide +kernel
theorem d_As_readRegisters_18 : decode b_As_readRegisters 18 = .ok (.iload_n 2, 1) := by decide +kernel
theorem d_As_readRegisters_19 : decode b_As_readRegisters 19 = .ok (.imul, 1) := by decide +kernel
theorem d_As_readRegisters_20 : decode b_As_readRegisters 20 = .ok (.aload_n 0, 1) := by decide +kernel
theorem d_As_readRegisters_21 : decode b_As_readRegisters 21 = .ok (.invokevirtual 76, 3) := by decide +kernel
theorem d_As_readRegisters_24 : decode b_As_readRegisters 24 = .ok (.iadd, 1) := by decide +kernel
theorem d_As_readRegisters_25 : decode b_As_readRegisters 25 = .ok (.istore_n 2, 1) := by decide +kernel
theorem d_As_readRegisters_26 : decode b_As_readRegisters 26 = .ok (.iinc 3 1, 3) := by decide +kernel
theorem d_As_readRegisters_29 : decode b_As_readRegisters 29 = .ok (.goto (-25), 3) := by decide +kernel
theorem d_As_readRegisters_32 : decode b_As_readRegisters 32 = .ok (.iload_n 2, 1) := by decide +kernel
theorem d_As_readRegisters_33 : decode b_As_readRegisters 33 = .ok (.ireturn, 1) := by decide +kernel
theorem d_As_readNumber_0 : decode b_As_readNumber 0 = .ok (.iload_n 1, 1) := by decide +kernel
theorem d_As_readNumber_1 : decode b_As_readNumber 1 = .ok (.invokestatic 79, 3) := by decide +kernel
theorem d_As_readNumber_4 : decode b_As_readNumber 4 = .ok (.istore_n 2, 1) := by decide +kernel
theorem d_As_readNumber_5 : decode b_As_readNumber 5 = .ok (.iload_n 2, 1) := by decide +kernel
theorem d_As_readNumber_6 : decode b_As_readNumber 6 = .ok (.ifCond .ne 5, 3) := by decide +kernel
theorem d_As_readNumber_9 : decode b_As_readNumber 9 = .ok (.iconst 0, 1) := by decide +kernel
theorem d_As_readNumber_10 : decode b_As_readNumber 10 = .ok (.ireturn, 1) := by decide +kernel
theorem d_As_readNumber_11 : decode b_As_readNumber 11 = .ok (.aload_n 0, 1) := by decide +kernel
theorem d_As_readNumber_12 : decode b_As_readNumber 12 = .ok (.iload_n 1, 1) := by decide +kernel
theorem d_As_readNumber_13 : decode b_As_readNumber 13 = .ok (.invokestatic 66, 3) := by decide +kernel
theorem d_As_readNumber_16 : decode b_As_readNumber 16 = .ok (.invokevirtual 72, 3) := by decide +kernel
theorem d_As_readNumber_19 : decode b_As_readNumber 19 = .ok (.aload_n 0, 1) := by decide +kernel
theorem d_As_readNumber_20 : decode b_As_readNumber 20 = .ok (.iload_n 2, 1) := by decide +kernel
theorem d_As_readNumber_21 : decode b_As_readNumber 21 = .ok (.invokestatic 82, 3) := by decide +kernel
theorem d_As_readNumber_24 : decode b_As_readNumber 24 = .ok (.iload_n 2, 1) := by decide +kernel
theorem d_As_readNumber_25 : decode b_As_readNumber 25 = .ok (.invokestatic 85, 3) := by decide +kernel
theorem d_As_readNumber_28 : decode b_As_readNumber 28 = .ok (.invokevirtual 88, 3) := by decide +kernel
theorem d_As_readNumber_31 : decode b_As_readNumber 31 = .ok (.ireturn, 1) := by decide +kernel
theorem d_As_addBytes_0 : decode b_As_addBytes 0 = .ok (.iload_n 1, 1) := by decide +kernel
theorem d_As_addBytes_1 : decode b_As_addBytes 1 = .ok (.bipush 13, 2) := by decide +kernel
theorem d_As_addBytes_3 : decode b_As_addBytes 3 = .ok (.if_icmp .eq 13, 3) := by decide +kernel
theorem d_As_addBytes_6 : decode b_As_addBytes 6 = .ok (.aload_n 0, 1) := by decide +kernel
theorem d_As_addBytes_7 : decode b_As_addBytes 7 = .ok (.iload_n 1, 1) := by decide +kernel
theorem d_As_addBytes_8 : decode b_As_addBytes 8 = .ok (.invokestatic 91, 3) := by decide +kernel
theorem d_As_addBytes_11 : decode b_As_addBytes 11 = .ok (.iload_n 2, 1) := by decide +kernel
theorem d_As_addBytes_12 : decode b_As_addBytes 12 = .ok (.iadd, 1) := by decide +kernel
theorem d_As_addBytes_13 : decode b_As_addBytes 13 = .ok (.invokevirtual 94, 3) := by decide +kernel
theorem d_As_addBytes_16 : decode b_As_addBytes 16 = .ok (.iload_n 1, 1) := by decide +kernel
theorem d_As_addBytes_17 : decode b_As_addBytes 17 = .ok (.invokestatic 79, 3) := by decide +kernel
theorem d_As_addBytes_20 : decode b_As_addBytes 20 = .ok (.iconst 3, 1) := by decide +kernel
theorem d_As_addBytes_21 : decode b_As_addBytes 21 = .ok (.if_icmp .ne 11, 3) := by decide +kernel
theorem d_As_addBytes_24 : decode b_As_addBytes 24 = .ok (.aload_n 0, 1) := by decide +kernel
theorem d_As_addBytes_25 : decode b_As_addBytes 25 = .ok (.iload_n 3, 1) := by decide +kernel
theorem d_As_addBytes_26 : decode b_As_addBytes 26 = .ok (.bipush 8, 2) := by decide +kernel
theorem d_As_addBytes_28 : decode b_As_addBytes 28 = .ok (.ishr, 1) := by decide +kernel
theorem d_As_addBytes_29 : decode b_As_addBytes 29 = .ok (.invokevirtual 94, 3) := by decide +kernel
theorem d_As_addBytes_32 : decode b_As_addBytes 32 = .ok (.iload_n 1, 1) := by decide +kernel
theorem d_As_addBytes_33 : decode b_As_addBytes 33 = .ok (.invokestatic 79, 3) := by decide +kernel
theorem d_As_addBytes_36 : decode b_As_addBytes 36 = .ok (.ifCond .eq 12, 3) := by decide +kernel
theorem d_As_addBytes_39 : decode b_As_addBytes 39 = .ok (.aload_n 0, 1) := by decide +kernel
theorem d_As_addBytes_40 : decode b_As_addBytes 40 = .ok (.iload_n 3, 1) := by decide +kernel
theorem d_As_addBytes_41 : decode b_As_addBytes 41 = .ok (.sipush 255, 3) := by decide +kernel
theorem d_As_addBytes_44 : decode b_As_addBytes 44 = .ok (.iand, 1) := by decide +kernel
theorem d_As_addBytes_45 : decode b_As_addBytes 45 = .ok (.invokevirtual 94, 3) := by decide +kernel
theorem d_As_addBytes_48 : decode b_As_addBytes 48 = .ok (.return_, 1) := by decide +kernel
theorem d_As_addByte_0 : decode b_As_addByte 0 = .ok (.aload_n 0, 1) := by decide +kernel
theorem d_As_addByte_1 : decode b_As_addByte 1 = .ok (.getfield 15, 3) := by decide +kernel
theorem d_As_addByte_4 : decode b_As_addByte 4 = .ok (.sipush 160, 3) := by decide +kernel
theorem d_As_addByte_7 : decode b_As_addByte 7 = .ok (.if_icmp .ge 13, 3) := by decide +kernel
theorem d_As_addByte_10 : decode b_As_addByte 10 = .ok (.aload_n 0, 1) := by decide +kernel
theorem d_As_addByte_11 : decode b_As_addByte 11 = .ok (.getfield 9, 3) := by decide +kernel
theorem d_As_addByte_14 : decode b_As_addByte 14 = .ok (.aload_n 0, 1) := by decide +kernel
theorem d_As_addByte_15 : decode b_As_addByte 15 = .ok (.getfield 15, 3) := by decide +kernel
theorem d_As_addByte_18 : decode b_As_addByte 18 = .ok (.iload_n 1, 1) := by decide +kernel
theorem d_As_addByte_19 : decode b_As_addByte 19 = .ok (.iastore, 1) := by decide +kernel
theorem d_As_addByte_20 : decode b_As_addByte 20 = .ok (.aload_n 0, 1) := by decide +kernel
theorem d_As_addByte_21 : decode b_As_addByte 21 = .ok (.dup, 1) := by decide +kernel
theorem d_As_addByte_22 : decode b_As_addByte 22 = .ok (.getfield 15, 3) := by decide +kernel
theorem d_As_addByte_25 : decode b_As_addByte 25 = .ok (.iconst 1, 1) := by decide +kernel
theorem d_As_addByte_26 : decode b_As_addByte 26 = .ok (.iadd, 1) := by decide +kernel
theorem d_As_addByte_27 : decode b_As_addByte 27 = .ok (.putfield 15, 3) := by decide +kernel
theorem d_As_addByte_30 : decode b_As_addByte 30 = .ok (.return_, 1) := by decide +kernel
theorem d_Im_init_0 : decode b_Im_init 0 = .ok (.aload_n 0, 1) := by decide +kernel
theorem d_Im_init_1 : decode b_Im_init 1 = .ok (.invokespecial 3, 3) := by decide +kernel
theorem d_Im_init_4 : decode b_Im_init 4 = .ok (.aload_n 0, 1) := by decide +kernel
theorem d_Im_init_5 : decode b_Im_init 5 = .ok (.sipush 160, 3) := by decide +kernel
theorem d_Im_init_8 : decode b_Im_init 8 = .ok (.newarray .int, 2) := by decide +kernel
theorem d_Im_init_10 : decode b_Im_init 10 = .ok (.putfield 9, 3) := by decide +kernel
theorem d_Im_init_13 : decode b_Im_init 13 = .ok (.return_, 1) := by decide +kernel
theorem d_Im_count_0 : decode b_Im_count 0 = .ok (.aload_n 0, 1) := by decide +kernel
theorem d_Im_count_1 : decode b_Im_count 1 = .ok (.getfield 15, 3) := by decide +kernel
theorem d_Im_count_4 : decode b_Im_count 4 = .ok (.ireturn, 1) := by decide +kernel
theorem d_Im_holds_0 : decode b_Im_holds 0 = .ok (.iload_n 1, 1) := by decide +kernel
theorem d_Im_holds_1 : decode b_Im_holds 1 = .ok (.ifCond .lt 15, 3) := by decide +kernel
theorem d_Im_holds_4 : decode b_Im_holds 4 = .ok (.iload_n 1, 1) := by decide +kernel
theorem d_Im_holds_5 : decode b_Im_holds 5 = .ok (.aload_n 0, 1) := by decide +kernel
theorem d_Im_holds_6 : decode b_Im_holds 6 = .ok (.getfield 15, 3) := by decide +kernel
theorem d_Im_holds_9 : decode b_Im_holds 9 = .ok (.if_icmp .ge 7, 3) := by decide +kernel
theorem d_Im_holds_12 : decode b_Im_holds 12 = .ok (.iconst 1, 1) := by decide +kernel
theorem d_Im_holds_13 : decode b_Im_holds 13 = .ok (.goto 4, 3) := by decide +kernel
theorem d_Im_holds_16 : decode b_Im_holds 16 = .ok (.iconst 0, 1) := by decide +kernel
theorem d_Im_holds_17 : decode b_Im_holds 17 = .ok (.ireturn, 1) := by decide +kernel
theorem d_Im_at_0 : decode b_Im_at 0 = .ok (.aload_n 0, 1) := by decide +kernel
theorem d_Im_at_1 : decode b_Im_at 1 = .ok (.iload_n 1, 1) := by decide +kernel
theorem d_Im_at_2 : decode b_Im_at 2 = .ok (.invokevirtual 19, 3) := by decide +kernel
theorem d_Im_at_5 : decode b_Im_at 5 = .ok (.ifCond .eq 12, 3) := by decide +kernel
theorem d_Im_at_8 : decode b_Im_at 8 = .ok (.aload_n 0, 1) := by decide +kernel
theorem d_Im_at_9 : decode b_Im_at 9 = .ok (.getfield 9, 3) := by decide +kernel
theorem d_Im_at_12 : decode b_Im_at 12 = .ok (.iload_n 1, 1) := by decide +kernel
theorem d_Im_at_13 : decode b_Im_at 13 = .ok (.iaload, 1) := by decide +kernel
theorem d_Im_at_14 : decode b_Im_at 14 = .ok (.goto 4, 3) := by decide +kernel
theorem d_Im_at_17 : decode b_Im_at 17 = .ok (.iconst (-1), 1) := by decide +kernel
theorem d_Im_at_18 : decode b_Im_at 18 = .ok (.ireturn, 1) := by decide +kernel
theorem d_Im_add_0 : decode b_Im_add 0 = .ok (.aload_n 0, 1) := by decide +kernel
theorem d_Im_add_1 : decode b_Im_add 1 = .ok (.getfield 15, 3) := by decide +kernel
theorem d_Im_add_4 : decode b_Im_add 4 = .ok (.sipush 160, 3) := by decide +kernel
theorem d_Im_add_7 : decode b_Im_add 7 = .ok (.if_icmp .ge 23, 3) := by decide +kernel
theorem d_Im_add_10 : decode b_Im_add 10 = .ok (.aload_n 0, 1) := by decide +kernel
theorem d_Im_add_11 : decode b_Im_add 11 = .ok (.getfield 9, 3) := by decide +kernel
theorem d_Im_add_14 : decode b_Im_add 14 = .ok (.aload_n 0, 1) := by decide +kernel
theorem d_Im_add_15 : decode b_Im_add 15 = .ok (.getfield 15, 3) := by decide +kernel
theorem d_Im_add_18 : decode b_Im_add 18 = .ok (.iload_n 1, 1) := by decide +kernel
theorem d_Im_add_19 : decode b_Im_add 19 = .ok (.iastore, 1) := by decide +kernel
theorem d_Im_add_20 : decode b_Im_add 20 = .ok (.aload_n 0, 1) := by decide +kernel
theorem d_Im_add_21 : decode b_Im_add 21 = .ok (.dup, 1) := by decide +kernel
theorem d_Im_add_22 : decode b_Im_add 22 = .ok (.getfield 15, 3) := by decide +kernel
theorem d_Im_add_25 : decode b_Im_add 25 = .ok (.iconst 1, 1) := by decide +kernel
theorem d_Im_add_26 : decode b_Im_add 26 = .ok (.iadd, 1) := by decide +kernel
theorem d_Im_add_27 : decode b_Im_add 27 = .ok (.putfield 15, 3) := by decide +kernel
theorem d_Im_add_30 : decode b_Im_add 30 = .ok (.return_, 1) := by decide +kernel
theorem d_Im_drop_0 : decode b_Im_drop 0 = .ok (.aload_n 0, 1) := by decide +kernel
theorem d_Im_drop_1 : decode b_Im_drop 1 = .ok (.iconst 0, 1) := by decide +kernel
theorem d_Im_drop_2 : decode b_Im_drop 2 = .ok (.putfield 15, 3) := by decide +kernel
theorem d_Im_drop_5 : decode b_Im_drop 5 = .ok (.return_, 1) := by decide +kernel
theorem d_Im_codeKind_0 : decode b_Im_codeKind 0 = .ok (.aload_n 0, 1) := by decide +kernel
theorem d_Im_codeKind_1 : decode b_Im_codeKind 1 = .ok (.iload_n 1, 1) := by decide +kernel
theorem d_Im_codeKind_2 : decode b_Im_codeKind 2 = .ok (.invokevirtual 23, 3) := by decide +kernel
theorem d_Im_codeKind_5 : decode b_Im_codeKind 5 = .ok (.invokestatic 27, 3) := by decide +kernel
theorem d_Im_codeKind_8 : decode b_Im_codeKind 8 = .ok (.istore_n 2, 1) := by decide +kernel
theorem d_Im_codeKind_9 : decode b_Im_codeKind 9 = .ok (.iload_n 2, 1) := by decide +kernel
theorem d_Im_codeKind_10 : decode b_Im_codeKind 10 = .ok (.iconst (-1), 1) := by decide +kernel
theorem d_Im_codeKind_11 : decode b_Im_codeKind 11 = .ok (.if_icmp .eq 20, 3) := by decide +kernel
theorem d_Im_codeKind_14 : decode b_Im_codeKind 14 = .ok (.iload_n 2, 1) := by decide +kernel
theorem d_Im_codeKind_15 : decode b_Im_codeKind 15 = .ok (.invokestatic 32, 3) := by decide +kernel
theorem d_Im_codeKind_18 : decode b_Im_codeKind 18 = .ok (.aload_n 0, 1) := by decide +kernel
theorem d_Im_codeKind_19 : decode b_Im_codeKind 19 = .ok (.getfield 15, 3) := by decide +kernel
theorem d_Im_codeKind_22 : decode b_Im_codeKind 22 = .ok (.iload_n 1, 1) := by decide +kernel
theorem d_Im_codeKind_23 : decode b_Im_codeKind 23 = .ok (.isub, 1) := by decide +kernel
theorem d_Im_codeKind_24 : decode b_Im_codeKind 24 = .ok (.if_icmp .gt 7, 3) := by decide +kernel
theorem d_Im_codeKind_27 : decode b_Im_codeKind 27 = .ok (.iload_n 2, 1) := by decide +kernel
theorem d_Im_codeKind_28 : decode b_Im_codeKind 28 = .ok (.goto 4, 3) := by decide +kernel
theorem d_Im_codeKind_31 : decode b_Im_codeKind 31 = .ok (.iconst (-1), 1) := by decide +kernel
theorem d_Im_codeKind_32 : decode b_Im_codeKind 32 = .ok (.ireturn, 1) := by decide +kernel
theorem d_Im_codeLength_0 : decode b_Im_codeLength 0 = .ok (.aload_n 0, 1) := by decide +kernel
theorem d_Im_codeLength_1 : decode b_Im_codeLength 1 = .ok (.iload_n 1, 1) := by decide +kernel
theorem d_Im_codeLength_2 : decode b_Im_codeLength 2 = .ok (.invokevirtual 34, 3) := by decide +kernel
theorem d_Im_codeLength_5 : decode b_Im_codeLength 5 = .ok (.istore_n 2, 1) := by decide +kernel
theorem d_Im_codeLength_6 : decode b_Im_codeLength 6 = .ok (.iload_n 2, 1) := by decide +kernel
theorem d_Im_codeLength_7 : decode b_Im_codeLength 7 = .ok (.iconst (-1), 1) := by decide +kernel
theorem d_Im_codeLength_8 : decode b_Im_codeLength 8 = .ok (.if_icmp .ne 7, 3) := by decide +kernel
theorem d_Im_codeLength_11 : decode b_Im_codeLength 11 = .ok (.iconst 0, 1) := by decide +kernel
theorem d_Im_codeLength_12 : decode b_Im_codeLength 12 = .ok (.goto 7, 3) := by decide +kernel
theorem d_Im_codeLength_15 : decode b_Im_codeLength 15 = .ok (.iload_n 2, 1) := by decide +kernel
theorem d_Im_codeLength_16 : decode b_Im_codeLength 16 = .ok (.invokestatic 32, 3) := by decide +kernel
theorem d_Im_codeLength_19 : decode b_Im_codeLength 19 = .ok (.ireturn, 1) := by decide +kernel
theorem d_Im_number_0 : decode b_Im_number 0 = .ok (.iload_n 2, 1) := by decide +kernel
theorem d_Im_number_1 : decode b_Im_number 1 = .ok (.invokestatic 37, 3) := by decide +kernel
theorem d_Im_number_4 : decode b_Im_number 4 = .ok (.tableswitch 65 1 3 #[28, 36, 45], 28) := by decide +kernel
theorem d_Im_number_32 : decode b_Im_number 32 = .ok (.aload_n 0, 1) := by decide +kernel
theorem d_Im_number_33 : decode b_Im_number 33 = .ok (.iload_n 1, 1) := by decide +kernel
theorem d_Im_number_34 : decode b_Im_number 34 = .ok (.iconst 1, 1) := by decide +kernel
theorem d_Im_number_35 : decode b_Im_number 35 = .ok (.iadd, 1) := by decide +kernel
theorem d_Im_number_36 : decode b_Im_number 36 = .ok (.invokevirtual 23, 3) := by decide +kernel
theorem d_Im_number_39 : decode b_Im_number 39 = .ok (.ireturn, 1) := by decide +kernel
theorem d_Im_number_40 : decode b_Im_number 40 = .ok (.aload_n 0, 1) := by decide +kernel
theorem d_Im_number_41 : decode b_Im_number 41 = .ok (.iload_n 1, 1) := by decide +kernel
theorem d_Im_number_42 : decode b_Im_number 42 = .ok (.iconst 1, 1) := by decide +kernel
theorem d_Im_number_43 : decode b_Im_number 43 = .ok (.iadd, 1) := by decide +kernel
theorem d_Im_number_44 : decode b_Im_number 44 = .ok (.invokevirtual 23, 3) := by decide +kernel
theorem d_Im_number_47 : decode b_Im_number 47 = .ok (.i2b, 1) := by decide +kernel
theorem d_Im_number_48 : decode b_Im_number 48 = .ok (.ireturn, 1) := by decide +kernel
theorem d_Im_number_49 : decode b_Im_number 49 = .ok (.sipush 256, 3) := by decide +kernel
theorem d_Im_number_52 : decode b_Im_number 52 = .ok (.aload_n 0, 1) := by decide +kernel
theorem d_Im_number_53 : decode b_Im_number 53 = .ok (.iload_n 1, 1) := by decide +kernel
theorem d_Im_number_54 : decode b_Im_number 54 = .ok (.iconst 1, 1) := by decide +kernel
theorem d_Im_number_55 : decode b_Im_number 55 = .ok (.iadd, 1) := by decide +kernel
theorem d_Im_number_56 : decode b_Im_number 56 = .ok (.invokevirtual 23, 3) := by decide +kernel
theorem d_Im_number_59 : decode b_Im_number 59 = .ok (.imul, 1) := by decide +kernel
theorem d_Im_number_60 : decode b_Im_number 60 = .ok (.aload_n 0, 1) := by decide +kernel
end
section
theorem d_Im_number_61 : decode b_Im_number 61 = .ok (.iload_n 1, 1) := by decide +kernel
theorem d_Im_number_62 : decode b_Im_number 62 = .ok (.iconst 2, 1) := by decide +kernel
theorem d_Im_number_63 : decode b_Im_number 63 = .ok (.iadd, 1) := by decide +kernel
theorem d_Im_number_64 : decode b_Im_number 64 = .ok (.invokevirtual 23, 3) := by decide +kernel
theorem d_Im_number_67 : decode b_Im_number 67 = .ok (.iadd, 1) := by decide +kernel
theorem d_Im_number_68 : decode b_Im_number 68 = .ok (.ireturn, 1) := by decide +kernel
theorem d_Im_number_69 : decode b_Im_number 69 = .ok (.iconst 0, 1) := by decide +kernel
theorem d_Im_number_70 : decode b_Im_number 70 = .ok (.ireturn, 1) := by decide +kernel
theorem d_Ki_ofFirst_0 : decode b_Ki_ofFirst 0 = .ok (.iconst 0, 1) := by decide +kernel
theorem d_Ki_ofFirst_1 : decode b_Ki_ofFirst 1 = .ok (.istore_n 1, 1) := by decide +kernel
theorem d_Ki_ofFirst_2 : decode b_Ki_ofFirst 2 = .ok (.iload_n 1, 1) := by decide +kernel
theorem d_Ki_ofFirst_3 : decode b_Ki_ofFirst 3 = .ok (.bipush 13, 2) := by decide +kernel
theorem d_Ki_ofFirst_5 : decode b_Ki_ofFirst 5 = .ok (.if_icmp .ge 41, 3) := by decide +kernel
theorem d_Ki_ofFirst_8 : decode b_Ki_ofFirst 8 = .ok (.iconst 1, 1) := by decide +kernel
theorem d_Ki_ofFirst_9 : decode b_Ki_ofFirst 9 = .ok (.iconst 2, 1) := by decide +kernel
theorem d_Ki_ofFirst_10 : decode b_Ki_ofFirst 10 = .ok (.getstatic 11, 3) := by decide +kernel
theorem d_Ki_ofFirst_13 : decode b_Ki_ofFirst 13 = .ok (.iload_n 1, 1) := by decide +kernel
theorem d_Ki_ofFirst_14 : decode b_Ki_ofFirst 14 = .ok (.iaload, 1) := by decide +kernel
theorem d_Ki_ofFirst_15 : decode b_Ki_ofFirst 15 = .ok (.imul, 1) := by decide +kernel
theorem d_Ki_ofFirst_16 : decode b_Ki_ofFirst 16 = .ok (.ishl, 1) := by decide +kernel
theorem d_Ki_ofFirst_17 : decode b_Ki_ofFirst 17 = .ok (.istore_n 2, 1) := by decide +kernel
theorem d_Ki_ofFirst_18 : decode b_Ki_ofFirst 18 = .ok (.iload_n 0, 1) := by decide +kernel
theorem d_Ki_ofFirst_19 : decode b_Ki_ofFirst 19 = .ok (.getstatic 15, 3) := by decide +kernel
theorem d_Ki_ofFirst_22 : decode b_Ki_ofFirst 22 = .ok (.iload_n 1, 1) := by decide +kernel
theorem d_Ki_ofFirst_23 : decode b_Ki_ofFirst 23 = .ok (.iaload, 1) := by decide +kernel
theorem d_Ki_ofFirst_24 : decode b_Ki_ofFirst 24 = .ok (.if_icmp .lt 16, 3) := by decide +kernel
theorem d_Ki_ofFirst_27 : decode b_Ki_ofFirst 27 = .ok (.iload_n 0, 1) := by decide +kernel
theorem d_Ki_ofFirst_28 : decode b_Ki_ofFirst 28 = .ok (.getstatic 15, 3) := by decide +kernel
theorem d_Ki_ofFirst_31 : decode b_Ki_ofFirst 31 = .ok (.iload_n 1, 1) := by decide +kernel
theorem d_Ki_ofFirst_32 : decode b_Ki_ofFirst 32 = .ok (.iaload, 1) := by decide +kernel
theorem d_Ki_ofFirst_33 : decode b_Ki_ofFirst 33 = .ok (.iload_n 2, 1) := by decide +kernel
theorem d_Ki_ofFirst_34 : decode b_Ki_ofFirst 34 = .ok (.iadd, 1) := by decide +kernel
theorem d_Ki_ofFirst_35 : decode b_Ki_ofFirst 35 = .ok (.if_icmp .ge 5, 3) := by decide +kernel
theorem d_Ki_ofFirst_38 : decode b_Ki_ofFirst 38 = .ok (.iload_n 1, 1) := by decide +kernel
theorem d_Ki_ofFirst_39 : decode b_Ki_ofFirst 39 = .ok (.ireturn, 1) := by decide +kernel
theorem d_Ki_ofFirst_40 : decode b_Ki_ofFirst 40 = .ok (.iinc 1 1, 3) := by decide +kernel
theorem d_Ki_ofFirst_43 : decode b_Ki_ofFirst 43 = .ok (.goto (-41), 3) := by decide +kernel
theorem d_Ki_ofFirst_46 : decode b_Ki_ofFirst 46 = .ok (.iconst (-1), 1) := by decide +kernel
theorem d_Ki_ofFirst_47 : decode b_Ki_ofFirst 47 = .ok (.ireturn, 1) := by decide +kernel
theorem d_Ki_first_0 : decode b_Ki_first 0 = .ok (.getstatic 15, 3) := by decide +kernel
theorem d_Ki_first_3 : decode b_Ki_first 3 = .ok (.iload_n 0, 1) := by decide +kernel
theorem d_Ki_first_4 : decode b_Ki_first 4 = .ok (.iaload, 1) := by decide +kernel
theorem d_Ki_first_5 : decode b_Ki_first 5 = .ok (.ireturn, 1) := by decide +kernel
theorem d_Ki_registers_0 : decode b_Ki_registers 0 = .ok (.getstatic 11, 3) := by decide +kernel
theorem d_Ki_registers_3 : decode b_Ki_registers 3 = .ok (.iload_n 0, 1) := by decide +kernel
theorem d_Ki_registers_4 : decode b_Ki_registers 4 = .ok (.iaload, 1) := by decide +kernel
theorem d_Ki_registers_5 : decode b_Ki_registers 5 = .ok (.ireturn, 1) := by decide +kernel
theorem d_Ki_number_0 : decode b_Ki_number 0 = .ok (.getstatic 18, 3) := by decide +kernel
theorem d_Ki_number_3 : decode b_Ki_number 3 = .ok (.iload_n 0, 1) := by decide +kernel
theorem d_Ki_number_4 : decode b_Ki_number 4 = .ok (.iaload, 1) := by decide +kernel
theorem d_Ki_number_5 : decode b_Ki_number 5 = .ok (.ireturn, 1) := by decide +kernel
theorem d_Ki_bytes_0 : decode b_Ki_bytes 0 = .ok (.getstatic 18, 3) := by decide +kernel
theorem d_Ki_bytes_3 : decode b_Ki_bytes 3 = .ok (.iload_n 0, 1) := by decide +kernel
theorem d_Ki_bytes_4 : decode b_Ki_bytes 4 = .ok (.iaload, 1) := by decide +kernel
theorem d_Ki_bytes_5 : decode b_Ki_bytes 5 = .ok (.lookupswitch 31 #[(0, 27), (3, 29)], 27) := by decide +kernel
theorem d_Ki_bytes_32 : decode b_Ki_bytes 32 = .ok (.iconst 1, 1) := by decide +kernel
theorem d_Ki_bytes_33 : decode b_Ki_bytes 33 = .ok (.ireturn, 1) := by decide +kernel
theorem d_Ki_bytes_34 : decode b_Ki_bytes 34 = .ok (.iconst 3, 1) := by decide +kernel
theorem d_Ki_bytes_35 : decode b_Ki_bytes 35 = .ok (.ireturn, 1) := by decide +kernel
theorem d_Ki_bytes_36 : decode b_Ki_bytes 36 = .ok (.iconst 2, 1) := by decide +kernel
theorem d_Ki_bytes_37 : decode b_Ki_bytes 37 = .ok (.ireturn, 1) := by decide +kernel
theorem d_Ki_lowest_0 : decode b_Ki_lowest 0 = .ok (.iload_n 0, 1) := by decide +kernel
theorem d_Ki_lowest_1 : decode b_Ki_lowest 1 = .ok (.iconst 2, 1) := by decide +kernel
theorem d_Ki_lowest_2 : decode b_Ki_lowest 2 = .ok (.if_icmp .ne 8, 3) := by decide +kernel
theorem d_Ki_lowest_5 : decode b_Ki_lowest 5 = .ok (.bipush (-128), 2) := by decide +kernel
theorem d_Ki_lowest_7 : decode b_Ki_lowest 7 = .ok (.goto 4, 3) := by decide +kernel
theorem d_Ki_lowest_10 : decode b_Ki_lowest 10 = .ok (.iconst 0, 1) := by decide +kernel
theorem d_Ki_lowest_11 : decode b_Ki_lowest 11 = .ok (.ireturn, 1) := by decide +kernel
theorem d_Ki_highest_0 : decode b_Ki_highest 0 = .ok (.iload_n 0, 1) := by decide +kernel
theorem d_Ki_highest_1 : decode b_Ki_highest 1 = .ok (.lookupswitch 33 #[(2, 27), (3, 30)], 27) := by decide +kernel
theorem d_Ki_highest_28 : decode b_Ki_highest 28 = .ok (.bipush 127, 2) := by decide +kernel
theorem d_Ki_highest_30 : decode b_Ki_highest 30 = .ok (.ireturn, 1) := by decide +kernel
theorem d_Ki_highest_31 : decode b_Ki_highest 31 = .ok (.ldc 21, 2) := by decide +kernel
theorem d_Ki_highest_33 : decode b_Ki_highest 33 = .ok (.ireturn, 1) := by decide +kernel
theorem d_Ki_highest_34 : decode b_Ki_highest 34 = .ok (.sipush 255, 3) := by decide +kernel
theorem d_Ki_highest_37 : decode b_Ki_highest 37 = .ok (.ireturn, 1) := by decide +kernel
theorem d_Ki_fallsThrough_0 : decode b_Ki_fallsThrough 0 = .ok (.iload_n 0, 1) := by decide +kernel
theorem d_Ki_fallsThrough_1 : decode b_Ki_fallsThrough 1 = .ok (.iconst 1, 1) := by decide +kernel
theorem d_Ki_fallsThrough_2 : decode b_Ki_fallsThrough 2 = .ok (.if_icmp .eq 18, 3) := by decide +kernel
theorem d_Ki_fallsThrough_5 : decode b_Ki_fallsThrough 5 = .ok (.iload_n 0, 1) := by decide +kernel
theorem d_Ki_fallsThrough_6 : decode b_Ki_fallsThrough 6 = .ok (.iconst 2, 1) := by decide +kernel
theorem d_Ki_fallsThrough_7 : decode b_Ki_fallsThrough 7 = .ok (.if_icmp .eq 13, 3) := by decide +kernel
theorem d_Ki_fallsThrough_10 : decode b_Ki_fallsThrough 10 = .ok (.iload_n 0, 1) := by decide +kernel
theorem d_Ki_fallsThrough_11 : decode b_Ki_fallsThrough 11 = .ok (.bipush 7, 2) := by decide +kernel
theorem d_Ki_fallsThrough_13 : decode b_Ki_fallsThrough 13 = .ok (.if_icmp .eq 7, 3) := by decide +kernel
theorem d_Ki_fallsThrough_16 : decode b_Ki_fallsThrough 16 = .ok (.iconst 1, 1) := by decide +kernel
theorem d_Ki_fallsThrough_17 : decode b_Ki_fallsThrough 17 = .ok (.goto 4, 3) := by decide +kernel
theorem d_Ki_fallsThrough_20 : decode b_Ki_fallsThrough 20 = .ok (.iconst 0, 1) := by decide +kernel
theorem d_Ki_fallsThrough_21 : decode b_Ki_fallsThrough 21 = .ok (.ireturn, 1) := by decide +kernel
theorem d_Ki_opening_0 : decode b_Ki_opening 0 = .ok (.iload_n 0, 1) := by decide +kernel
theorem d_Ki_opening_1 : decode b_Ki_opening 1 = .ok (.tableswitch 106 0 12 #[67, 70, 73, 76, 79, 82, 85, 88, 91, 94, 97, 100, 103], 67) := by decide +kernel
theorem d_Ki_opening_68 : decode b_Ki_opening 68 = .ok (.ldc 22, 2) := by decide +kernel
theorem d_Ki_opening_70 : decode b_Ki_opening 70 = .ok (.areturn, 1) := by decide +kernel
theorem d_Ki_opening_71 : decode b_Ki_opening 71 = .ok (.ldc 24, 2) := by decide +kernel
theorem d_Ki_opening_73 : decode b_Ki_opening 73 = .ok (.areturn, 1) := by decide +kernel
theorem d_Ki_opening_74 : decode b_Ki_opening 74 = .ok (.ldc 26, 2) := by decide +kernel
theorem d_Ki_opening_76 : decode b_Ki_opening 76 = .ok (.areturn, 1) := by decide +kernel
theorem d_Ki_opening_77 : decode b_Ki_opening 77 = .ok (.ldc 28, 2) := by decide +kernel
theorem d_Ki_opening_79 : decode b_Ki_opening 79 = .ok (.areturn, 1) := by decide +kernel
theorem d_Ki_opening_80 : decode b_Ki_opening 80 = .ok (.ldc 30, 2) := by decide +kernel
theorem d_Ki_opening_82 : decode b_Ki_opening 82 = .ok (.areturn, 1) := by decide +kernel
theorem d_Ki_opening_83 : decode b_Ki_opening 83 = .ok (.ldc 32, 2) := by decide +kernel
theorem d_Ki_opening_85 : decode b_Ki_opening 85 = .ok (.areturn, 1) := by decide +kernel
theorem d_Ki_opening_86 : decode b_Ki_opening 86 = .ok (.ldc 34, 2) := by decide +kernel
theorem d_Ki_opening_88 : decode b_Ki_opening 88 = .ok (.areturn, 1) := by decide +kernel
theorem d_Ki_opening_89 : decode b_Ki_opening 89 = .ok (.ldc 36, 2) := by decide +kernel
theorem d_Ki_opening_91 : decode b_Ki_opening 91 = .ok (.areturn, 1) := by decide +kernel
theorem d_Ki_opening_92 : decode b_Ki_opening 92 = .ok (.ldc 38, 2) := by decide +kernel
theorem d_Ki_opening_94 : decode b_Ki_opening 94 = .ok (.areturn, 1) := by decide +kernel
theorem d_Ki_opening_95 : decode b_Ki_opening 95 = .ok (.ldc 40, 2) := by decide +kernel
theorem d_Ki_opening_97 : decode b_Ki_opening 97 = .ok (.areturn, 1) := by decide +kernel
theorem d_Ki_opening_98 : decode b_Ki_opening 98 = .ok (.ldc 42, 2) := by decide +kernel
theorem d_Ki_opening_100 : decode b_Ki_opening 100 = .ok (.areturn, 1) := by decide +kernel
theorem d_Ki_opening_101 : decode b_Ki_opening 101 = .ok (.ldc 44, 2) := by decide +kernel
theorem d_Ki_opening_103 : decode b_Ki_opening 103 = .ok (.areturn, 1) := by decide +kernel
theorem d_Ki_opening_104 : decode b_Ki_opening 104 = .ok (.ldc 46, 2) := by decide +kernel
theorem d_Ki_opening_106 : decode b_Ki_opening 106 = .ok (.areturn, 1) := by decide +kernel
theorem d_Ki_opening_107 : decode b_Ki_opening 107 = .ok (.ldc 48, 2) := by decide +kernel
theorem d_Ki_opening_109 : decode b_Ki_opening 109 = .ok (.areturn, 1) := by decide +kernel
theorem d_Te_init_0 : decode b_Te_init 0 = .ok (.aload_n 0, 1) := by decide +kernel
theorem d_Te_init_1 : decode b_Te_init 1 = .ok (.invokespecial 3, 3) := by decide +kernel
theorem d_Te_init_4 : decode b_Te_init 4 = .ok (.aload_n 0, 1) := by decide +kernel
theorem d_Te_init_5 : decode b_Te_init 5 = .ok (.sipush 2400, 3) := by decide +kernel
theorem d_Te_init_8 : decode b_Te_init 8 = .ok (.newarray .char, 2) := by decide +kernel
theorem d_Te_init_10 : decode b_Te_init 10 = .ok (.putfield 9, 3) := by decide +kernel
theorem d_Te_init_13 : decode b_Te_init 13 = .ok (.return_, 1) := by decide +kernel
theorem d_Te_count_0 : decode b_Te_count 0 = .ok (.aload_n 0, 1) := by decide +kernel
theorem d_Te_count_1 : decode b_Te_count 1 = .ok (.getfield 15, 3) := by decide +kernel
theorem d_Te_count_4 : decode b_Te_count 4 = .ok (.ireturn, 1) := by decide +kernel
theorem d_Te_at_0 : decode b_Te_at 0 = .ok (.iload_n 1, 1) := by decide +kernel
theorem d_Te_at_1 : decode b_Te_at 1 = .ok (.ifCond .lt 20, 3) := by decide +kernel
theorem d_Te_at_4 : decode b_Te_at 4 = .ok (.iload_n 1, 1) := by decide +kernel
theorem d_Te_at_5 : decode b_Te_at 5 = .ok (.aload_n 0, 1) := by decide +kernel
theorem d_Te_at_6 : decode b_Te_at 6 = .ok (.getfield 15, 3) := by decide +kernel
theorem d_Te_at_9 : decode b_Te_at 9 = .ok (.if_icmp .ge 12, 3) := by decide +kernel
theorem d_Te_at_12 : decode b_Te_at 12 = .ok (.aload_n 0, 1) := by decide +kernel
theorem d_Te_at_13 : decode b_Te_at 13 = .ok (.getfield 9, 3) := by decide +kernel
theorem d_Te_at_16 : decode b_Te_at 16 = .ok (.iload_n 1, 1) := by decide +kernel
theorem d_Te_at_17 : decode b_Te_at 17 = .ok (.caload, 1) := by decide +kernel
theorem d_Te_at_18 : decode b_Te_at 18 = .ok (.goto 4, 3) := by decide +kernel
theorem d_Te_at_21 : decode b_Te_at 21 = .ok (.iconst (-1), 1) := by decide +kernel
theorem d_Te_at_22 : decode b_Te_at 22 = .ok (.ireturn, 1) := by decide +kernel
theorem d_Te_drop_0 : decode b_Te_drop 0 = .ok (.aload_n 0, 1) := by decide +kernel
theorem d_Te_drop_1 : decode b_Te_drop 1 = .ok (.iconst 0, 1) := by decide +kernel
theorem d_Te_drop_2 : decode b_Te_drop 2 = .ok (.putfield 15, 3) := by decide +kernel
theorem d_Te_drop_5 : decode b_Te_drop 5 = .ok (.return_, 1) := by decide +kernel
theorem d_Te_put_0 : decode b_Te_put 0 = .ok (.iload_n 1, 1) := by decide +kernel
theorem d_Te_put_1 : decode b_Te_put 1 = .ok (.ifCond .lt 39, 3) := by decide +kernel
theorem d_Te_put_4 : decode b_Te_put 4 = .ok (.iload_n 1, 1) := by decide +kernel
theorem d_Te_put_5 : decode b_Te_put 5 = .ok (.aload_n 0, 1) := by decide +kernel
theorem d_Te_put_6 : decode b_Te_put 6 = .ok (.getfield 15, 3) := by decide +kernel
theorem d_Te_put_9 : decode b_Te_put 9 = .ok (.if_icmp .gt 31, 3) := by decide +kernel
theorem d_Te_put_12 : decode b_Te_put 12 = .ok (.iload_n 1, 1) := by decide +kernel
theorem d_Te_put_13 : decode b_Te_put 13 = .ok (.sipush 2400, 3) := by decide +kernel
theorem d_Te_put_16 : decode b_Te_put 16 = .ok (.if_icmp .ge 24, 3) := by decide +kernel
theorem d_Te_put_19 : decode b_Te_put 19 = .ok (.aload_n 0, 1) := by decide +kernel
theorem d_Te_put_20 : decode b_Te_put 20 = .ok (.getfield 9, 3) := by decide +kernel
theorem d_Te_put_23 : decode b_Te_put 23 = .ok (.iload_n 1, 1) := by decide +kernel
theorem d_Te_put_24 : decode b_Te_put 24 = .ok (.iload_n 2, 1) := by decide +kernel
theorem d_Te_put_25 : decode b_Te_put 25 = .ok (.castore, 1) := by decide +kernel
theorem d_Te_put_26 : decode b_Te_put 26 = .ok (.aload_n 0, 1) := by decide +kernel
theorem d_Te_put_27 : decode b_Te_put 27 = .ok (.aload_n 0, 1) := by decide +kernel
theorem d_Te_put_28 : decode b_Te_put 28 = .ok (.getfield 15, 3) := by decide +kernel
theorem d_Te_put_31 : decode b_Te_put 31 = .ok (.iload_n 1, 1) := by decide +kernel
theorem d_Te_put_32 : decode b_Te_put 32 = .ok (.iconst 1, 1) := by decide +kernel
theorem d_Te_put_33 : decode b_Te_put 33 = .ok (.iadd, 1) := by decide +kernel
theorem d_Te_put_34 : decode b_Te_put 34 = .ok (.invokestatic 19, 3) := by decide +kernel
theorem d_Te_put_37 : decode b_Te_put 37 = .ok (.putfield 15, 3) := by decide +kernel
theorem d_Te_put_40 : decode b_Te_put 40 = .ok (.return_, 1) := by decide +kernel
theorem d_Te_addLine_0 : decode b_Te_addLine 0 = .ok (.iload_n 1, 1) := by decide +kernel
theorem d_Te_addLine_1 : decode b_Te_addLine 1 = .ok (.invokestatic 25, 3) := by decide +kernel
theorem d_Te_addLine_4 : decode b_Te_addLine 4 = .ok (.astore 4, 2) := by decide +kernel
theorem d_Te_addLine_6 : decode b_Te_addLine 6 = .ok (.iconst 0, 1) := by decide +kernel
theorem d_Te_addLine_7 : decode b_Te_addLine 7 = .ok (.istore 5, 2) := by decide +kernel
theorem d_Te_addLine_9 : decode b_Te_addLine 9 = .ok (.iload 5, 2) := by decide +kernel
theorem d_Te_addLine_11 : decode b_Te_addLine 11 = .ok (.aload 4, 2) := by decide +kernel
theorem d_Te_addLine_13 : decode b_Te_addLine 13 = .ok (.invokevirtual 31, 3) := by decide +kernel
theorem d_Te_addLine_16 : decode b_Te_addLine 16 = .ok (.if_icmp .ge 20, 3) := by decide +kernel
theorem d_Te_addLine_19 : decode b_Te_addLine 19 = .ok (.aload_n 0, 1) := by decide +kernel
theorem d_Te_addLine_20 : decode b_Te_addLine 20 = .ok (.aload 4, 2) := by decide +kernel
theorem d_Te_addLine_22 : decode b_Te_addLine 22 = .ok (.iload 5, 2) := by decide +kernel
theorem d_Te_addLine_24 : decode b_Te_addLine 24 = .ok (.invokevirtual 37, 3) := by decide +kernel
theorem d_Te_addLine_27 : decode b_Te_addLine 27 = .ok (.invokevirtual 41, 3) := by decide +kernel
theorem d_Te_addLine_30 : decode b_Te_addLine 30 = .ok (.iinc 5 1, 3) := by decide +kernel
theorem d_Te_addLine_33 : decode b_Te_addLine 33 = .ok (.goto (-24), 3) := by decide +kernel
theorem d_Te_addLine_36 : decode b_Te_addLine 36 = .ok (.iload_n 1, 1) := by decide +kernel
theorem d_Te_addLine_37 : decode b_Te_addLine 37 = .ok (.invokestatic 45, 3) := by decide +kernel
theorem d_Te_addLine_40 : decode b_Te_addLine 40 = .ok (.istore 5, 2) := by decide +kernel
theorem d_Te_addLine_42 : decode b_Te_addLine 42 = .ok (.iconst 0, 1) := by decide +kernel
theorem d_Te_addLine_43 : decode b_Te_addLine 43 = .ok (.istore 6, 2) := by decide +kernel
theorem d_Te_addLine_45 : decode b_Te_addLine 45 = .ok (.iload 6, 2) := by decide +kernel
theorem d_Te_addLine_47 : decode b_Te_addLine 47 = .ok (.iload 5, 2) := by decide +kernel
theorem d_Te_addLine_49 : decode b_Te_addLine 49 = .ok (.if_icmp .ge 38, 3) := by decide +kernel
theorem d_Te_addLine_52 : decode b_Te_addLine 52 = .ok (.aload_n 0, 1) := by decide +kernel
theorem d_Te_addLine_53 : decode b_Te_addLine 53 = .ok (.iload 6, 2) := by decide +kernel
theorem d_Te_addLine_55 : decode b_Te_addLine 55 = .ok (.invokevirtual 49, 3) := by decide +kernel
theorem d_Te_addLine_58 : decode b_Te_addLine 58 = .ok (.aload_n 0, 1) := by decide +kernel
theorem d_Te_addLine_59 : decode b_Te_addLine 59 = .ok (.bipush 114, 2) := by decide +kernel
theorem d_Te_addLine_61 : decode b_Te_addLine 61 = .ok (.invokevirtual 41, 3) := by decide +kernel
theorem d_Te_addLine_64 : decode b_Te_addLine 64 = .ok (.aload_n 0, 1) := by decide +kernel
theorem d_Te_addLine_65 : decode b_Te_addLine 65 = .ok (.iload_n 2, 1) := by decide +kernel
theorem d_Te_addLine_66 : decode b_Te_addLine 66 = .ok (.iconst 2, 1) := by decide +kernel
theorem d_Te_addLine_67 : decode b_Te_addLine 67 = .ok (.iload 5, 2) := by decide +kernel
theorem d_Te_addLine_69 : decode b_Te_addLine 69 = .ok (.iconst 1, 1) := by decide +kernel
theorem d_Te_addLine_70 : decode b_Te_addLine 70 = .ok (.isub, 1) := by decide +kernel
theorem d_Te_addLine_71 : decode b_Te_addLine 71 = .ok (.iload 6, 2) := by decide +kernel
theorem d_Te_addLine_73 : decode b_Te_addLine 73 = .ok (.isub, 1) := by decide +kernel
theorem d_Te_addLine_74 : decode b_Te_addLine 74 = .ok (.imul, 1) := by decide +kernel
theorem d_Te_addLine_75 : decode b_Te_addLine 75 = .ok (.ishr, 1) := by decide +kernel
theorem d_Te_addLine_76 : decode b_Te_addLine 76 = .ok (.iconst 3, 1) := by decide +kernel
theorem d_Te_addLine_77 : decode b_Te_addLine 77 = .ok (.iand, 1) := by decide +kernel
theorem d_Te_addLine_78 : decode b_Te_addLine 78 = .ok (.invokevirtual 53, 3) := by decide +kernel
theorem d_Te_addLine_81 : decode b_Te_addLine 81 = .ok (.iinc 6 1, 3) := by decide +kernel
theorem d_Te_addLine_84 : decode b_Te_addLine 84 = .ok (.goto (-39), 3) := by decide +kernel
theorem d_Te_addLine_87 : decode b_Te_addLine 87 = .ok (.iload_n 1, 1) := by decide +kernel
theorem d_Te_addLine_88 : decode b_Te_addLine 88 = .ok (.invokestatic 56, 3) := by decide +kernel
theorem d_Te_addLine_91 : decode b_Te_addLine 91 = .ok (.ifCond .eq 14, 3) := by decide +kernel
theorem d_Te_addLine_94 : decode b_Te_addLine 94 = .ok (.aload_n 0, 1) := by decide +kernel
theorem d_Te_addLine_95 : decode b_Te_addLine 95 = .ok (.iload 5, 2) := by decide +kernel
theorem d_Te_addLine_97 : decode b_Te_addLine 97 = .ok (.invokevirtual 49, 3) := by decide +kernel
theorem d_Te_addLine_100 : decode b_Te_addLine 100 = .ok (.aload_n 0, 1) := by decide +kernel
theorem d_Te_addLine_101 : decode b_Te_addLine 101 = .ok (.iload_n 3, 1) := by decide +kernel
theorem d_Te_addLine_102 : decode b_Te_addLine 102 = .ok (.invokevirtual 59, 3) := by decide +kernel
theorem d_Te_addLine_105 : decode b_Te_addLine 105 = .ok (.aload_n 0, 1) := by decide +kernel
theorem d_Te_addLine_106 : decode b_Te_addLine 106 = .ok (.bipush 10, 2) := by decide +kernel
theorem d_Te_addLine_108 : decode b_Te_addLine 108 = .ok (.invokevirtual 41, 3) := by decide +kernel
theorem d_Te_addLine_111 : decode b_Te_addLine 111 = .ok (.return_, 1) := by decide +kernel
theorem d_Te_add_0 : decode b_Te_add 0 = .ok (.aload_n 0, 1) := by decide +kernel
theorem d_Te_add_1 : decode b_Te_add 1 = .ok (.aload_n 0, 1) := by decide +kernel
theorem d_Te_add_2 : decode b_Te_add 2 = .ok (.getfield 15, 3) := by decide +kernel
theorem d_Te_add_5 : decode b_Te_add 5 = .ok (.iload_n 1, 1) := by decide +kernel
theorem d_Te_add_6 : decode b_Te_add 6 = .ok (.invokevirtual 62, 3) := by decide +kernel
theorem d_Te_add_9 : decode b_Te_add 9 = .ok (.return_, 1) := by decide +kernel
theorem d_Te_addComma_0 : decode b_Te_addComma 0 = .ok (.iload_n 1, 1) := by decide +kernel
theorem d_Te_addComma_1 : decode b_Te_addComma 1 = .ok (.ifCond .le 9, 3) := by decide +kernel
theorem d_Te_addComma_4 : decode b_Te_addComma 4 = .ok (.aload_n 0, 1) := by decide +kernel
theorem d_Te_addComma_5 : decode b_Te_addComma 5 = .ok (.bipush 44, 2) := by decide +kernel
theorem d_Te_addComma_7 : decode b_Te_addComma 7 = .ok (.invokevirtual 41, 3) := by decide +kernel
theorem d_Te_addComma_10 : decode b_Te_addComma 10 = .ok (.return_, 1) := by decide +kernel
theorem d_Te_addDigit_0 : decode b_Te_addDigit 0 = .ok (.aload_n 0, 1) := by decide +kernel
theorem d_Te_addDigit_1 : decode b_Te_addDigit 1 = .ok (.bipush 48, 2) := by decide +kernel
theorem d_Te_addDigit_3 : decode b_Te_addDigit 3 = .ok (.iload_n 1, 1) := by decide +kernel
theorem d_Te_addDigit_4 : decode b_Te_addDigit 4 = .ok (.iadd, 1) := by decide +kernel
theorem d_Te_addDigit_5 : decode b_Te_addDigit 5 = .ok (.i2c, 1) := by decide +kernel
theorem d_Te_addDigit_6 : decode b_Te_addDigit 6 = .ok (.invokevirtual 41, 3) := by decide +kernel
theorem d_Te_addDigit_9 : decode b_Te_addDigit 9 = .ok (.return_, 1) := by decide +kernel
theorem d_Te_addNumber_0 : decode b_Te_addNumber 0 = .ok (.iload_n 1, 1) := by decide +kernel
theorem d_Te_addNumber_1 : decode b_Te_addNumber 1 = .ok (.ifCond .ge 9, 3) := by decide +kernel
theorem d_Te_addNumber_4 : decode b_Te_addNumber 4 = .ok (.aload_n 0, 1) := by decide +kernel
theorem d_Te_addNumber_5 : decode b_Te_addNumber 5 = .ok (.bipush 45, 2) := by decide +kernel
theorem d_Te_addNumber_7 : decode b_Te_addNumber 7 = .ok (.invokevirtual 41, 3) := by decide +kernel
theorem d_Te_addNumber_10 : decode b_Te_addNumber 10 = .ok (.iload_n 1, 1) := by decide +kernel
theorem d_Te_addNumber_11 : decode b_Te_addNumber 11 = .ok (.invokestatic 66, 3) := by decide +kernel
theorem d_Te_addNumber_14 : decode b_Te_addNumber 14 = .ok (.istore_n 2, 1) := by decide +kernel
theorem d_Te_addNumber_15 : decode b_Te_addNumber 15 = .ok (.sipush 10000, 3) := by decide +kernel
theorem d_Te_addNumber_18 : decode b_Te_addNumber 18 = .ok (.istore_n 3, 1) := by decide +kernel
theorem d_Te_addNumber_19 : decode b_Te_addNumber 19 = .ok (.iload_n 3, 1) := by decide +kernel
theorem d_Te_addNumber_20 : decode b_Te_addNumber 20 = .ok (.ifCond .le 31, 3) := by decide +kernel
theorem d_Te_addNumber_23 : decode b_Te_addNumber 23 = .ok (.iload_n 2, 1) := by decide +kernel
theorem d_Te_addNumber_24 : decode b_Te_addNumber 24 = .ok (.iload_n 3, 1) := by decide +kernel
theorem d_Te_addNumber_25 : decode b_Te_addNumber 25 = .ok (.if_icmp .ge 8, 3) := by decide +kernel
theorem d_Te_addNumber_28 : decode b_Te_addNumber 28 = .ok (.iload_n 3, 1) := by decide +kernel
theorem d_Te_addNumber_29 : decode b_Te_addNumber 29 = .ok (.iconst 1, 1) := by decide +kernel
theorem d_Te_addNumber_30 : decode b_Te_addNumber 30 = .ok (.if_icmp .ne 13, 3) := by decide +kernel
theorem d_Te_addNumber_33 : decode b_Te_addNumber 33 = .ok (.aload_n 0, 1) := by decide +kernel
theorem d_Te_addNumber_34 : decode b_Te_addNumber 34 = .ok (.iload_n 2, 1) := by decide +kernel
theorem d_Te_addNumber_35 : decode b_Te_addNumber 35 = .ok (.iload_n 3, 1) := by decide +kernel
theorem d_Te_addNumber_36 : decode b_Te_addNumber 36 = .ok (.idiv, 1) := by decide +kernel
theorem d_Te_addNumber_37 : decode b_Te_addNumber 37 = .ok (.bipush 10, 2) := by decide +kernel
theorem d_Te_addNumber_39 : decode b_Te_addNumber 39 = .ok (.irem, 1) := by decide +kernel
theorem d_Te_addNumber_40 : decode b_Te_addNumber 40 = .ok (.invokevirtual 53, 3) := by decide +kernel
theorem d_Te_addNumber_43 : decode b_Te_addNumber 43 = .ok (.iload_n 3, 1) := by decide +kernel
theorem d_Te_addNumber_44 : decode b_Te_addNumber 44 = .ok (.bipush 10, 2) := by decide +kernel
theorem d_Te_addNumber_46 : decode b_Te_addNumber 46 = .ok (.idiv, 1) := by decide +kernel
theorem d_Te_addNumber_47 : decode b_Te_addNumber 47 = .ok (.istore_n 3, 1) := by decide +kernel
theorem d_Te_addNumber_48 : decode b_Te_addNumber 48 = .ok (.goto (-29), 3) := by decide +kernel
theorem d_Te_addNumber_51 : decode b_Te_addNumber 51 = .ok (.return_, 1) := by decide +kernel
theorem d_Te_startReading_0 : decode b_Te_startReading 0 = .ok (.aload_n 0, 1) := by decide +kernel
theorem d_Te_startReading_1 : decode b_Te_startReading 1 = .ok (.iconst 0, 1) := by decide +kernel
theorem d_Te_startReading_2 : decode b_Te_startReading 2 = .ok (.putfield 69, 3) := by decide +kernel
theorem d_Te_startReading_5 : decode b_Te_startReading 5 = .ok (.aload_n 0, 1) := by decide +kernel
theorem d_Te_startReading_6 : decode b_Te_startReading 6 = .ok (.iconst 1, 1) := by decide +kernel
theorem d_Te_startReading_7 : decode b_Te_startReading 7 = .ok (.putfield 72, 3) := by decide +kernel
theorem d_Te_startReading_10 : decode b_Te_startReading 10 = .ok (.return_, 1) := by decide +kernel
theorem d_Te_isRight_0 : decode b_Te_isRight 0 = .ok (.aload_n 0, 1) := by decide +kernel
theorem d_Te_isRight_1 : decode b_Te_isRight 1 = .ok (.getfield 72, 3) := by decide +kernel
theorem d_Te_isRight_4 : decode b_Te_isRight 4 = .ok (.ireturn, 1) := by decide +kernel
theorem d_Te_hasMore_0 : decode b_Te_hasMore 0 = .ok (.aload_n 0, 1) := by decide +kernel
theorem d_Te_hasMore_1 : decode b_Te_hasMore 1 = .ok (.getfield 72, 3) := by decide +kernel
theorem d_Te_hasMore_4 : decode b_Te_hasMore 4 = .ok (.ifCond .eq 18, 3) := by decide +kernel
theorem d_Te_hasMore_7 : decode b_Te_hasMore 7 = .ok (.aload_n 0, 1) := by decide +kernel
theorem d_Te_hasMore_8 : decode b_Te_hasMore 8 = .ok (.getfield 69, 3) := by decide +kernel
theorem d_Te_hasMore_11 : decode b_Te_hasMore 11 = .ok (.aload_n 0, 1) := by decide +kernel
theorem d_Te_hasMore_12 : decode b_Te_hasMore 12 = .ok (.getfield 15, 3) := by decide +kernel
theorem d_Te_hasMore_15 : decode b_Te_hasMore 15 = .ok (.if_icmp .ge 7, 3) := by decide +kernel
theorem d_Te_hasMore_18 : decode b_Te_hasMore 18 = .ok (.iconst 1, 1) := by decide +kernel
theorem d_Te_hasMore_19 : decode b_Te_hasMore 19 = .ok (.goto 4, 3) := by decide +kernel
theorem d_Te_hasMore_22 : decode b_Te_hasMore 22 = .ok (.iconst 0, 1) := by decide +kernel
theorem d_Te_hasMore_23 : decode b_Te_hasMore 23 = .ok (.ireturn, 1) := by decide +kernel
theorem d_Te_take_0 : decode b_Te_take 0 = .ok (.aload_n 0, 1) := by decide +kernel
theorem d_Te_take_1 : decode b_Te_take 1 = .ok (.aload_n 0, 1) := by decide +kernel
theorem d_Te_take_2 : decode b_Te_take 2 = .ok (.getfield 69, 3) := by decide +kernel
theorem d_Te_take_5 : decode b_Te_take 5 = .ok (.invokevirtual 76, 3) := by decide +kernel
theorem d_Te_take_8 : decode b_Te_take 8 = .ok (.iload_n 1, 1) := by decide +kernel
theorem d_Te_take_9 : decode b_Te_take 9 = .ok (.if_icmp .ne 16, 3) := by decide +kernel
theorem d_Te_take_12 : decode b_Te_take 12 = .ok (.aload_n 0, 1) := by decide +kernel
theorem d_Te_take_13 : decode b_Te_take 13 = .ok (.dup, 1) := by decide +kernel
theorem d_Te_take_14 : decode b_Te_take 14 = .ok (.getfield 69, 3) := by decide +kernel
theorem d_Te_take_17 : decode b_Te_take 17 = .ok (.iconst 1, 1) := by decide +kernel
theorem d_Te_take_18 : decode b_Te_take 18 = .ok (.iadd, 1) := by decide +kernel
theorem d_Te_take_19 : decode b_Te_take 19 = .ok (.putfield 69, 3) := by decide +kernel
theorem d_Te_take_22 : decode b_Te_take 22 = .ok (.goto 8, 3) := by decide +kernel
theorem d_Te_take_25 : decode b_Te_take 25 = .ok (.aload_n 0, 1) := by decide +kernel
theorem d_Te_take_26 : decode b_Te_take 26 = .ok (.iconst 0, 1) := by decide +kernel
theorem d_Te_take_27 : decode b_Te_take 27 = .ok (.putfield 72, 3) := by decide +kernel
theorem d_Te_take_30 : decode b_Te_take 30 = .ok (.return_, 1) := by decide +kernel
theorem d_Te_takeComma_0 : decode b_Te_takeComma 0 = .ok (.iload_n 1, 1) := by decide +kernel
theorem d_Te_takeComma_1 : decode b_Te_takeComma 1 = .ok (.ifCond .le 9, 3) := by decide +kernel
theorem d_Te_takeComma_4 : decode b_Te_takeComma 4 = .ok (.aload_n 0, 1) := by decide +kernel
theorem d_Te_takeComma_5 : decode b_Te_takeComma 5 = .ok (.bipush 44, 2) := by decide +kernel
theorem d_Te_takeComma_7 : decode b_Te_takeComma 7 = .ok (.invokevirtual 79, 3) := by decide +kernel
theorem d_Te_takeComma_10 : decode b_Te_takeComma 10 = .ok (.return_, 1) := by decide +kernel
theorem d_Te_takeKind_0 : decode b_Te_takeKind 0 = .ok (.iconst 0, 1) := by decide +kernel
theorem d_Te_takeKind_1 : decode b_Te_takeKind 1 = .ok (.istore_n 1, 1) := by decide +kernel
theorem d_Te_takeKind_2 : decode b_Te_takeKind 2 = .ok (.iload_n 1, 1) := by decide +kernel
theorem d_Te_takeKind_3 : decode b_Te_takeKind 3 = .ok (.bipush 14, 2) := by decide +kernel
theorem d_Te_takeKind_5 : decode b_Te_takeKind 5 = .ok (.if_icmp .ge 37, 3) := by decide +kernel
theorem d_Te_takeKind_8 : decode b_Te_takeKind 8 = .ok (.iload_n 1, 1) := by decide +kernel
theorem d_Te_takeKind_9 : decode b_Te_takeKind 9 = .ok (.invokestatic 25, 3) := by decide +kernel
theorem d_Te_takeKind_12 : decode b_Te_takeKind 12 = .ok (.astore_n 2, 1) := by decide +kernel
theorem d_Te_takeKind_13 : decode b_Te_takeKind 13 = .ok (.aload_n 0, 1) := by decide +kernel
theorem d_Te_takeKind_14 : decode b_Te_takeKind 14 = .ok (.aload_n 2, 1) := by decide +kernel
theorem d_Te_takeKind_15 : decode b_Te_takeKind 15 = .ok (.invokevirtual 82, 3) := by decide +kernel
theorem d_Te_takeKind_18 : decode b_Te_takeKind 18 = .ok (.ifCond .eq 18, 3) := by decide +kernel
theorem d_Te_takeKind_21 : decode b_Te_takeKind 21 = .ok (.aload_n 0, 1) := by decide +kernel
theorem d_Te_takeKind_22 : decode b_Te_takeKind 22 = .ok (.dup, 1) := by decide +kernel
theorem d_Te_takeKind_23 : decode b_Te_takeKind 23 = .ok (.getfield 69, 3) := by decide +kernel
theorem d_Te_takeKind_26 : decode b_Te_takeKind 26 = .ok (.aload_n 2, 1) := by decide +kernel
theorem d_Te_takeKind_27 : decode b_Te_takeKind 27 = .ok (.invokevirtual 31, 3) := by decide +kernel
theorem d_Te_takeKind_30 : decode b_Te_takeKind 30 = .ok (.iadd, 1) := by decide +kernel
theorem d_Te_takeKind_31 : decode b_Te_takeKind 31 = .ok (.putfield 69, 3) := by decide +kernel
theorem d_Te_takeKind_34 : decode b_Te_takeKind 34 = .ok (.iload_n 1, 1) := by decide +kernel
theorem d_Te_takeKind_35 : decode b_Te_takeKind 35 = .ok (.ireturn, 1) := by decide +kernel
theorem d_Te_takeKind_36 : decode b_Te_takeKind 36 = .ok (.iinc 1 1, 3) := by decide +kernel
theorem d_Te_takeKind_39 : decode b_Te_takeKind 39 = .ok (.goto (-37), 3) := by decide +kernel
theorem d_Te_takeKind_42 : decode b_Te_takeKind 42 = .ok (.aload_n 0, 1) := by decide +kernel
theorem d_Te_takeKind_43 : decode b_Te_takeKind 43 = .ok (.iconst 0, 1) := by decide +kernel
theorem d_Te_takeKind_44 : decode b_Te_takeKind 44 = .ok (.putfield 72, 3) := by decide +kernel
theorem d_Te_takeKind_47 : decode b_Te_takeKind 47 = .ok (.iconst (-1), 1) := by decide +kernel
theorem d_Te_takeKind_48 : decode b_Te_takeKind 48 = .ok (.ireturn, 1) := by decide +kernel
theorem d_Te_goesOnWith_0 : decode b_Te_goesOnWith 0 = .ok (.iconst 0, 1) := by decide +kernel
theorem d_Te_goesOnWith_1 : decode b_Te_goesOnWith 1 = .ok (.istore_n 2, 1) := by decide +kernel
theorem d_Te_goesOnWith_2 : decode b_Te_goesOnWith 2 = .ok (.iload_n 2, 1) := by decide +kernel
theorem d_Te_goesOnWith_3 : decode b_Te_goesOnWith 3 = .ok (.aload_n 1, 1) := by decide +kernel
theorem d_Te_goesOnWith_4 : decode b_Te_goesOnWith 4 = .ok (.invokevirtual 31, 3) := by decide +kernel
theorem d_Te_goesOnWith_7 : decode b_Te_goesOnWith 7 = .ok (.if_icmp .ge 29, 3) := by decide +kernel
theorem d_Te_goesOnWith_10 : decode b_Te_goesOnWith 10 = .ok (.aload_n 0, 1) := by decide +kernel
theorem d_Te_goesOnWith_11 : decode b_Te_goesOnWith 11 = .ok (.aload_n 0, 1) := by decide +kernel
theorem d_Te_goesOnWith_12 : decode b_Te_goesOnWith 12 = .ok (.getfield 69, 3) := by decide +kernel
theorem d_Te_goesOnWith_15 : decode b_Te_goesOnWith 15 = .ok (.iload_n 2, 1) := by decide +kernel
theorem d_Te_goesOnWith_16 : decode b_Te_goesOnWith 16 = .ok (.iadd, 1) := by decide +kernel
theorem d_Te_goesOnWith_17 : decode b_Te_goesOnWith 17 = .ok (.invokevirtual 76, 3) := by decide +kernel
theorem d_Te_goesOnWith_20 : decode b_Te_goesOnWith 20 = .ok (.aload_n 1, 1) := by decide +kernel
theorem d_Te_goesOnWith_21 : decode b_Te_goesOnWith 21 = .ok (.iload_n 2, 1) := by decide +kernel
theorem d_Te_goesOnWith_22 : decode b_Te_goesOnWith 22 = .ok (.invokevirtual 37, 3) := by decide +kernel
theorem d_Te_goesOnWith_25 : decode b_Te_goesOnWith 25 = .ok (.if_icmp .eq 5, 3) := by decide +kernel
theorem d_Te_goesOnWith_28 : decode b_Te_goesOnWith 28 = .ok (.iconst 0, 1) := by decide +kernel
theorem d_Te_goesOnWith_29 : decode b_Te_goesOnWith 29 = .ok (.ireturn, 1) := by decide +kernel
theorem d_Te_goesOnWith_30 : decode b_Te_goesOnWith 30 = .ok (.iinc 2 1, 3) := by decide +kernel
theorem d_Te_goesOnWith_33 : decode b_Te_goesOnWith 33 = .ok (.goto (-31), 3) := by decide +kernel
theorem d_Te_goesOnWith_36 : decode b_Te_goesOnWith 36 = .ok (.iconst 1, 1) := by decide +kernel
theorem d_Te_goesOnWith_37 : decode b_Te_goesOnWith 37 = .ok (.ireturn, 1) := by decide +kernel
theorem d_Te_takeRegister_0 : decode b_Te_takeRegister 0 = .ok (.aload_n 0, 1) := by decide +kernel
theorem d_Te_takeRegister_1 : decode b_Te_takeRegister 1 = .ok (.bipush 114, 2) := by decide +kernel
theorem d_Te_takeRegister_3 : decode b_Te_takeRegister 3 = .ok (.invokevirtual 79, 3) := by decide +kernel
theorem d_Te_takeRegister_6 : decode b_Te_takeRegister 6 = .ok (.aload_n 0, 1) := by decide +kernel
theorem d_Te_takeRegister_7 : decode b_Te_takeRegister 7 = .ok (.aload_n 0, 1) := by decide +kernel
theorem d_Te_takeRegister_8 : decode b_Te_takeRegister 8 = .ok (.getfield 69, 3) := by decide +kernel
theorem d_Te_takeRegister_11 : decode b_Te_takeRegister 11 = .ok (.invokevirtual 76, 3) := by decide +kernel
theorem d_Te_takeRegister_14 : decode b_Te_takeRegister 14 = .ok (.bipush 48, 2) := by decide +kernel
theorem d_Te_takeRegister_16 : decode b_Te_takeRegister 16 = .ok (.isub, 1) := by decide +kernel
theorem d_Te_takeRegister_17 : decode b_Te_takeRegister 17 = .ok (.istore_n 1, 1) := by decide +kernel
theorem d_Te_takeRegister_18 : decode b_Te_takeRegister 18 = .ok (.iload_n 1, 1) := by decide +kernel
theorem d_Te_takeRegister_19 : decode b_Te_takeRegister 19 = .ok (.ifCond .lt 8, 3) := by decide +kernel
theorem d_Te_takeRegister_22 : decode b_Te_takeRegister 22 = .ok (.iload_n 1, 1) := by decide +kernel
theorem d_Te_takeRegister_23 : decode b_Te_takeRegister 23 = .ok (.iconst 3, 1) := by decide +kernel
theorem d_Te_takeRegister_24 : decode b_Te_takeRegister 24 = .ok (.if_icmp .le 10, 3) := by decide +kernel
theorem d_Te_takeRegister_27 : decode b_Te_takeRegister 27 = .ok (.aload_n 0, 1) := by decide +kernel
theorem d_Te_takeRegister_28 : decode b_Te_takeRegister 28 = .ok (.iconst 0, 1) := by decide +kernel
theorem d_Te_takeRegister_29 : decode b_Te_takeRegister 29 = .ok (.putfield 72, 3) := by decide +kernel
theorem d_Te_takeRegister_32 : decode b_Te_takeRegister 32 = .ok (.iconst 0, 1) := by decide +kernel
theorem d_Te_takeRegister_33 : decode b_Te_takeRegister 33 = .ok (.ireturn, 1) := by decide +kernel
theorem d_Te_takeRegister_34 : decode b_Te_takeRegister 34 = .ok (.aload_n 0, 1) := by decide +kernel
theorem d_Te_takeRegister_35 : decode b_Te_takeRegister 35 = .ok (.dup, 1) := by decide +kernel
theorem d_Te_takeRegister_36 : decode b_Te_takeRegister 36 = .ok (.getfield 69, 3) := by decide +kernel
theorem d_Te_takeRegister_39 : decode b_Te_takeRegister 39 = .ok (.iconst 1, 1) := by decide +kernel
theorem d_Te_takeRegister_40 : decode b_Te_takeRegister 40 = .ok (.iadd, 1) := by decide +kernel
theorem d_Te_takeRegister_41 : decode b_Te_takeRegister 41 = .ok (.putfield 69, 3) := by decide +kernel
theorem d_Te_takeRegister_44 : decode b_Te_takeRegister 44 = .ok (.iload_n 1, 1) := by decide +kernel
theorem d_Te_takeRegister_45 : decode b_Te_takeRegister 45 = .ok (.ireturn, 1) := by decide +kernel
theorem d_Te_takeNumber_0 : decode b_Te_takeNumber 0 = .ok (.aload_n 0, 1) := by decide +kernel
theorem d_Te_takeNumber_1 : decode b_Te_takeNumber 1 = .ok (.aload_n 0, 1) := by decide +kernel
theorem d_Te_takeNumber_2 : decode b_Te_takeNumber 2 = .ok (.getfield 69, 3) := by decide +kernel
theorem d_Te_takeNumber_5 : decode b_Te_takeNumber 5 = .ok (.invokevirtual 76, 3) := by decide +kernel
theorem d_Te_takeNumber_8 : decode b_Te_takeNumber 8 = .ok (.bipush 45, 2) := by decide +kernel
theorem d_Te_takeNumber_10 : decode b_Te_takeNumber 10 = .ok (.if_icmp .ne 7, 3) := by decide +kernel
theorem d_Te_takeNumber_13 : decode b_Te_takeNumber 13 = .ok (.iconst 1, 1) := by decide +kernel
theorem d_Te_takeNumber_14 : decode b_Te_takeNumber 14 = .ok (.goto 4, 3) := by decide +kernel
theorem d_Te_takeNumber_17 : decode b_Te_takeNumber 17 = .ok (.iconst 0, 1) := by decide +kernel
theorem d_Te_takeNumber_18 : decode b_Te_takeNumber 18 = .ok (.istore_n 3, 1) := by decide +kernel
theorem d_Te_takeNumber_19 : decode b_Te_takeNumber 19 = .ok (.iload_n 3, 1) := by decide +kernel
theorem d_Te_takeNumber_20 : decode b_Te_takeNumber 20 = .ok (.ifCond .eq 13, 3) := by decide +kernel
theorem d_Te_takeNumber_23 : decode b_Te_takeNumber 23 = .ok (.aload_n 0, 1) := by decide +kernel
theorem d_Te_takeNumber_24 : decode b_Te_takeNumber 24 = .ok (.dup, 1) := by decide +kernel
theorem d_Te_takeNumber_25 : decode b_Te_takeNumber 25 = .ok (.getfield 69, 3) := by decide +kernel
theorem d_Te_takeNumber_28 : decode b_Te_takeNumber 28 = .ok (.iconst 1, 1) := by decide +kernel
theorem d_Te_takeNumber_29 : decode b_Te_takeNumber 29 = .ok (.iadd, 1) := by decide +kernel
theorem d_Te_takeNumber_30 : decode b_Te_takeNumber 30 = .ok (.putfield 69, 3) := by decide +kernel
theorem d_Te_takeNumber_33 : decode b_Te_takeNumber 33 = .ok (.aload_n 0, 1) := by decide +kernel
theorem d_Te_takeNumber_34 : decode b_Te_takeNumber 34 = .ok (.invokevirtual 86, 3) := by decide +kernel
theorem d_Te_takeNumber_37 : decode b_Te_takeNumber 37 = .ok (.istore 4, 2) := by decide +kernel
theorem d_Te_takeNumber_39 : decode b_Te_takeNumber 39 = .ok (.iload_n 3, 1) := by decide +kernel
theorem d_Te_takeNumber_40 : decode b_Te_takeNumber 40 = .ok (.ifCond .eq 9, 3) := by decide +kernel
theorem d_Te_takeNumber_43 : decode b_Te_takeNumber 43 = .ok (.iload 4, 2) := by decide +kernel
theorem d_Te_takeNumber_45 : decode b_Te_takeNumber 45 = .ok (.ineg, 1) := by decide +kernel
theorem d_Te_takeNumber_46 : decode b_Te_takeNumber 46 = .ok (.goto 5, 3) := by decide +kernel
theorem d_Te_takeNumber_49 : decode b_Te_takeNumber 49 = .ok (.iload 4, 2) := by decide +kernel
theorem d_Te_takeNumber_51 : decode b_Te_takeNumber 51 = .ok (.istore 5, 2) := by decide +kernel
theorem d_Te_takeNumber_53 : decode b_Te_takeNumber 53 = .ok (.iload_n 3, 1) := by decide +kernel
theorem d_Te_takeNumber_54 : decode b_Te_takeNumber 54 = .ok (.ifCond .eq 8, 3) := by decide +kernel
theorem d_Te_takeNumber_57 : decode b_Te_takeNumber 57 = .ok (.iload 4, 2) := by decide +kernel
theorem d_Te_takeNumber_59 : decode b_Te_takeNumber 59 = .ok (.ifCond .eq 15, 3) := by decide +kernel
theorem d_Te_takeNumber_62 : decode b_Te_takeNumber 62 = .ok (.iload 5, 2) := by decide +kernel
theorem d_Te_takeNumber_64 : decode b_Te_takeNumber 64 = .ok (.iload_n 1, 1) := by decide +kernel
theorem d_Te_takeNumber_65 : decode b_Te_takeNumber 65 = .ok (.if_icmp .lt 9, 3) := by decide +kernel
theorem d_Te_takeNumber_68 : decode b_Te_takeNumber 68 = .ok (.iload 5, 2) := by decide +kernel
theorem d_Te_takeNumber_70 : decode b_Te_takeNumber 70 = .ok (.iload_n 2, 1) := by decide +kernel
theorem d_Te_takeNumber_71 : decode b_Te_takeNumber 71 = .ok (.if_icmp .le 8, 3) := by decide +kernel
theorem d_Te_takeNumber_74 : decode b_Te_takeNumber 74 = .ok (.aload_n 0, 1) := by decide +kernel
theorem d_Te_takeNumber_75 : decode b_Te_takeNumber 75 = .ok (.iconst 0, 1) := by decide +kernel
theorem d_Te_takeNumber_76 : decode b_Te_takeNumber 76 = .ok (.putfield 72, 3) := by decide +kernel
theorem d_Te_takeNumber_79 : decode b_Te_takeNumber 79 = .ok (.iload 5, 2) := by decide +kernel
theorem d_Te_takeNumber_81 : decode b_Te_takeNumber 81 = .ok (.ireturn, 1) := by decide +kernel
theorem d_Te_takeAmount_0 : decode b_Te_takeAmount 0 = .ok (.aload_n 0, 1) := by decide +kernel
theorem d_Te_takeAmount_1 : decode b_Te_takeAmount 1 = .ok (.getfield 69, 3) := by decide +kernel
theorem d_Te_takeAmount_4 : decode b_Te_takeAmount 4 = .ok (.istore_n 1, 1) := by decide +kernel
theorem d_Te_takeAmount_5 : decode b_Te_takeAmount 5 = .ok (.iconst 0, 1) := by decide +kernel
theorem d_Te_takeAmount_6 : decode b_Te_takeAmount 6 = .ok (.istore_n 2, 1) := by decide +kernel
theorem d_Te_takeAmount_7 : decode b_Te_takeAmount 7 = .ok (.iconst 0, 1) := by decide +kernel
theorem d_Te_takeAmount_8 : decode b_Te_takeAmount 8 = .ok (.istore_n 3, 1) := by decide +kernel
theorem d_Te_takeAmount_9 : decode b_Te_takeAmount 9 = .ok (.iload_n 3, 1) := by decide +kernel
theorem d_Te_takeAmount_10 : decode b_Te_takeAmount 10 = .ok (.iconst 5, 1) := by decide +kernel
theorem d_Te_takeAmount_11 : decode b_Te_takeAmount 11 = .ok (.if_icmp .ge 50, 3) := by decide +kernel
theorem d_Te_takeAmount_14 : decode b_Te_takeAmount 14 = .ok (.aload_n 0, 1) := by decide +kernel
theorem d_Te_takeAmount_15 : decode b_Te_takeAmount 15 = .ok (.aload_n 0, 1) := by decide +kernel
theorem d_Te_takeAmount_16 : decode b_Te_takeAmount 16 = .ok (.getfield 69, 3) := by decide +kernel
theorem d_Te_takeAmount_19 : decode b_Te_takeAmount 19 = .ok (.invokevirtual 76, 3) := by decide +kernel
theorem d_Te_takeAmount_22 : decode b_Te_takeAmount 22 = .ok (.invokestatic 89, 3) := by decide +kernel
theorem d_Te_takeAmount_25 : decode b_Te_takeAmount 25 = .ok (.ifCond .eq 36, 3) := by decide +kernel
theorem d_Te_takeAmount_28 : decode b_Te_takeAmount 28 = .ok (.bipush 10, 2) := by decide +kernel
theorem d_Te_takeAmount_30 : decode b_Te_takeAmount 30 = .ok (.iload_n 2, 1) := by decide +kernel
theorem d_Te_takeAmount_31 : decode b_Te_takeAmount 31 = .ok (.imul, 1) := by decide +kernel
theorem d_Te_takeAmount_32 : decode b_Te_takeAmount 32 = .ok (.aload_n 0, 1) := by decide +kernel
theorem d_Te_takeAmount_33 : decode b_Te_takeAmount 33 = .ok (.aload_n 0, 1) := by decide +kernel
theorem d_Te_takeAmount_34 : decode b_Te_takeAmount 34 = .ok (.getfield 69, 3) := by decide +kernel
theorem d_Te_takeAmount_37 : decode b_Te_takeAmount 37 = .ok (.invokevirtual 76, 3) := by decide +kernel
theorem d_Te_takeAmount_40 : decode b_Te_takeAmount 40 = .ok (.iadd, 1) := by decide +kernel
theorem d_Te_takeAmount_41 : decode b_Te_takeAmount 41 = .ok (.bipush 48, 2) := by decide +kernel
theorem d_Te_takeAmount_43 : decode b_Te_takeAmount 43 = .ok (.isub, 1) := by decide +kernel
theorem d_Te_takeAmount_44 : decode b_Te_takeAmount 44 = .ok (.istore_n 2, 1) := by decide +kernel
theorem d_Te_takeAmount_45 : decode b_Te_takeAmount 45 = .ok (.aload_n 0, 1) := by decide +kernel
theorem d_Te_takeAmount_46 : decode b_Te_takeAmount 46 = .ok (.dup, 1) := by decide +kernel
theorem d_Te_takeAmount_47 : decode b_Te_takeAmount 47 = .ok (.getfield 69, 3) := by decide +kernel
theorem d_Te_takeAmount_50 : decode b_Te_takeAmount 50 = .ok (.iconst 1, 1) := by decide +kernel
theorem d_Te_takeAmount_51 : decode b_Te_takeAmount 51 = .ok (.iadd, 1) := by decide +kernel
theorem d_Te_takeAmount_52 : decode b_Te_takeAmount 52 = .ok (.putfield 69, 3) := by decide +kernel
theorem d_Te_takeAmount_55 : decode b_Te_takeAmount 55 = .ok (.iinc 3 1, 3) := by decide +kernel
theorem d_Te_takeAmount_58 : decode b_Te_takeAmount 58 = .ok (.goto (-49), 3) := by decide +kernel
theorem d_Te_takeAmount_61 : decode b_Te_takeAmount 61 = .ok (.aload_n 0, 1) := by decide +kernel
theorem d_Te_takeAmount_62 : decode b_Te_takeAmount 62 = .ok (.getfield 69, 3) := by decide +kernel
end
section
theorem d_Te_takeAmount_65 : decode b_Te_takeAmount 65 = .ok (.iload_n 1, 1) := by decide +kernel
theorem d_Te_takeAmount_66 : decode b_Te_takeAmount 66 = .ok (.isub, 1) := by decide +kernel
theorem d_Te_takeAmount_67 : decode b_Te_takeAmount 67 = .ok (.istore_n 3, 1) := by decide +kernel
theorem d_Te_takeAmount_68 : decode b_Te_takeAmount 68 = .ok (.iload_n 3, 1) := by decide +kernel
theorem d_Te_takeAmount_69 : decode b_Te_takeAmount 69 = .ok (.ifCond .eq 18, 3) := by decide +kernel
theorem d_Te_takeAmount_72 : decode b_Te_takeAmount 72 = .ok (.iload_n 3, 1) := by decide +kernel
theorem d_Te_takeAmount_73 : decode b_Te_takeAmount 73 = .ok (.iconst 1, 1) := by decide +kernel
theorem d_Te_takeAmount_74 : decode b_Te_takeAmount 74 = .ok (.if_icmp .le 18, 3) := by decide +kernel
theorem d_Te_takeAmount_77 : decode b_Te_takeAmount 77 = .ok (.aload_n 0, 1) := by decide +kernel
theorem d_Te_takeAmount_78 : decode b_Te_takeAmount 78 = .ok (.iload_n 1, 1) := by decide +kernel
theorem d_Te_takeAmount_79 : decode b_Te_takeAmount 79 = .ok (.invokevirtual 76, 3) := by decide +kernel
theorem d_Te_takeAmount_82 : decode b_Te_takeAmount 82 = .ok (.bipush 48, 2) := by decide +kernel
theorem d_Te_takeAmount_84 : decode b_Te_takeAmount 84 = .ok (.if_icmp .ne 8, 3) := by decide +kernel
theorem d_Te_takeAmount_87 : decode b_Te_takeAmount 87 = .ok (.aload_n 0, 1) := by decide +kernel
theorem d_Te_takeAmount_88 : decode b_Te_takeAmount 88 = .ok (.iconst 0, 1) := by decide +kernel
theorem d_Te_takeAmount_89 : decode b_Te_takeAmount 89 = .ok (.putfield 72, 3) := by decide +kernel
theorem d_Te_takeAmount_92 : decode b_Te_takeAmount 92 = .ok (.iload_n 2, 1) := by decide +kernel
theorem d_Te_takeAmount_93 : decode b_Te_takeAmount 93 = .ok (.ireturn, 1) := by decide +kernel
theorem d_Te_isDigit_0 : decode b_Te_isDigit 0 = .ok (.iload_n 0, 1) := by decide +kernel
theorem d_Te_isDigit_1 : decode b_Te_isDigit 1 = .ok (.bipush 48, 2) := by decide +kernel
theorem d_Te_isDigit_3 : decode b_Te_isDigit 3 = .ok (.if_icmp .lt 13, 3) := by decide +kernel
theorem d_Te_isDigit_6 : decode b_Te_isDigit 6 = .ok (.iload_n 0, 1) := by decide +kernel
theorem d_Te_isDigit_7 : decode b_Te_isDigit 7 = .ok (.bipush 57, 2) := by decide +kernel
theorem d_Te_isDigit_9 : decode b_Te_isDigit 9 = .ok (.if_icmp .gt 7, 3) := by decide +kernel
theorem d_Te_isDigit_12 : decode b_Te_isDigit 12 = .ok (.iconst 1, 1) := by decide +kernel
theorem d_Te_isDigit_13 : decode b_Te_isDigit 13 = .ok (.goto 4, 3) := by decide +kernel
theorem d_Te_isDigit_16 : decode b_Te_isDigit 16 = .ok (.iconst 0, 1) := by decide +kernel
theorem d_Te_isDigit_17 : decode b_Te_isDigit 17 = .ok (.ireturn, 1) := by decide +kernel
theorem d_Wa_init_0 : decode b_Wa_init 0 = .ok (.aload_n 0, 1) := by decide +kernel
theorem d_Wa_init_1 : decode b_Wa_init 1 = .ok (.invokespecial 3, 3) := by decide +kernel
theorem d_Wa_init_4 : decode b_Wa_init 4 = .ok (.aload_n 0, 1) := by decide +kernel
theorem d_Wa_init_5 : decode b_Wa_init 5 = .ok (.sipush 160, 3) := by decide +kernel
theorem d_Wa_init_8 : decode b_Wa_init 8 = .ok (.newarray .int, 2) := by decide +kernel
theorem d_Wa_init_10 : decode b_Wa_init 10 = .ok (.putfield 9, 3) := by decide +kernel
theorem d_Wa_init_13 : decode b_Wa_init 13 = .ok (.aload_n 0, 1) := by decide +kernel
theorem d_Wa_init_14 : decode b_Wa_init 14 = .ok (.sipush 160, 3) := by decide +kernel
theorem d_Wa_init_17 : decode b_Wa_init 17 = .ok (.newarray .boolean, 2) := by decide +kernel
theorem d_Wa_init_19 : decode b_Wa_init 19 = .ok (.putfield 15, 3) := by decide +kernel
theorem d_Wa_init_22 : decode b_Wa_init 22 = .ok (.return_, 1) := by decide +kernel
theorem d_Wa_count_0 : decode b_Wa_count 0 = .ok (.aload_n 0, 1) := by decide +kernel
theorem d_Wa_count_1 : decode b_Wa_count 1 = .ok (.getfield 19, 3) := by decide +kernel
theorem d_Wa_count_4 : decode b_Wa_count 4 = .ok (.ireturn, 1) := by decide +kernel
theorem d_Wa_start_0 : decode b_Wa_start 0 = .ok (.iconst 0, 1) := by decide +kernel
theorem d_Wa_start_1 : decode b_Wa_start 1 = .ok (.istore_n 2, 1) := by decide +kernel
theorem d_Wa_start_2 : decode b_Wa_start 2 = .ok (.iload_n 2, 1) := by decide +kernel
theorem d_Wa_start_3 : decode b_Wa_start 3 = .ok (.sipush 160, 3) := by decide +kernel
theorem d_Wa_start_6 : decode b_Wa_start 6 = .ok (.if_icmp .ge 16, 3) := by decide +kernel
theorem d_Wa_start_9 : decode b_Wa_start 9 = .ok (.aload_n 0, 1) := by decide +kernel
theorem d_Wa_start_10 : decode b_Wa_start 10 = .ok (.getfield 15, 3) := by decide +kernel
theorem d_Wa_start_13 : decode b_Wa_start 13 = .ok (.iload_n 2, 1) := by decide +kernel
theorem d_Wa_start_14 : decode b_Wa_start 14 = .ok (.iconst 0, 1) := by decide +kernel
theorem d_Wa_start_15 : decode b_Wa_start 15 = .ok (.bastore, 1) := by decide +kernel
theorem d_Wa_start_16 : decode b_Wa_start 16 = .ok (.iinc 2 1, 3) := by decide +kernel
theorem d_Wa_start_19 : decode b_Wa_start 19 = .ok (.goto (-17), 3) := by decide +kernel
theorem d_Wa_start_22 : decode b_Wa_start 22 = .ok (.aload_n 0, 1) := by decide +kernel
theorem d_Wa_start_23 : decode b_Wa_start 23 = .ok (.iload_n 1, 1) := by decide +kernel
theorem d_Wa_start_24 : decode b_Wa_start 24 = .ok (.sipush 160, 3) := by decide +kernel
theorem d_Wa_start_27 : decode b_Wa_start 27 = .ok (.invokestatic 23, 3) := by decide +kernel
theorem d_Wa_start_30 : decode b_Wa_start 30 = .ok (.putfield 29, 3) := by decide +kernel
theorem d_Wa_start_33 : decode b_Wa_start 33 = .ok (.aload_n 0, 1) := by decide +kernel
theorem d_Wa_start_34 : decode b_Wa_start 34 = .ok (.iconst 0, 1) := by decide +kernel
theorem d_Wa_start_35 : decode b_Wa_start 35 = .ok (.putfield 19, 3) := by decide +kernel
theorem d_Wa_start_38 : decode b_Wa_start 38 = .ok (.return_, 1) := by decide +kernel
theorem d_Wa_cameTo_0 : decode b_Wa_cameTo 0 = .ok (.iload_n 1, 1) := by decide +kernel
theorem d_Wa_cameTo_1 : decode b_Wa_cameTo 1 = .ok (.ifCond .lt 24, 3) := by decide +kernel
theorem d_Wa_cameTo_4 : decode b_Wa_cameTo 4 = .ok (.iload_n 1, 1) := by decide +kernel
theorem d_Wa_cameTo_5 : decode b_Wa_cameTo 5 = .ok (.aload_n 0, 1) := by decide +kernel
theorem d_Wa_cameTo_6 : decode b_Wa_cameTo 6 = .ok (.getfield 29, 3) := by decide +kernel
theorem d_Wa_cameTo_9 : decode b_Wa_cameTo 9 = .ok (.if_icmp .ge 16, 3) := by decide +kernel
theorem d_Wa_cameTo_12 : decode b_Wa_cameTo 12 = .ok (.aload_n 0, 1) := by decide +kernel
theorem d_Wa_cameTo_13 : decode b_Wa_cameTo 13 = .ok (.getfield 15, 3) := by decide +kernel
theorem d_Wa_cameTo_16 : decode b_Wa_cameTo 16 = .ok (.iload_n 1, 1) := by decide +kernel
theorem d_Wa_cameTo_17 : decode b_Wa_cameTo 17 = .ok (.baload, 1) := by decide +kernel
theorem d_Wa_cameTo_18 : decode b_Wa_cameTo 18 = .ok (.ifCond .eq 7, 3) := by decide +kernel
theorem d_Wa_cameTo_21 : decode b_Wa_cameTo 21 = .ok (.iconst 1, 1) := by decide +kernel
theorem d_Wa_cameTo_22 : decode b_Wa_cameTo 22 = .ok (.goto 4, 3) := by decide +kernel
theorem d_Wa_cameTo_25 : decode b_Wa_cameTo 25 = .ok (.iconst 0, 1) := by decide +kernel
theorem d_Wa_cameTo_26 : decode b_Wa_cameTo 26 = .ok (.ireturn, 1) := by decide +kernel
theorem d_Wa_comeTo_0 : decode b_Wa_comeTo 0 = .ok (.iload_n 1, 1) := by decide +kernel
theorem d_Wa_comeTo_1 : decode b_Wa_comeTo 1 = .ok (.ifCond .lt 57, 3) := by decide +kernel
theorem d_Wa_comeTo_4 : decode b_Wa_comeTo 4 = .ok (.iload_n 1, 1) := by decide +kernel
theorem d_Wa_comeTo_5 : decode b_Wa_comeTo 5 = .ok (.aload_n 0, 1) := by decide +kernel
theorem d_Wa_comeTo_6 : decode b_Wa_comeTo 6 = .ok (.getfield 29, 3) := by decide +kernel
theorem d_Wa_comeTo_9 : decode b_Wa_comeTo 9 = .ok (.if_icmp .ge 49, 3) := by decide +kernel
theorem d_Wa_comeTo_12 : decode b_Wa_comeTo 12 = .ok (.aload_n 0, 1) := by decide +kernel
theorem d_Wa_comeTo_13 : decode b_Wa_comeTo 13 = .ok (.getfield 15, 3) := by decide +kernel
theorem d_Wa_comeTo_16 : decode b_Wa_comeTo 16 = .ok (.iload_n 1, 1) := by decide +kernel
theorem d_Wa_comeTo_17 : decode b_Wa_comeTo 17 = .ok (.baload, 1) := by decide +kernel
theorem d_Wa_comeTo_18 : decode b_Wa_comeTo 18 = .ok (.ifCond .ne 40, 3) := by decide +kernel
theorem d_Wa_comeTo_21 : decode b_Wa_comeTo 21 = .ok (.aload_n 0, 1) := by decide +kernel
theorem d_Wa_comeTo_22 : decode b_Wa_comeTo 22 = .ok (.getfield 19, 3) := by decide +kernel
theorem d_Wa_comeTo_25 : decode b_Wa_comeTo 25 = .ok (.sipush 160, 3) := by decide +kernel
theorem d_Wa_comeTo_28 : decode b_Wa_comeTo 28 = .ok (.if_icmp .ge 30, 3) := by decide +kernel
theorem d_Wa_comeTo_31 : decode b_Wa_comeTo 31 = .ok (.aload_n 0, 1) := by decide +kernel
theorem d_Wa_comeTo_32 : decode b_Wa_comeTo 32 = .ok (.getfield 15, 3) := by decide +kernel
theorem d_Wa_comeTo_35 : decode b_Wa_comeTo 35 = .ok (.iload_n 1, 1) := by decide +kernel
theorem d_Wa_comeTo_36 : decode b_Wa_comeTo 36 = .ok (.iconst 1, 1) := by decide +kernel
theorem d_Wa_comeTo_37 : decode b_Wa_comeTo 37 = .ok (.bastore, 1) := by decide +kernel
theorem d_Wa_comeTo_38 : decode b_Wa_comeTo 38 = .ok (.aload_n 0, 1) := by decide +kernel
theorem d_Wa_comeTo_39 : decode b_Wa_comeTo 39 = .ok (.getfield 9, 3) := by decide +kernel
theorem d_Wa_comeTo_42 : decode b_Wa_comeTo 42 = .ok (.aload_n 0, 1) := by decide +kernel
theorem d_Wa_comeTo_43 : decode b_Wa_comeTo 43 = .ok (.getfield 19, 3) := by decide +kernel
theorem d_Wa_comeTo_46 : decode b_Wa_comeTo 46 = .ok (.iload_n 1, 1) := by decide +kernel
theorem d_Wa_comeTo_47 : decode b_Wa_comeTo 47 = .ok (.iastore, 1) := by decide +kernel
theorem d_Wa_comeTo_48 : decode b_Wa_comeTo 48 = .ok (.aload_n 0, 1) := by decide +kernel
theorem d_Wa_comeTo_49 : decode b_Wa_comeTo 49 = .ok (.dup, 1) := by decide +kernel
theorem d_Wa_comeTo_50 : decode b_Wa_comeTo 50 = .ok (.getfield 19, 3) := by decide +kernel
theorem d_Wa_comeTo_53 : decode b_Wa_comeTo 53 = .ok (.iconst 1, 1) := by decide +kernel
theorem d_Wa_comeTo_54 : decode b_Wa_comeTo 54 = .ok (.iadd, 1) := by decide +kernel
theorem d_Wa_comeTo_55 : decode b_Wa_comeTo 55 = .ok (.putfield 19, 3) := by decide +kernel
theorem d_Wa_comeTo_58 : decode b_Wa_comeTo 58 = .ok (.return_, 1) := by decide +kernel
theorem d_Wa_follow_0 : decode b_Wa_follow 0 = .ok (.iconst 0, 1) := by decide +kernel
theorem d_Wa_follow_1 : decode b_Wa_follow 1 = .ok (.istore_n 3, 1) := by decide +kernel
theorem d_Wa_follow_2 : decode b_Wa_follow 2 = .ok (.iload_n 3, 1) := by decide +kernel
theorem d_Wa_follow_3 : decode b_Wa_follow 3 = .ok (.aload_n 0, 1) := by decide +kernel
theorem d_Wa_follow_4 : decode b_Wa_follow 4 = .ok (.getfield 19, 3) := by decide +kernel
theorem d_Wa_follow_7 : decode b_Wa_follow 7 = .ok (.if_icmp .ge 28, 3) := by decide +kernel
theorem d_Wa_follow_10 : decode b_Wa_follow 10 = .ok (.iload_n 3, 1) := by decide +kernel
theorem d_Wa_follow_11 : decode b_Wa_follow 11 = .ok (.sipush 160, 3) := by decide +kernel
theorem d_Wa_follow_14 : decode b_Wa_follow 14 = .ok (.if_icmp .ge 21, 3) := by decide +kernel
theorem d_Wa_follow_17 : decode b_Wa_follow 17 = .ok (.aload_n 0, 1) := by decide +kernel
theorem d_Wa_follow_18 : decode b_Wa_follow 18 = .ok (.aload_n 1, 1) := by decide +kernel
theorem d_Wa_follow_19 : decode b_Wa_follow 19 = .ok (.aload_n 0, 1) := by decide +kernel
theorem d_Wa_follow_20 : decode b_Wa_follow 20 = .ok (.getfield 9, 3) := by decide +kernel
theorem d_Wa_follow_23 : decode b_Wa_follow 23 = .ok (.iload_n 3, 1) := by decide +kernel
theorem d_Wa_follow_24 : decode b_Wa_follow 24 = .ok (.iaload, 1) := by decide +kernel
theorem d_Wa_follow_25 : decode b_Wa_follow 25 = .ok (.iload_n 2, 1) := by decide +kernel
theorem d_Wa_follow_26 : decode b_Wa_follow 26 = .ok (.invokevirtual 32, 3) := by decide +kernel
theorem d_Wa_follow_29 : decode b_Wa_follow 29 = .ok (.iinc 3 1, 3) := by decide +kernel
theorem d_Wa_follow_32 : decode b_Wa_follow 32 = .ok (.goto (-30), 3) := by decide +kernel
theorem d_Wa_follow_35 : decode b_Wa_follow 35 = .ok (.return_, 1) := by decide +kernel
theorem d_Wa_comeToSuccessors_0 : decode b_Wa_comeToSuccessors 0 = .ok (.aload_n 1, 1) := by decide +kernel
theorem d_Wa_comeToSuccessors_1 : decode b_Wa_comeToSuccessors 1 = .ok (.iload_n 2, 1) := by decide +kernel
theorem d_Wa_comeToSuccessors_2 : decode b_Wa_comeToSuccessors 2 = .ok (.invokevirtual 36, 3) := by decide +kernel
theorem d_Wa_comeToSuccessors_5 : decode b_Wa_comeToSuccessors 5 = .ok (.istore 4, 2) := by decide +kernel
theorem d_Wa_comeToSuccessors_7 : decode b_Wa_comeToSuccessors 7 = .ok (.iload 4, 2) := by decide +kernel
theorem d_Wa_comeToSuccessors_9 : decode b_Wa_comeToSuccessors 9 = .ok (.iconst (-1), 1) := by decide +kernel
theorem d_Wa_comeToSuccessors_10 : decode b_Wa_comeToSuccessors 10 = .ok (.if_icmp .ne 4, 3) := by decide +kernel
theorem d_Wa_comeToSuccessors_13 : decode b_Wa_comeToSuccessors 13 = .ok (.return_, 1) := by decide +kernel
theorem d_Wa_comeToSuccessors_14 : decode b_Wa_comeToSuccessors 14 = .ok (.iload_n 2, 1) := by decide +kernel
theorem d_Wa_comeToSuccessors_15 : decode b_Wa_comeToSuccessors 15 = .ok (.iload 4, 2) := by decide +kernel
theorem d_Wa_comeToSuccessors_17 : decode b_Wa_comeToSuccessors 17 = .ok (.invokestatic 42, 3) := by decide +kernel
theorem d_Wa_comeToSuccessors_20 : decode b_Wa_comeToSuccessors 20 = .ok (.iadd, 1) := by decide +kernel
theorem d_Wa_comeToSuccessors_21 : decode b_Wa_comeToSuccessors 21 = .ok (.istore 5, 2) := by decide +kernel
theorem d_Wa_comeToSuccessors_23 : decode b_Wa_comeToSuccessors 23 = .ok (.iload 4, 2) := by decide +kernel
theorem d_Wa_comeToSuccessors_25 : decode b_Wa_comeToSuccessors 25 = .ok (.invokestatic 47, 3) := by decide +kernel
theorem d_Wa_comeToSuccessors_28 : decode b_Wa_comeToSuccessors 28 = .ok (.ifCond .eq 9, 3) := by decide +kernel
theorem d_Wa_comeToSuccessors_31 : decode b_Wa_comeToSuccessors 31 = .ok (.aload_n 0, 1) := by decide +kernel
theorem d_Wa_comeToSuccessors_32 : decode b_Wa_comeToSuccessors 32 = .ok (.iload 5, 2) := by decide +kernel
theorem d_Wa_comeToSuccessors_34 : decode b_Wa_comeToSuccessors 34 = .ok (.invokevirtual 51, 3) := by decide +kernel
theorem d_Wa_comeToSuccessors_37 : decode b_Wa_comeToSuccessors 37 = .ok (.iload 4, 2) := by decide +kernel
theorem d_Wa_comeToSuccessors_39 : decode b_Wa_comeToSuccessors 39 = .ok (.bipush 10, 2) := by decide +kernel
theorem d_Wa_comeToSuccessors_41 : decode b_Wa_comeToSuccessors 41 = .ok (.if_icmp .ne 17, 3) := by decide +kernel
theorem d_Wa_comeToSuccessors_44 : decode b_Wa_comeToSuccessors 44 = .ok (.aload_n 0, 1) := by decide +kernel
theorem d_Wa_comeToSuccessors_45 : decode b_Wa_comeToSuccessors 45 = .ok (.iload 5, 2) := by decide +kernel
theorem d_Wa_comeToSuccessors_47 : decode b_Wa_comeToSuccessors 47 = .ok (.aload_n 1, 1) := by decide +kernel
theorem d_Wa_comeToSuccessors_48 : decode b_Wa_comeToSuccessors 48 = .ok (.iload_n 2, 1) := by decide +kernel
theorem d_Wa_comeToSuccessors_49 : decode b_Wa_comeToSuccessors 49 = .ok (.iload 4, 2) := by decide +kernel
theorem d_Wa_comeToSuccessors_51 : decode b_Wa_comeToSuccessors 51 = .ok (.invokevirtual 55, 3) := by decide +kernel
theorem d_Wa_comeToSuccessors_54 : decode b_Wa_comeToSuccessors 54 = .ok (.iadd, 1) := by decide +kernel
theorem d_Wa_comeToSuccessors_55 : decode b_Wa_comeToSuccessors 55 = .ok (.invokevirtual 51, 3) := by decide +kernel
theorem d_Wa_comeToSuccessors_58 : decode b_Wa_comeToSuccessors 58 = .ok (.iload 4, 2) := by decide +kernel
theorem d_Wa_comeToSuccessors_60 : decode b_Wa_comeToSuccessors 60 = .ok (.bipush 7, 2) := by decide +kernel
theorem d_Wa_comeToSuccessors_62 : decode b_Wa_comeToSuccessors 62 = .ok (.if_icmp .eq 21, 3) := by decide +kernel
theorem d_Wa_comeToSuccessors_65 : decode b_Wa_comeToSuccessors 65 = .ok (.iload 4, 2) := by decide +kernel
theorem d_Wa_comeToSuccessors_67 : decode b_Wa_comeToSuccessors 67 = .ok (.bipush 9, 2) := by decide +kernel
theorem d_Wa_comeToSuccessors_69 : decode b_Wa_comeToSuccessors 69 = .ok (.if_icmp .eq 14, 3) := by decide +kernel
theorem d_Wa_comeToSuccessors_72 : decode b_Wa_comeToSuccessors 72 = .ok (.iload 4, 2) := by decide +kernel
theorem d_Wa_comeToSuccessors_74 : decode b_Wa_comeToSuccessors 74 = .ok (.bipush 8, 2) := by decide +kernel
theorem d_Wa_comeToSuccessors_76 : decode b_Wa_comeToSuccessors 76 = .ok (.if_icmp .ne 18, 3) := by decide +kernel
theorem d_Wa_comeToSuccessors_79 : decode b_Wa_comeToSuccessors 79 = .ok (.iload_n 3, 1) := by decide +kernel
theorem d_Wa_comeToSuccessors_80 : decode b_Wa_comeToSuccessors 80 = .ok (.ifCond .eq 14, 3) := by decide +kernel
theorem d_Wa_comeToSuccessors_83 : decode b_Wa_comeToSuccessors 83 = .ok (.aload_n 0, 1) := by decide +kernel
theorem d_Wa_comeToSuccessors_84 : decode b_Wa_comeToSuccessors 84 = .ok (.aload_n 1, 1) := by decide +kernel
theorem d_Wa_comeToSuccessors_85 : decode b_Wa_comeToSuccessors 85 = .ok (.iload_n 2, 1) := by decide +kernel
theorem d_Wa_comeToSuccessors_86 : decode b_Wa_comeToSuccessors 86 = .ok (.iload 4, 2) := by decide +kernel
theorem d_Wa_comeToSuccessors_88 : decode b_Wa_comeToSuccessors 88 = .ok (.invokevirtual 55, 3) := by decide +kernel
theorem d_Wa_comeToSuccessors_91 : decode b_Wa_comeToSuccessors 91 = .ok (.invokevirtual 51, 3) := by decide +kernel
theorem d_Wa_comeToSuccessors_94 : decode b_Wa_comeToSuccessors 94 = .ok (.return_, 1) := by decide +kernel
theorem d_La_law_0 : decode code 0 = .ok (.new 7, 3) := by decide +kernel
theorem d_La_law_3 : decode code 3 = .ok (.dup, 1) := by decide +kernel
theorem d_La_law_4 : decode code 4 = .ok (.invokespecial 9, 3) := by decide +kernel
theorem d_La_law_7 : decode code 7 = .ok (.astore_n 1, 1) := by decide +kernel
theorem d_La_law_8 : decode code 8 = .ok (.new 10, 3) := by decide +kernel
theorem d_La_law_11 : decode code 11 = .ok (.dup, 1) := by decide +kernel
theorem d_La_law_12 : decode code 12 = .ok (.invokespecial 12, 3) := by decide +kernel
theorem d_La_law_15 : decode code 15 = .ok (.astore_n 2, 1) := by decide +kernel
theorem d_La_law_16 : decode code 16 = .ok (.iconst 0, 1) := by decide +kernel
theorem d_La_law_17 : decode code 17 = .ok (.istore_n 3, 1) := by decide +kernel
theorem d_La_law_18 : decode code 18 = .ok (.iload_n 3, 1) := by decide +kernel
theorem d_La_law_19 : decode code 19 = .ok (.aload_n 0, 1) := by decide +kernel
theorem d_La_law_20 : decode code 20 = .ok (.arraylength, 1) := by decide +kernel
theorem d_La_law_21 : decode code 21 = .ok (.iconst 3, 1) := by decide +kernel
theorem d_La_law_22 : decode code 22 = .ok (.isub, 1) := by decide +kernel
theorem d_La_law_23 : decode code 23 = .ok (.if_icmp .gt 438, 3) := by decide +kernel
theorem d_La_law_26 : decode code 26 = .ok (.aload_n 0, 1) := by decide +kernel
theorem d_La_law_27 : decode code 27 = .ok (.iload_n 3, 1) := by decide +kernel
theorem d_La_law_28 : decode code 28 = .ok (.iaload, 1) := by decide +kernel
theorem d_La_law_29 : decode code 29 = .ok (.bipush 31, 2) := by decide +kernel
theorem d_La_law_31 : decode code 31 = .ok (.iand, 1) := by decide +kernel
theorem d_La_law_32 : decode code 32 = .ok (.tableswitch 423 0 16 #[84, 117, 140, 151, 164, 187, 210, 233, 246, 269, 292, 305, 318, 331, 354, 387, 400], 84) := by decide +kernel
theorem d_La_law_116 : decode code 116 = .ok (.aload_n 1, 1) := by decide +kernel
theorem d_La_law_117 : decode code 117 = .ok (.aload_n 0, 1) := by decide +kernel
theorem d_La_law_118 : decode code 118 = .ok (.iload_n 3, 1) := by decide +kernel
theorem d_La_law_119 : decode code 119 = .ok (.iconst 1, 1) := by decide +kernel
theorem d_La_law_120 : decode code 120 = .ok (.iadd, 1) := by decide +kernel
theorem d_La_law_121 : decode code 121 = .ok (.iaload, 1) := by decide +kernel
theorem d_La_law_122 : decode code 122 = .ok (.aload_n 0, 1) := by decide +kernel
theorem d_La_law_123 : decode code 123 = .ok (.iload_n 3, 1) := by decide +kernel
theorem d_La_law_124 : decode code 124 = .ok (.iconst 2, 1) := by decide +kernel
theorem d_La_law_125 : decode code 125 = .ok (.iadd, 1) := by decide +kernel
theorem d_La_law_126 : decode code 126 = .ok (.iaload, 1) := by decide +kernel
theorem d_La_law_127 : decode code 127 = .ok (.invokevirtual 13, 3) := by decide +kernel
theorem d_La_law_130 : decode code 130 = .ok (.aload_n 2, 1) := by decide +kernel
theorem d_La_law_131 : decode code 131 = .ok (.aload_n 0, 1) := by decide +kernel
theorem d_La_law_132 : decode code 132 = .ok (.iload_n 3, 1) := by decide +kernel
theorem d_La_law_133 : decode code 133 = .ok (.iconst 1, 1) := by decide +kernel
theorem d_La_law_134 : decode code 134 = .ok (.iadd, 1) := by decide +kernel
theorem d_La_law_135 : decode code 135 = .ok (.iaload, 1) := by decide +kernel
theorem d_La_law_136 : decode code 136 = .ok (.aload_n 0, 1) := by decide +kernel
theorem d_La_law_137 : decode code 137 = .ok (.iload_n 3, 1) := by decide +kernel
theorem d_La_law_138 : decode code 138 = .ok (.iconst 2, 1) := by decide +kernel
theorem d_La_law_139 : decode code 139 = .ok (.iadd, 1) := by decide +kernel
theorem d_La_law_140 : decode code 140 = .ok (.iaload, 1) := by decide +kernel
theorem d_La_law_141 : decode code 141 = .ok (.invokevirtual 17, 3) := by decide +kernel
theorem d_La_law_144 : decode code 144 = .ok (.if_icmp .eq 311, 3) := by decide +kernel
theorem d_La_law_147 : decode code 147 = .ok (.iconst 0, 1) := by decide +kernel
theorem d_La_law_148 : decode code 148 = .ok (.ireturn, 1) := by decide +kernel
theorem d_La_law_149 : decode code 149 = .ok (.aload_n 1, 1) := by decide +kernel
theorem d_La_law_150 : decode code 150 = .ok (.aload_n 0, 1) := by decide +kernel
theorem d_La_law_151 : decode code 151 = .ok (.iload_n 3, 1) := by decide +kernel
theorem d_La_law_152 : decode code 152 = .ok (.iconst 1, 1) := by decide +kernel
theorem d_La_law_153 : decode code 153 = .ok (.iadd, 1) := by decide +kernel
theorem d_La_law_154 : decode code 154 = .ok (.iaload, 1) := by decide +kernel
theorem d_La_law_155 : decode code 155 = .ok (.invokevirtual 18, 3) := by decide +kernel
theorem d_La_law_158 : decode code 158 = .ok (.aload_n 2, 1) := by decide +kernel
theorem d_La_law_159 : decode code 159 = .ok (.aload_n 0, 1) := by decide +kernel
theorem d_La_law_160 : decode code 160 = .ok (.iload_n 3, 1) := by decide +kernel
theorem d_La_law_161 : decode code 161 = .ok (.iconst 1, 1) := by decide +kernel
theorem d_La_law_162 : decode code 162 = .ok (.iadd, 1) := by decide +kernel
theorem d_La_law_163 : decode code 163 = .ok (.iaload, 1) := by decide +kernel
theorem d_La_law_164 : decode code 164 = .ok (.invokevirtual 22, 3) := by decide +kernel
theorem d_La_law_167 : decode code 167 = .ok (.if_icmp .eq 288, 3) := by decide +kernel
theorem d_La_law_170 : decode code 170 = .ok (.iconst 0, 1) := by decide +kernel
theorem d_La_law_171 : decode code 171 = .ok (.ireturn, 1) := by decide +kernel
theorem d_La_law_172 : decode code 172 = .ok (.aload_n 1, 1) := by decide +kernel
theorem d_La_law_173 : decode code 173 = .ok (.invokevirtual 23, 3) := by decide +kernel
theorem d_La_law_176 : decode code 176 = .ok (.aload_n 2, 1) := by decide +kernel
theorem d_La_law_177 : decode code 177 = .ok (.invokevirtual 26, 3) := by decide +kernel
theorem d_La_law_180 : decode code 180 = .ok (.goto 275, 3) := by decide +kernel
theorem d_La_law_183 : decode code 183 = .ok (.aload_n 1, 1) := by decide +kernel
theorem d_La_law_184 : decode code 184 = .ok (.invokevirtual 27, 3) := by decide +kernel
theorem d_La_law_187 : decode code 187 = .ok (.aload_n 2, 1) := by decide +kernel
theorem d_La_law_188 : decode code 188 = .ok (.invokevirtual 31, 3) := by decide +kernel
theorem d_La_law_191 : decode code 191 = .ok (.if_icmp .eq 264, 3) := by decide +kernel
theorem d_La_law_194 : decode code 194 = .ok (.iconst 0, 1) := by decide +kernel
theorem d_La_law_195 : decode code 195 = .ok (.ireturn, 1) := by decide +kernel
theorem d_La_law_196 : decode code 196 = .ok (.aload_n 1, 1) := by decide +kernel
theorem d_La_law_197 : decode code 197 = .ok (.aload_n 0, 1) := by decide +kernel
theorem d_La_law_198 : decode code 198 = .ok (.iload_n 3, 1) := by decide +kernel
theorem d_La_law_199 : decode code 199 = .ok (.iconst 1, 1) := by decide +kernel
theorem d_La_law_200 : decode code 200 = .ok (.iadd, 1) := by decide +kernel
theorem d_La_law_201 : decode code 201 = .ok (.iaload, 1) := by decide +kernel
theorem d_La_law_202 : decode code 202 = .ok (.invokevirtual 32, 3) := by decide +kernel
theorem d_La_law_205 : decode code 205 = .ok (.aload_n 2, 1) := by decide +kernel
theorem d_La_law_206 : decode code 206 = .ok (.aload_n 0, 1) := by decide +kernel
theorem d_La_law_207 : decode code 207 = .ok (.iload_n 3, 1) := by decide +kernel
theorem d_La_law_208 : decode code 208 = .ok (.iconst 1, 1) := by decide +kernel
theorem d_La_law_209 : decode code 209 = .ok (.iadd, 1) := by decide +kernel
theorem d_La_law_210 : decode code 210 = .ok (.iaload, 1) := by decide +kernel
theorem d_La_law_211 : decode code 211 = .ok (.invokevirtual 36, 3) := by decide +kernel
theorem d_La_law_214 : decode code 214 = .ok (.if_icmp .eq 241, 3) := by decide +kernel
theorem d_La_law_217 : decode code 217 = .ok (.iconst 0, 1) := by decide +kernel
theorem d_La_law_218 : decode code 218 = .ok (.ireturn, 1) := by decide +kernel
theorem d_La_law_219 : decode code 219 = .ok (.aload_n 1, 1) := by decide +kernel
theorem d_La_law_220 : decode code 220 = .ok (.aload_n 0, 1) := by decide +kernel
theorem d_La_law_221 : decode code 221 = .ok (.iload_n 3, 1) := by decide +kernel
theorem d_La_law_222 : decode code 222 = .ok (.iconst 1, 1) := by decide +kernel
theorem d_La_law_223 : decode code 223 = .ok (.iadd, 1) := by decide +kernel
theorem d_La_law_224 : decode code 224 = .ok (.iaload, 1) := by decide +kernel
theorem d_La_law_225 : decode code 225 = .ok (.invokevirtual 37, 3) := by decide +kernel
theorem d_La_law_228 : decode code 228 = .ok (.aload_n 2, 1) := by decide +kernel
theorem d_La_law_229 : decode code 229 = .ok (.aload_n 0, 1) := by decide +kernel
theorem d_La_law_230 : decode code 230 = .ok (.iload_n 3, 1) := by decide +kernel
theorem d_La_law_231 : decode code 231 = .ok (.iconst 1, 1) := by decide +kernel
theorem d_La_law_232 : decode code 232 = .ok (.iadd, 1) := by decide +kernel
theorem d_La_law_233 : decode code 233 = .ok (.iaload, 1) := by decide +kernel
theorem d_La_law_234 : decode code 234 = .ok (.invokevirtual 40, 3) := by decide +kernel
theorem d_La_law_237 : decode code 237 = .ok (.if_icmp .eq 218, 3) := by decide +kernel
theorem d_La_law_240 : decode code 240 = .ok (.iconst 0, 1) := by decide +kernel
theorem d_La_law_241 : decode code 241 = .ok (.ireturn, 1) := by decide +kernel
theorem d_La_law_242 : decode code 242 = .ok (.aload_n 1, 1) := by decide +kernel
theorem d_La_law_243 : decode code 243 = .ok (.aload_n 0, 1) := by decide +kernel
theorem d_La_law_244 : decode code 244 = .ok (.iload_n 3, 1) := by decide +kernel
theorem d_La_law_245 : decode code 245 = .ok (.iconst 1, 1) := by decide +kernel
theorem d_La_law_246 : decode code 246 = .ok (.iadd, 1) := by decide +kernel
theorem d_La_law_247 : decode code 247 = .ok (.iaload, 1) := by decide +kernel
theorem d_La_law_248 : decode code 248 = .ok (.invokevirtual 41, 3) := by decide +kernel
theorem d_La_law_251 : decode code 251 = .ok (.aload_n 2, 1) := by decide +kernel
theorem d_La_law_252 : decode code 252 = .ok (.aload_n 0, 1) := by decide +kernel
theorem d_La_law_253 : decode code 253 = .ok (.iload_n 3, 1) := by decide +kernel
theorem d_La_law_254 : decode code 254 = .ok (.iconst 1, 1) := by decide +kernel
theorem d_La_law_255 : decode code 255 = .ok (.iadd, 1) := by decide +kernel
theorem d_La_law_256 : decode code 256 = .ok (.iaload, 1) := by decide +kernel
theorem d_La_law_257 : decode code 257 = .ok (.invokevirtual 44, 3) := by decide +kernel
theorem d_La_law_260 : decode code 260 = .ok (.if_icmp .eq 195, 3) := by decide +kernel
theorem d_La_law_263 : decode code 263 = .ok (.iconst 0, 1) := by decide +kernel
theorem d_La_law_264 : decode code 264 = .ok (.ireturn, 1) := by decide +kernel
theorem d_La_law_265 : decode code 265 = .ok (.aload_n 1, 1) := by decide +kernel
theorem d_La_law_266 : decode code 266 = .ok (.invokevirtual 45, 3) := by decide +kernel
theorem d_La_law_269 : decode code 269 = .ok (.aload_n 2, 1) := by decide +kernel
theorem d_La_law_270 : decode code 270 = .ok (.invokevirtual 48, 3) := by decide +kernel
theorem d_La_law_273 : decode code 273 = .ok (.if_icmp .eq 182, 3) := by decide +kernel
theorem d_La_law_276 : decode code 276 = .ok (.iconst 0, 1) := by decide +kernel
theorem d_La_law_277 : decode code 277 = .ok (.ireturn, 1) := by decide +kernel
theorem d_La_law_278 : decode code 278 = .ok (.aload_n 1, 1) := by decide +kernel
theorem d_La_law_279 : decode code 279 = .ok (.aload_n 0, 1) := by decide +kernel
theorem d_La_law_280 : decode code 280 = .ok (.iload_n 3, 1) := by decide +kernel
theorem d_La_law_281 : decode code 281 = .ok (.iconst 1, 1) := by decide +kernel
theorem d_La_law_282 : decode code 282 = .ok (.iadd, 1) := by decide +kernel
theorem d_La_law_283 : decode code 283 = .ok (.iaload, 1) := by decide +kernel
theorem d_La_law_284 : decode code 284 = .ok (.invokevirtual 49, 3) := by decide +kernel
theorem d_La_law_287 : decode code 287 = .ok (.aload_n 2, 1) := by decide +kernel
theorem d_La_law_288 : decode code 288 = .ok (.aload_n 0, 1) := by decide +kernel
theorem d_La_law_289 : decode code 289 = .ok (.iload_n 3, 1) := by decide +kernel
theorem d_La_law_290 : decode code 290 = .ok (.iconst 1, 1) := by decide +kernel
theorem d_La_law_291 : decode code 291 = .ok (.iadd, 1) := by decide +kernel
theorem d_La_law_292 : decode code 292 = .ok (.iaload, 1) := by decide +kernel
theorem d_La_law_293 : decode code 293 = .ok (.invokevirtual 52, 3) := by decide +kernel
theorem d_La_law_296 : decode code 296 = .ok (.if_icmp .eq 159, 3) := by decide +kernel
theorem d_La_law_299 : decode code 299 = .ok (.iconst 0, 1) := by decide +kernel
theorem d_La_law_300 : decode code 300 = .ok (.ireturn, 1) := by decide +kernel
theorem d_La_law_301 : decode code 301 = .ok (.aload_n 1, 1) := by decide +kernel
theorem d_La_law_302 : decode code 302 = .ok (.aload_n 0, 1) := by decide +kernel
theorem d_La_law_303 : decode code 303 = .ok (.iload_n 3, 1) := by decide +kernel
theorem d_La_law_304 : decode code 304 = .ok (.iconst 1, 1) := by decide +kernel
theorem d_La_law_305 : decode code 305 = .ok (.iadd, 1) := by decide +kernel
theorem d_La_law_306 : decode code 306 = .ok (.iaload, 1) := by decide +kernel
theorem d_La_law_307 : decode code 307 = .ok (.invokevirtual 53, 3) := by decide +kernel
theorem d_La_law_310 : decode code 310 = .ok (.aload_n 2, 1) := by decide +kernel
theorem d_La_law_311 : decode code 311 = .ok (.aload_n 0, 1) := by decide +kernel
theorem d_La_law_312 : decode code 312 = .ok (.iload_n 3, 1) := by decide +kernel
theorem d_La_law_313 : decode code 313 = .ok (.iconst 1, 1) := by decide +kernel
theorem d_La_law_314 : decode code 314 = .ok (.iadd, 1) := by decide +kernel
theorem d_La_law_315 : decode code 315 = .ok (.iaload, 1) := by decide +kernel
theorem d_La_law_316 : decode code 316 = .ok (.invokevirtual 56, 3) := by decide +kernel
theorem d_La_law_319 : decode code 319 = .ok (.if_icmp .eq 136, 3) := by decide +kernel
theorem d_La_law_322 : decode code 322 = .ok (.iconst 0, 1) := by decide +kernel
theorem d_La_law_323 : decode code 323 = .ok (.ireturn, 1) := by decide +kernel
theorem d_La_law_324 : decode code 324 = .ok (.aload_n 1, 1) := by decide +kernel
theorem d_La_law_325 : decode code 325 = .ok (.invokevirtual 57, 3) := by decide +kernel
theorem d_La_law_328 : decode code 328 = .ok (.aload_n 2, 1) := by decide +kernel
theorem d_La_law_329 : decode code 329 = .ok (.invokevirtual 60, 3) := by decide +kernel
theorem d_La_law_332 : decode code 332 = .ok (.if_icmp .eq 123, 3) := by decide +kernel
theorem d_La_law_335 : decode code 335 = .ok (.iconst 0, 1) := by decide +kernel
theorem d_La_law_336 : decode code 336 = .ok (.ireturn, 1) := by decide +kernel
theorem d_La_law_337 : decode code 337 = .ok (.aload_n 1, 1) := by decide +kernel
theorem d_La_law_338 : decode code 338 = .ok (.invokevirtual 61, 3) := by decide +kernel
theorem d_La_law_341 : decode code 341 = .ok (.aload_n 2, 1) := by decide +kernel
theorem d_La_law_342 : decode code 342 = .ok (.invokevirtual 64, 3) := by decide +kernel
theorem d_La_law_345 : decode code 345 = .ok (.if_icmp .eq 110, 3) := by decide +kernel
theorem d_La_law_348 : decode code 348 = .ok (.iconst 0, 1) := by decide +kernel
theorem d_La_law_349 : decode code 349 = .ok (.ireturn, 1) := by decide +kernel
theorem d_La_law_350 : decode code 350 = .ok (.aload_n 1, 1) := by decide +kernel
theorem d_La_law_351 : decode code 351 = .ok (.invokevirtual 65, 3) := by decide +kernel
theorem d_La_law_354 : decode code 354 = .ok (.aload_n 2, 1) := by decide +kernel
theorem d_La_law_355 : decode code 355 = .ok (.invokevirtual 68, 3) := by decide +kernel
theorem d_La_law_358 : decode code 358 = .ok (.if_icmp .eq 97, 3) := by decide +kernel
theorem d_La_law_361 : decode code 361 = .ok (.iconst 0, 1) := by decide +kernel
theorem d_La_law_362 : decode code 362 = .ok (.ireturn, 1) := by decide +kernel
theorem d_La_law_363 : decode code 363 = .ok (.aload_n 1, 1) := by decide +kernel
theorem d_La_law_364 : decode code 364 = .ok (.aload_n 0, 1) := by decide +kernel
theorem d_La_law_365 : decode code 365 = .ok (.iload_n 3, 1) := by decide +kernel
theorem d_La_law_366 : decode code 366 = .ok (.iconst 1, 1) := by decide +kernel
theorem d_La_law_367 : decode code 367 = .ok (.iadd, 1) := by decide +kernel
theorem d_La_law_368 : decode code 368 = .ok (.iaload, 1) := by decide +kernel
theorem d_La_law_369 : decode code 369 = .ok (.invokevirtual 69, 3) := by decide +kernel
theorem d_La_law_372 : decode code 372 = .ok (.aload_n 2, 1) := by decide +kernel
theorem d_La_law_373 : decode code 373 = .ok (.aload_n 0, 1) := by decide +kernel
theorem d_La_law_374 : decode code 374 = .ok (.iload_n 3, 1) := by decide +kernel
theorem d_La_law_375 : decode code 375 = .ok (.iconst 1, 1) := by decide +kernel
theorem d_La_law_376 : decode code 376 = .ok (.iadd, 1) := by decide +kernel
theorem d_La_law_377 : decode code 377 = .ok (.iaload, 1) := by decide +kernel
theorem d_La_law_378 : decode code 378 = .ok (.invokevirtual 72, 3) := by decide +kernel
theorem d_La_law_381 : decode code 381 = .ok (.if_icmp .eq 74, 3) := by decide +kernel
theorem d_La_law_384 : decode code 384 = .ok (.iconst 0, 1) := by decide +kernel
theorem d_La_law_385 : decode code 385 = .ok (.ireturn, 1) := by decide +kernel
theorem d_La_law_386 : decode code 386 = .ok (.aload_n 1, 1) := by decide +kernel
theorem d_La_law_387 : decode code 387 = .ok (.aload_n 0, 1) := by decide +kernel
theorem d_La_law_388 : decode code 388 = .ok (.iload_n 3, 1) := by decide +kernel
theorem d_La_law_389 : decode code 389 = .ok (.iconst 1, 1) := by decide +kernel
theorem d_La_law_390 : decode code 390 = .ok (.iadd, 1) := by decide +kernel
theorem d_La_law_391 : decode code 391 = .ok (.iaload, 1) := by decide +kernel
theorem d_La_law_392 : decode code 392 = .ok (.aload_n 0, 1) := by decide +kernel
theorem d_La_law_393 : decode code 393 = .ok (.iload_n 3, 1) := by decide +kernel
theorem d_La_law_394 : decode code 394 = .ok (.iconst 2, 1) := by decide +kernel
theorem d_La_law_395 : decode code 395 = .ok (.iadd, 1) := by decide +kernel
theorem d_La_law_396 : decode code 396 = .ok (.iaload, 1) := by decide +kernel
theorem d_La_law_397 : decode code 397 = .ok (.invokevirtual 73, 3) := by decide +kernel
theorem d_La_law_400 : decode code 400 = .ok (.aload_n 2, 1) := by decide +kernel
theorem d_La_law_401 : decode code 401 = .ok (.aload_n 0, 1) := by decide +kernel
theorem d_La_law_402 : decode code 402 = .ok (.iload_n 3, 1) := by decide +kernel
theorem d_La_law_403 : decode code 403 = .ok (.iconst 1, 1) := by decide +kernel
theorem d_La_law_404 : decode code 404 = .ok (.iadd, 1) := by decide +kernel
theorem d_La_law_405 : decode code 405 = .ok (.iaload, 1) := by decide +kernel
theorem d_La_law_406 : decode code 406 = .ok (.aload_n 0, 1) := by decide +kernel
theorem d_La_law_407 : decode code 407 = .ok (.iload_n 3, 1) := by decide +kernel
theorem d_La_law_408 : decode code 408 = .ok (.iconst 2, 1) := by decide +kernel
theorem d_La_law_409 : decode code 409 = .ok (.iadd, 1) := by decide +kernel
theorem d_La_law_410 : decode code 410 = .ok (.iaload, 1) := by decide +kernel
theorem d_La_law_411 : decode code 411 = .ok (.invokevirtual 77, 3) := by decide +kernel
theorem d_La_law_414 : decode code 414 = .ok (.if_icmp .eq 41, 3) := by decide +kernel
theorem d_La_law_417 : decode code 417 = .ok (.iconst 0, 1) := by decide +kernel
theorem d_La_law_418 : decode code 418 = .ok (.ireturn, 1) := by decide +kernel
theorem d_La_law_419 : decode code 419 = .ok (.aload_n 1, 1) := by decide +kernel
theorem d_La_law_420 : decode code 420 = .ok (.invokevirtual 78, 3) := by decide +kernel
theorem d_La_law_423 : decode code 423 = .ok (.aload_n 2, 1) := by decide +kernel
theorem d_La_law_424 : decode code 424 = .ok (.invokevirtual 81, 3) := by decide +kernel
theorem d_La_law_427 : decode code 427 = .ok (.if_icmp .eq 28, 3) := by decide +kernel
theorem d_La_law_430 : decode code 430 = .ok (.iconst 0, 1) := by decide +kernel
theorem d_La_law_431 : decode code 431 = .ok (.ireturn, 1) := by decide +kernel
theorem d_La_law_432 : decode code 432 = .ok (.aload_n 1, 1) := by decide +kernel
theorem d_La_law_433 : decode code 433 = .ok (.aload_n 0, 1) := by decide +kernel
theorem d_La_law_434 : decode code 434 = .ok (.iload_n 3, 1) := by decide +kernel
theorem d_La_law_435 : decode code 435 = .ok (.iconst 1, 1) := by decide +kernel
theorem d_La_law_436 : decode code 436 = .ok (.iadd, 1) := by decide +kernel
theorem d_La_law_437 : decode code 437 = .ok (.iaload, 1) := by decide +kernel
theorem d_La_law_438 : decode code 438 = .ok (.invokevirtual 82, 3) := by decide +kernel
theorem d_La_law_441 : decode code 441 = .ok (.aload_n 2, 1) := by decide +kernel
theorem d_La_law_442 : decode code 442 = .ok (.aload_n 0, 1) := by decide +kernel
theorem d_La_law_443 : decode code 443 = .ok (.iload_n 3, 1) := by decide +kernel
theorem d_La_law_444 : decode code 444 = .ok (.iconst 1, 1) := by decide +kernel
theorem d_La_law_445 : decode code 445 = .ok (.iadd, 1) := by decide +kernel
theorem d_La_law_446 : decode code 446 = .ok (.iaload, 1) := by decide +kernel
theorem d_La_law_447 : decode code 447 = .ok (.invokevirtual 85, 3) := by decide +kernel
theorem d_La_law_450 : decode code 450 = .ok (.if_icmp .eq 5, 3) := by decide +kernel
theorem d_La_law_453 : decode code 453 = .ok (.iconst 0, 1) := by decide +kernel
theorem d_La_law_454 : decode code 454 = .ok (.ireturn, 1) := by decide +kernel
theorem d_La_law_455 : decode code 455 = .ok (.iinc 3 3, 3) := by decide +kernel
theorem d_La_law_458 : decode code 458 = .ok (.goto (-440), 3) := by decide +kernel
theorem d_La_law_461 : decode code 461 = .ok (.iconst 1, 1) := by decide +kernel
theorem d_La_law_462 : decode code 462 = .ok (.ireturn, 1) := by decide +kernel
theorem d_St_length_0 : decode b_St_length 0 = .ok (.aload_n 0, 1) := by decide +kernel
theorem d_St_length_1 : decode b_St_length 1 = .ok (.getfield 9, 3) := by decide +kernel
theorem d_St_length_4 : decode b_St_length 4 = .ok (.arraylength, 1) := by decide +kernel
theorem d_St_length_5 : decode b_St_length 5 = .ok (.aload_n 0, 1) := by decide +kernel
theorem d_St_length_6 : decode b_St_length 6 = .ok (.invokevirtual 335, 3) := by decide +kernel
theorem d_St_length_9 : decode b_St_length 9 = .ok (.ishr, 1) := by decide +kernel
theorem d_St_length_10 : decode b_St_length 10 = .ok (.ireturn, 1) := by decide +kernel
theorem d_St_coder_0 : decode b_St_coder 0 = .ok (.getstatic 38, 3) := by decide +kernel
theorem d_St_coder_3 : decode b_St_coder 3 = .ok (.ifCond .eq 10, 3) := by decide +kernel
theorem d_St_coder_6 : decode b_St_coder 6 = .ok (.aload_n 0, 1) := by decide +kernel
theorem d_St_coder_7 : decode b_St_coder 7 = .ok (.getfield 15, 3) := by decide +kernel
theorem d_St_coder_10 : decode b_St_coder 10 = .ok (.goto 4, 3) := by decide +kernel
theorem d_St_coder_13 : decode b_St_coder 13 = .ok (.iconst 1, 1) := by decide +kernel
theorem d_St_coder_14 : decode b_St_coder 14 = .ok (.ireturn, 1) := by decide +kernel
theorem d_St_charAt_0 : decode b_St_charAt 0 = .ok (.aload_n 0, 1) := by decide +kernel
theorem d_St_charAt_1 : decode b_St_charAt 1 = .ok (.invokevirtual 492, 3) := by decide +kernel
theorem d_St_charAt_4 : decode b_St_charAt 4 = .ok (.ifCond .eq 12, 3) := by decide +kernel
theorem d_St_charAt_7 : decode b_St_charAt 7 = .ok (.aload_n 0, 1) := by decide +kernel
theorem d_St_charAt_8 : decode b_St_charAt 8 = .ok (.getfield 9, 3) := by decide +kernel
theorem d_St_charAt_11 : decode b_St_charAt 11 = .ok (.iload_n 1, 1) := by decide +kernel
theorem d_St_charAt_12 : decode b_St_charAt 12 = .ok (.invokestatic 495, 3) := by decide +kernel
theorem d_St_charAt_15 : decode b_St_charAt 15 = .ok (.ireturn, 1) := by decide +kernel
theorem d_St_charAt_16 : decode b_St_charAt 16 = .ok (.aload_n 0, 1) := by decide +kernel
theorem d_St_charAt_17 : decode b_St_charAt 17 = .ok (.getfield 9, 3) := by decide +kernel
theorem d_St_charAt_20 : decode b_St_charAt 20 = .ok (.iload_n 1, 1) := by decide +kernel
theorem d_St_charAt_21 : decode b_St_charAt 21 = .ok (.invokestatic 498, 3) := by decide +kernel
theorem d_St_charAt_24 : decode b_St_charAt 24 = .ok (.ireturn, 1) := by decide +kernel
theorem d_St_isLatin1_0 : decode b_St_isLatin1 0 = .ok (.getstatic 38, 3) := by decide +kernel
theorem d_St_isLatin1_3 : decode b_St_isLatin1 3 = .ok (.ifCond .eq 14, 3) := by decide +kernel
theorem d_St_isLatin1_6 : decode b_St_isLatin1 6 = .ok (.aload_n 0, 1) := by decide +kernel
theorem d_St_isLatin1_7 : decode b_St_isLatin1 7 = .ok (.getfield 15, 3) := by decide +kernel
theorem d_St_isLatin1_10 : decode b_St_isLatin1 10 = .ok (.ifCond .ne 7, 3) := by decide +kernel
theorem d_St_isLatin1_13 : decode b_St_isLatin1 13 = .ok (.iconst 1, 1) := by decide +kernel
theorem d_St_isLatin1_14 : decode b_St_isLatin1 14 = .ok (.goto 4, 3) := by decide +kernel
theorem d_St_isLatin1_17 : decode b_St_isLatin1 17 = .ok (.iconst 0, 1) := by decide +kernel
theorem d_St_isLatin1_18 : decode b_St_isLatin1 18 = .ok (.ireturn, 1) := by decide +kernel
theorem d_Sl_charAt_0 : decode b_Sl_charAt 0 = .ok (.iload_n 1, 1) := by decide +kernel
theorem d_Sl_charAt_1 : decode b_Sl_charAt 1 = .ok (.aload_n 0, 1) := by decide +kernel
end
section
theorem d_Sl_charAt_2 : decode b_Sl_charAt 2 = .ok (.arraylength, 1) := by decide +kernel
theorem d_Sl_charAt_3 : decode b_Sl_charAt 3 = .ok (.invokestatic 9, 3) := by decide +kernel
theorem d_Sl_charAt_6 : decode b_Sl_charAt 6 = .ok (.aload_n 0, 1) := by decide +kernel
theorem d_Sl_charAt_7 : decode b_Sl_charAt 7 = .ok (.iload_n 1, 1) := by decide +kernel
theorem d_Sl_charAt_8 : decode b_Sl_charAt 8 = .ok (.baload, 1) := by decide +kernel
theorem d_Sl_charAt_9 : decode b_Sl_charAt 9 = .ok (.sipush 255, 3) := by decide +kernel
theorem d_Sl_charAt_12 : decode b_Sl_charAt 12 = .ok (.iand, 1) := by decide +kernel
theorem d_Sl_charAt_13 : decode b_Sl_charAt 13 = .ok (.i2c, 1) := by decide +kernel
theorem d_Sl_charAt_14 : decode b_Sl_charAt 14 = .ok (.ireturn, 1) := by decide +kernel
theorem d_St_checkIndex_0 : decode b_St_checkIndex 0 = .ok (.iload_n 0, 1) := by decide +kernel
theorem d_St_checkIndex_1 : decode b_St_checkIndex 1 = .ok (.iload_n 1, 1) := by decide +kernel
theorem d_St_checkIndex_2 : decode b_St_checkIndex 2 = .ok (.getstatic 1053, 3) := by decide +kernel
theorem d_St_checkIndex_5 : decode b_St_checkIndex 5 = .ok (.invokestatic 1059, 3) := by decide +kernel
theorem d_St_checkIndex_8 : decode b_St_checkIndex 8 = .ok (.pop, 1) := by decide +kernel
theorem d_St_checkIndex_9 : decode b_St_checkIndex 9 = .ok (.return_, 1) := by decide +kernel
theorem d_Pr_checkIndex_0 : decode b_Pr_checkIndex 0 = .ok (.iload_n 0, 1) := by decide +kernel
theorem d_Pr_checkIndex_1 : decode b_Pr_checkIndex 1 = .ok (.ifCond .lt 8, 3) := by decide +kernel
theorem d_Pr_checkIndex_4 : decode b_Pr_checkIndex 4 = .ok (.iload_n 0, 1) := by decide +kernel
theorem d_Pr_checkIndex_5 : decode b_Pr_checkIndex 5 = .ok (.iload_n 1, 1) := by decide +kernel
theorem d_Pr_checkIndex_6 : decode b_Pr_checkIndex 6 = .ok (.if_icmp .lt 10, 3) := by decide +kernel
theorem d_Pr_checkIndex_9 : decode b_Pr_checkIndex 9 = .ok (.aload_n 2, 1) := by decide +kernel
theorem d_Pr_checkIndex_10 : decode b_Pr_checkIndex 10 = .ok (.iload_n 0, 1) := by decide +kernel
theorem d_Pr_checkIndex_11 : decode b_Pr_checkIndex 11 = .ok (.iload_n 1, 1) := by decide +kernel
theorem d_Pr_checkIndex_12 : decode b_Pr_checkIndex 12 = .ok (.invokestatic 95, 3) := by decide +kernel
theorem d_Pr_checkIndex_15 : decode b_Pr_checkIndex 15 = .ok (.athrow, 1) := by decide +kernel
theorem d_Pr_checkIndex_16 : decode b_Pr_checkIndex 16 = .ok (.iload_n 0, 1) := by decide +kernel
theorem d_Pr_checkIndex_17 : decode b_Pr_checkIndex 17 = .ok (.ireturn, 1) := by decide +kernel
end
section
def bI (b : Bool) : Int32 := if b then 1 else 0
def iI (z : Int) : Int32 := Int32.ofInt z
def oI (o : Option Nat) : Int32 := match o with
  | none => iI (-1)
  | some k => nI k
def updN (f : Nat → Nat) (k v : Nat) : Nat → Nat := fun i => if i = k then v else f i
def updB (f : Nat → Bool) (k : Nat) (v : Bool) : Nat → Bool := fun i => if i = k then v else f i
def iN (b : Nat → Nat) : Nat → Int32 := fun i => nI (b i)
def zN (b : Nat → Bool) : Nat → Int32 := fun i => bI (b i)
theorem iN_upd (b : Nat → Nat) (k v : Nat) : upd (iN b) k (nI v) = iN (updN b k v) := by
  funext i
  by_cases h : i = k
  · simp [upd, iN, updN, h]
  · simp [upd, iN, updN, h]
theorem zN_upd (b : Nat → Bool) (k : Nat) (v : Bool) : upd (zN b) k (bI v) = zN (updB b k v) := by
  funext i
  by_cases h : i = k
  · simp [upd, zN, updB, h]
  · simp [upd, zN, updB, h]
theorem nI_iI (n : Nat) : nI n = iI (n : Int) := (Int32.ofInt_eq_ofNat).symm
theorem iI_self (x : Int32) : x = iI x.toInt := (Int32.ofInt_toInt x).symm
theorem iI_toInt {z : Int} (h1 : -2147483648 ≤ z) (h2 : z < 2147483648) : (iI z).toInt = z := by
  exact Int32.toInt_ofInt_of_le (by omega) (by omega)
theorem iI_add (a b : Int) : iI a + iI b = iI (a + b) := (Int32.ofInt_add a b).symm
theorem iI_sub (a b : Int) : iI a - iI b = iI (a - b) := (Int32.ofInt_sub a b).symm
theorem iI_mul (a b : Int) : iI a * iI b = iI (a * b) := (Int32.ofInt_mul a b).symm
theorem iI_neg (a : Int) : - iI a = iI (-a) := (Int32.ofInt_neg a).symm
theorem nI_sub {a b : Nat} (h : b ≤ a) : nI a - nI b = nI (a - b) := pk_sub h
theorem nI_mul (a b : Nat) : nI a * nI b = nI (a * b) := pk_mul a b
theorem ziff_eq {x y : Int32} : x = y ↔ x.toInt = y.toInt := Int32.toInt_inj.symm
theorem ziff_lt {x y : Int32} : x < y ↔ x.toInt < y.toInt := Int32.lt_iff_toInt_lt
theorem ziff_le {x y : Int32} : x ≤ y ↔ x.toInt ≤ y.toInt := Int32.le_iff_toInt_le
theorem zif0_eq {x : Int32} : x = 0 ↔ x.toInt = 0 := by rw [ziff_eq, Int32.toInt_zero]
theorem zif0_lt {x : Int32} : x < 0 ↔ x.toInt < 0 := by rw [ziff_lt, Int32.toInt_zero]
theorem zif0_gt {x : Int32} : 0 < x ↔ 0 < x.toInt := by rw [ziff_lt, Int32.toInt_zero]
theorem zif0_le {x : Int32} : x ≤ 0 ↔ x.toInt ≤ 0 := by rw [ziff_le, Int32.toInt_zero]
theorem zif0_ge {x : Int32} : 0 ≤ x ↔ 0 ≤ x.toInt := by rw [ziff_le, Int32.toInt_zero]
theorem bI_eq {b : Bool} (h : bI b = 0) : b = false := by cases b with
  | false => rfl
  | true => exact absurd h (by decide)
theorem bI_ne {b : Bool} (h : ¬ bI b = 0) : b = true := by cases b with
  | false => exact absurd rfl h
  | true => rfl
theorem nI_inc1 (a : Nat) : nI a + Int32.ofInt 1 = nI (a + 1) := nI_add a 1
theorem nI_inc3 (a : Nat) : nI a + Int32.ofInt 3 = nI (a + 3) := nI_add a 3
theorem bI_nar (b : Bool) : vp_nar .boolean (bI b) = bI b := by cases b <;> rfl
theorem bI_narrow (b : Bool) : narrow .boolean (.int (bI b)) = .int (bI b) := by cases b <;> rfl
theorem bI_fits (b : Bool) : fits .boolean (.int (bI b)) = true := by cases b <;> rfl
theorem tI_n {n : Nat} (h : n < 2147483648) : (nI n).toInt = (n : Int) := nI_toInt h
theorem clp {n : Nat} (h : n < 2147483648) : (nI n).toNatClampNeg = n := nI_clamp h
theorem vp_same {cA : ClassId} {n : Nat} {f g : Nat → Int32} (h : ∀ i, i < n → f i = g i) : vp_cell cA (n, .inl f) = vp_cell cA (n, .inl g) := by
  rw [vp_cell_i, vp_cell_i]
  unfold arrV
  have e : (fun j : Fin n => Value.int (f j.val)) = fun j => Value.int (g j.val) := by
    funext j
    rw [h j.val j.isLt]
  rw [e]
/-- what an array holds beyond its length says nothing -/
theorem va_P.chg {D : va_G} {cl : List vw_C} {ws w1 : va_W} {H : Heap} {a n : Nat} {cA : ClassId} {f g : Nat → Int32} (hP : va_P D cl ws H) (q0 : Nat) (ha : ws[q0]? = some (a, .inl (cA, n, .inl f))) (h : ∀ i, i < n → f i = g i) (hw : ws.set q0 (a, .inl (cA, n, .inl g)) = w1) : va_P D cl w1 H := by
  subst hw
  intro k q hk
  by_cases e : k = q0
  · subst e
    have hlt : k < ws.length := (List.getElem?_eq_some_iff.mp ha).1
    rw [List.getElem?_set_self hlt] at hk
    cases hk
    have h1 := hP k _ ha
    show H[a]? = some (vp_cell cA (n, .inl g))
    rw [← vp_same h]
    exact h1
  · rw [List.getElem?_set_ne (Ne.symm e)] at hk
    exact hP k q hk
theorem va_D.chg {A : Nat → Prop} {ws w1 : va_W} {a : Nat} {x y : va_E} (hD : va_D A ws) (q0 : Nat) (ha : ws[q0]? = some (a, x)) (hw : ws.set q0 (a, y) = w1) : va_D A w1 := by
  subst hw
  exact hD.set ha
theorem vin {n N : Nat} (h : n < N) (hN : N < 2147483648) : vp_in (nI n) N := vp_in_nI h hN

section Base1
variable {p : Program} {l : Launch} {e : Env} {R : Room} {s : State} {m : MethodId} {args : Array Value} {below : List Frame} {meth : Method} {c : Code} {H : Heap} {locs : List Loc} {cells slots : Nat} {Q : State → Prop} {pc : Nat} {ls : Array Slot} {rest : List Value} {cc : ByteArray}
theorem eqi {x y : Int32} (h : x = y) (k : W p l e R s m args below meth c H locs cells slots Q (F0 m pc ls (.int y :: rest))) : W p l e R s m args below meth c H locs cells slots Q (F0 m pc ls (.int x :: rest)) := by
  subst h
  exact k
theorem eqi2 {x y : Int32} {v : Value} (h : x = y) (k : W p l e R s m args below meth c H locs cells slots Q (F0 m pc ls (v :: .int y :: rest))) : W p l e R s m args below meth c H locs cells slots Q (F0 m pc ls (v :: .int x :: rest)) := by
  subst h
  exact k
theorem nAdd (hx : p.tables.exec = Jvm.exec) (hb : c.code = cc) {a b : Nat} (hd : decode cc pc = .ok (.iadd, 1)) (k : W p l e R s m args below meth c H locs cells slots Q (F0 m (pc + 1) ls (.int (nI (a + b)) :: rest))) : W p l e R s m args below meth c H locs cells slots Q (F0 m pc ls (.int (nI b) :: .int (nI a) :: rest)) := lv_iadd hx hb hd (eqi (nI_add a b) k)
theorem nMul (hx : p.tables.exec = Jvm.exec) (hb : c.code = cc) {a b : Nat} (hd : decode cc pc = .ok (.imul, 1)) (k : W p l e R s m args below meth c H locs cells slots Q (F0 m (pc + 1) ls (.int (nI (a * b)) :: rest))) : W p l e R s m args below meth c H locs cells slots Q (F0 m pc ls (.int (nI b) :: .int (nI a) :: rest)) := lv_imul hx hb hd (eqi (nI_mul a b) k)
theorem nSub (hx : p.tables.exec = Jvm.exec) (hb : c.code = cc) {a b : Nat} (hd : decode cc pc = .ok (.isub, 1)) (h : b ≤ a) (k : W p l e R s m args below meth c H locs cells slots Q (F0 m (pc + 1) ls (.int (nI (a - b)) :: rest))) : W p l e R s m args below meth c H locs cells slots Q (F0 m pc ls (.int (nI b) :: .int (nI a) :: rest)) := lv_isub hx hb hd (eqi (nI_sub h) k)
theorem zAdd (hx : p.tables.exec = Jvm.exec) (hb : c.code = cc) {x y : Int32} {a b : Int} (hd : decode cc pc = .ok (.iadd, 1)) (h1 : x = iI a) (h2 : y = iI b) (k : W p l e R s m args below meth c H locs cells slots Q (F0 m (pc + 1) ls (.int (iI (a + b)) :: rest))) : W p l e R s m args below meth c H locs cells slots Q (F0 m pc ls (.int y :: .int x :: rest)) := by
  subst h1 h2
  exact lv_iadd hx hb hd (eqi (iI_add a b) k)
theorem zSub (hx : p.tables.exec = Jvm.exec) (hb : c.code = cc) {x y : Int32} {a b : Int} (hd : decode cc pc = .ok (.isub, 1)) (h1 : x = iI a) (h2 : y = iI b) (k : W p l e R s m args below meth c H locs cells slots Q (F0 m (pc + 1) ls (.int (iI (a - b)) :: rest))) : W p l e R s m args below meth c H locs cells slots Q (F0 m pc ls (.int y :: .int x :: rest)) := by
  subst h1 h2
  exact lv_isub hx hb hd (eqi (iI_sub a b) k)
theorem zMul (hx : p.tables.exec = Jvm.exec) (hb : c.code = cc) {x y : Int32} {a b : Int} (hd : decode cc pc = .ok (.imul, 1)) (h1 : x = iI a) (h2 : y = iI b) (k : W p l e R s m args below meth c H locs cells slots Q (F0 m (pc + 1) ls (.int (iI (a * b)) :: rest))) : W p l e R s m args below meth c H locs cells slots Q (F0 m pc ls (.int y :: .int x :: rest)) := by
  subst h1 h2
  exact lv_imul hx hb hd (eqi (iI_mul a b) k)
theorem zNeg (hx : p.tables.exec = Jvm.exec) (hb : c.code = cc) {a : Int} (hd : decode cc pc = .ok (.ineg, 1)) (k : W p l e R s m args below meth c H locs cells slots Q (F0 m (pc + 1) ls (.int (iI (-a)) :: rest))) : W p l e R s m args below meth c H locs cells slots Q (F0 m pc ls (.int (iI a) :: rest)) := lv_ineg hx hb hd (eqi (iI_neg a) k)
theorem z_icmp_eq (hx : p.tables.exec = Jvm.exec) (hb : c.code = cc) {x y : Int32} {a b : Int} {off : Int} {tgt : Nat} (hd : decode cc pc = .ok (.if_icmp .eq off, 3)) (h1 : x.toInt = a) (h2 : y.toInt = b) (ht : (pc : Int) + off = (tgt : Int)) (kt : a = b → W p l e R s m args below meth c H locs cells slots Q (F0 m tgt ls rest)) (kf : a ≠ b → W p l e R s m args below meth c H locs cells slots Q (F0 m (pc + 3) ls rest)) : W p l e R s m args below meth c H locs cells slots Q (F0 m pc ls (.int y :: .int x :: rest)) := by
  subst h1 h2
  exact lv_icmp_eq hx hb hd ht (fun h => kt (ziff_eq.mp h)) (fun h => kf (fun q => h (ziff_eq.mpr q)))
theorem z_if_eq (hx : p.tables.exec = Jvm.exec) (hb : c.code = cc) {x : Int32} {a : Int} {off : Int} {tgt : Nat} (hd : decode cc pc = .ok (.ifCond .eq off, 3)) (h1 : x.toInt = a) (ht : (pc : Int) + off = (tgt : Int)) (kt : a = 0 → W p l e R s m args below meth c H locs cells slots Q (F0 m tgt ls rest)) (kf : a ≠ 0 → W p l e R s m args below meth c H locs cells slots Q (F0 m (pc + 3) ls rest)) : W p l e R s m args below meth c H locs cells slots Q (F0 m pc ls (.int x :: rest)) := by
  subst h1
  exact lv_if_eq hx hb hd ht (fun h => kt (zif0_eq.mp h)) (fun h => kf (fun q => h (zif0_eq.mpr q)))
theorem z_icmp_ne (hx : p.tables.exec = Jvm.exec) (hb : c.code = cc) {x y : Int32} {a b : Int} {off : Int} {tgt : Nat} (hd : decode cc pc = .ok (.if_icmp .ne off, 3)) (h1 : x.toInt = a) (h2 : y.toInt = b) (ht : (pc : Int) + off = (tgt : Int)) (kt : a ≠ b → W p l e R s m args below meth c H locs cells slots Q (F0 m tgt ls rest)) (kf : a = b → W p l e R s m args below meth c H locs cells slots Q (F0 m (pc + 3) ls rest)) : W p l e R s m args below meth c H locs cells slots Q (F0 m pc ls (.int y :: .int x :: rest)) := by
  subst h1 h2
  exact lv_icmp_ne hx hb hd ht (fun h => kt (fun q => h (ziff_eq.mpr q))) (fun h => kf (ziff_eq.mp h))
theorem z_if_ne (hx : p.tables.exec = Jvm.exec) (hb : c.code = cc) {x : Int32} {a : Int} {off : Int} {tgt : Nat} (hd : decode cc pc = .ok (.ifCond .ne off, 3)) (h1 : x.toInt = a) (ht : (pc : Int) + off = (tgt : Int)) (kt : a ≠ 0 → W p l e R s m args below meth c H locs cells slots Q (F0 m tgt ls rest)) (kf : a = 0 → W p l e R s m args below meth c H locs cells slots Q (F0 m (pc + 3) ls rest)) : W p l e R s m args below meth c H locs cells slots Q (F0 m pc ls (.int x :: rest)) := by
  subst h1
  exact lv_if_ne hx hb hd ht (fun h => kt (fun q => h (zif0_eq.mpr q))) (fun h => kf (zif0_eq.mp h))
theorem z_icmp_lt (hx : p.tables.exec = Jvm.exec) (hb : c.code = cc) {x y : Int32} {a b : Int} {off : Int} {tgt : Nat} (hd : decode cc pc = .ok (.if_icmp .lt off, 3)) (h1 : x.toInt = a) (h2 : y.toInt = b) (ht : (pc : Int) + off = (tgt : Int)) (kt : a < b → W p l e R s m args below meth c H locs cells slots Q (F0 m tgt ls rest)) (kf : b ≤ a → W p l e R s m args below meth c H locs cells slots Q (F0 m (pc + 3) ls rest)) : W p l e R s m args below meth c H locs cells slots Q (F0 m pc ls (.int y :: .int x :: rest)) := by
  subst h1 h2
  exact lv_icmp_lt hx hb hd ht (fun h => kt (ziff_lt.mp h)) (fun h => kf (Int.not_lt.mp (fun q => h (ziff_lt.mpr q))))
theorem z_if_lt (hx : p.tables.exec = Jvm.exec) (hb : c.code = cc) {x : Int32} {a : Int} {off : Int} {tgt : Nat} (hd : decode cc pc = .ok (.ifCond .lt off, 3)) (h1 : x.toInt = a) (ht : (pc : Int) + off = (tgt : Int)) (kt : a < 0 → W p l e R s m args below meth c H locs cells slots Q (F0 m tgt ls rest)) (kf : 0 ≤ a → W p l e R s m args below meth c H locs cells slots Q (F0 m (pc + 3) ls rest)) : W p l e R s m args below meth c H locs cells slots Q (F0 m pc ls (.int x :: rest)) := by
  subst h1
  exact lv_if_lt hx hb hd ht (fun h => kt (zif0_lt.mp h)) (fun h => kf (Int.not_lt.mp (fun q => h (zif0_lt.mpr q))))
theorem z_icmp_ge (hx : p.tables.exec = Jvm.exec) (hb : c.code = cc) {x y : Int32} {a b : Int} {off : Int} {tgt : Nat} (hd : decode cc pc = .ok (.if_icmp .ge off, 3)) (h1 : x.toInt = a) (h2 : y.toInt = b) (ht : (pc : Int) + off = (tgt : Int)) (kt : b ≤ a → W p l e R s m args below meth c H locs cells slots Q (F0 m tgt ls rest)) (kf : a < b → W p l e R s m args below meth c H locs cells slots Q (F0 m (pc + 3) ls rest)) : W p l e R s m args below meth c H locs cells slots Q (F0 m pc ls (.int y :: .int x :: rest)) := by
  subst h1 h2
  exact lv_icmp_ge hx hb hd ht (fun h => kt (ziff_le.mp h)) (fun h => kf (Int.not_le.mp (fun q => h (ziff_le.mpr q))))
theorem z_if_ge (hx : p.tables.exec = Jvm.exec) (hb : c.code = cc) {x : Int32} {a : Int} {off : Int} {tgt : Nat} (hd : decode cc pc = .ok (.ifCond .ge off, 3)) (h1 : x.toInt = a) (ht : (pc : Int) + off = (tgt : Int)) (kt : 0 ≤ a → W p l e R s m args below meth c H locs cells slots Q (F0 m tgt ls rest)) (kf : a < 0 → W p l e R s m args below meth c H locs cells slots Q (F0 m (pc + 3) ls rest)) : W p l e R s m args below meth c H locs cells slots Q (F0 m pc ls (.int x :: rest)) := by
  subst h1
  exact lv_if_ge hx hb hd ht (fun h => kt (zif0_ge.mp h)) (fun h => kf (Int.not_le.mp (fun q => h (zif0_ge.mpr q))))
theorem z_icmp_gt (hx : p.tables.exec = Jvm.exec) (hb : c.code = cc) {x y : Int32} {a b : Int} {off : Int} {tgt : Nat} (hd : decode cc pc = .ok (.if_icmp .gt off, 3)) (h1 : x.toInt = a) (h2 : y.toInt = b) (ht : (pc : Int) + off = (tgt : Int)) (kt : b < a → W p l e R s m args below meth c H locs cells slots Q (F0 m tgt ls rest)) (kf : a ≤ b → W p l e R s m args below meth c H locs cells slots Q (F0 m (pc + 3) ls rest)) : W p l e R s m args below meth c H locs cells slots Q (F0 m pc ls (.int y :: .int x :: rest)) := by
  subst h1 h2
  exact lv_icmp_gt hx hb hd ht (fun h => kt (ziff_lt.mp h)) (fun h => kf (Int.not_lt.mp (fun q => h (ziff_lt.mpr q))))
theorem z_if_gt (hx : p.tables.exec = Jvm.exec) (hb : c.code = cc) {x : Int32} {a : Int} {off : Int} {tgt : Nat} (hd : decode cc pc = .ok (.ifCond .gt off, 3)) (h1 : x.toInt = a) (ht : (pc : Int) + off = (tgt : Int)) (kt : 0 < a → W p l e R s m args below meth c H locs cells slots Q (F0 m tgt ls rest)) (kf : a ≤ 0 → W p l e R s m args below meth c H locs cells slots Q (F0 m (pc + 3) ls rest)) : W p l e R s m args below meth c H locs cells slots Q (F0 m pc ls (.int x :: rest)) := by
  subst h1
  exact lv_if_gt hx hb hd ht (fun h => kt (zif0_gt.mp h)) (fun h => kf (Int.not_lt.mp (fun q => h (zif0_gt.mpr q))))
theorem z_icmp_le (hx : p.tables.exec = Jvm.exec) (hb : c.code = cc) {x y : Int32} {a b : Int} {off : Int} {tgt : Nat} (hd : decode cc pc = .ok (.if_icmp .le off, 3)) (h1 : x.toInt = a) (h2 : y.toInt = b) (ht : (pc : Int) + off = (tgt : Int)) (kt : a ≤ b → W p l e R s m args below meth c H locs cells slots Q (F0 m tgt ls rest)) (kf : b < a → W p l e R s m args below meth c H locs cells slots Q (F0 m (pc + 3) ls rest)) : W p l e R s m args below meth c H locs cells slots Q (F0 m pc ls (.int y :: .int x :: rest)) := by
  subst h1 h2
  exact lv_icmp_le hx hb hd ht (fun h => kt (ziff_le.mp h)) (fun h => kf (Int.not_le.mp (fun q => h (ziff_le.mpr q))))
theorem z_if_le (hx : p.tables.exec = Jvm.exec) (hb : c.code = cc) {x : Int32} {a : Int} {off : Int} {tgt : Nat} (hd : decode cc pc = .ok (.ifCond .le off, 3)) (h1 : x.toInt = a) (ht : (pc : Int) + off = (tgt : Int)) (kt : a ≤ 0 → W p l e R s m args below meth c H locs cells slots Q (F0 m tgt ls rest)) (kf : 0 < a → W p l e R s m args below meth c H locs cells slots Q (F0 m (pc + 3) ls rest)) : W p l e R s m args below meth c H locs cells slots Q (F0 m pc ls (.int x :: rest)) := by
  subst h1
  exact lv_if_le hx hb hd ht (fun h => kt (zif0_le.mp h)) (fun h => kf (Int.not_le.mp (fun q => h (zif0_le.mpr q))))
theorem b_if_eq (hx : p.tables.exec = Jvm.exec) (hb : c.code = cc) {b : Bool} {off : Int} {tgt : Nat} (hd : decode cc pc = .ok (.ifCond .eq off, 3)) (ht : (pc : Int) + off = (tgt : Int)) (kt : b = false → W p l e R s m args below meth c H locs cells slots Q (F0 m tgt ls rest)) (kf : b = true → W p l e R s m args below meth c H locs cells slots Q (F0 m (pc + 3) ls rest)) : W p l e R s m args below meth c H locs cells slots Q (F0 m pc ls (.int (bI b) :: rest)) := lv_if_eq hx hb hd ht (fun h => kt (bI_eq h)) (fun h => kf (bI_ne h))
theorem b_if_ne (hx : p.tables.exec = Jvm.exec) (hb : c.code = cc) {b : Bool} {off : Int} {tgt : Nat} (hd : decode cc pc = .ok (.ifCond .ne off, 3)) (ht : (pc : Int) + off = (tgt : Int)) (kt : b = true → W p l e R s m args below meth c H locs cells slots Q (F0 m tgt ls rest)) (kf : b = false → W p l e R s m args below meth c H locs cells slots Q (F0 m (pc + 3) ls rest)) : W p l e R s m args below meth c H locs cells slots Q (F0 m pc ls (.int (bI b) :: rest)) := lv_if_ne hx hb hd ht (fun h => kt (bI_ne h)) (fun h => kf (bI_eq h))
theorem stk {st1 st2 : List Value} (h : st1 = st2) (k : W p l e R s m args below meth c H locs cells slots Q (F0 m pc ls st2)) : W p l e R s m args below meth c H locs cells slots Q (F0 m pc ls st1) := by
  subst h
  exact k
theorem nDiv (hx : p.tables.exec = Jvm.exec) (hb : c.code = cc) {a b : Nat} (hd : decode cc pc = .ok (.idiv, 1)) (h0 : 0 < b) (ha : a < 2147483648) (h2 : b < 2147483648) (k : W p l e R s m args below meth c H locs cells slots Q (F0 m (pc + 1) ls (.int (nI (a / b)) :: rest))) : W p l e R s m args below meth c H locs cells slots Q (F0 m pc ls (.int (nI b) :: .int (nI a) :: rest)) := lv_idiv hx hb hd (nI_ne0 h0 h2) (eqi (pk_div ha h0 h2) k)
theorem nRem (hx : p.tables.exec = Jvm.exec) (hb : c.code = cc) {a b : Nat} (hd : decode cc pc = .ok (.irem, 1)) (h0 : 0 < b) (ha : a < 2147483648) (h2 : b < 2147483648) (k : W p l e R s m args below meth c H locs cells slots Q (F0 m (pc + 1) ls (.int (nI (a % b)) :: rest))) : W p l e R s m args below meth c H locs cells slots Q (F0 m pc ls (.int (nI b) :: .int (nI a) :: rest)) := lv_irem hx hb hd (nI_ne0 h0 h2) (eqi (pk_rem ha h0 h2) k)
end Base1
end
section
def kF (k : Nat) : Nat := [0, 1, 2, 16, 32, 48, 64, 80, 81, 82, 96, 112, 116, 0].getD k 0
def kR (k : Nat) : Nat := [0, 0, 0, 1, 1, 2, 2, 0, 0, 1, 1, 1, 1, 0].getD k 0
def kN (k : Nat) : Nat := [0, 0, 0, 0, 1, 0, 0, 3, 3, 3, 2, 3, 3, 1].getD k 0
def lenK : List Nat := [3, 4, 3, 4, 4, 4, 4, 4, 5, 3, 4, 3, 3, 6]
def bytK : List (List Int32) := [[78, 79, 80], [72, 65, 76, 84], [82, 69, 84], [73, 78, 67, 32], [76, 68, 73, 32], [77, 79, 86, 32], [65, 68, 68, 32], [74, 77, 80, 32], [67, 65, 76, 76, 32], [74, 90, 32], [66, 78, 90, 32], [76, 68, 32], [83, 84, 32], [46, 98, 121, 116, 101, 32]]
def opT : List (List Nat) := [[78, 79, 80], [72, 65, 76, 84], [82, 69, 84], [73, 78, 67, 32], [76, 68, 73, 32], [77, 79, 86, 32], [65, 68, 68, 32], [74, 77, 80, 32], [67, 65, 76, 76, 32], [74, 90, 32], [66, 78, 90, 32], [76, 68, 32], [83, 84, 32], [46, 98, 121, 116, 101, 32]]
def opL (k : Nat) : List Nat := opT.getD k []
def idxK (i : Nat) : Nat := [22, 24, 26, 28, 30, 32, 34, 36, 38, 40, 42, 44, 46, 48].getD i 0
def txK (i : Nat) : String := ["NOP", "HALT", "RET", "INC ", "LDI ", "MOV ", "ADD ", "JMP ", "CALL ", "JZ ", "BNZ ", "LD ", "ST ", ".byte "].getD i ""
abbrev zT : Type := Nat × Nat × Nat × (Nat → Nat) × (Nat → Nat)
def SS (z : zT) (A : Nat → Prop) (U : State) (H : Heap) : Prop :=
  (va_Z "CodeLister$Kinds" "FIRST" "[I" (.ref z.1) A U H ∧ va_T .int z.1 14 (fun j => .int (nI (kF j))) A U H) ∧
  (va_Z "CodeLister$Kinds" "REGISTERS" "[I" (.ref z.2.1) A U H ∧ va_T .int z.2.1 14 (fun j => .int (nI (kR j))) A U H) ∧
  (va_Z "CodeLister$Kinds" "NUMBER" "[I" (.ref z.2.2.1) A U H ∧ va_T .int z.2.2.1 14 (fun j => .int (nI (kN j))) A U H) ∧
  va_Z "java/lang/String" "COMPACT_STRINGS" "Z" (.int 1) A U H ∧
  va_Zq "jdk/internal/util/Preconditions" "SIOOBE_FORMATTER" "Ljava/util/function/BiFunction;" A U H ∧
  vk_S 14 lenK bytK z.2.2.2.1 z.2.2.2.2 A U H ∧ ∀ i, i < 14 → vk_R "CodeLister$Kinds" (idxK i) (txK i) (z.2.2.2.1 i) U
theorem SS.to {z : zT} {A B : Nat → Prop} {s U : State} {H : Heap} {locs : List Loc} (h : SS z A s s.heap) (hS : va_S A s.heap H locs) (hB : ∀ q, B q → A q) (hU : U.heap = H) (hW : s.WarmedH U.vm) : SS z B U U.heap := by
  obtain ⟨⟨a1, a2⟩, ⟨b1, b2⟩, ⟨c1, c2⟩, d, d2, e, f⟩ := h
  have hm := hW.alike
  have k := hS.2.1
  rw [hU]
  exact ⟨⟨(va_Z.moved hm (a1.kept k)).narrow hB, (va_T.moved hm (a2.kept k)).narrow hB⟩, ⟨(va_Z.moved hm (b1.kept k)).narrow hB, (va_T.moved hm (b2.kept k)).narrow hB⟩, ⟨(va_Z.moved hm (c1.kept k)).narrow hB, (va_T.moved hm (c2.kept k)).narrow hB⟩, (va_Z.moved hm (d.kept k)).narrow hB, (va_Zq.moved hm (d2.kept k)).narrow hB, (vk_S.moved hm (e.kept k)).narrow hB, fun i hi => vk_R.warm hW (f i hi)⟩
theorem SS.calling {z : zT} {A : Nat → Prop} {U : State} (g : JFrame) (mk : MethodId) (a : Array Value) (h : SS z A U U.heap) : SS z A (U.calling g mk a) (U.calling g mk a).heap := by
  obtain ⟨⟨a1, a2⟩, ⟨b1, b2⟩, ⟨c1, c2⟩, d, d2, e, f⟩ := h
  have hm : U.vm.Alike (U.calling g mk a).vm := Vm.Alike.refl U.vm
  exact ⟨⟨va_Z.moved hm a1, va_T.moved hm a2⟩, ⟨va_Z.moved hm b1, va_T.moved hm b2⟩, ⟨va_Z.moved hm c1, va_T.moved hm c2⟩, va_Z.moved hm d, va_Zq.moved hm d2, vk_S.moved hm e, fun i hi => vk_R.same rfl (f i hi)⟩
abbrev rmq (f lo : Nat) : Room := { frames := f, cells := 0, slots := 0, locals := lo }
abbrev tyL : Type := List (ClassId × FieldType)
def PR (D : va_G) (z : zT) (ws : va_W) (tys : tyL) (U : State) : Prop := va_P D classes ws U.heap ∧ va_K D classes tys U ∧ SS z (fun _ => False) U U.heap
def PU (D : va_G) (z : zT) (ws : va_W) (tys : tyL) (sz : Nat) (U : State) : Prop := U.heap.size = sz ∧ va_P D classes ws U.heap ∧ va_K D classes tys U ∧ va_D (fun _ => True) ws ∧ SS z (va_A ws sz) U U.heap
/-- a method that reads: its answer is v, the heap stays -/
def MR (l : Launch) (y : MethodName) (bytes : ByteArray) (maxL : Nat) (ret : Option FieldType) (f lo : Nat) (D : va_G) (z : zT) (av : List Value) (ws : va_W) (tys : tyL) (v : Value) : Prop :=
  Met l y (Cond.code y bytes maxL ret :: lw_g) (rmq f lo) (va_Pc av (PR D z ws tys)) (k2_QcV v) 0 0 (fun _ => False)
/-- a method that changes its world ws into w1 and answers v (none: void); it makes nothing -/
def qcU (v : Option Value) (D : va_G) (w1 : va_W) (A : Nat → Prop) : Array Value → State → Outcome → State → Prop := fun _ st oc t => (oc = .returned v ∧ va_P D classes w1 t.heap ∧ va_D A w1) ∧ va_F A st t
def MU (l : Launch) (y : MethodName) (bytes : ByteArray) (maxL : Nat) (ret : Option FieldType) (f lo : Nat) (D : va_G) (z : zT) (av : List Value) (ws : va_W) (tys : tyL) (sz : Nat) (v : Option Value) (w1 : va_W) : Prop :=
  Met l y (Cond.code y bytes maxL ret :: lw_g) (rmq f lo) (va_Pc av (PU D z ws tys sz)) (qcU v D w1 (va_A ws sz)) 0 0 (va_A ws sz)
/-- what the tables say of a method that is called by invokevirtual, and of a static one -/
def YV (y : MethodName) (bytes : ByteArray) (maxL : Nat) (ret : Option FieldType) (n : Nat) : Prop := Cond.code y bytes maxL ret ∈ lw_g ∧ Cond.initialized y.cls ∈ lw_g ∧ Cond.instanceMethod y ∈ lw_g ∧ Cond.selects y.cls y y ∈ lw_g ∧ y.cls ≠ "java/lang/invoke/MethodHandle" ∧ y.cls ≠ "java/lang/invoke/VarHandle" ∧ (parseMethodDescriptor y.desc).map (fun d => d.parameters.length) = some n
def YS (y : MethodName) (bytes : ByteArray) (maxL : Nat) (ret : Option FieldType) (n : Nat) : Prop := Cond.code y bytes maxL ret ∈ lw_g ∧ Cond.initialized y.cls ∈ lw_g ∧ Cond.static y ∈ lw_g ∧ y.cls ≠ "java/lang/invoke/MethodHandle" ∧ y.cls ≠ "java/lang/invoke/VarHandle" ∧ (parseMethodDescriptor y.desc).map (fun d => d.parameters.length) = some n
theorem good_tbl : ∀ w ∈ lw_g, goodWord w = true := fun _ h => (List.mem_filter.mp h).2
theorem gd {b : Cond} (hb : b ∈ lw_g) : GoodIn lw_g (b :: lw_g) := fun w hw => by
  rcases List.mem_cons.mp hw with rfl | h
  · exact ⟨hb, good_of_word (good_tbl _ hb)⟩
  · exact ⟨h, good_of_word (good_tbl _ h)⟩
theorem PR.calling {D : va_G} {z : zT} {ws : va_W} {tys : tyL} {av : List Value} : FrameBlind (va_Pc av (PR D z ws tys)) := fun a U g mk q => ⟨q.1, q.2.1, va_K.moved (u := U) (U := U.calling g mk a) (Vm.Alike.refl U.vm) q.2.2.1, q.2.2.2.calling g mk a⟩
theorem PU.calling {D : va_G} {z : zT} {ws : va_W} {tys : tyL} {sz : Nat} {av : List Value} : FrameBlind (va_Pc av (PU D z ws tys sz)) := fun a U g mk q => ⟨q.1, q.2.1, q.2.2.1, va_K.moved (u := U) (U := U.calling g mk a) (Vm.Alike.refl U.vm) q.2.2.2.1, q.2.2.2.2.1, q.2.2.2.2.2.calling g mk a⟩
section Base2
variable {l : Launch} {y : MethodName} {bytes : ByteArray} {maxL : Nat} {ret : Option FieldType} {f lo : Nat} {D : va_G} {z : zT} {av : List Value} {ws : va_W} {tys : tyL} {sz : Nat}
theorem metR {v : Value} (hy : plainName y.cls = true) (hn : (lg_sl av).length ≤ maxL)
    (body : ∀ (p : Program) (e : Env) (s : State) (m : MethodId) (below : List Frame) (meth : Method) (c : Code) (ls : Array Slot), p.tables.exec = Jvm.exec → c.code = bytes → meth.sig.returnType = ret → meth.locks = false → c.maxLocals = maxL → s.vm.findClass y.cls = some m.cls → (∀ w ∈ lw_g, w.before av.toArray s = true) → lv_has ls maxL (lv_args 0 av) → va_P D classes ws s.heap → va_K D classes tys s → SS z (fun _ => False) s s.heap →
      W p l e (rmq f lo) s m av.toArray below meth c s.heap [] 0 0 (MQ below (k2_QcV v) av.toArray s 0 0 (fun _ => False)) (F0 m 0 ls [])) : MR l y bytes maxL ret f lo D z av ws tys v := by
  refine Met.ofW (cc := bytes) (maxL := maxL) (ret := ret) hy rfl ?_
  intro p e s m args below meth c s₁ B hml hv
  obtain ⟨rfl, hP, hK, hSS⟩ := hv
  have hts := atoms_spec (ws := Cond.code y bytes maxL ret :: lw_g) B.pre
  have hl := lv_entry av (n := maxL) hn
  rw [lg_entry_eq]
  generalize (lg_sl av ++ List.replicate (maxL - (lg_sl av).length) Slot.unset).toArray = ls at hl ⊢
  exact body p e s m below meth c ls B.exec B.bytes B.returns B.notSynchronized hml (findClass_of_methodNamed B.named) (fun w hw => hts w (List.mem_cons_of_mem _ hw)) hl hP hK hSS
theorem metU {v : Option Value} {w1 : va_W} (hy : plainName y.cls = true) (hn : (lg_sl av).length ≤ maxL)
    (body : ∀ (p : Program) (e : Env) (s : State) (m : MethodId) (below : List Frame) (meth : Method) (c : Code) (ls : Array Slot) (A : Nat → Prop), p.tables.exec = Jvm.exec → c.code = bytes → meth.sig.returnType = ret → meth.locks = false → c.maxLocals = maxL → s.vm.findClass y.cls = some m.cls → (∀ w ∈ lw_g, w.before av.toArray s = true) → lv_has ls maxL (lv_args 0 av) → va_P D classes ws s.heap → va_K D classes tys s → SS z A s s.heap → va_D A ws → va_S A s.heap s.heap [] → (∀ q : Nat, s.heap.size ≤ q → A q) →
      W p l e (rmq f lo) s m av.toArray below meth c s.heap [] 0 0 (MQ below (qcU v D w1 A) av.toArray s 0 0 A) (F0 m 0 ls [])) : MU l y bytes maxL ret f lo D z av ws tys sz v w1 := by
  refine Met.ofW (cc := bytes) (maxL := maxL) (ret := ret) hy rfl ?_
  intro p e s m args below meth c s₁ B hml hv
  obtain ⟨rfl, rfl, hP, hK, hD, hSS⟩ := hv
  have hts := atoms_spec (ws := Cond.code y bytes maxL ret :: lw_g) B.pre
  have hl := lv_entry av (n := maxL) hn
  rw [lg_entry_eq]
  generalize (lg_sl av ++ List.replicate (maxL - (lg_sl av).length) Slot.unset).toArray = ls at hl ⊢
  exact body p e s m below meth c ls (va_A ws s.heap.size) B.exec B.bytes B.returns B.notSynchronized hml (findClass_of_methodNamed B.named) (fun w hw => hts w (List.mem_cons_of_mem _ hw)) hl hP hK hSS hD.self va_S.rf (fun q h => Or.inr h)
end Base2
section Base3
variable {p : Program} {l : Launch} {e : Env} {R : Room} {s : State} {m : MethodId} {args : Array Value} {below : List Frame} {meth : Method} {c : Code} {H : Heap} {locs : List Loc} {cells slots : Nat} {Q : State → Prop} {pc : Nat} {ls : Array Slot} {rest st0 : List Value}
variable {own : String} {index : Nat} {y : MethodName} {bytes cc : ByteArray} {maxL nL n : Nat} {ret : Option FieldType} {f lo : Nat} {D : va_G} {z : zT} {ws wc wr w1 : va_W} {tys tc : tyL} {b : Nat} {As : List Value} {A : Nat → Prop} {lv : List (Nat × Value)}
theorem rV {v : Value} {cn : vw_C} {fs : List Value} (hx : p.tables.exec = Jvm.exec) (hb : c.code = cc) (hml : c.maxLocals = nL) (hown : s.vm.findClass own = some m.cls) (ht : ∀ w ∈ lw_g, w.before args s = true)
    (hM : MR l y bytes maxL ret f lo D z (.ref b :: As) wc tc v) (hY : YV y bytes maxL ret n) (hlink : Cond.methodLink own index y ∈ lw_g)
    (hf : f + 1 ≤ R.frames) (hlo : 8 + (maxL + 11) + lo ≤ R.locals) (hP : va_P D classes ws H) (hK : va_K D classes tys s) (hSS : SS z A s s.heap) (hS : va_S A s.heap H locs)
    (isC isT : List Nat) (hC : isC.filterMap (fun i => ws[i]?) = wc) (hT : isT.filterMap (fun i => tys[i]?) = tc)
    (q0 ci : Nat) (hc : classes[ci]? = some cn) (hcn : cn.1 = y.cls) (he : ws[q0]? = some (b, .inr (ci, fs)))
    (hl : lv_has ls nL lv) (hn : As.length = n) (hst : st0 = As.reverse ++ .ref b :: rest) (hW : (rest.map fun v => v.category).sum ≤ 8) (hcl : cells ≤ R.cells) (hsl : slots ≤ R.slots)
    (hdg : decode cc pc = .ok (.invokevirtual index, 3))
    (kk : W p l e R s m args below meth c H locs cells slots Q (F0 m (pc + 3) ls (v :: rest))) : W p l e R s m args below meth c H locs cells slots Q (F0 m pc ls st0) := by
  obtain ⟨y1, y2, y3, y4, y5, y6, y7⟩ := hY
  refine W.callV (W.runV (As := As) (rest := rest) (b := b) (C := y.cls) ⟨hx, hb, hml, hown, ht⟩ hM ⟨callB_of n ht (gd y1) rfl rfl rfl (ht _ y2) (ht _ hlink) ⟨y5, y6, y7⟩ ⟨hf, hlo⟩, ht _ y3, ht _ y4⟩ ⟨PR.calling, by rw [← hcn]; exact va_recv hK hP hc he, ?_⟩ rfl hn hl.1 hst (lv_room hW) hdg ⟨hcl, hsl⟩) kk
  exact fun U hU hWm => ⟨rfl, by rw [hU]; exact hP.sub isC hC, va_K.moved hWm.alike (hK.sub isT hT), hSS.to hS (fun _ h => h.elim) hU hWm⟩
theorem rS {v : Value} (hx : p.tables.exec = Jvm.exec) (hb : c.code = cc) (hml : c.maxLocals = nL) (hown : s.vm.findClass own = some m.cls) (ht : ∀ w ∈ lw_g, w.before args s = true)
    (hM : MR l y bytes maxL ret f lo D z As wc tc v) (hY : YS y bytes maxL ret n) (hlink : Cond.methodLink own index y ∈ lw_g)
    (hf : f + 1 ≤ R.frames) (hlo : 8 + (maxL + 11) + lo ≤ R.locals) (hP : va_P D classes ws H) (hK : va_K D classes tys s) (hSS : SS z A s s.heap) (hS : va_S A s.heap H locs)
    (isC isT : List Nat) (hC : isC.filterMap (fun i => ws[i]?) = wc) (hT : isT.filterMap (fun i => tys[i]?) = tc)
    (hl : lv_has ls nL lv) (hn : As.length = n) (hst : st0 = As.reverse ++ rest) (hW : (rest.map fun v => v.category).sum ≤ 8) (hcl : cells ≤ R.cells) (hsl : slots ≤ R.slots)
    (hdg : decode cc pc = .ok (.invokestatic index, 3))
    (kk : W p l e R s m args below meth c H locs cells slots Q (F0 m (pc + 3) ls (v :: rest))) : W p l e R s m args below meth c H locs cells slots Q (F0 m pc ls st0) := by
  obtain ⟨y1, y2, y3, y5, y6, y7⟩ := hY
  refine W.callV (W.runS (As := As) (rest := rest) ⟨hx, hb, hml, hown, ht⟩ hM ⟨callB_of n ht (gd y1) rfl rfl rfl (ht _ y2) (ht _ hlink) ⟨y5, y6, y7⟩ ⟨hf, hlo⟩, ht _ y3⟩ ⟨PR.calling, ?_⟩ rfl hn hl.1 hst (lv_room hW) hdg ⟨hcl, hsl⟩) kk
  exact fun U hU hWm => ⟨rfl, by rw [hU]; exact hP.sub isC hC, va_K.moved hWm.alike (hK.sub isT hT), hSS.to hS (fun _ h => h.elim) hU hWm⟩
theorem callU {v : Option Value} {a : Array Value} {A1 : Nat → Prop} (hr : va_Run p l e R s m args below meth c H locs cells slots 0 0 (F0 m pc ls st0) rest (qcU v D w1 A1 a) A1) (hS : va_S A s.heap H locs) (hf : ∀ q, A1 q → A q)
    (kk : ∀ (H1 : Heap) (locs1 : List Loc), va_P D classes w1 H1 → va_D A1 w1 → (∀ q : Nat, q < H.size → ¬ A1 q → H1[q]? = H[q]?) → va_S A s.heap H1 locs1 → W p l e R s m args below meth c H1 locs1 cells slots Q (F0 m (pc + 3) ls (v.toList ++ rest))) : W p l e R s m args below meth c H locs cells slots Q (F0 m pc ls st0) := by
  intro T hT X
  obtain ⟨v', st₀, t, T', L, h0, X', hL, e1, e2, ⟨⟨hv, hp, hd⟩, hz, hk⟩, st⟩ := hr T hT X
  cases hv
  rw [h0] at hz hk
  obtain ⟨t2, a1, b1⟩ := kk T'.heap (locs ++ L) (by rw [e1]; exact hp) hd (fun q h1 h2 => by rw [e1]; exact hk q h1 h2)
    ⟨Nat.le_trans hS.1 (by rw [e1]; exact hz), fun q h1 h2 => by rw [e1, hk q (Nat.lt_of_lt_of_le h1 hS.1) (fun w => h2 (hf q w))]; exact hS.2.1 q h1 h2, fun q hq => by
      rcases List.mem_append.mp hq with h | h
      · exact hS.2.2 q h
      · exact hf _ (hL q h)⟩ T' rfl X'
  exact ⟨t2, st t2 a1, b1⟩
theorem uV {v : Option Value} {cn : vw_C} {fs : List Value} (hx : p.tables.exec = Jvm.exec) (hb : c.code = cc) (hml : c.maxLocals = nL) (hown : s.vm.findClass own = some m.cls) (ht : ∀ w ∈ lw_g, w.before args s = true)
    (hM : MU l y bytes maxL ret f lo D z (.ref b :: As) wc tc H.size v w1) (hY : YV y bytes maxL ret n) (hlink : Cond.methodLink own index y ∈ lw_g)
    (hf : f + 1 ≤ R.frames) (hlo : 8 + (maxL + 11) + lo ≤ R.locals) (hP : va_P D classes ws H) (hK : va_K D classes tys s) (hSS : SS z A s s.heap) (hD : va_D A ws) (hS : va_S A s.heap H locs) (hA : ∀ q : Nat, s.heap.size ≤ q → A q)
    (isC isR isT : List Nat) (hC : isC.map (fun i => ws[i]?) = wc.map some) (hC2 : isC.filterMap (fun i => ws[i]?) = wc) (hnC : va_nd isC = true) (hR : isR.map (fun i => ws[i]?) = wr.map some) (hnR : va_nd isR = true) (hdis : ∀ i ∈ isR, i ∉ isC) (hT : isT.filterMap (fun i => tys[i]?) = tc)
    (q0 ci : Nat) (hc : classes[ci]? = some cn) (hcn : cn.1 = y.cls) (he : ws[q0]? = some (b, .inr (ci, fs)))
    (hl : lv_has ls nL lv) (hn : As.length = n) (hst : st0 = As.reverse ++ .ref b :: rest) (hW : (rest.map fun v => v.category).sum ≤ 8) (hcl : cells ≤ R.cells) (hsl : slots ≤ R.slots)
    (hdg : decode cc pc = .ok (.invokevirtual index, 3))
    (kk : ∀ (H1 : Heap) (locs1 : List Loc), va_P D classes (wr ++ w1) H1 → va_D A (wr ++ w1) → va_S A s.heap H1 locs1 → W p l e R s m args below meth c H1 locs1 cells slots Q (F0 m (pc + 3) ls (v.toList ++ rest))) : W p l e R s m args below meth c H locs cells slots Q (F0 m pc ls st0) := by
  obtain ⟨y1, y2, y3, y4, y5, y6, y7⟩ := hY
  have hFc := va_free (wc := wc) hD hS hA isC hC
  have hDc : va_D A wc := hD.sub isC hnC hC
  refine callU (va_runV (As := As) (rest := rest) (b := b) (C := y.cls) ⟨hx, hb, hml, hown, ht⟩ hM ⟨callB_of n ht (gd y1) rfl rfl rfl (ht _ y2) (ht _ hlink) ⟨y5, y6, y7⟩ ⟨hf, hlo⟩, ht _ y3, ht _ y4⟩ ⟨PU.calling, by rw [← hcn]; exact va_recv hK hP hc he, ?_⟩ rfl hn hl.1 hst (lv_room hW) hdg ⟨hcl, hsl⟩) hS hFc (fun H1 locs1 hP1 hD1 hk1 hS1 => ?_)
  · exact fun U hU hWm => ⟨rfl, by rw [hU], by rw [hU]; exact hP.sub isC hC2, va_K.moved hWm.alike (hK.sub isT hT), hDc.weaken (fun _ _ _ _ => trivial), hSS.to hS hFc hU hWm⟩
  · obtain ⟨hP2, hD2⟩ := va_join (wr := wr) (w1 := w1) hP hD isC isR hC hR hnR hdis hk1 hFc hP1 hD1
    exact kk H1 locs1 hP2 hD2 hS1
theorem uS {v : Option Value} (hx : p.tables.exec = Jvm.exec) (hb : c.code = cc) (hml : c.maxLocals = nL) (hown : s.vm.findClass own = some m.cls) (ht : ∀ w ∈ lw_g, w.before args s = true)
    (hM : MU l y bytes maxL ret f lo D z As wc tc H.size v w1) (hY : YS y bytes maxL ret n) (hlink : Cond.methodLink own index y ∈ lw_g)
    (hf : f + 1 ≤ R.frames) (hlo : 8 + (maxL + 11) + lo ≤ R.locals) (hP : va_P D classes ws H) (hK : va_K D classes tys s) (hSS : SS z A s s.heap) (hD : va_D A ws) (hS : va_S A s.heap H locs) (hA : ∀ q : Nat, s.heap.size ≤ q → A q)
    (isC isR isT : List Nat) (hC : isC.map (fun i => ws[i]?) = wc.map some) (hC2 : isC.filterMap (fun i => ws[i]?) = wc) (hnC : va_nd isC = true) (hR : isR.map (fun i => ws[i]?) = wr.map some) (hnR : va_nd isR = true) (hdis : ∀ i ∈ isR, i ∉ isC) (hT : isT.filterMap (fun i => tys[i]?) = tc)
    (hl : lv_has ls nL lv) (hn : As.length = n) (hst : st0 = As.reverse ++ rest) (hW : (rest.map fun v => v.category).sum ≤ 8) (hcl : cells ≤ R.cells) (hsl : slots ≤ R.slots)
    (hdg : decode cc pc = .ok (.invokestatic index, 3))
    (kk : ∀ (H1 : Heap) (locs1 : List Loc), va_P D classes (wr ++ w1) H1 → va_D A (wr ++ w1) → va_S A s.heap H1 locs1 → W p l e R s m args below meth c H1 locs1 cells slots Q (F0 m (pc + 3) ls (v.toList ++ rest))) : W p l e R s m args below meth c H locs cells slots Q (F0 m pc ls st0) := by
  obtain ⟨y1, y2, y3, y5, y6, y7⟩ := hY
  have hFc := va_free (wc := wc) hD hS hA isC hC
  have hDc : va_D A wc := hD.sub isC hnC hC
  refine callU (va_runS (As := As) (rest := rest) ⟨hx, hb, hml, hown, ht⟩ hM ⟨callB_of n ht (gd y1) rfl rfl rfl (ht _ y2) (ht _ hlink) ⟨y5, y6, y7⟩ ⟨hf, hlo⟩, ht _ y3⟩ ⟨PU.calling, ?_⟩ rfl hn hl.1 hst (lv_room hW) hdg ⟨hcl, hsl⟩) hS hFc (fun H1 locs1 hP1 hD1 hk1 hS1 => ?_)
  · exact fun U hU hWm => ⟨rfl, by rw [hU], by rw [hU]; exact hP.sub isC hC2, va_K.moved hWm.alike (hK.sub isT hT), hDc.weaken (fun _ _ _ _ => trivial), hSS.to hS hFc hU hWm⟩
  · obtain ⟨hP2, hD2⟩ := va_join (wr := wr) (w1 := w1) hP hD isC isR hC hR hnR hdis hk1 hFc hP1 hD1
    exact kk H1 locs1 hP2 hD2 hS1
/-- ends -/
theorem eRi {x y : Int32} (hx : p.tables.exec = Jvm.exec) (hb : c.code = cc) (hr : meth.sig.returnType = some .int) (hlocks : meth.locks = false) (hd : decode cc pc = .ok (.ireturn, 1)) (h : x = y) : W p l e R s m args below meth c s.heap [] 0 0 (MQ below (k2_QcV (.int y)) args s 0 0 (fun _ => False)) (F0 m pc ls [.int x]) := by
  subst h
  exact W.iret hx hb hr (fun t ht _ => ⟨rfl, ht⟩) (fun _ h => by cases h) hd
theorem eRz {x y : Int32} {ty : FieldType} (hx : p.tables.exec = Jvm.exec) (hb : c.code = cc) (hr : meth.sig.returnType = some ty) (hlocks : meth.locks = false) (hn : narrow ty (.int x) = .int x) (hd : decode cc pc = .ok (.ireturn, 1)) (h : x = y) : W p l e R s m args below meth c s.heap [] 0 0 (MQ below (k2_QcV (.int y)) args s 0 0 (fun _ => False)) (F0 m pc ls [.int x]) := by
  subst h
  exact W.zret hx hb hr hn (fun t ht _ => ⟨rfl, ht⟩) (fun _ h => by cases h) hd
theorem eRa {q : Nat} {nm : String} (hx : p.tables.exec = Jvm.exec) (hb : c.code = cc) (hr : meth.sig.returnType = some (.object nm)) (hlocks : meth.locks = false) (hd : decode cc pc = .ok (.areturn, 1)) : W p l e R s m args below meth c s.heap [] 0 0 (MQ below (k2_QcV (.ref q)) args s 0 0 (fun _ => False)) (F0 m pc ls [.ref q]) :=
  W.aret hx hb hr (Or.inl ⟨nm, rfl⟩) (Or.inr ⟨q, rfl⟩) (fun t ht _ => ⟨rfl, ht⟩) (fun _ h => by cases h) hd
theorem eUv (hx : p.tables.exec = Jvm.exec) (hb : c.code = cc) (hr : meth.sig.returnType = none) (hlocks : meth.locks = false) (hP : va_P D classes ws H) (hD : va_D A ws) (hS : va_S A s.heap H locs) (is : List Nat) (hi : is.map (fun i => ws[i]?) = w1.map some) (hi2 : is.filterMap (fun i => ws[i]?) = w1) (hni : va_nd is = true) (hd : decode cc pc = .ok (.return_, 1)) : W p l e R s m args below meth c H locs 0 0 (MQ below (qcU none D w1 A) args s 0 0 A) (F0 m pc ls []) :=
  W.vret hx hb hr (fun t ht _ => ⟨⟨rfl, by rw [ht]; exact hP.sub is hi2, hD.sub is hni hi⟩, hS.F ht⟩) hS.2.2 hd
theorem eUi {x y : Int32} (hx : p.tables.exec = Jvm.exec) (hb : c.code = cc) (hr : meth.sig.returnType = some .int) (hlocks : meth.locks = false) (hP : va_P D classes ws H) (hD : va_D A ws) (hS : va_S A s.heap H locs) (is : List Nat) (hi : is.map (fun i => ws[i]?) = w1.map some) (hi2 : is.filterMap (fun i => ws[i]?) = w1) (hni : va_nd is = true) (hd : decode cc pc = .ok (.ireturn, 1)) (h : x = y) : W p l e R s m args below meth c H locs 0 0 (MQ below (qcU (some (.int y)) D w1 A) args s 0 0 A) (F0 m pc ls [.int x]) := by
  subst h
  exact W.iret hx hb hr (fun t ht _ => ⟨⟨rfl, by rw [ht]; exact hP.sub is hi2, hD.sub is hni hi⟩, hS.F ht⟩) hS.2.2 hd
theorem eUz {x y : Int32} {ty : FieldType} (hx : p.tables.exec = Jvm.exec) (hb : c.code = cc) (hr : meth.sig.returnType = some ty) (hlocks : meth.locks = false) (hn : narrow ty (.int x) = .int x) (hP : va_P D classes ws H) (hD : va_D A ws) (hS : va_S A s.heap H locs) (is : List Nat) (hi : is.map (fun i => ws[i]?) = w1.map some) (hi2 : is.filterMap (fun i => ws[i]?) = w1) (hni : va_nd is = true) (hd : decode cc pc = .ok (.ireturn, 1)) (h : x = y) : W p l e R s m args below meth c H locs 0 0 (MQ below (qcU (some (.int y)) D w1 A) args s 0 0 A) (F0 m pc ls [.int x]) := by
  subst h
  exact W.zret hx hb hr hn (fun t ht _ => ⟨⟨rfl, by rw [ht]; exact hP.sub is hi2, hD.sub is hni hi⟩, hS.F ht⟩) hS.2.2 hd
/-- arrays of small numbers -/
theorem ldI {cA : ClassId} {N k t0 q0 a : Nat} {g : Nat → Nat} (hx : p.tables.exec = Jvm.exec) (hb : c.code = cc) (hd : decode cc pc = .ok (.iaload, 1)) (hK : va_K D classes tys s) (hP : va_P D classes ws H) (ha : ws[q0]? = some (a, .inl (cA, N, .inl (iN g)))) (ht : tys[t0]? = some (cA, .int)) (hk : k < N) (hN : N < 2147483648)
    (kk : W p l e R s m args below meth c H locs cells slots Q (F0 m (pc + 1) ls (.int (nI (g k)) :: rest))) : W p l e R s m args below meth c H locs cells slots Q (F0 m pc ls (.int (nI k) :: .ref a :: rest)) := by
  refine va_iald hx hb hK hP q0 t0 ha ht (vin hk hN) hd ?_
  rw [clp (by omega)]
  exact kk
theorem ldC {cA : ClassId} {N k t0 q0 a : Nat} {g : Nat → Nat} (hx : p.tables.exec = Jvm.exec) (hb : c.code = cc) (hd : decode cc pc = .ok (.caload, 1)) (hK : va_K D classes tys s) (hP : va_P D classes ws H) (ha : ws[q0]? = some (a, .inl (cA, N, .inl (iN g)))) (ht : tys[t0]? = some (cA, .char)) (hk : k < N) (hN : N < 2147483648)
    (kk : W p l e R s m args below meth c H locs cells slots Q (F0 m (pc + 1) ls (.int (nI (g k)) :: rest))) : W p l e R s m args below meth c H locs cells slots Q (F0 m pc ls (.int (nI k) :: .ref a :: rest)) := by
  refine va_cald hx hb hK hP q0 t0 ha ht (vin hk hN) hd ?_
  rw [clp (by omega)]
  exact kk
theorem ldZ {cA : ClassId} {N k t0 q0 a : Nat} {g : Nat → Bool} (hx : p.tables.exec = Jvm.exec) (hb : c.code = cc) (hd : decode cc pc = .ok (.baload, 1)) (hK : va_K D classes tys s) (hP : va_P D classes ws H) (ha : ws[q0]? = some (a, .inl (cA, N, .inl (zN g)))) (ht : tys[t0]? = some (cA, .boolean)) (hk : k < N) (hN : N < 2147483648)
    (kk : W p l e R s m args below meth c H locs cells slots Q (F0 m (pc + 1) ls (.int (bI (g k)) :: rest))) : W p l e R s m args below meth c H locs cells slots Q (F0 m pc ls (.int (nI k) :: .ref a :: rest)) := by
  refine va_zald hx hb hK hP q0 t0 ha ht (vin hk hN) hd ?_
  rw [clp (by omega)]
  exact kk
theorem stI {cA : ClassId} {N k v t0 q0 a : Nat} {g : Nat → Nat} (hx : p.tables.exec = Jvm.exec) (hb : c.code = cc) (hd : decode cc pc = .ok (.iastore, 1)) (hK : va_K D classes tys s) (hP : va_P D classes ws H) (hD : va_D A ws) (hS : va_S A s.heap H locs) (ha : ws[q0]? = some (a, .inl (cA, N, .inl (iN g)))) (ht : tys[t0]? = some (cA, .int)) (hk : k < N) (hN : N < 2147483648) (hw : ws.set q0 (a, .inl (cA, N, .inl (iN (updN g k v)))) = w1)
    (kk : ∀ (H1 : Heap) (locs1 : List Loc), va_P D classes w1 H1 → va_D A w1 → va_S A s.heap H1 locs1 → W p l e R s m args below meth c H1 locs1 cells slots Q (F0 m (pc + 1) ls rest)) : W p l e R s m args below meth c H locs cells slots Q (F0 m pc ls (.int (nI v) :: .int (nI k) :: .ref a :: rest)) := by
  subst hw
  refine va_iast hx hb hK hP hD hS q0 t0 ha ht (vin hk hN) hd (fun H1 locs1 h1 h2 h3 => ?_)
  rw [clp (by omega), iN_upd] at h1 h2
  exact kk H1 locs1 h1 h2 h3
theorem stX {cA : ClassId} {N k t0 q0 a : Nat} {g : Nat → Int32} {x : Int32} (hx : p.tables.exec = Jvm.exec) (hb : c.code = cc) (hd : decode cc pc = .ok (.iastore, 1)) (hK : va_K D classes tys s) (hP : va_P D classes ws H) (hD : va_D A ws) (hS : va_S A s.heap H locs) (ha : ws[q0]? = some (a, .inl (cA, N, .inl g))) (ht : tys[t0]? = some (cA, .int)) (hk : k < N) (hN : N < 2147483648) (hw : ws.set q0 (a, .inl (cA, N, .inl (upd g k x))) = w1)
    (kk : ∀ (H1 : Heap) (locs1 : List Loc), va_P D classes w1 H1 → va_D A w1 → va_S A s.heap H1 locs1 → W p l e R s m args below meth c H1 locs1 cells slots Q (F0 m (pc + 1) ls rest)) : W p l e R s m args below meth c H locs cells slots Q (F0 m pc ls (.int x :: .int (nI k) :: .ref a :: rest)) := by
  subst hw
  refine va_iast hx hb hK hP hD hS q0 t0 ha ht (vin hk hN) hd (fun H1 locs1 h1 h2 h3 => ?_)
  rw [clp (by omega)] at h1 h2
  exact kk H1 locs1 h1 h2 h3
theorem ldX {cA : ClassId} {N k t0 q0 a : Nat} {g : Nat → Int32} (hx : p.tables.exec = Jvm.exec) (hb : c.code = cc) (hd : decode cc pc = .ok (.iaload, 1)) (hK : va_K D classes tys s) (hP : va_P D classes ws H) (ha : ws[q0]? = some (a, .inl (cA, N, .inl g))) (ht : tys[t0]? = some (cA, .int)) (hk : k < N) (hN : N < 2147483648)
    (kk : W p l e R s m args below meth c H locs cells slots Q (F0 m (pc + 1) ls (.int (g k) :: rest))) : W p l e R s m args below meth c H locs cells slots Q (F0 m pc ls (.int (nI k) :: .ref a :: rest)) := by
  refine va_iald hx hb hK hP q0 t0 ha ht (vin hk hN) hd ?_
  rw [clp (by omega)]
  exact kk
theorem char_nar {v : Nat} (h : v < 65536) : vp_nar .char (nI v) = nI v := by
  rw [vp_nar_char]
  apply Int32.toBitVec_inj.mp
  apply BitVec.eq_of_toNat_eq
  simp [nI]
  omega
theorem stC {cA : ClassId} {N k v t0 q0 a : Nat} {g : Nat → Nat} (hx : p.tables.exec = Jvm.exec) (hb : c.code = cc) (hd : decode cc pc = .ok (.castore, 1)) (hK : va_K D classes tys s) (hP : va_P D classes ws H) (hD : va_D A ws) (hS : va_S A s.heap H locs) (ha : ws[q0]? = some (a, .inl (cA, N, .inl (iN g)))) (ht : tys[t0]? = some (cA, .char)) (hk : k < N) (hN : N < 2147483648) (hv : v < 65536) (hw : ws.set q0 (a, .inl (cA, N, .inl (iN (updN g k v)))) = w1)
    (kk : ∀ (H1 : Heap) (locs1 : List Loc), va_P D classes w1 H1 → va_D A w1 → va_S A s.heap H1 locs1 → W p l e R s m args below meth c H1 locs1 cells slots Q (F0 m (pc + 1) ls rest)) : W p l e R s m args below meth c H locs cells slots Q (F0 m pc ls (.int (nI v) :: .int (nI k) :: .ref a :: rest)) := by
  subst hw
  refine va_cast hx hb hK hP hD hS q0 t0 ha ht (vin hk hN) hd (fun H1 locs1 h1 h2 h3 => ?_)
  rw [clp (by omega), char_nar hv, iN_upd] at h1 h2
  exact kk H1 locs1 h1 h2 h3
theorem stZ {cA : ClassId} {N k t0 q0 a : Nat} {v : Bool} {g : Nat → Bool} (hx : p.tables.exec = Jvm.exec) (hb : c.code = cc) (hd : decode cc pc = .ok (.bastore, 1)) (hK : va_K D classes tys s) (hP : va_P D classes ws H) (hD : va_D A ws) (hS : va_S A s.heap H locs) (ha : ws[q0]? = some (a, .inl (cA, N, .inl (zN g)))) (ht : tys[t0]? = some (cA, .boolean)) (hk : k < N) (hN : N < 2147483648) (hw : ws.set q0 (a, .inl (cA, N, .inl (zN (updB g k v)))) = w1)
    (kk : ∀ (H1 : Heap) (locs1 : List Loc), va_P D classes w1 H1 → va_D A w1 → va_S A s.heap H1 locs1 → W p l e R s m args below meth c H1 locs1 cells slots Q (F0 m (pc + 1) ls rest)) : W p l e R s m args below meth c H locs cells slots Q (F0 m pc ls (.int (bI v) :: .int (nI k) :: .ref a :: rest)) := by
  subst hw
  refine va_zast hx hb hK hP hD hS q0 t0 ha ht (vin hk hN) hd (fun H1 locs1 h1 h2 h3 => ?_)
  rw [clp (by omega), bI_nar, zN_upd] at h1 h2
  exact kk H1 locs1 h1 h2 h3
end Base3
theorem yv_Co_append : YV y_Co_append b_Co_append 4 (some .int) 2 := ⟨k_117, k_1, k_115, k_116, by decide, by decide, by decide⟩
theorem yv_Co_enter : YV y_Co_enter b_Co_enter 2 (some .boolean) 1 := ⟨k_129, k_1, k_127, k_128, by decide, by decide, by decide⟩
theorem yv_Co_clear : YV y_Co_clear b_Co_clear 1 none 0 := ⟨k_141, k_1, k_139, k_140, by decide, by decide, by decide⟩
theorem yv_Co_size : YV y_Co_size b_Co_size 1 (some .int) 0 := ⟨k_153, k_1, k_151, k_152, by decide, by decide, by decide⟩
theorem yv_Co_byteAt : YV y_Co_byteAt b_Co_byteAt 2 (some .int) 1 := ⟨k_157, k_1, k_155, k_156, by decide, by decide, by decide⟩
theorem yv_Co_entry : YV y_Co_entry b_Co_entry 2 (some .int) 1 := ⟨k_166, k_1, k_164, k_165, by decide, by decide, by decide⟩
theorem yv_Co_length : YV y_Co_length b_Co_length 2 (some .int) 1 := ⟨k_170, k_1, k_168, k_169, by decide, by decide, by decide⟩
theorem yv_Co_reach : YV y_Co_reach b_Co_reach 1 (some .int) 0 := ⟨k_195, k_1, k_193, k_194, by decide, by decide, by decide⟩
theorem yv_Co_reached : YV y_Co_reached b_Co_reached 2 (some .boolean) 1 := ⟨k_239, k_1, k_237, k_238, by decide, by decide, by decide⟩
theorem yv_Co_body : YV y_Co_body b_Co_body 2 (some .int) 1 := ⟨k_247, k_1, k_245, k_246, by decide, by decide, by decide⟩
theorem yv_Co_sweep : YV y_Co_sweep b_Co_sweep 4 (some .int) 0 := ⟨k_251, k_1, k_249, k_250, by decide, by decide, by decide⟩
theorem yv_Co_list : YV y_Co_list b_Co_list 2 (some .int) 0 := ⟨k_258, k_1, k_256, k_257, by decide, by decide, by decide⟩
theorem yv_Co_textLength : YV y_Co_textLength b_Co_textLength 1 (some .int) 0 := ⟨k_374, k_1, k_372, k_373, by decide, by decide, by decide⟩
theorem yv_Co_charAt : YV y_Co_charAt b_Co_charAt 2 (some .int) 1 := ⟨k_378, k_1, k_376, k_377, by decide, by decide, by decide⟩
theorem yv_Co_type : YV y_Co_type b_Co_type 3 (some .boolean) 2 := ⟨k_386, k_1, k_384, k_385, by decide, by decide, by decide⟩
theorem yv_Co_assemble : YV y_Co_assemble b_Co_assemble 1 (some .int) 0 := ⟨k_391, k_1, k_389, k_390, by decide, by decide, by decide⟩
theorem yv_Co_made : YV y_Co_made b_Co_made 2 (some .int) 1 := ⟨k_484, k_1, k_482, k_483, by decide, by decide, by decide⟩
theorem yv_Co_isEntry : YV y_Co_isEntry b_Co_isEntry 3 (some .boolean) 1 := ⟨k_137, k_1, k_136, kp_Co_isEntry, by decide, by decide, by decide⟩
theorem yv_Co_walkFromEntries : YV y_Co_walkFromEntries b_Co_walkFromEntries 2 none 0 := ⟨k_199, k_1, k_198, kp_Co_walkFromEntries, by decide, by decide, by decide⟩
theorem yv_Co_listLine : YV y_Co_listLine b_Co_listLine 3 (some .int) 1 := ⟨k_262, k_1, k_261, kp_Co_listLine, by decide, by decide, by decide⟩
theorem yv_Mo_append : YV y_Mo_append b_Mo_append 4 (some .int) 2 := ⟨k_531, k_6, k_529, k_530, by decide, by decide, by decide⟩
theorem yv_Mo_has : YV y_Mo_has b_Mo_has 2 (some .boolean) 1 := ⟨k_539, k_6, k_538, kp_Mo_has, by decide, by decide, by decide⟩
theorem yv_Mo_enter : YV y_Mo_enter b_Mo_enter 3 (some .boolean) 1 := ⟨k_535, k_6, k_533, k_534, by decide, by decide, by decide⟩
theorem yv_Mo_clear : YV y_Mo_clear b_Mo_clear 1 none 0 := ⟨k_543, k_6, k_541, k_542, by decide, by decide, by decide⟩
theorem yv_Mo_size : YV y_Mo_size b_Mo_size 1 (some .int) 0 := ⟨k_547, k_6, k_545, k_546, by decide, by decide, by decide⟩
theorem yv_Mo_byteAt : YV y_Mo_byteAt b_Mo_byteAt 2 (some .int) 1 := ⟨k_551, k_6, k_549, k_550, by decide, by decide, by decide⟩
theorem yv_Mo_entry : YV y_Mo_entry b_Mo_entry 2 (some .int) 1 := ⟨k_555, k_6, k_553, k_554, by decide, by decide, by decide⟩
theorem ys_Mo_longOf : YS y_Mo_longOf b_Mo_longOf 2 (some .int) 1 := ⟨k_562, k_6, k_561, by decide, by decide, by decide⟩
theorem yv_Mo_length : YV y_Mo_length b_Mo_length 3 (some .int) 1 := ⟨k_559, k_6, k_557, k_558, by decide, by decide, by decide⟩
theorem yv_Mo_set : YV y_Mo_set b_Mo_set 2 (some .boolean) 1 := ⟨k_583, k_6, k_582, kp_Mo_set, by decide, by decide, by decide⟩
theorem yv_Mo_follow : YV y_Mo_follow b_Mo_follow 6 (some .boolean) 2 := ⟨k_578, k_6, k_577, kp_Mo_follow, by decide, by decide, by decide⟩
theorem yv_Mo_close : YV y_Mo_close b_Mo_close 5 (some .int) 1 := ⟨k_574, k_6, k_573, kp_Mo_close, by decide, by decide, by decide⟩
theorem yv_Mo_wipe : YV y_Mo_wipe b_Mo_wipe 2 none 0 := ⟨k_570, k_6, k_569, kp_Mo_wipe, by decide, by decide, by decide⟩
theorem yv_Mo_reach : YV y_Mo_reach b_Mo_reach 2 (some .int) 0 := ⟨k_566, k_6, k_564, k_565, by decide, by decide, by decide⟩
theorem yv_Mo_reached : YV y_Mo_reached b_Mo_reached 3 (some .boolean) 1 := ⟨k_587, k_6, k_585, k_586, by decide, by decide, by decide⟩
theorem yv_Mo_body : YV y_Mo_body b_Mo_body 2 (some .int) 1 := ⟨k_592, k_6, k_590, k_591, by decide, by decide, by decide⟩
theorem yv_Mo_sweep : YV y_Mo_sweep b_Mo_sweep 4 (some .int) 0 := ⟨k_596, k_6, k_594, k_595, by decide, by decide, by decide⟩
theorem yv_Mo_put : YV y_Mo_put b_Mo_put 2 none 1 := ⟨k_612, k_6, k_611, kp_Mo_put, by decide, by decide, by decide⟩
theorem yv_Mo_name : YV y_Mo_name b_Mo_name 4 none 3 := ⟨k_608, k_6, k_607, kp_Mo_name, by decide, by decide, by decide⟩
theorem yv_Mo_number : YV y_Mo_number b_Mo_number 3 none 1 := ⟨k_616, k_6, k_615, kp_Mo_number, by decide, by decide, by decide⟩
theorem yv_Mo_register : YV y_Mo_register b_Mo_register 2 none 1 := ⟨k_628, k_6, k_627, kp_Mo_register, by decide, by decide, by decide⟩
theorem yv_Mo_front : YV y_Mo_front b_Mo_front 3 none 1 := ⟨k_624, k_6, k_623, kp_Mo_front, by decide, by decide, by decide⟩
theorem yv_Mo_print : YV y_Mo_print b_Mo_print 3 none 2 := ⟨k_620, k_6, k_619, kp_Mo_print, by decide, by decide, by decide⟩
theorem yv_Mo_data : YV y_Mo_data b_Mo_data 2 none 1 := ⟨k_604, k_6, k_603, kp_Mo_data, by decide, by decide, by decide⟩
theorem yv_Mo_list : YV y_Mo_list b_Mo_list 8 (some .int) 0 := ⟨k_600, k_6, k_598, k_599, by decide, by decide, by decide⟩
theorem yv_Mo_textLength : YV y_Mo_textLength b_Mo_textLength 1 (some .int) 0 := ⟨k_632, k_6, k_630, k_631, by decide, by decide, by decide⟩
theorem yv_Mo_charAt : YV y_Mo_charAt b_Mo_charAt 2 (some .int) 1 := ⟨k_636, k_6, k_634, k_635, by decide, by decide, by decide⟩
theorem yv_Mo_type : YV y_Mo_type b_Mo_type 3 (some .boolean) 2 := ⟨k_640, k_6, k_638, k_639, by decide, by decide, by decide⟩
theorem yv_Mo_begins : YV y_Mo_begins b_Mo_begins 3 (some .boolean) 1 := ⟨k_656, k_6, k_655, kp_Mo_begins, by decide, by decide, by decide⟩
theorem yv_Mo_here : YV y_Mo_here b_Mo_here 3 (some .boolean) 1 := ⟨k_652, k_6, k_651, kp_Mo_here, by decide, by decide, by decide⟩
theorem yv_Mo_understand : YV y_Mo_understand b_Mo_understand 7 (some .int) 1 := ⟨k_648, k_6, k_647, kp_Mo_understand, by decide, by decide, by decide⟩
theorem yv_Mo_assemble : YV y_Mo_assemble b_Mo_assemble 10 (some .int) 0 := ⟨k_644, k_6, k_642, k_643, by decide, by decide, by decide⟩
theorem yv_Mo_made : YV y_Mo_made b_Mo_made 2 (some .int) 1 := ⟨k_662, k_6, k_660, k_661, by decide, by decide, by decide⟩
theorem yv_As_count : YV y_As_count b_As_count 1 (some .int) 0 := ⟨k_472, k_5, k_470, k_471, by decide, by decide, by decide⟩
theorem yv_As_copyTo : YV y_As_copyTo b_As_copyTo 2 none 1 := ⟨k_476, k_5, k_474, k_475, by decide, by decide, by decide⟩
theorem yv_As_read : YV y_As_read b_As_read 3 (some .boolean) 1 := ⟨k_395, k_5, k_393, k_394, by decide, by decide, by decide⟩
theorem yv_As_readLine : YV y_As_readLine b_As_readLine 5 none 1 := ⟨k_407, k_5, k_406, kp_As_readLine, by decide, by decide, by decide⟩
theorem ys_As_readRegisters : YS y_As_readRegisters b_As_readRegisters 4 (some .int) 2 := ⟨k_419, k_5, k_418, by decide, by decide, by decide⟩
theorem ys_As_readNumber : YS y_As_readNumber b_As_readNumber 3 (some .int) 2 := ⟨k_435, k_5, k_434, by decide, by decide, by decide⟩
theorem yv_As_addBytes : YV y_As_addBytes b_As_addBytes 4 none 3 := ⟨k_459, k_5, k_458, kp_As_addBytes, by decide, by decide, by decide⟩
theorem yv_As_addByte : YV y_As_addByte b_As_addByte 2 none 1 := ⟨k_464, k_5, k_463, kp_As_addByte, by decide, by decide, by decide⟩
theorem yv_Im_count : YV y_Im_count b_Im_count 1 (some .int) 0 := ⟨k_121, k_2, k_119, k_120, by decide, by decide, by decide⟩
theorem yv_Im_holds : YV y_Im_holds b_Im_holds 2 (some .boolean) 1 := ⟨k_133, k_2, k_131, k_132, by decide, by decide, by decide⟩
theorem yv_Im_at : YV y_Im_at b_Im_at 2 (some .int) 1 := ⟨k_161, k_2, k_159, k_160, by decide, by decide, by decide⟩
theorem yv_Im_add : YV y_Im_add b_Im_add 2 none 1 := ⟨k_125, k_2, k_123, k_124, by decide, by decide, by decide⟩
theorem yv_Im_drop : YV y_Im_drop b_Im_drop 1 none 0 := ⟨k_145, k_2, k_143, k_144, by decide, by decide, by decide⟩
theorem yv_Im_codeKind : YV y_Im_codeKind b_Im_codeKind 3 (some .int) 1 := ⟨k_178, k_2, k_176, k_177, by decide, by decide, by decide⟩
theorem yv_Im_codeLength : YV y_Im_codeLength b_Im_codeLength 3 (some .int) 1 := ⟨k_174, k_2, k_172, k_173, by decide, by decide, by decide⟩
theorem yv_Im_number : YV y_Im_number b_Im_number 3 (some .int) 2 := ⟨k_228, k_2, k_226, k_227, by decide, by decide, by decide⟩
theorem ys_Ki_ofFirst : YS y_Ki_ofFirst b_Ki_ofFirst 3 (some .int) 1 := ⟨k_182, k_7, k_181, by decide, by decide, by decide⟩
theorem ys_Ki_first : YS y_Ki_first b_Ki_first 1 (some .int) 1 := ⟨k_363, k_7, k_362, by decide, by decide, by decide⟩
theorem ys_Ki_registers : YS y_Ki_registers b_Ki_registers 1 (some .int) 1 := ⟨k_344, k_7, k_343, by decide, by decide, by decide⟩
theorem ys_Ki_number : YS y_Ki_number b_Ki_number 1 (some .int) 1 := ⟨k_231, k_7, k_230, by decide, by decide, by decide⟩
theorem ys_Ki_bytes : YS y_Ki_bytes b_Ki_bytes 1 (some .int) 1 := ⟨k_189, k_7, k_188, by decide, by decide, by decide⟩
theorem ys_Ki_lowest : YS y_Ki_lowest b_Ki_lowest 1 (some .int) 1 := ⟨k_439, k_7, k_438, by decide, by decide, by decide⟩
theorem ys_Ki_highest : YS y_Ki_highest b_Ki_highest 1 (some .int) 1 := ⟨k_442, k_7, k_441, by decide, by decide, by decide⟩
theorem ys_Ki_fallsThrough : YS y_Ki_fallsThrough b_Ki_fallsThrough 1 (some .boolean) 1 := ⟨k_223, k_7, k_222, by decide, by decide, by decide⟩
theorem ys_Ki_opening : YS y_Ki_opening b_Ki_opening 1 (some (.object "java/lang/String")) 1 := ⟨k_270, k_7, k_269, by decide, by decide, by decide⟩
theorem yv_Te_count : YV y_Te_count b_Te_count 1 (some .int) 0 := ⟨k_369, k_4, k_367, k_368, by decide, by decide, by decide⟩
theorem yv_Te_at : YV y_Te_at b_Te_at 2 (some .int) 1 := ⟨k_382, k_4, k_380, k_381, by decide, by decide, by decide⟩
theorem yv_Te_drop : YV y_Te_drop b_Te_drop 1 none 0 := ⟨k_149, k_4, k_147, k_148, by decide, by decide, by decide⟩
theorem yv_Te_put : YV y_Te_put b_Te_put 3 none 2 := ⟨k_340, k_4, k_338, k_339, by decide, by decide, by decide⟩
theorem yv_Te_addLine : YV y_Te_addLine b_Te_addLine 7 none 3 := ⟨k_267, k_4, k_265, k_266, by decide, by decide, by decide⟩
theorem yv_Te_add : YV y_Te_add b_Te_add 2 none 1 := ⟨k_336, k_4, k_335, kp_Te_add, by decide, by decide, by decide⟩
theorem yv_Te_addComma : YV y_Te_addComma b_Te_addComma 2 none 1 := ⟨k_348, k_4, k_347, kp_Te_addComma, by decide, by decide, by decide⟩
theorem yv_Te_addDigit : YV y_Te_addDigit b_Te_addDigit 2 none 1 := ⟨k_352, k_4, k_351, kp_Te_addDigit, by decide, by decide, by decide⟩
theorem yv_Te_addNumber : YV y_Te_addNumber b_Te_addNumber 4 none 1 := ⟨k_357, k_4, k_356, kp_Te_addNumber, by decide, by decide, by decide⟩
theorem yv_Te_startReading : YV y_Te_startReading b_Te_startReading 1 none 0 := ⟨k_399, k_4, k_397, k_398, by decide, by decide, by decide⟩
theorem yv_Te_isRight : YV y_Te_isRight b_Te_isRight 1 (some .boolean) 0 := ⟨k_468, k_4, k_466, k_467, by decide, by decide, by decide⟩
theorem yv_Te_hasMore : YV y_Te_hasMore b_Te_hasMore 1 (some .boolean) 0 := ⟨k_403, k_4, k_401, k_402, by decide, by decide, by decide⟩
theorem yv_Te_take : YV y_Te_take b_Te_take 2 none 1 := ⟨k_428, k_4, k_426, k_427, by decide, by decide, by decide⟩
theorem yv_Te_takeComma : YV y_Te_takeComma b_Te_takeComma 2 none 1 := ⟨k_424, k_4, k_422, k_423, by decide, by decide, by decide⟩
theorem yv_Te_takeKind : YV y_Te_takeKind b_Te_takeKind 3 (some .int) 0 := ⟨k_411, k_4, k_409, k_410, by decide, by decide, by decide⟩
theorem yv_Te_goesOnWith : YV y_Te_goesOnWith b_Te_goesOnWith 3 (some .boolean) 1 := ⟨k_415, k_4, k_414, kp_Te_goesOnWith, by decide, by decide, by decide⟩
theorem yv_Te_takeRegister : YV y_Te_takeRegister b_Te_takeRegister 2 (some .int) 0 := ⟨k_432, k_4, k_430, k_431, by decide, by decide, by decide⟩
theorem yv_Te_takeNumber : YV y_Te_takeNumber b_Te_takeNumber 6 (some .int) 2 := ⟨k_447, k_4, k_445, k_446, by decide, by decide, by decide⟩
theorem yv_Te_takeAmount : YV y_Te_takeAmount b_Te_takeAmount 4 (some .int) 0 := ⟨k_451, k_4, k_450, kp_Te_takeAmount, by decide, by decide, by decide⟩
theorem ys_Te_isDigit : YS y_Te_isDigit b_Te_isDigit 1 (some .boolean) 1 := ⟨k_454, k_4, k_453, by decide, by decide, by decide⟩
theorem yv_Wa_count : YV y_Wa_count b_Wa_count 1 (some .int) 0 := ⟨k_235, k_3, k_233, k_234, by decide, by decide, by decide⟩
theorem yv_Wa_start : YV y_Wa_start b_Wa_start 3 none 1 := ⟨k_203, k_3, k_201, k_202, by decide, by decide, by decide⟩
theorem yv_Wa_cameTo : YV y_Wa_cameTo b_Wa_cameTo 2 (some .boolean) 1 := ⟨k_243, k_3, k_241, k_242, by decide, by decide, by decide⟩
theorem yv_Wa_comeTo : YV y_Wa_comeTo b_Wa_comeTo 2 none 1 := ⟨k_210, k_3, k_208, k_209, by decide, by decide, by decide⟩
theorem yv_Wa_follow : YV y_Wa_follow b_Wa_follow 4 none 2 := ⟨k_214, k_3, k_212, k_213, by decide, by decide, by decide⟩
theorem yv_Wa_comeToSuccessors : YV y_Wa_comeToSuccessors b_Wa_comeToSuccessors 6 none 3 := ⟨k_218, k_3, k_217, kp_Wa_comeToSuccessors, by decide, by decide, by decide⟩
theorem yv_St_length : YV y_St_length b_St_length 1 (some .int) 0 := ⟨k_288, k_9, k_286, k_287, by decide, by decide, by decide⟩
theorem yv_St_coder : YV y_St_coder b_St_coder 1 (some .byte) 0 := ⟨k_292, k_9, k_290, k_291, by decide, by decide, by decide⟩
theorem yv_St_charAt : YV y_St_charAt b_St_charAt 2 (some .char) 1 := ⟨k_298, k_9, k_296, k_297, by decide, by decide, by decide⟩
theorem yv_St_isLatin1 : YV y_St_isLatin1 b_St_isLatin1 1 (some .boolean) 0 := ⟨k_302, k_9, k_300, k_301, by decide, by decide, by decide⟩
theorem ys_Sl_charAt : YS y_Sl_charAt b_Sl_charAt 2 (some .char) 2 := ⟨k_305, k_10, k_304, by decide, by decide, by decide⟩
theorem ys_St_checkIndex : YS y_St_checkIndex b_St_checkIndex 2 none 2 := ⟨k_308, k_9, k_307, by decide, by decide, by decide⟩
theorem ys_Pr_checkIndex : YS y_Pr_checkIndex b_Pr_checkIndex 3 (some .int) 3 := ⟨k_313, k_11, k_312, by decide, by decide, by decide⟩
end
section
/-! The class's methods as functions of whole numbers (mirrors of the Java text). -/
theorem x_nI {x : Int32} (h : 0 ≤ x.toInt) : x = nI x.toInt.toNat := by
  rw [nI_iI, Int.toNat_of_nonneg h]
  exact iI_self x
theorem x_iI {x : Int32} {y : Int} (h : x.toInt = y) : x = iI y := by
  rw [← h]
  exact iI_self x
theorem x_yN {x : Int32} {y : Int} (h : x.toInt = y) (h0 : 0 ≤ y) : x = nI y.toNat := by
  rw [← h] at h0 ⊢
  exact x_nI h0
theorem bI_one {P : Prop} [Decidable P] (h : P) : bI true = bI (decide P) := by rw [decide_eq_true h]
theorem bI_zero {P : Prop} [Decidable P] (h : ¬ P) : bI false = bI (decide P) := by rw [decide_eq_false h]
def atZ (b : Nat → Nat) (n : Nat) (x : Int) : Int := if 0 ≤ x ∧ x < (n : Int) then (b x.toNat : Int) else -1
def kB (k : Nat) : Nat := if kN k = 0 then 1 else if kN k = 3 then 3 else 2
def kC (k : Nat) : Nat := 4 ^ kR k
def kFind (z : Int) : Nat → Nat → Option Nat
  | 0, _ => none
  | j + 1, k => if (kF k : Int) ≤ z ∧ z < ((kF k + kC k : Nat) : Int) then some k else kFind z j (k + 1)
def kd (z : Int) : Option Nat := kFind z 13 0
def ckd (b : Nat → Nat) (n : Nat) (x : Int) : Option Nat := match kd (atZ b n x) with
  | none => none
  | some k => if (kB k : Int) ≤ (n : Int) - x then some k else none
def cln (b : Nat → Nat) (n : Nat) (x : Int) : Nat := match ckd b n x with
  | none => 0
  | some k => kB k
def sx8 (v : Nat) : Int := if v < 128 then (v : Int) else (v : Int) - 256
def num (b : Nat → Nat) (a k : Nat) : Int := if kN k = 1 then (b (a + 1) : Int) else if kN k = 2 then sx8 (b (a + 1)) else if kN k = 3 then ((256 * b (a + 1) + b (a + 2) : Nat) : Int) else 0
def clrB (m : Nat → Bool) (k : Nat) : Nat → Bool := fun i => if i < k then false else m i
abbrev wkT : Type := (Nat → Nat) × (Nat → Bool) × Nat
def cm (ad : Nat) (s : wkT) (x : Int) : wkT := if 0 ≤ x ∧ x < (ad : Int) ∧ s.2.1 x.toNat = false ∧ s.2.2 < 160 then (updN s.1 s.2.2 x.toNat, updB s.2.1 x.toNat true, s.2.2 + 1) else s
def wk0 (fd : Nat → Nat) : wkT := (fd, fun _ => false, 0)
def fallsB (k : Nat) : Bool := decide (k ≠ 1 ∧ k ≠ 2 ∧ k ≠ 7)
def suc1 (b : Nat → Nat) (ad a k : Nat) (s : wkT) : wkT := if fallsB k = true then cm ad s ((a + kB k : Nat) : Int) else s
def suc2 (b : Nat → Nat) (ad a k : Nat) (s : wkT) : wkT := if k = 10 then cm ad s (((a + kB k : Nat) : Int) + num b a k) else s
def suc3 (b : Nat → Nat) (ad a k : Nat) (cs : Bool) (s : wkT) : wkT := if k = 7 ∨ k = 9 ∨ (k = 8 ∧ cs = true) then cm ad s (num b a k) else s
def suc (b : Nat → Nat) (n ad : Nat) (cs : Bool) (a : Nat) (s : wkT) : wkT := match ckd b n (a : Int) with
  | none => s
  | some k => suc3 b ad a k cs (suc2 b ad a k (suc1 b ad a k s))
def fol (b : Nat → Nat) (n ad : Nat) (cs : Bool) : Nat → Nat → wkT → wkT
  | 0, _, s => s
  | j + 1, k, s => if k < s.2.2 then fol b n ad cs j (k + 1) (suc b n ad cs (s.1 k) s) else s
abbrev txT : Type := (Nat → Nat) × Nat
def ap1 (s : txT) (c : Nat) : txT := (updN s.1 s.2 c, s.2 + 1)
def ap (s : txT) (l : List Nat) : txT := l.foldl ap1 s
def dgL (a u : Nat) : List Nat := if u ≤ a ∨ u = 1 then [48 + a / u % 10] else []
def nuF (a : Nat) : Nat → List Nat
  | 0 => []
  | j + 1 => dgL a (10 ^ j) ++ nuF a j
def nuL (v : Int) : List Nat := (if v < 0 then [45] else []) ++ nuF v.natAbs 5
def cmL (k : Nat) : List Nat := if 0 < k then [44] else []
def rgF (rc g : Nat) : Nat → Nat → List Nat
  | 0, _ => []
  | j + 1, k => cmL k ++ [114, 48 + g / 4 ^ (rc - 1 - k) % 4] ++ rgF rc g j (k + 1)
def rgL (k g : Nat) : List Nat := rgF (kR k) g (kR k) 0
def lnL (k g : Nat) (v : Int) : List Nat := opL k ++ rgL k g ++ (if kN k = 0 then [] else cmL (kR k) ++ nuL v) ++ [10]
abbrev rdT : Type := Nat × Bool
def tk (t : Nat → Nat) (n c : Nat) (r : rdT) : rdT := if atZ t n (r.1 : Int) = (c : Int) then (r.1 + 1, r.2) else (r.1, false)
def tkC (t : Nat → Nat) (n k : Nat) (r : rdT) : rdT := if 0 < k then tk t n 44 r else r
def mL (t : Nat → Nat) (n : Nat) : Nat → List Nat → Bool
  | _, [] => true
  | p, c :: l => if atZ t n (p : Int) = (c : Int) then mL t n (p + 1) l else false
def tkKF (t : Nat → Nat) (n p : Nat) : Nat → Nat → Option Nat
  | 0, _ => none
  | j + 1, k => if mL t n p (opL k) = true then some k else tkKF t n p j (k + 1)
def tkK1 (t : Nat → Nat) (n : Nat) (r : rdT) : Option Nat := tkKF t n r.1 14 0
def tkK2 (t : Nat → Nat) (n : Nat) (r : rdT) : rdT := match tkK1 t n r with
  | none => (r.1, false)
  | some k => (r.1 + (opL k).length, r.2)
def tkR1 (t : Nat → Nat) (n : Nat) (r : rdT) : Nat := if atZ t n ((tk t n 114 r).1 : Int) - 48 < 0 ∨ 3 < atZ t n ((tk t n 114 r).1 : Int) - 48 then 0 else (atZ t n ((tk t n 114 r).1 : Int) - 48).toNat
def tkR2 (t : Nat → Nat) (n : Nat) (r : rdT) : rdT := if atZ t n ((tk t n 114 r).1 : Int) - 48 < 0 ∨ 3 < atZ t n ((tk t n 114 r).1 : Int) - 48 then ((tk t n 114 r).1, false) else ((tk t n 114 r).1 + 1, (tk t n 114 r).2)
def tkAF (t : Nat → Nat) (n : Nat) : Nat → Nat → Nat → Nat × Nat
  | 0, p, a => (p, a)
  | j + 1, p, a => if 48 ≤ atZ t n (p : Int) ∧ atZ t n (p : Int) ≤ 57 then tkAF t n j (p + 1) (10 * a + (atZ t n (p : Int)).toNat - 48) else (p, a)
def tkA1 (t : Nat → Nat) (n : Nat) (r : rdT) : Nat := (tkAF t n 5 r.1 0).2
def tkA2 (t : Nat → Nat) (n : Nat) (r : rdT) : rdT := ((tkAF t n 5 r.1 0).1, if (tkAF t n 5 r.1 0).1 - r.1 = 0 ∨ (1 < (tkAF t n 5 r.1 0).1 - r.1 ∧ atZ t n (r.1 : Int) = 48) then false else r.2)
def tkNs (t : Nat → Nat) (n : Nat) (r : rdT) : rdT := if atZ t n (r.1 : Int) = 45 then (r.1 + 1, r.2) else r
def tkN1 (t : Nat → Nat) (n : Nat) (r : rdT) : Int := if atZ t n (r.1 : Int) = 45 then -(tkA1 t n (tkNs t n r) : Int) else (tkA1 t n (tkNs t n r) : Int)
def tkN2 (t : Nat → Nat) (n : Nat) (lo hi : Int) (r : rdT) : rdT := ((tkA2 t n (tkNs t n r)).1, if (atZ t n (r.1 : Int) = 45 ∧ tkA1 t n (tkNs t n r) = 0) ∨ tkN1 t n r < lo ∨ hi < tkN1 t n r then false else (tkA2 t n (tkNs t n r)).2)
def rdRF (t : Nat → Nat) (n : Nat) : Nat → Nat → rdT → Nat → rdT × Nat
  | 0, _, r, g => (r, g)
  | j + 1, k, r, g => rdRF t n j (k + 1) (tkR2 t n (tkC t n k r)) (4 * g + tkR1 t n (tkC t n k r))
def rdR (t : Nat → Nat) (n k : Nat) (r : rdT) : rdT × Nat := rdRF t n (kR k) 0 r 0
def loN (m : Nat) : Int := if m = 2 then -128 else 0
def hiN (m : Nat) : Int := if m = 2 then 127 else if m = 3 then 65535 else 255
def rdN1 (t : Nat → Nat) (n k : Nat) (r : rdT) : Int := if kN k = 0 then 0 else tkN1 t n (tkC t n (kR k) r)
def rdN2 (t : Nat → Nat) (n k : Nat) (r : rdT) : rdT := if kN k = 0 then r else tkN2 t n (loN (kN k)) (hiN (kN k)) (tkC t n (kR k) r)
abbrev abT : Type := (Nat → Int32) × Nat
def adB (s : abT) (x : Int32) : abT := (if s.2 < 160 then upd s.1 s.2 x else s.1, s.2 + 1)
def adBs (k g : Nat) (v : Int) (s : abT) : abT :=
  let s1 := if k = 13 then s else adB s (nI (kF k + g))
  let s2 := if kN k = 3 then adB s1 (iI v >>> ((8 : Int32) &&& 31)) else s1
  if kN k = 0 then s2 else adB s2 (iI v &&& 255)
def rdLr (t : Nat → Nat) (n : Nat) (r : rdT) : rdT := match tkK1 t n r with
  | none => tkK2 t n r
  | some k => tk t n 10 (rdN2 t n k (rdR t n k (tkK2 t n r)).1)
def rdLs (t : Nat → Nat) (n : Nat) (r : rdT) (s : abT) : abT := match tkK1 t n r with
  | none => s
  | some k => adBs k (rdR t n k (tkK2 t n r)).2 (rdN1 t n k (rdR t n k (tkK2 t n r)).1) s
def rdF (t : Nat → Nat) (n : Nat) : Nat → rdT → abT → rdT × abT
  | 0, r, s => (r, s)
  | j + 1, r, s => if r.2 = true ∧ r.1 < n then rdF t n j (rdLr t n r) (rdLs t n r s) else (r, s)
def rd (t : Nat → Nat) (n : Nat) (f : Nat → Int32) : rdT × abT := rdF t n 2400 (0, true) (f, 0)
end
section
theorem kB_pos (k : Nat) : 1 ≤ kB k ∧ kB k ≤ 3 := by
  unfold kB
  split
  · omega
  · split <;> omega
theorem shl_kC (k : Nat) (h : k < 14) : nI 1 <<< (nI (2 * kR k) &&& 31) = nI (kC k) := by
  have q : ∀ k, k < 14 → nI 1 <<< (nI (2 * kR k) &&& 31) = nI (kC k) := by decide +kernel
  exact q k h
theorem kF_lt (k : Nat) : kF k ≤ 116 := by
  by_cases h : k < 14
  · have q : ∀ k, k < 14 → kF k ≤ 116 := by decide +kernel
    exact q k h
  · unfold kF
    rw [List.getD_eq_getElem?_getD, List.getElem?_eq_none (by simp; omega)]
    exact Nat.zero_le _
theorem kR_le (k : Nat) : kR k ≤ 2 := by
  by_cases h : k < 14
  · have q : ∀ k, k < 14 → kR k ≤ 2 := by decide +kernel
    exact q k h
  · unfold kR
    rw [List.getD_eq_getElem?_getD, List.getElem?_eq_none (by simp; omega)]
    exact Nat.zero_le _
theorem kC_lt (k : Nat) : 1 ≤ kC k ∧ kC k ≤ 16 := by
  unfold kC
  have h := kR_le k
  rcases (show kR k = 0 ∨ kR k = 1 ∨ kR k = 2 by omega) with e | e | e <;> rw [e] <;> decide
theorem kN_cases (k : Nat) (h : k < 14) : kN k = 0 ∨ kN k = 1 ∨ kN k = 2 ∨ kN k = 3 := by
  have q : ∀ k, k < 14 → kN k = 0 ∨ kN k = 1 ∨ kN k = 2 ∨ kN k = 3 := by decide +kernel
  exact q k h
theorem kFind_lt {z : Int} : ∀ (j k k' : Nat), kFind z j k = some k' → k' < k + j := by
  intro j
  induction j with
  | zero => intro k k' h; cases h
  | succ j ih =>
    intro k k' h
    simp only [kFind] at h
    by_cases q : (kF k : Int) ≤ z ∧ z < ((kF k + kC k : Nat) : Int)
    · rw [if_pos q] at h
      cases h
      omega
    · rw [if_neg q] at h
      have := ih (k + 1) k' h
      omega
theorem kd_lt {z : Int} {k : Nat} (h : kd z = some k) : k < 13 := by
  have := kFind_lt 13 0 k h
  omega
theorem kd_m1 : kd (-1) = none := by decide +kernel
theorem kd_held {b : Nat → Nat} {n k : Nat} {x : Int} (h : kd (atZ b n x) = some k) : 0 ≤ x ∧ x < (n : Int) := by
  unfold atZ at h
  by_cases q : 0 ≤ x ∧ x < (n : Int)
  · exact q
  · rw [if_neg q, kd_m1] at h
    cases h
theorem atZ_in {b : Nat → Nat} {n M : Nat} {x : Int} (hb : ∀ i, b i < M) : -1 ≤ atZ b n x ∧ atZ b n x < (M : Int) := by
  have h0 := hb 0
  unfold atZ
  split
  · have := hb x.toNat
    omega
  · omega
theorem atZ_toInt {b : Nat → Nat} {n : Nat} {x : Int} (hb : ∀ i, b i < 256) : (iI (atZ b n x)).toInt = atZ b n x := by
  have := atZ_in (n := n) (x := x) hb
  exact iI_toInt (by omega) (by omega)
theorem atZ_n {b : Nat → Nat} {n i : Nat} (h : i < n) : atZ b n ((i : Nat) : Int) = (b i : Int) := by
  unfold atZ
  rw [if_pos (by omega), Int.toNat_natCast]
theorem i2b_n {v : Nat} (h : v < 256) : (nI v).toInt8.toInt32 = iI (sx8 v) := by
  have q : ∀ v, v < 256 → (nI v).toInt8.toInt32 = iI (sx8 v) := by decide +kernel
  exact q v h
theorem ckd_n {b : Nat → Nat} {n : Nat} {x : Int} (e : kd (atZ b n x) = none) : ckd b n x = none := by
  unfold ckd
  rw [e]
theorem ckd_y {b : Nat → Nat} {n k : Nat} {x : Int} (e : kd (atZ b n x) = some k) (h : (kB k : Int) ≤ (n : Int) - x) : ckd b n x = some k := by
  unfold ckd
  rw [e]
  exact if_pos h
theorem ckd_z {b : Nat → Nat} {n k : Nat} {x : Int} (e : kd (atZ b n x) = some k) (h : ¬ (kB k : Int) ≤ (n : Int) - x) : ckd b n x = none := by
  unfold ckd
  rw [e]
  exact if_neg h
theorem ckd_lt {b : Nat → Nat} {n k : Nat} {x : Int} (e : ckd b n x = some k) : k < 14 := by
  unfold ckd at e
  cases q : kd (atZ b n x) with
  | none => rw [q] at e; cases e
  | some k' =>
    rw [q] at e
    simp only at e
    have := kd_lt q
    by_cases w : (kB k' : Int) ≤ (n : Int) - x
    · rw [if_pos w] at e
      cases e
      omega
    · rw [if_neg w] at e
      cases e
def wok (s : wkT) : Prop := s.2.2 ≤ 160 ∧ ∀ i, i < s.2.2 → s.1 i < 160
theorem wk0_ok (fd : Nat → Nat) : wok (wk0 fd) := ⟨Nat.zero_le _, fun i h => absurd h (Nat.not_lt_zero _)⟩
theorem cm_y {ad : Nat} {s : wkT} {x : Int} (h : 0 ≤ x ∧ x < (ad : Int) ∧ s.2.1 x.toNat = false ∧ s.2.2 < 160) : cm ad s x = (updN s.1 s.2.2 x.toNat, updB s.2.1 x.toNat true, s.2.2 + 1) := if_pos h
theorem cm_n {ad : Nat} {s : wkT} {x : Int} (h : ¬ (0 ≤ x ∧ x < (ad : Int) ∧ s.2.1 x.toNat = false ∧ s.2.2 < 160)) : cm ad s x = s := if_neg h
theorem cm_ok {ad : Nat} {s : wkT} {x : Int} (ha : ad ≤ 160) (h : wok s) : wok (cm ad s x) := by
  by_cases q : 0 ≤ x ∧ x < (ad : Int) ∧ s.2.1 x.toNat = false ∧ s.2.2 < 160
  · rw [cm_y q]
    refine ⟨by show s.2.2 + 1 ≤ 160; omega, fun i hi => ?_⟩
    have hi : i < s.2.2 + 1 := hi
    show updN s.1 s.2.2 x.toNat i < 160
    unfold updN
    split
    · omega
    · exact h.2 i (by omega)
  · rw [cm_n q]
    exact h
theorem suc_ok {b : Nat → Nat} {n ad a : Nat} {cs : Bool} {s : wkT} (ha : ad ≤ 160) (h : wok s) : wok (suc b n ad cs a s) := by
  unfold suc
  cases ckd b n (a : Int) with
  | none => exact h
  | some k =>
    have h1 : wok (suc1 b ad a k s) := by
      unfold suc1
      split
      · exact cm_ok ha h
      · exact h
    have h2 : wok (suc2 b ad a k (suc1 b ad a k s)) := by
      unfold suc2
      split
      · exact cm_ok ha h1
      · exact h1
    show wok (suc3 b ad a k cs (suc2 b ad a k (suc1 b ad a k s)))
    unfold suc3
    split
    · exact cm_ok ha h2
    · exact h2
theorem clr_step {g : Nat → Bool} {k : Nat} (hg : ∀ i, i < k → g i = false) : ∀ i, i < k + 1 → updB g k false i = false := by
  intro i hi
  by_cases e : i = k
  · rw [e]
    simp [updB]
  · simp only [updB, if_neg e]
    exact hg i (by omega)
theorem min_n {n : Nat} (h : n ≤ 160) : (if nI 160 < nI n then nI 160 else nI n) = nI n := if_neg (nI_nlt h (by decide))
theorem ckd_in {b : Nat → Nat} {n a k : Nat} (e : ckd b n (a : Int) = some k) : k < 14 ∧ a + kB k ≤ n := by
  refine ⟨ckd_lt e, ?_⟩
  unfold ckd at e
  cases q : kd (atZ b n (a : Int)) with
  | none => rw [q] at e; cases e
  | some k' =>
    rw [q] at e
    simp only at e
    by_cases w : (kB k' : Int) ≤ (n : Int) - (a : Int)
    · rw [if_pos w] at e
      cases e
      omega
    · rw [if_neg w] at e
      cases e
theorem num_in {b : Nat → Nat} {a k : Nat} (hb : ∀ i, b i < 256) : -128 ≤ num b a k ∧ num b a k ≤ 65535 := by
  have h1 := hb (a + 1)
  have h2 := hb (a + 2)
  unfold num sx8
  split
  · omega
  · split
    · split <;> omega
    · split <;> omega
theorem suc_none {b : Nat → Nat} {n ad a : Nat} {cs : Bool} {s : wkT} (e : ckd b n (a : Int) = none) : suc b n ad cs a s = s := by
  unfold suc
  rw [e]
theorem suc_some {b : Nat → Nat} {n ad a k : Nat} {cs : Bool} {s : wkT} (e : ckd b n (a : Int) = some k) : suc b n ad cs a s = suc3 b ad a k cs (suc2 b ad a k (suc1 b ad a k s)) := by
  unfold suc
  rw [e]
def dr (s : txT) : txT := (s.1, 0)
def r00 : rdT := (0, true)
def pu (s : txT) (i v : Nat) : txT := (updN s.1 i v, max s.2 (i + 1))
theorem pu_add (s : txT) (v : Nat) : pu s s.2 v = ap1 s v := by
  unfold pu ap1
  rw [Nat.max_eq_right (by omega)]
theorem ap_cm_y {s : txT} {k : Nat} (h : 0 < k) : ap s (cmL k) = ap1 s 44 := by
  unfold cmL
  rw [if_pos h]
  rfl
theorem ap_cm_n {s : txT} {k : Nat} (h : ¬ 0 < k) : ap s (cmL k) = s := by
  unfold cmL
  rw [if_neg h]
  rfl
theorem max_n {a b : Nat} (ha : a < 2147483648) (hb : b < 2147483648) : (if nI a < nI b then nI b else nI a) = nI (max a b) := by
  by_cases h : a < b
  · rw [if_pos (nI_lt h hb), Nat.max_eq_right (by omega)]
  · rw [if_neg (nI_nlt (by omega) ha), Nat.max_eq_left (by omega)]
theorem i2c_n {n : Nat} (h : n < 65536) : ((nI n).toUInt32 % 65536).toInt32 = nI n := by
  rw [pk_char, pk_tn (by omega), Nat.mod_eq_of_lt h]
theorem abs_n {v : Int} (h1 : -65536 ≤ v) (h2 : v ≤ 65536) : (if 0 ≤ iI v then iI v else 0 - iI v) = nI v.natAbs := by
  have e0 : (0 : Int32) = iI 0 := by decide
  by_cases h : 0 ≤ v
  · rw [if_pos (by rw [zif0_ge, iI_toInt (by omega) (by omega)]; exact h), nI_iI]
    congr 1
    omega
  · rw [if_neg (by rw [zif0_ge, iI_toInt (by omega) (by omega)]; exact h), e0, iI_sub, nI_iI]
    congr 1
    omega
theorem ap_len (s : txT) (l : List Nat) : (ap s l).2 = s.2 + l.length := by
  induction l generalizing s with
  | nil => rfl
  | cons c l ih =>
    show (ap (ap1 s c) l).2 = _
    rw [ih]
    simp [ap1]
    omega
theorem ap_app (s : txT) (l1 l2 : List Nat) : ap s (l1 ++ l2) = ap (ap s l1) l2 := List.foldl_append
theorem ten_pow {j : Nat} (h : j ≤ 4) : 1 ≤ 10 ^ j ∧ 10 ^ j ≤ 10000 := by
  rcases (show j = 0 ∨ j = 1 ∨ j = 2 ∨ j = 3 ∨ j = 4 by omega) with e | e | e | e | e <;> subst e <;> decide
theorem ten_div (j : Nat) : 10 ^ (j + 1) / 10 = 10 ^ j := by
  rw [Nat.pow_succ]
  omega
theorem ap_dg_y {s : txT} {a u : Nat} {l : List Nat} (h : u ≤ a ∨ u = 1) : ap s (dgL a u ++ l) = ap (ap1 s (48 + a / u % 10)) l := by
  unfold dgL
  rw [if_pos h]
  rfl
theorem ap_dg_n {s : txT} {a u : Nat} {l : List Nat} (h : ¬ (u ≤ a ∨ u = 1)) : ap s (dgL a u ++ l) = ap s l := by
  unfold dgL
  rw [if_neg h]
  rfl
theorem drop_c {l : List Nat} {i : Nat} (h : i < l.length) : l.drop i = l.getD i 0 :: l.drop (i + 1) := by
  rw [List.drop_eq_getElem_cons h, List.getD_eq_getElem?_getD, List.getElem?_eq_getElem h]
  rfl
theorem op_bd : ∀ k, k < 14 → 3 ≤ (opL k).length ∧ (opL k).length ≤ 6 ∧ ∀ i, i < 6 → (opL k).getD i 0 < 128 := by decide +kernel
theorem shr3 {g e : Nat} (hg : g < 16) (he : e < 2) : nI g >>> (nI (2 * e) &&& 31) &&& nI 3 = nI (g / 4 ^ e % 4) := by
  have q : ∀ g, g < 16 → ∀ e, e < 2 → nI g >>> (nI (2 * e) &&& 31) &&& nI 3 = nI (g / 4 ^ e % 4) := by decide +kernel
  exact q g hg e he
theorem cm_len (k : Nat) : (cmL k).length ≤ 1 := by
  unfold cmL
  split <;> simp
end
section
/-! Least closed sets: both ways of looking for them end at the same marks. -/
def cntB (m : Nat → Bool) : Nat → Nat
  | 0 => 0
  | n + 1 => cntB m n + (if m n = true then 1 else 0)
theorem cntB_le (m : Nat → Bool) (n : Nat) : cntB m n ≤ n := by
  induction n with
  | zero => exact Nat.le_refl _
  | succ n ih =>
    simp only [cntB]
    split <;> omega
theorem cntB_same {m m' : Nat → Bool} {n : Nat} (h : ∀ i, i < n → m i = m' i) : cntB m n = cntB m' n := by
  induction n with
  | zero => rfl
  | succ n ih =>
    simp only [cntB]
    rw [ih (fun i hi => h i (by omega)), h n (by omega)]
theorem updB_self (m : Nat → Bool) (x : Nat) (v : Bool) : updB m x v x = v := by simp [updB]
theorem updB_other {m : Nat → Bool} {x y : Nat} {v : Bool} (h : y ≠ x) : updB m x v y = m y := by simp [updB, h]
theorem cntB_upd (m : Nat → Bool) (x n : Nat) (hx : x < n) (h : m x = false) : cntB (updB m x true) n = cntB m n + 1 := by
  induction n with
  | zero => omega
  | succ n ih =>
    simp only [cntB]
    by_cases hn : x = n
    · subst hn
      rw [cntB_same (m := updB m x true) (m' := m) (fun i hi => updB_other (by omega)), updB_self, h]
      simp
    · rw [ih (by omega), updB_other (m := m) (x := x) (y := n) (by omega)]
      omega
theorem cntB_lt {m : Nat → Bool} {x n : Nat} (hx : x < n) (h : m x = false) : cntB m n < n := by
  have h1 := cntB_upd m x n hx h
  have h2 := cntB_le (updB m x true) n
  omega
theorem cntB_mono {m m' : Nat → Bool} {n : Nat} (h : ∀ i, m i = true → m' i = true) : cntB m n ≤ cntB m' n := by
  induction n with
  | zero => exact Nat.le_refl _
  | succ n ih =>
    simp only [cntB]
    by_cases hn : m n = true
    · rw [if_pos hn, if_pos (h n hn)]
      omega
    · rw [if_neg hn]
      split <;> omega
def Cl (T : Nat → List Int) (n : Nat) (E S : Nat → Prop) : Prop := (∀ x, E x → S x) ∧ ∀ a, S a → ∀ y ∈ T a, 0 ≤ y → y < (n : Int) → S y.toNat
def Least (T : Nat → List Int) (n : Nat) (E : Nat → Prop) (m : Nat → Bool) : Prop := Cl T n E (fun x => m x = true) ∧ ∀ S : Nat → Prop, Cl T n E S → ∀ x, m x = true → S x
theorem Least.same {T : Nat → List Int} {n : Nat} {E : Nat → Prop} {m m' : Nat → Bool} (h1 : Least T n E m) (h2 : Least T n E m') : m = m' := by
  funext x
  have a : m x = true → m' x = true := h1.2 _ h2.1 x
  have b : m' x = true → m x = true := h2.2 _ h1.1 x
  cases hm : m x with
  | true => exact (a hm).symm
  | false =>
    cases hm' : m' x with
    | true => rw [b hm'] at hm; cases hm
    | false => rfl
/-- what a walk's state keeps: k addresses are done -/
def Iv (T : Nat → List Int) (n : Nat) (E : Nat → Prop) (k : Nat) (s : wkT) : Prop :=
  (∀ x, s.2.1 x = true → x < n) ∧ (∀ i, i < s.2.2 → s.2.1 (s.1 i) = true) ∧ (∀ x, s.2.1 x = true → ∃ i, i < s.2.2 ∧ s.1 i = x) ∧ s.2.2 = cntB s.2.1 n ∧
  (∀ i, i < k → i < s.2.2 → ∀ y ∈ T (s.1 i), 0 ≤ y → y < (n : Int) → s.2.1 y.toNat = true) ∧ ∀ S : Nat → Prop, Cl T n E S → ∀ x, s.2.1 x = true → S x
/-- s' goes on from s -/
def Mo (s s' : wkT) : Prop := (∀ x, s.2.1 x = true → s'.2.1 x = true) ∧ (∀ i, i < s.2.2 → s'.1 i = s.1 i) ∧ s.2.2 ≤ s'.2.2
theorem Mo.rf (s : wkT) : Mo s s := ⟨fun _ h => h, fun _ _ => rfl, Nat.le_refl _⟩
theorem Mo.tr {s s' s2 : wkT} (h : Mo s s') (h' : Mo s' s2) : Mo s s2 := ⟨fun x q => h'.1 x (h.1 x q), fun i q => (h'.2.1 i (Nat.lt_of_lt_of_le q h.2.2)).trans (h.2.1 i q), Nat.le_trans h.2.2 h'.2.2⟩
theorem cm_iv {T : Nat → List Int} {n k : Nat} {E : Nat → Prop} {s : wkT} {y : Int} (hn : n ≤ 160) (h : Iv T n E k s) (hk : k ≤ s.2.2) (hy : ∀ S : Nat → Prop, Cl T n E S → 0 ≤ y → y < (n : Int) → S y.toNat) :
    Iv T n E k (cm n s y) ∧ Mo s (cm n s y) ∧ (0 ≤ y → y < (n : Int) → (cm n s y).2.1 y.toNat = true) := by
  obtain ⟨h1, h2, h3, h4, h5, h6⟩ := h
  by_cases hc : 0 ≤ y ∧ y < (n : Int) ∧ s.2.1 y.toNat = false ∧ s.2.2 < 160
  · obtain ⟨c1, c2, c3, c4⟩ := hc
    have hx : y.toNat < n := by omega
    have e : cm n s y = (updN s.1 s.2.2 y.toNat, updB s.2.1 y.toNat true, s.2.2 + 1) := if_pos ⟨c1, c2, c3, c4⟩
    rw [e]
    have mon : ∀ x, s.2.1 x = true → updB s.2.1 y.toNat true x = true := by
      intro x hx
      by_cases q : x = y.toNat
      · rw [q, updB_self]
      · rw [updB_other q]; exact hx
    have old : ∀ i, i < s.2.2 → updN s.1 s.2.2 y.toNat i = s.1 i := by
      intro i hi
      have q : i ≠ s.2.2 := by omega
      simp [updN, q]
    have new : updN s.1 s.2.2 y.toNat s.2.2 = y.toNat := by simp [updN]
    refine ⟨⟨?_, ?_, ?_, ?_, ?_, ?_⟩, ⟨mon, old, Nat.le_succ _⟩, fun _ _ => updB_self _ _ _⟩
    · intro x q
      by_cases hq : x = y.toNat
      · omega
      · exact h1 x (by rw [← updB_other (m := s.2.1) (v := true) hq]; exact q)
    · intro i hi
      by_cases q : i = s.2.2
      · subst q
        show updB s.2.1 y.toNat true (updN s.1 s.2.2 y.toNat s.2.2) = true
        rw [new, updB_self]
      · have hi' : i < s.2.2 + 1 := hi
        show updB s.2.1 y.toNat true (updN s.1 s.2.2 y.toNat i) = true
        rw [old i (by omega)]
        exact mon _ (h2 i (by omega))
    · intro x q
      by_cases hq : x = y.toNat
      · exact ⟨s.2.2, Nat.lt_succ_self _, by rw [hq]; exact new⟩
      · obtain ⟨i, g1, g2⟩ := h3 x (by rw [← updB_other (m := s.2.1) (v := true) hq]; exact q)
        exact ⟨i, Nat.lt_succ_of_lt g1, (old i g1).trans g2⟩
    · show s.2.2 + 1 = cntB (updB s.2.1 y.toNat true) n
      rw [cntB_upd _ _ _ hx c3, ← h4]
    · intro i hi hi2 y2 hy2 a1 a2
      have hi3 : i < s.2.2 := by omega
      have hy3 : y2 ∈ T (s.1 i) := by rw [← old i hi3]; exact hy2
      exact mon _ (h5 i hi hi3 y2 hy3 a1 a2)
    · intro S hS x q
      by_cases hq : x = y.toNat
      · rw [hq]; exact hy S hS c1 c2
      · exact h6 S hS x (by rw [← updB_other (m := s.2.1) (v := true) hq]; exact q)
  · have e : cm n s y = s := if_neg hc
    rw [e]
    refine ⟨⟨h1, h2, h3, h4, h5, h6⟩, Mo.rf s, fun c1 c2 => ?_⟩
    cases q : s.2.1 y.toNat with
    | true => rfl
    | false =>
      have := cntB_lt (n := n) (x := y.toNat) (by omega) q
      exact absurd ⟨c1, c2, q, by omega⟩ hc
theorem cms_iv {T : Nat → List Int} {n k : Nat} {E : Nat → Prop} (hn : n ≤ 160) : ∀ (L : List Int) (s : wkT), Iv T n E k s → k ≤ s.2.2 → (∀ y ∈ L, ∀ S : Nat → Prop, Cl T n E S → 0 ≤ y → y < (n : Int) → S y.toNat) →
    Iv T n E k (L.foldl (cm n) s) ∧ Mo s (L.foldl (cm n) s) ∧ ∀ y ∈ L, 0 ≤ y → y < (n : Int) → (L.foldl (cm n) s).2.1 y.toNat = true := by
  intro L
  induction L with
  | nil => exact fun s h _ _ => ⟨h, Mo.rf s, fun y hy => by cases hy⟩
  | cons y L ih =>
    intro s h hk hL
    obtain ⟨a1, a2, a3⟩ := cm_iv hn h hk (hL y List.mem_cons_self)
    obtain ⟨b1, b2, b3⟩ := ih (cm n s y) a1 (Nat.le_trans hk a2.2.2) (fun y2 h2 => hL y2 (List.mem_cons_of_mem _ h2))
    refine ⟨b1, a2.tr b2, fun y2 h2 c1 c2 => ?_⟩
    rcases List.mem_cons.mp h2 with rfl | h2
    · exact b2.1 _ (a3 c1 c2)
    · exact b3 y2 h2 c1 c2
def tg (b : Nat → Nat) (n : Nat) (cs : Bool) (a : Nat) : List Int := match ckd b n (a : Int) with
  | none => []
  | some k => (if fallsB k = true then [((a + kB k : Nat) : Int)] else []) ++ (if k = 10 then [((a + kB k : Nat) : Int) + num b a k] else []) ++ (if k = 7 ∨ k = 9 ∨ (k = 8 ∧ cs = true) then [num b a k] else [])
theorem foldl_one {α β : Type} (g : α → β → α) (s : α) (c : Prop) [Decidable c] (x : β) : (if c then [x] else []).foldl g s = if c then g s x else s := by
  by_cases h : c
  · rw [if_pos h, if_pos h]; rfl
  · rw [if_neg h, if_neg h]; rfl
theorem suc_tg (b : Nat → Nat) (n ad : Nat) (cs : Bool) (a : Nat) (s : wkT) : suc b n ad cs a s = (tg b n cs a).foldl (cm ad) s := by
  unfold suc tg
  cases ckd b n (a : Int) with
  | none => rfl
  | some k =>
    show suc3 b ad a k cs (suc2 b ad a k (suc1 b ad a k s)) = _
    rw [List.foldl_append, List.foldl_append, foldl_one, foldl_one, foldl_one]
    rfl
theorem fol_iv {b : Nat → Nat} {n : Nat} {cs : Bool} {E : Nat → Prop} (hn : n ≤ 160) : ∀ (j k : Nat) (s : wkT), j + k = 160 → k ≤ s.2.2 → Iv (tg b n cs) n E k s →
    Iv (tg b n cs) n E (fol b n n cs j k s).2.2 (fol b n n cs j k s) ∧ Mo s (fol b n n cs j k s) := by
  intro j
  induction j with
  | zero =>
    intro k s hk hc h
    have h4 := h.2.2.2.1
    have := cntB_le s.2.1 n
    have e : k = s.2.2 := by omega
    subst e
    exact ⟨h, Mo.rf s⟩
  | succ j ih =>
    intro k s hk hc h
    by_cases hlt : k < s.2.2
    · have e : fol b n n cs (j + 1) k s = fol b n n cs j (k + 1) (suc b n n cs (s.1 k) s) := if_pos hlt
      rw [e, suc_tg]
      obtain ⟨a1, a2, a3⟩ := cms_iv (T := tg b n cs) (n := n) (k := k) (E := E) hn (tg b n cs (s.1 k)) s h hc (fun y hy S hS c1 c2 => hS.2 _ (h.2.2.2.2.2 S hS _ (h.2.1 k hlt)) y hy c1 c2)
      generalize (tg b n cs (s.1 k)).foldl (cm n) s = s' at a1 a2 a3
      have hk1 : k + 1 ≤ s'.2.2 := Nat.le_trans hlt a2.2.2
      obtain ⟨b1, b2⟩ := ih (k + 1) s' (by omega) hk1 ⟨a1.1, a1.2.1, a1.2.2.1, a1.2.2.2.1, fun i hi hi2 y hy c1 c2 => by
        by_cases q : i = k
        · subst q
          rw [a2.2.1 i hlt] at hy
          exact a3 y hy c1 c2
        · exact a1.2.2.2.2.1 i (by omega) hi2 y hy c1 c2, a1.2.2.2.2.2⟩
      exact ⟨b1, a2.tr b2⟩
    · have e : fol b n n cs (j + 1) k s = s := if_neg hlt
      rw [e]
      have e2 : k = s.2.2 := by omega
      subst e2
      exact ⟨h, Mo.rf s⟩
theorem iv_least {T : Nat → List Int} {n : Nat} {E : Nat → Prop} {s : wkT} (h : Iv T n E s.2.2 s) (hE : ∀ x, E x → s.2.1 x = true) : Least T n E s.2.1 := by
  obtain ⟨h1, h2, h3, h4, h5, h6⟩ := h
  refine ⟨⟨hE, fun a ha y hy c1 c2 => ?_⟩, h6⟩
  obtain ⟨i, g1, g2⟩ := h3 a ha
  subst g2
  exact h5 i g1 g1 y hy c1 c2
theorem wk0_iv (T : Nat → List Int) (n : Nat) (E : Nat → Prop) (fd : Nat → Nat) : Iv T n E 0 (wk0 fd) := by
  have hc : cntB (fun _ => false) n = 0 := by
    induction n with
    | zero => rfl
    | succ n ih => simp [cntB, ih]
  exact ⟨fun x h => by simp [wk0] at h, fun i h => absurd h (Nat.not_lt_zero _), fun x h => by simp [wk0] at h, hc.symm, fun i h => absurd h (Nat.not_lt_zero _), fun S _ x h => by simp [wk0] at h⟩
/-- the class: from a list of starts -/
theorem cls_least {b : Nat → Nat} {n : Nat} {cs : Bool} (hn : n ≤ 160) (fd : Nat → Nat) (L : List Int) :
    Least (tg b n cs) n (fun x => (x : Int) ∈ L ∧ x < n) (fol b n n cs 160 0 (L.foldl (cm n) (wk0 fd))).2.1 ∧ (fol b n n cs 160 0 (L.foldl (cm n) (wk0 fd))).2.2 = cntB (fol b n n cs 160 0 (L.foldl (cm n) (wk0 fd))).2.1 n ∧ ∀ x, (fol b n n cs 160 0 (L.foldl (cm n) (wk0 fd))).2.1 x = true → x < n := by
  obtain ⟨a1, a2, a3⟩ := cms_iv (T := tg b n cs) (n := n) (k := 0) (E := fun x => (x : Int) ∈ L ∧ x < n) hn L (wk0 fd) (wk0_iv _ _ _ _) (Nat.zero_le _) (fun y hy S hS c1 c2 => hS.1 _ ⟨by rw [Int.toNat_of_nonneg c1]; exact hy, by omega⟩)
  obtain ⟨b1, b2⟩ := fol_iv (b := b) (cs := cs) hn 160 0 _ rfl (Nat.zero_le _) a1
  refine ⟨iv_least b1 (fun x hx => b2.1 x ?_), b1.2.2.2.1, b1.1⟩
  have := a3 (x : Int) hx.1 (by omega) (by have := hx.2; omega)
  simpa using this
/-! the reference: rounds over all addresses until a round marks nothing -/
def msM (n : Nat) (m : Nat → Bool) (x : Int) : Nat → Bool := if 0 ≤ x ∧ x < (n : Int) ∧ m x.toNat = false then updB m x.toNat true else m
def msN (n : Nat) (m : Nat → Bool) (x : Int) : Bool := decide (0 ≤ x ∧ x < (n : Int) ∧ m x.toNat = false)
abbrev mkT : Type := (Nat → Bool) × Bool
def ms1 (n : Nat) (q : mkT) (x : Int) : mkT := (msM n q.1 x, q.2 || msN n q.1 x)
def mrF (T : Nat → List Int) (n : Nat) : Nat → Nat → mkT → mkT
  | 0, _, q => q
  | j + 1, a, q => if q.1 a = true then mrF T n j (a + 1) ((T a).foldl (ms1 n) q) else mrF T n j (a + 1) q
def mcF (T : Nat → List Int) (n : Nat) : Nat → mkT → mkT
  | 0, q => q
  | j + 1, q => if q.2 = true then mcF T n j (mrF T n n 0 (q.1, false)) else q
/-- marks lie below n and in every closed set; s' goes on from s, with news just where something is new -/
def Jv (T : Nat → List Int) (n : Nat) (E : Nat → Prop) (m : Nat → Bool) : Prop := (∀ x, m x = true → x < n) ∧ ∀ S : Nat → Prop, Cl T n E S → ∀ x, m x = true → S x
def Nw (n : Nat) (q q' : mkT) : Prop := (∀ x, q.1 x = true → q'.1 x = true) ∧ ((q'.2 = true → q.2 = true ∨ cntB q.1 n < cntB q'.1 n) ∧ (q'.2 = false → q.2 = false ∧ q'.1 = q.1))
theorem Nw.rf (n : Nat) (q : mkT) : Nw n q q := ⟨fun _ h => h, fun h => Or.inl h, fun h => ⟨h, rfl⟩⟩
theorem Nw.tr {n : Nat} {q q' q2 : mkT} (h : Nw n q q') (h' : Nw n q' q2) : Nw n q q2 := by
  refine ⟨fun x a => h'.1 x (h.1 x a), fun a => ?_, fun a => ?_⟩
  · rcases h'.2.1 a with b | b
    · rcases h.2.1 b with c | c
      · exact Or.inl c
      · exact Or.inr (Nat.lt_of_lt_of_le c (cntB_mono h'.1))
    · exact Or.inr (Nat.lt_of_le_of_lt (cntB_mono h.1) b)
  · obtain ⟨b, c⟩ := h'.2.2 a
    obtain ⟨d, e⟩ := h.2.2 b
    exact ⟨d, c.trans e⟩
theorem ms1_nw {T : Nat → List Int} {n : Nat} {E : Nat → Prop} {q : mkT} {y : Int} (h : Jv T n E q.1) (hy : ∀ S : Nat → Prop, Cl T n E S → 0 ≤ y → y < (n : Int) → S y.toNat) :
    Jv T n E (ms1 n q y).1 ∧ Nw n q (ms1 n q y) ∧ (0 ≤ y → y < (n : Int) → (ms1 n q y).1 y.toNat = true) := by
  by_cases hc : 0 ≤ y ∧ y < (n : Int) ∧ q.1 y.toNat = false
  · have e : ms1 n q y = (updB q.1 y.toNat true, true) := by
      have e1 : msM n q.1 y = updB q.1 y.toNat true := if_pos hc
      have e2 : msN n q.1 y = true := decide_eq_true hc
      unfold ms1
      rw [e1, e2, Bool.or_true]
    rw [e]
    have mon : ∀ x, q.1 x = true → updB q.1 y.toNat true x = true := by
      intro x hx
      by_cases w : x = y.toNat
      · rw [w, updB_self]
      · rw [updB_other w]; exact hx
    refine ⟨⟨fun x a => ?_, fun S hS x a => ?_⟩, ⟨mon, fun _ => Or.inr ?_, fun a => by cases a⟩, fun _ _ => updB_self _ _ _⟩
    · by_cases w : x = y.toNat
      · omega
      · exact h.1 x (by rw [← updB_other (m := q.1) (v := true) w]; exact a)
    · by_cases w : x = y.toNat
      · rw [w]; exact hy S hS hc.1 hc.2.1
      · exact h.2 S hS x (by rw [← updB_other (m := q.1) (v := true) w]; exact a)
    · show cntB q.1 n < cntB (updB q.1 y.toNat true) n
      rw [cntB_upd _ _ _ (by omega) hc.2.2]
      exact Nat.lt_succ_self _
  · have e : ms1 n q y = q := by
      have e1 : msM n q.1 y = q.1 := if_neg hc
      have e2 : msN n q.1 y = false := decide_eq_false hc
      unfold ms1
      rw [e1, e2, Bool.or_false]
    rw [e]
    refine ⟨h, Nw.rf n q, fun c1 c2 => ?_⟩
    cases w : q.1 y.toNat with
    | true => rfl
    | false => exact absurd ⟨c1, c2, w⟩ hc
theorem mss_nw {T : Nat → List Int} {n : Nat} {E : Nat → Prop} : ∀ (L : List Int) (q : mkT), Jv T n E q.1 → (∀ y ∈ L, ∀ S : Nat → Prop, Cl T n E S → 0 ≤ y → y < (n : Int) → S y.toNat) →
    Jv T n E (L.foldl (ms1 n) q).1 ∧ Nw n q (L.foldl (ms1 n) q) ∧ ∀ y ∈ L, 0 ≤ y → y < (n : Int) → (L.foldl (ms1 n) q).1 y.toNat = true := by
  intro L
  induction L with
  | nil => exact fun q h _ => ⟨h, Nw.rf n q, fun y hy => by cases hy⟩
  | cons y L ih =>
    intro q h hL
    obtain ⟨a1, a2, a3⟩ := ms1_nw h (hL y List.mem_cons_self)
    obtain ⟨b1, b2, b3⟩ := ih (ms1 n q y) a1 (fun y2 h2 => hL y2 (List.mem_cons_of_mem _ h2))
    refine ⟨b1, a2.tr b2, fun y2 h2 c1 c2 => ?_⟩
    rcases List.mem_cons.mp h2 with rfl | h2
    · exact b2.1 _ (a3 c1 c2)
    · exact b3 y2 h2 c1 c2
/-- a round: from address a on; if nothing was new, it was closed from a on -/
theorem mrF_nw {T : Nat → List Int} {n : Nat} {E : Nat → Prop} : ∀ (j a : Nat) (q : mkT), a + j = n → Jv T n E q.1 →
    Jv T n E (mrF T n j a q).1 ∧ Nw n q (mrF T n j a q) ∧ ((mrF T n j a q).2 = false → ∀ x, a ≤ x → q.1 x = true → ∀ y ∈ T x, 0 ≤ y → y < (n : Int) → q.1 y.toNat = true) := by
  intro j
  induction j with
  | zero =>
    intro a q ha h
    refine ⟨h, Nw.rf n q, fun _ x hx hq => ?_⟩
    have := h.1 x hq
    omega
  | succ j ih =>
    intro a q ha h
    by_cases hm : q.1 a = true
    · have e : mrF T n (j + 1) a q = mrF T n j (a + 1) ((T a).foldl (ms1 n) q) := if_pos hm
      rw [e]
      obtain ⟨a1, a2, a3⟩ := mss_nw (T := T) (n := n) (E := E) (T a) q h (fun y hy S hS c1 c2 => hS.2 a (h.2 S hS a hm) y hy c1 c2)
      obtain ⟨b1, b2, b3⟩ := ih (a + 1) _ (by omega) a1
      refine ⟨b1, a2.tr b2, fun w x hx hq y hy c1 c2 => ?_⟩
      obtain ⟨d1, d2⟩ := b2.2.2 w
      obtain ⟨-, d4⟩ := a2.2.2 d1
      by_cases hxa : x = a
      · subst hxa
        have := a3 y hy c1 c2
        rw [d4] at this
        exact this
      · have := b3 w x (by omega) (by rw [d4]; exact hq) y hy c1 c2
        rw [d4] at this
        exact this
    · have e : mrF T n (j + 1) a q = mrF T n j (a + 1) q := if_neg hm
      rw [e]
      obtain ⟨b1, b2, b3⟩ := ih (a + 1) q (by omega) h
      refine ⟨b1, b2, fun w x hx hq y hy c1 c2 => ?_⟩
      by_cases hxa : x = a
      · subst hxa
        exact absurd hq hm
      · exact b3 w x (by omega) hq y hy c1 c2
/-- rounds: with fuel beyond what can still be marked, the end is closed -/
theorem mcF_end {T : Nat → List Int} {n : Nat} {E : Nat → Prop} : ∀ (j : Nat) (q : mkT), n + 1 < j + cntB q.1 n → Jv T n E q.1 → (q.2 = false → ∀ x, q.1 x = true → ∀ y ∈ T x, 0 ≤ y → y < (n : Int) → q.1 y.toNat = true) →
    Jv T n E (mcF T n j q).1 ∧ (∀ x, q.1 x = true → (mcF T n j q).1 x = true) ∧ ∀ x, (mcF T n j q).1 x = true → ∀ y ∈ T x, 0 ≤ y → y < (n : Int) → (mcF T n j q).1 y.toNat = true := by
  intro j
  induction j with
  | zero =>
    intro q hj
    have := cntB_le q.1 n
    omega
  | succ j ih =>
    intro q hj h hc
    by_cases hq : q.2 = true
    · have e : mcF T n (j + 1) q = mcF T n j (mrF T n n 0 (q.1, false)) := if_pos hq
      rw [e]
      obtain ⟨a1, a2, a3⟩ := mrF_nw (T := T) (E := E) n 0 (q.1, false) (by omega) h
      generalize mrF T n n 0 (q.1, false) = q' at a1 a2 a3
      by_cases hn : q'.2 = true
      · have hlt : cntB q.1 n < cntB q'.1 n := by
          rcases a2.2.1 hn with w | w
          · cases w
          · exact w
        obtain ⟨b1, b2, b3⟩ := ih q' (by omega) a1 (fun w => by rw [hn] at w; cases w)
        exact ⟨b1, fun x hx => b2 x (a2.1 x hx), b3⟩
      · have hn' : q'.2 = false := by
          cases w : q'.2 with
          | true => exact absurd w hn
          | false => rfl
        obtain ⟨-, d⟩ := a2.2.2 hn'
        have d' : q'.1 = q.1 := d
        have ee : ∀ i, mcF T n i q' = q' := by
          intro i
          cases i with
          | zero => rfl
          | succ i => exact if_neg hn
        rw [ee]
        refine ⟨a1, fun x hx => by rw [d']; exact hx, fun x hx y hy c1 c2 => ?_⟩
        rw [d'] at hx ⊢
        exact a3 hn' x (Nat.zero_le _) hx y hy c1 c2
    · have e : mcF T n (j + 1) q = q := if_neg hq
      rw [e]
      have hq' : q.2 = false := by
        cases w : q.2 with
        | true => exact absurd w hq
        | false => rfl
      exact ⟨h, fun x hx => hx, hc hq'⟩
theorem ref_least {T : Nat → List Int} {n : Nat} {E : Nat → Prop} (hn : n ≤ 160) {m : Nat → Bool} (hm : ∀ x, m x = true ↔ E x) (hE : ∀ x, E x → x < n) : Least T n E (mcF T n 1000 (m, true)).1 ∧ ∀ x, (mcF T n 1000 (m, true)).1 x = true → x < n := by
  have h0 : Jv T n E m := ⟨fun x h => hE x ((hm x).mp h), fun S hS x h => hS.1 x ((hm x).mp h)⟩
  obtain ⟨a1, a2, a3⟩ := mcF_end (T := T) (n := n) (E := E) 1000 (m, true) (by have := cntB_le m n; show n + 1 < 1000 + cntB m n; omega) h0 (fun w => by cases w)
  exact ⟨⟨⟨fun x hx => a2 x ((hm x).mpr hx), a3⟩, a1.2⟩, a1.1⟩
end
section
/-! Reading a line: what the class takes is a line that it would write, and of those it finds each. -/
theorem mL_nil (t : Nat → Nat) (n p : Nat) : mL t n p [] = true := rfl
theorem mL_cons (t : Nat → Nat) (n p c : Nat) (l : List Nat) : mL t n p (c :: l) = true ↔ (atZ t n (p : Int) = (c : Int) ∧ mL t n (p + 1) l = true) := by
  simp only [mL]
  by_cases h : atZ t n (p : Int) = (c : Int)
  · rw [if_pos h]
    exact ⟨fun q => ⟨h, q⟩, fun q => q.2⟩
  · rw [if_neg h]
    exact ⟨fun q => (by cases q), fun q => absurd q.1 h⟩
theorem mL_app (t : Nat → Nat) (n : Nat) : ∀ (l1 l2 : List Nat) (p : Nat), mL t n p (l1 ++ l2) = true ↔ (mL t n p l1 = true ∧ mL t n (p + l1.length) l2 = true) := by
  intro l1
  induction l1 with
  | nil =>
    intro l2 p
    exact ⟨fun h => ⟨rfl, h⟩, fun h => h.2⟩
  | cons c l ih =>
    intro l2 p
    rw [List.cons_append, mL_cons, mL_cons, ih, and_assoc]
    have e : p + 1 + l.length = p + (c :: l).length := by simp; omega
    rw [e]
def clash : List Nat → List Nat → Bool
  | [], _ => false
  | _ :: _, [] => false
  | a :: x, b :: y => if a = b then clash x y else true
theorem clash_no {t : Nat → Nat} {n : Nat} : ∀ (l1 l2 : List Nat) (p : Nat), mL t n p l1 = true → mL t n p l2 = true → clash l1 l2 = false := by
  intro l1
  induction l1 with
  | nil => intro l2 p _ _; rfl
  | cons a x ih =>
    intro l2 p h1 h2
    cases l2 with
    | nil => rfl
    | cons b y =>
      rw [mL_cons] at h1 h2
      have e : a = b := by
        have := h1.1.symm.trans h2.1
        omega
      simp only [clash]
      rw [if_pos e]
      exact ih y (p + 1) h1.2 h2.2
theorem op_clash : ∀ j, j < 14 → ∀ k, k < 14 → j ≠ k → clash (opL j) (opL k) = true := by decide +kernel
theorem tkKF_some {t : Nat → Nat} {n p : Nat} : ∀ (j k k' : Nat), tkKF t n p j k = some k' → k' < k + j ∧ mL t n p (opL k') = true := by
  intro j
  induction j with
  | zero => intro k k' h; cases h
  | succ j ih =>
    intro k k' h
    simp only [tkKF] at h
    by_cases q : mL t n p (opL k) = true
    · rw [if_pos q] at h
      cases h
      exact ⟨by omega, q⟩
    · rw [if_neg q] at h
      obtain ⟨a, b⟩ := ih (k + 1) k' h
      exact ⟨by omega, b⟩
theorem tkKF_find {t : Nat → Nat} {n p k0 : Nat} (h0 : k0 < 14) (h : mL t n p (opL k0) = true) : ∀ (j k : Nat), k + j = 14 → k ≤ k0 → tkKF t n p j k = some k0 := by
  intro j
  induction j with
  | zero => intro k h1 h2; omega
  | succ j ih =>
    intro k h1 h2
    simp only [tkKF]
    by_cases q : mL t n p (opL k) = true
    · rw [if_pos q]
      by_cases e : k = k0
      · rw [e]
      · have a := op_clash k (by omega) k0 h0 e
        rw [clash_no _ _ p q h] at a
        cases a
    · rw [if_neg q]
      by_cases e : k = k0
      · rw [e] at q
        exact absurd h q
      · exact ih (k + 1) (by omega) (by omega)
theorem tk_true {t : Nat → Nat} {n c : Nat} {r : rdT} (h : (tk t n c r).2 = true) : r.2 = true ∧ mL t n r.1 [c] = true ∧ (tk t n c r).1 = r.1 + 1 := by
  unfold tk at h ⊢
  by_cases q : atZ t n (r.1 : Int) = (c : Int)
  · rw [if_pos q] at h ⊢
    exact ⟨h, (mL_cons _ _ _ _ _).mpr ⟨q, rfl⟩, rfl⟩
  · rw [if_neg q] at h
    cases h
theorem tk_of {t : Nat → Nat} {n c p : Nat} (h : mL t n p [c] = true) : tk t n c (p, true) = (p + 1, true) := if_pos ((mL_cons _ _ _ _ _).mp h).1
theorem tkC_true {t : Nat → Nat} {n k : Nat} {r : rdT} (h : (tkC t n k r).2 = true) : r.2 = true ∧ mL t n r.1 (cmL k) = true ∧ (tkC t n k r).1 = r.1 + (cmL k).length := by
  unfold tkC cmL at *
  by_cases q : 0 < k
  · rw [if_pos q] at h ⊢
    rw [if_pos q]
    exact tk_true h
  · rw [if_neg q] at h ⊢
    rw [if_neg q]
    exact ⟨h, rfl, rfl⟩
theorem tkC_of {t : Nat → Nat} {n k p : Nat} (h : mL t n p (cmL k) = true) : tkC t n k (p, true) = (p + (cmL k).length, true) := by
  unfold tkC cmL at *
  by_cases q : 0 < k
  · rw [if_pos q] at h ⊢
    rw [if_pos q]
    exact tk_of h
  · rw [if_neg q, if_neg q]
    rfl
theorem tkR_true {t : Nat → Nat} {n : Nat} {r : rdT} (h : (tkR2 t n r).2 = true) : r.2 = true ∧ tkR1 t n r < 4 ∧ mL t n r.1 [114, 48 + tkR1 t n r] = true ∧ (tkR2 t n r).1 = r.1 + 2 := by
  unfold tkR2 at h ⊢
  unfold tkR1
  by_cases q : atZ t n ((tk t n 114 r).1 : Int) - 48 < 0 ∨ 3 < atZ t n ((tk t n 114 r).1 : Int) - 48
  · rw [if_pos q] at h
    cases h
  · rw [if_neg q] at h ⊢
    rw [if_neg q]
    obtain ⟨a1, a2, a3⟩ := tk_true (c := 114) h
    rw [a3] at q ⊢
    refine ⟨a1, by omega, ?_, by omega⟩
    rw [mL_cons] at a2 ⊢
    refine ⟨a2.1, ?_⟩
    rw [mL_cons]
    exact ⟨by omega, rfl⟩
theorem tkR_of {t : Nat → Nat} {n p g : Nat} (hg : g < 4) (h : mL t n p [114, 48 + g] = true) : tkR1 t n (p, true) = g ∧ tkR2 t n (p, true) = (p + 2, true) := by
  rw [mL_cons, mL_cons] at h
  have e : tk t n 114 (p, true) = (p + 1, true) := if_pos h.1
  have e2 : atZ t n (((p + 1, true) : rdT).1 : Int) = ((48 + g : Nat) : Int) := h.2.1
  unfold tkR1 tkR2
  rw [e, e2, if_neg (by omega), if_neg (by omega)]
  exact ⟨by omega, rfl⟩
theorem kR_cases (k : Nat) (hk : k < 14) : kR k = 0 ∨ kR k = 1 ∨ kR k = 2 := by
  have : ∀ k, k < 14 → kR k = 0 ∨ kR k = 1 ∨ kR k = 2 := by decide +kernel
  exact this k hk
theorem rdR_true {t : Nat → Nat} {n k : Nat} {r : rdT} (hk : k < 14) (h : (rdR t n k r).1.2 = true) : r.2 = true ∧ (rdR t n k r).2 < kC k ∧ mL t n r.1 (rgL k (rdR t n k r).2) = true ∧ (rdR t n k r).1.1 = r.1 + (rgL k (rdR t n k r).2).length := by
  unfold rdR rgL kC at *
  rcases kR_cases k hk with e | e | e
  · rw [e] at h ⊢
    exact ⟨h, by show 0 < 4 ^ 0; decide, rfl, rfl⟩
  · rw [e] at h ⊢
    simp only [rdRF] at h ⊢
    have e0 : tkC t n 0 r = r := rfl
    rw [e0] at h ⊢
    obtain ⟨a1, a2, a3, a4⟩ := tkR_true h
    refine ⟨a1, by omega, ?_, ?_⟩
    · show mL t n r.1 [114, 48 + (4 * 0 + tkR1 t n r) / 4 ^ 0 % 4] = true
      have e1 : (4 * 0 + tkR1 t n r) / 4 ^ 0 % 4 = tkR1 t n r := by simp; omega
      rw [e1]
      exact a3
    · rw [a4]
      rfl
  · rw [e] at h ⊢
    simp only [rdRF] at h ⊢
    have e0 : tkC t n 0 r = r := rfl
    rw [e0] at h ⊢
    obtain ⟨a1, a2, a3, a4⟩ := tkR_true h
    obtain ⟨b1, b2, b3⟩ := tkC_true a1
    obtain ⟨c1, c2, c3, c4⟩ := tkR_true b1
    generalize hg2 : tkR1 t n (tkC t n (0 + 1) (tkR2 t n r)) = g2 at *
    generalize hg1 : tkR1 t n r = g1 at *
    refine ⟨c1, by show _ < 16; omega, ?_, ?_⟩
    · show mL t n r.1 ([114, 48 + (4 * (4 * 0 + g1) + g2) / 4 ^ 1 % 4] ++ ([44] ++ [114, 48 + (4 * (4 * 0 + g1) + g2) / 4 ^ 0 % 4])) = true
      have e1 : (4 * (4 * 0 + g1) + g2) / 4 ^ 1 % 4 = g1 := by simp; omega
      have e2 : (4 * (4 * 0 + g1) + g2) / 4 ^ 0 % 4 = g2 := by simp; omega
      rw [e1, e2, mL_app, mL_app]
      refine ⟨c3, ?_, ?_⟩
      · rw [c4] at b2
        exact b2
      · rw [b3, c4] at a3
        exact a3
    · rw [a4, b3, c4]
      rfl
theorem rdR_of {t : Nat → Nat} {n k p g : Nat} (hk : k < 14) (hg : g < kC k) (h : mL t n p (rgL k g) = true) : rdR t n k (p, true) = ((p + (rgL k g).length, true), g) := by
  unfold rdR rgL kC at *
  rcases kR_cases k hk with e | e | e
  · rw [e] at hg ⊢
    have : g = 0 := by
      have : g < 4 ^ 0 := hg
      simp at this
      exact this
    subst this
    rfl
  · rw [e] at hg h ⊢
    have hg4 : g < 4 := hg
    have h' : mL t n p [114, 48 + g / 4 ^ 0 % 4] = true := h
    have e1 : g / 4 ^ 0 % 4 = g := by simp; omega
    rw [e1] at h'
    obtain ⟨a1, a2⟩ := tkR_of hg4 h'
    simp only [rdRF]
    have e0 : tkC t n 0 (p, true) = (p, true) := rfl
    rw [e0, a1, a2]
    simp only [Nat.mul_zero, Nat.zero_add]
    rfl
  · rw [e] at hg h ⊢
    have hg4 : g < 16 := hg
    have h' : mL t n p ([114, 48 + g / 4 ^ 1 % 4] ++ ([44] ++ [114, 48 + g / 4 ^ 0 % 4])) = true := h
    have e1 : g / 4 ^ 1 % 4 = g / 4 := by simp; omega
    have e2 : g / 4 ^ 0 % 4 = g % 4 := by simp
    rw [e1, e2, mL_app, mL_app] at h'
    obtain ⟨a1, a2⟩ := tkR_of (by omega) h'.1
    obtain ⟨c1, c2⟩ : tkR1 t n (p + 2 + 1, true) = g % 4 ∧ tkR2 t n (p + 2 + 1, true) = (p + 2 + 1 + 2, true) := tkR_of (by omega) h'.2.2
    simp only [rdRF]
    have e0 : tkC t n 0 (p, true) = (p, true) := rfl
    have e3 : tkC t n (0 + 1) (p + 2, true) = (p + 2 + 1, true) := tkC_of (k := 1) h'.2.1
    rw [e0, a1, a2, e3, c1, c2]
    have e4 : 4 * (4 * 0 + g / 4) + g % 4 = g := by omega
    rw [e4]
    rfl
/-! numbers -/
def vl (D : List Nat) (acc : Nat) : Nat := D.foldl (fun a c => 10 * a + c - 48) acc
def dig (D : List Nat) : Prop := ∀ c ∈ D, 48 ≤ c ∧ c ≤ 57
theorem tkAF_of {t : Nat → Nat} {n : Nat} : ∀ (D : List Nat) (j p acc : Nat), dig D → mL t n p D = true → D.length ≤ j → (D.length = j ∨ ¬ (48 ≤ atZ t n ((p + D.length : Nat) : Int) ∧ atZ t n ((p + D.length : Nat) : Int) ≤ 57)) → tkAF t n j p acc = (p + D.length, vl D acc) := by
  intro D
  induction D with
  | nil =>
    intro j p acc _ _ _ h
    cases j with
    | zero => rfl
    | succ j =>
      simp only [tkAF]
      rcases h with h | h
      · cases h
      · have h : ¬ (48 ≤ atZ t n (p : Int) ∧ atZ t n (p : Int) ≤ 57) := h
        rw [if_neg h]
        rfl
  | cons c D ih =>
    intro j p acc hd hm hl h
    rw [mL_cons] at hm
    have hc := hd c List.mem_cons_self
    simp only [List.length_cons] at hl h ⊢
    cases j with
    | zero => omega
    | succ j =>
      simp only [tkAF]
      rw [if_pos (by omega), ih j (p + 1) _ (fun x hx => hd x (List.mem_cons_of_mem _ hx)) hm.2 (by omega) (by
        have e : p + 1 + D.length = p + (D.length + 1) := by omega
        rw [e]
        rcases h with h | h
        · exact Or.inl (by omega)
        · exact Or.inr h)]
      have e : (atZ t n (p : Int)).toNat = c := by omega
      rw [e]
      have e2 : p + 1 + D.length = p + (D.length + 1) := by omega
      rw [e2]
      rfl
theorem tkAF_is {t : Nat → Nat} {n : Nat} : ∀ (j p acc : Nat), ∃ D : List Nat, dig D ∧ D.length ≤ j ∧ mL t n p D = true ∧ tkAF t n j p acc = (p + D.length, vl D acc) := by
  intro j
  induction j with
  | zero => intro p acc; exact ⟨[], (fun _ h => by cases h), Nat.le_refl _, rfl, rfl⟩
  | succ j ih =>
    intro p acc
    simp only [tkAF]
    by_cases q : 48 ≤ atZ t n (p : Int) ∧ atZ t n (p : Int) ≤ 57
    · rw [if_pos q]
      obtain ⟨D, a1, a2, a3, a4⟩ := ih (p + 1) (10 * acc + (atZ t n (p : Int)).toNat - 48)
      refine ⟨(atZ t n (p : Int)).toNat :: D, ?_, by simp; omega, (mL_cons _ _ _ _ _).mpr ⟨by omega, a3⟩, ?_⟩
      · intro c hc
        rcases List.mem_cons.mp hc with rfl | hc
        · omega
        · exact a1 c hc
      · rw [a4]
        have e2 : p + 1 + D.length = p + ((atZ t n (p : Int)).toNat :: D).length := by simp; omega
        rw [e2]
        rfl
    · rw [if_neg q]
      exact ⟨[], (fun _ h => by cases h), Nat.zero_le _, rfl, rfl⟩
theorem nuF_5 (a : Nat) : nuF a 5 = dgL a 10000 ++ (dgL a 1000 ++ (dgL a 100 ++ (dgL a 10 ++ (dgL a 1 ++ [])))) := rfl
theorem dgL_y {a u : Nat} (h : u ≤ a ∨ u = 1) : dgL a u = [48 + a / u % 10] := if_pos h
theorem dgL_n {a u : Nat} (h : ¬ (u ≤ a ∨ u = 1)) : dgL a u = [] := if_neg h
/-- the digits of a number: one, two .. five -/
theorem nuF_d {a : Nat} (ha : a < 100000) : (a < 10 ∧ nuF a 5 = [48 + a]) ∨ (10 ≤ a ∧ a < 100 ∧ nuF a 5 = [48 + a / 10, 48 + a % 10]) ∨ (100 ≤ a ∧ a < 1000 ∧ nuF a 5 = [48 + a / 100, 48 + a / 10 % 10, 48 + a % 10]) ∨ (1000 ≤ a ∧ a < 10000 ∧ nuF a 5 = [48 + a / 1000, 48 + a / 100 % 10, 48 + a / 10 % 10, 48 + a % 10]) ∨ (10000 ≤ a ∧ nuF a 5 = [48 + a / 10000, 48 + a / 1000 % 10, 48 + a / 100 % 10, 48 + a / 10 % 10, 48 + a % 10]) := by
  rw [nuF_5]
  have e1 : a / 1 % 10 = a % 10 := by omega
  by_cases h1 : a < 10
  · refine Or.inl ⟨h1, ?_⟩
    rw [dgL_n (by omega), dgL_n (by omega), dgL_n (by omega), dgL_n (by omega), dgL_y (Or.inr rfl), e1, show a % 10 = a by omega]
    rfl
  · by_cases h2 : a < 100
    · refine Or.inr (Or.inl ⟨by omega, h2, ?_⟩)
      rw [dgL_n (by omega), dgL_n (by omega), dgL_n (by omega), dgL_y (Or.inl (by omega)), dgL_y (Or.inr rfl), e1, show a / 10 % 10 = a / 10 by omega]
      rfl
    · by_cases h3 : a < 1000
      · refine Or.inr (Or.inr (Or.inl ⟨by omega, h3, ?_⟩))
        rw [dgL_n (by omega), dgL_n (by omega), dgL_y (Or.inl (by omega)), dgL_y (Or.inl (by omega)), dgL_y (Or.inr rfl), e1, show a / 100 % 10 = a / 100 by omega]
        rfl
      · by_cases h4 : a < 10000
        · refine Or.inr (Or.inr (Or.inr (Or.inl ⟨by omega, h4, ?_⟩)))
          rw [dgL_n (by omega), dgL_y (Or.inl (by omega)), dgL_y (Or.inl (by omega)), dgL_y (Or.inl (by omega)), dgL_y (Or.inr rfl), e1, show a / 1000 % 10 = a / 1000 by omega]
          rfl
        · refine Or.inr (Or.inr (Or.inr (Or.inr ⟨by omega, ?_⟩)))
          rw [dgL_y (Or.inl (by omega)), dgL_y (Or.inl (by omega)), dgL_y (Or.inl (by omega)), dgL_y (Or.inl (by omega)), dgL_y (Or.inr rfl), e1, show a / 10000 % 10 = a / 10000 by omega]
          rfl
theorem nuF_ok {a : Nat} (ha : a < 100000) : dig (nuF a 5) ∧ vl (nuF a 5) 0 = a ∧ 1 ≤ (nuF a 5).length ∧ (nuF a 5).length ≤ 5 := by
  rcases nuF_d ha with ⟨h, e⟩ | ⟨h, h', e⟩ | ⟨h, h', e⟩ | ⟨h, h', e⟩ | ⟨h, e⟩ <;> rw [e] <;> refine ⟨?_, ?_, by simp, by simp⟩
  all_goals first | (intro c hc; simp only [List.mem_cons, List.not_mem_nil, or_false] at hc; omega) | (simp only [vl, List.foldl_cons, List.foldl_nil]; omega)
/-- digits without a first 0 (but 0 itself) are the number's own -/
theorem nuF_of {D : List Nat} (hd : dig D) (h1 : 1 ≤ D.length) (h5 : D.length ≤ 5) (h0 : D.length = 1 ∨ D.head? ≠ some 48) : nuF (vl D 0) 5 = D ∧ vl D 0 < 100000 := by
  match D, hd, h1, h5, h0 with
  | [x], hd, _, _, _ =>
    have hx := hd x (by simp)
    have e : vl [x] 0 = x - 48 := by simp [vl]
    rw [e]
    rcases nuF_d (a := x - 48) (by omega) with ⟨h, e⟩ | ⟨h, h', e⟩ | ⟨h, h', e⟩ | ⟨h, h', e⟩ | ⟨h, e⟩ <;> first | omega | skip
    rw [e]
    exact ⟨by congr 1; omega, by omega⟩
  | [x, y], hd, _, _, h0 =>
    have hx := hd x (by simp)
    have hy := hd y (by simp)
    have hx0 : x ≠ 48 := by
      rcases h0 with h0 | h0
      · simp at h0
      · simpa using h0
    have e : vl [x, y] 0 = 10 * (x - 48) + (y - 48) := by simp [vl]; omega
    rw [e]
    generalize hv : 10 * (x - 48) + (y - 48) = v
    rcases nuF_d (a := v) (by omega) with ⟨h, e⟩ | ⟨h, h', e⟩ | ⟨h, h', e⟩ | ⟨h, h', e⟩ | ⟨h, e⟩ <;> first | omega | skip
    rw [e, show 48 + v / 10 = x by omega, show 48 + v % 10 = y by omega]
    exact ⟨rfl, by omega⟩
  | [x, y, z], hd, _, _, h0 =>
    have hx := hd x (by simp)
    have hy := hd y (by simp)
    have hz := hd z (by simp)
    have hx0 : x ≠ 48 := by
      rcases h0 with h0 | h0
      · simp at h0
      · simpa using h0
    have e : vl [x, y, z] 0 = 100 * (x - 48) + 10 * (y - 48) + (z - 48) := by simp [vl]; omega
    rw [e]
    generalize hv : 100 * (x - 48) + 10 * (y - 48) + (z - 48) = v
    rcases nuF_d (a := v) (by omega) with ⟨h, e⟩ | ⟨h, h', e⟩ | ⟨h, h', e⟩ | ⟨h, h', e⟩ | ⟨h, e⟩ <;> first | omega | skip
    rw [e, show 48 + v / 100 = x by omega, show 48 + v / 10 % 10 = y by omega, show 48 + v % 10 = z by omega]
    exact ⟨rfl, by omega⟩
  | [x, y, z, w], hd, _, _, h0 =>
    have hx := hd x (by simp)
    have hy := hd y (by simp)
    have hz := hd z (by simp)
    have hw := hd w (by simp)
    have hx0 : x ≠ 48 := by
      rcases h0 with h0 | h0
      · simp at h0
      · simpa using h0
    have e : vl [x, y, z, w] 0 = 1000 * (x - 48) + 100 * (y - 48) + 10 * (z - 48) + (w - 48) := by simp [vl]; omega
    rw [e]
    generalize hv : 1000 * (x - 48) + 100 * (y - 48) + 10 * (z - 48) + (w - 48) = v
    rcases nuF_d (a := v) (by omega) with ⟨h, e⟩ | ⟨h, h', e⟩ | ⟨h, h', e⟩ | ⟨h, h', e⟩ | ⟨h, e⟩ <;> first | omega | skip
    rw [e, show 48 + v / 1000 = x by omega, show 48 + v / 100 % 10 = y by omega, show 48 + v / 10 % 10 = z by omega, show 48 + v % 10 = w by omega]
    exact ⟨rfl, by omega⟩
  | [x, y, z, w, u], hd, _, _, h0 =>
    have hx := hd x (by simp)
    have hy := hd y (by simp)
    have hz := hd z (by simp)
    have hw := hd w (by simp)
    have hu := hd u (by simp)
    have hx0 : x ≠ 48 := by
      rcases h0 with h0 | h0
      · simp at h0
      · simpa using h0
    have e : vl [x, y, z, w, u] 0 = 10000 * (x - 48) + 1000 * (y - 48) + 100 * (z - 48) + 10 * (w - 48) + (u - 48) := by simp [vl]; omega
    rw [e]
    generalize hv : 10000 * (x - 48) + 1000 * (y - 48) + 100 * (z - 48) + 10 * (w - 48) + (u - 48) = v
    rcases nuF_d (a := v) (by omega) with ⟨h, e⟩ | ⟨h, h', e⟩ | ⟨h, h', e⟩ | ⟨h, h', e⟩ | ⟨h, e⟩ <;> first | omega | skip
    rw [e, show 48 + v / 10000 = x by omega, show 48 + v / 1000 % 10 = y by omega, show 48 + v / 100 % 10 = z by omega, show 48 + v / 10 % 10 = w by omega, show 48 + v % 10 = u by omega]
    exact ⟨rfl, by omega⟩
theorem nuF_h {a : Nat} (ha : a < 100000) (h : 1 < (nuF a 5).length) : ∃ c l, nuF a 5 = c :: l ∧ c ≠ 48 := by
  rcases nuF_d ha with ⟨q, e⟩ | ⟨q, q', e⟩ | ⟨q, q', e⟩ | ⟨q, q', e⟩ | ⟨q, e⟩
  · rw [e] at h
    simp at h
  · exact ⟨_, _, e, by omega⟩
  · exact ⟨_, _, e, by omega⟩
  · exact ⟨_, _, e, by omega⟩
  · exact ⟨_, _, e, by omega⟩
theorem tkA_true {t : Nat → Nat} {n : Nat} {r : rdT} (h : (tkA2 t n r).2 = true) : r.2 = true ∧ tkA1 t n r < 100000 ∧ mL t n r.1 (nuF (tkA1 t n r) 5) = true ∧ (tkA2 t n r).1 = r.1 + (nuF (tkA1 t n r) 5).length := by
  obtain ⟨D, d1, d2, d3, d4⟩ := tkAF_is (t := t) (n := n) 5 r.1 0
  unfold tkA2 at h ⊢
  unfold tkA1
  rw [d4] at h ⊢
  simp only at h ⊢
  by_cases q : r.1 + D.length - r.1 = 0 ∨ (1 < r.1 + D.length - r.1 ∧ atZ t n (r.1 : Int) = 48)
  · rw [if_pos q] at h
    cases h
  · rw [if_neg q] at h
    have hl : 1 ≤ D.length := by omega
    obtain ⟨e1, e2⟩ := nuF_of d1 hl d2 (by
      by_cases w : D.length = 1
      · exact Or.inl w
      · refine Or.inr (fun z => q (Or.inr ⟨by omega, ?_⟩))
        cases D with
        | nil => cases z
        | cons c D =>
          simp only [List.head?_cons, Option.some.injEq] at z
          subst z
          exact ((mL_cons _ _ _ _ _).mp d3).1)
    rw [e1]
    exact ⟨h, e2, d3, rfl⟩
theorem tkA_of {t : Nat → Nat} {n p a : Nat} (ha : a < 100000) (h : mL t n p (nuF a 5) = true) (hx : ¬ (48 ≤ atZ t n ((p + (nuF a 5).length : Nat) : Int) ∧ atZ t n ((p + (nuF a 5).length : Nat) : Int) ≤ 57)) : tkA1 t n (p, true) = a ∧ tkA2 t n (p, true) = (p + (nuF a 5).length, true) := by
  obtain ⟨o1, o2, o3, o4⟩ := nuF_ok ha
  have e := tkAF_of (nuF a 5) 5 p 0 o1 h o4 (Or.inr hx)
  unfold tkA1 tkA2
  simp only
  rw [e]
  simp only
  refine ⟨o2, ?_⟩
  rw [if_neg]
  rintro (z | ⟨z, z2⟩)
  · omega
  · obtain ⟨c, l, e2, hc⟩ := nuF_h ha (by omega)
    rw [e2, mL_cons] at h
    have := h.1
    omega
theorem tkN_true {t : Nat → Nat} {n : Nat} {lo hi : Int} {r : rdT} (h : (tkN2 t n lo hi r).2 = true) : r.2 = true ∧ lo ≤ tkN1 t n r ∧ tkN1 t n r ≤ hi ∧ mL t n r.1 (nuL (tkN1 t n r)) = true ∧ (tkN2 t n lo hi r).1 = r.1 + (nuL (tkN1 t n r)).length := by
  unfold tkN2 at h ⊢
  simp only at h ⊢
  by_cases q : (atZ t n (r.1 : Int) = 45 ∧ tkA1 t n (tkNs t n r) = 0) ∨ tkN1 t n r < lo ∨ hi < tkN1 t n r
  · rw [if_pos q] at h
    cases h
  · rw [if_neg q] at h
    obtain ⟨a1, a2, a3, a4⟩ := tkA_true h
    have b1 : lo ≤ tkN1 t n r := by omega
    have b2 : tkN1 t n r ≤ hi := by omega
    by_cases ng : atZ t n (r.1 : Int) = 45
    · have e : tkNs t n r = (r.1 + 1, r.2) := if_pos ng
      have e2 : tkN1 t n r = -(tkA1 t n (tkNs t n r) : Int) := if_pos ng
      have hne : tkA1 t n (tkNs t n r) ≠ 0 := fun z => q (Or.inl ⟨ng, z⟩)
      have e3 : nuL (tkN1 t n r) = [45] ++ nuF (tkA1 t n (tkNs t n r)) 5 := by
        unfold nuL
        rw [e2, if_pos (by omega)]
        congr 2
        omega
      rw [e] at a1 a3 a4 e3
      rw [e3, e]
      refine ⟨a1, b1, b2, ?_, ?_⟩
      · rw [mL_app]
        exact ⟨(mL_cons _ _ _ _ _).mpr ⟨ng, rfl⟩, a3⟩
      · rw [a4]
        simp
        omega
    · have e : tkNs t n r = r := if_neg ng
      have e2 : tkN1 t n r = (tkA1 t n (tkNs t n r) : Int) := if_neg ng
      have e3 : nuL (tkN1 t n r) = nuF (tkA1 t n (tkNs t n r)) 5 := by
        unfold nuL
        rw [e2, if_neg (by omega)]
        rfl
      rw [e3, e]
      rw [e] at a1 a3 a4
      exact ⟨a1, b1, b2, a3, a4⟩
theorem tkN_of {t : Nat → Nat} {n p : Nat} {lo hi v : Int} (h1 : lo ≤ v) (h2 : v ≤ hi) (hv : -100000 < v ∧ v < 100000) (h : mL t n p (nuL v) = true) (hx : ¬ (48 ≤ atZ t n ((p + (nuL v).length : Nat) : Int) ∧ atZ t n ((p + (nuL v).length : Nat) : Int) ≤ 57)) : tkN1 t n (p, true) = v ∧ tkN2 t n lo hi (p, true) = (p + (nuL v).length, true) := by
  have hl : v.natAbs < 100000 := by omega
  by_cases ng : v < 0
  · have e : nuL v = [45] ++ nuF v.natAbs 5 := by
      unfold nuL
      rw [if_pos ng]
    rw [e, mL_app, mL_cons] at h
    have eq : atZ t n (p : Int) = 45 := h.1.1
    have es : tkNs t n (p, true) = (p + 1, true) := if_pos eq
    have el : p + (nuL v).length = p + 1 + (nuF v.natAbs 5).length := by
      rw [e]
      simp
      omega
    rw [el] at hx ⊢
    have h2' : mL t n (p + 1) (nuF v.natAbs 5) = true := h.2
    obtain ⟨a1, a2⟩ := tkA_of hl h2' hx
    have e1 : tkN1 t n (p, true) = v := by
      have : tkN1 t n (p, true) = -(tkA1 t n (tkNs t n (p, true)) : Int) := if_pos eq
      rw [this, es, a1]
      omega
    refine ⟨e1, ?_⟩
    unfold tkN2
    rw [e1, es, a1, a2, if_neg (by omega)]
  · have e : nuL v = nuF v.natAbs 5 := by
      unfold nuL
      rw [if_neg ng]
      rfl
    rw [e] at h hx ⊢
    obtain ⟨o1, o2, o3, o4⟩ := nuF_ok hl
    have eq : ¬ atZ t n (p : Int) = 45 := by
      intro z
      cases hD : nuF v.natAbs 5 with
      | nil =>
        rw [hD] at o3
        simp at o3
      | cons c l =>
        rw [hD] at h o1
        rw [mL_cons] at h
        have := o1 c List.mem_cons_self
        have := h.1
        omega
    have es : tkNs t n (p, true) = (p, true) := if_neg eq
    obtain ⟨a1, a2⟩ := tkA_of hl h hx
    have e1 : tkN1 t n (p, true) = v := by
      have : tkN1 t n (p, true) = (tkA1 t n (tkNs t n (p, true)) : Int) := if_neg eq
      rw [this, es, a1]
      omega
    refine ⟨e1, ?_⟩
    unfold tkN2
    rw [e1, es, a1, a2, if_neg (by simp only at eq ⊢; omega)]
def okL (k g : Nat) (v : Int) : Prop := k < 14 ∧ g < kC k ∧ (kN k = 0 → v = 0) ∧ (kN k ≠ 0 → loN (kN k) ≤ v ∧ v ≤ hiN (kN k))
theorem loN_hiN (m : Nat) : -128 ≤ loN m ∧ hiN m ≤ 65535 := by
  unfold loN hiN
  constructor
  · split <;> omega
  · split
    · omega
    · split <;> omega
theorem tkK_some {t : Nat → Nat} {n p k : Nat} (h : tkK1 t n (p, true) = some k) : tkK2 t n (p, true) = (p + (opL k).length, true) := by
  unfold tkK2
  rw [h]
theorem line_true {t : Nat → Nat} {n p : Nat} (h : (rdLr t n (p, true)).2 = true) : ∃ (k g : Nat) (v : Int), okL k g v ∧ mL t n p (lnL k g v) = true ∧ (rdLr t n (p, true)).1 = p + (lnL k g v).length ∧ ∀ s, rdLs t n (p, true) s = adBs k g v s := by
  unfold rdLr at h ⊢
  unfold rdLs
  cases hk : tkK1 t n (p, true) with
  | none =>
    rw [hk] at h
    simp only at h
    unfold tkK2 at h
    rw [hk] at h
    cases h
  | some k =>
    rw [hk] at h
    simp only at h ⊢
    obtain ⟨k1, k2⟩ := tkKF_some 14 0 k hk
    rw [tkK_some hk] at h ⊢
    obtain ⟨a1, a2, a3⟩ := tk_true h
    rw [a3]
    generalize hr : rdR t n k (p + (opL k).length, true) = q at *
    have fin : ∀ (v : Int) (N : List Nat), q.1.2 = true → mL t n q.1.1 N = true → (rdN2 t n k q.1).1 = q.1.1 + N.length → lnL k q.2 v = opL k ++ rgL k q.2 ++ N ++ [10] → q.2 < kC k ∧ mL t n p (lnL k q.2 v) = true ∧ (rdN2 t n k q.1).1 + 1 = p + (lnL k q.2 v).length := by
      intro v N b1 b2 b3 b4
      have c := rdR_true (t := t) (n := n) (k := k) (r := (p + (opL k).length, true)) (by omega) (by rw [hr]; exact b1)
      rw [hr] at c
      obtain ⟨-, c2, c3, c4⟩ := c
      have c4' : q.1.1 = p + (opL k).length + (rgL k q.2).length := c4
      refine ⟨c2, ?_, ?_⟩
      · rw [b4, mL_app, mL_app, mL_app]
        rw [b3] at a2
        refine ⟨⟨⟨k2, c3⟩, ?_⟩, ?_⟩
        · rw [c4'] at b2
          simp only [List.length_append]
          rw [← Nat.add_assoc]
          exact b2
        · rw [c4'] at a2
          simp only [List.length_append]
          have e : p + ((opL k).length + (rgL k q.2).length + N.length) = p + (opL k).length + (rgL k q.2).length + N.length := by omega
          rw [e]
          exact a2
      · rw [b3, b4, c4']
        simp only [List.length_append, List.length_cons, List.length_nil]
        omega
    by_cases hN : kN k = 0
    · have e1 : rdN2 t n k q.1 = q.1 := if_pos hN
      have e2 : rdN1 t n k q.1 = 0 := if_pos hN
      rw [e1] at a1
      obtain ⟨f1, f2, f3⟩ := fin 0 [] a1 rfl (by rw [e1]; rfl) (by unfold lnL; rw [if_pos hN])
      exact ⟨k, q.2, 0, ⟨by omega, f1, fun _ => rfl, fun z => absurd hN z⟩, f2, f3, fun s => by rw [e2]⟩
    · have e1 : rdN2 t n k q.1 = tkN2 t n (loN (kN k)) (hiN (kN k)) (tkC t n (kR k) q.1) := if_neg hN
      have e2 : rdN1 t n k q.1 = tkN1 t n (tkC t n (kR k) q.1) := if_neg hN
      rw [e1] at a1
      obtain ⟨b1, b2, b3, b4, b5⟩ := tkN_true a1
      obtain ⟨c1, c2, c3⟩ := tkC_true b1
      obtain ⟨f1, f2, f3⟩ := fin (rdN1 t n k q.1) (cmL (kR k) ++ nuL (rdN1 t n k q.1)) c1 (by rw [mL_app, e2, ← c3]; exact ⟨c2, b4⟩) (by rw [e1, b5, c3, e2]; simp only [List.length_append]; omega) (by unfold lnL; rw [if_neg hN])
      exact ⟨k, q.2, rdN1 t n k q.1, ⟨by omega, f1, fun z => absurd z hN, fun _ => by rw [e2]; exact ⟨b2, b3⟩⟩, f2, f3, fun s => rfl⟩
theorem line_of {t : Nat → Nat} {n p k g : Nat} {v : Int} (ok : okL k g v) (h : mL t n p (lnL k g v) = true) : rdLr t n (p, true) = (p + (lnL k g v).length, true) ∧ ∀ s, rdLs t n (p, true) s = adBs k g v s := by
  obtain ⟨o1, o2, o3, o4⟩ := ok
  have h' := h
  unfold lnL at h'
  rw [mL_app, mL_app, mL_app] at h'
  obtain ⟨⟨⟨m1, m2⟩, m3⟩, m4⟩ := h'
  simp only [List.length_append] at m3 m4
  have hk : tkK1 t n (p, true) = some k := tkKF_find o1 m1 14 0 rfl (Nat.zero_le _)
  unfold rdLr rdLs
  rw [hk]
  simp only
  rw [tkK_some hk, rdR_of o1 o2 m2]
  simp only
  by_cases hN : kN k = 0
  · have e1 : ∀ r, rdN2 t n k r = r := fun r => if_pos hN
    have e2 : ∀ r, rdN1 t n k r = 0 := fun r => if_pos hN
    rw [if_pos hN] at m4
    rw [e1, e2, o3 hN]
    refine ⟨?_, fun s => rfl⟩
    have m4' : mL t n (p + (opL k).length + (rgL k g).length) [10] = true := by
      rw [Nat.add_assoc]
      exact m4
    rw [tk_of m4']
    unfold lnL
    rw [if_pos hN]
    simp only [List.length_append, List.length_cons, List.length_nil]
    congr 1
    omega
  · rw [if_neg hN] at m3 m4
    have m3' : mL t n (p + (opL k).length + (rgL k g).length) (cmL (kR k) ++ nuL v) = true := by
      rw [Nat.add_assoc]
      exact m3
    rw [mL_app] at m3'
    simp only [List.length_append] at m4
    have m4' : mL t n (p + (opL k).length + (rgL k g).length + (cmL (kR k)).length + (nuL v).length) [10] = true := by
      have e : p + (opL k).length + (rgL k g).length + (cmL (kR k)).length + (nuL v).length = p + ((opL k).length + (rgL k g).length + ((cmL (kR k)).length + (nuL v).length)) := by omega
      rw [e]
      exact m4
    have hl := loN_hiN (kN k)
    obtain ⟨q1, q2⟩ := o4 hN
    obtain ⟨w1, w2⟩ := tkN_of q1 q2 (by omega) m3'.2 (by
      have := ((mL_cons _ _ _ _ _).mp m4').1
      rw [this]
      omega)
    have e1 : rdN2 t n k (p + (opL k).length + (rgL k g).length, true) = (p + (opL k).length + (rgL k g).length + (cmL (kR k)).length + (nuL v).length, true) := by
      have : rdN2 t n k (p + (opL k).length + (rgL k g).length, true) = tkN2 t n (loN (kN k)) (hiN (kN k)) (tkC t n (kR k) (p + (opL k).length + (rgL k g).length, true)) := if_neg hN
      rw [this, tkC_of m3'.1, w2]
    have e2 : rdN1 t n k (p + (opL k).length + (rgL k g).length, true) = v := by
      have : rdN1 t n k (p + (opL k).length + (rgL k g).length, true) = tkN1 t n (tkC t n (kR k) (p + (opL k).length + (rgL k g).length, true)) := if_neg hN
      rw [this, tkC_of m3'.1, w1]
    rw [e1, e2, tk_of m4']
    refine ⟨?_, fun s => rfl⟩
    unfold lnL
    rw [if_neg hN]
    simp only [List.length_append, List.length_cons, List.length_nil]
    congr 1
    omega
end
section
/-! The reference's methods as functions of whole numbers, and how they agree with the class's. -/
def lgO (f : Nat) : Nat := if 119 < f then 0 else if f / 16 = 0 then (if f ≤ 2 then 1 else 0) else if f / 16 = 3 ∨ f / 16 = 4 then 1 else if f / 16 = 5 then (if f ≤ 85 then 3 else 0) else if f / 16 = 7 then 3 else if 3 < f % 16 then 0 else if f / 16 = 1 then 1 else 2
def mLen (b : Nat → Nat) (n : Nat) (x : Int) : Nat := if 0 ≤ x ∧ x < (n : Int) then (if x + (lgO (b x.toNat) : Int) ≤ (n : Int) then lgO (b x.toNat) else 0) else 0
def mfw (b : Nat → Nat) (a : Nat) : Int := ((256 * b (a + 1) + b (a + 2) : Nat) : Int)
def mtg (b : Nat → Nat) (n : Nat) (cs : Bool) (a : Nat) : List Int := if mLen b n (a : Int) = 0 then [] else (if b a ≠ 1 ∧ b a ≠ 2 ∧ b a ≠ 80 then [((a + mLen b n (a : Int) : Nat) : Int)] else []) ++ (if 80 ≤ b a ∧ b a ≤ 85 ∧ (b a ≠ 81 ∨ cs = true) then [mfw b a] else []) ++ (if 96 ≤ b a ∧ b a ≤ 99 then [((a + mLen b n (a : Int) : Nat) : Int) + sx8 (b (a + 1))] else [])
def kdOk (f : Nat) : Bool := match kd (f : Int) with
  | none => lgO f == 0
  | some k => decide (k < 13 ∧ kB k = lgO f ∧ (fallsB k = true ↔ (f ≠ 1 ∧ f ≠ 2 ∧ f ≠ 80)) ∧ (k = 10 ↔ (96 ≤ f ∧ f ≤ 99)) ∧ ((k = 7 ∨ k = 9) ↔ (80 ≤ f ∧ f ≤ 85 ∧ f ≠ 81)) ∧ (k = 8 ↔ f = 81) ∧ kF k ≤ f ∧ f < kF k + kC k)
theorem kd_all : ∀ f, f < 256 → kdOk f = true := by decide +kernel
theorem kd_none {f : Nat} (hf : f < 256) (h : kd (f : Int) = none) : lgO f = 0 := by
  have := kd_all f hf
  unfold kdOk at this
  rw [h] at this
  simpa using this
theorem kd_some {f k : Nat} (hf : f < 256) (h : kd (f : Int) = some k) : k < 13 ∧ kB k = lgO f ∧ (fallsB k = true ↔ (f ≠ 1 ∧ f ≠ 2 ∧ f ≠ 80)) ∧ (k = 10 ↔ (96 ≤ f ∧ f ≤ 99)) ∧ ((k = 7 ∨ k = 9) ↔ (80 ≤ f ∧ f ≤ 85 ∧ f ≠ 81)) ∧ (k = 8 ↔ f = 81) ∧ kF k ≤ f ∧ f < kF k + kC k := by
  have := kd_all f hf
  unfold kdOk at this
  rw [h] at this
  exact of_decide_eq_true this
theorem cln_mLen {b : Nat → Nat} {n : Nat} {x : Int} (hb : ∀ i, b i < 256) : cln b n x = mLen b n x := by
  unfold cln ckd mLen atZ
  by_cases h : 0 ≤ x ∧ x < (n : Int)
  · rw [if_pos h, if_pos h]
    cases hk : kd ((b x.toNat : Nat) : Int) with
    | none =>
      have := kd_none (hb _) hk
      simp [this]
    | some k =>
      have h2 := (kd_some (hb _) hk).2.1
      rw [← h2]
      by_cases h3 : (kB k : Int) ≤ (n : Int) - x
      · simp only [if_pos h3]
        rw [if_pos (by omega)]
      · simp only [if_neg h3]
        rw [if_neg (by omega)]
  · rw [if_neg h, if_neg h, kd_m1]
theorem mtg_tg {b : Nat → Nat} {n a : Nat} {cs : Bool} (hb : ∀ i, b i < 256) (ha : a < n) : mtg b n cs a = tg b n cs a := by
  have hc : ckd b n (a : Int) = match kd ((b a : Nat) : Int) with
      | none => none
      | some k => if (kB k : Int) ≤ (n : Int) - (a : Int) then some k else none := by
    unfold ckd
    rw [atZ_n ha]
    cases kd ((b a : Nat) : Int) <;> rfl
  unfold mtg
  rw [← cln_mLen hb]
  unfold tg cln
  rw [hc]
  cases hk : kd ((b a : Nat) : Int) with
  | none => rfl
  | some k =>
    obtain ⟨h1, h2, h3, h4, h5, h6, h7, h8⟩ := kd_some (hb _) hk
    by_cases hl : (kB k : Int) ≤ (n : Int) - (a : Int)
    · simp only [if_pos hl]
      have := kB_pos k
      rw [if_neg (by omega)]
      have c1 : (b a ≠ 1 ∧ b a ≠ 2 ∧ b a ≠ 80) ↔ fallsB k = true := h3.symm
      have c2 : (80 ≤ b a ∧ b a ≤ 85 ∧ (b a ≠ 81 ∨ cs = true)) ↔ (k = 7 ∨ k = 9 ∨ (k = 8 ∧ cs = true)) := by
        constructor
        · rintro ⟨q1, q2, q3⟩
          by_cases q : b a = 81
          · rcases q3 with q3 | q3
            · exact absurd q q3
            · exact Or.inr (Or.inr ⟨h6.mpr q, q3⟩)
          · rcases h5.mpr ⟨q1, q2, q⟩ with w | w
            · exact Or.inl w
            · exact Or.inr (Or.inl w)
        · rintro (w | w | ⟨w, w2⟩)
          · have := h5.mp (Or.inl w)
            exact ⟨this.1, this.2.1, Or.inl this.2.2⟩
          · have := h5.mp (Or.inr w)
            exact ⟨this.1, this.2.1, Or.inl this.2.2⟩
          · have := h6.mp w
            exact ⟨by omega, by omega, Or.inr w2⟩
      have c3 : (96 ≤ b a ∧ b a ≤ 99) ↔ k = 10 := h4.symm
      simp only [c1, c2, c3]
      by_cases w : k = 10
      · subst w
        have h10 : ¬ (10 = 7 ∨ 10 = 9 ∨ (10 = 8 ∧ cs = true)) := by simp
        simp only [if_neg h10, if_true, List.append_nil]
        rfl
      · rw [if_neg w, if_neg w]
        by_cases j : k = 7 ∨ k = 9 ∨ (k = 8 ∧ cs = true)
        · have hnum : num b a k = mfw b a := by
            rcases j with rfl | rfl | ⟨rfl, -⟩ <;> rfl
          rw [if_pos j, if_pos j, hnum, List.append_nil, List.append_nil]
        · rw [if_neg j, if_neg j]
    · simp only [if_neg hl]
      rfl

/-! sweep -/
def swF (b : Nat → Nat) (n : Nat) : Nat → Nat → Nat → Nat
  | 0, _, c => c
  | j + 1, a, c => if a < n then swF b n j (a + max 1 (cln b n (a : Int))) (if 0 < cln b n (a : Int) then c + 1 else c) else c
def msw (b : Nat → Nat) (n : Nat) : Nat → Nat → Nat → Nat → Nat
  | 0, _, _, c => c
  | j + 1, a, sk, c => if 0 < sk then msw b n j (a + 1) (sk - 1) c else if 0 < mLen b n (a : Int) then msw b n j (a + 1) (mLen b n (a : Int) - 1) (c + 1) else msw b n j (a + 1) 0 c
theorem cln_le {b : Nat → Nat} {n a : Nat} (ha : a < n) : a + cln b n (a : Int) ≤ n := by
  unfold cln ckd
  cases kd (atZ b n (a : Int)) with
  | none => simp; omega
  | some k =>
    simp only
    by_cases h : (kB k : Int) ≤ (n : Int) - (a : Int)
    · simp only [if_pos h]
      omega
    · simp only [if_neg h]
      omega
theorem sw_same {b : Nat → Nat} {n : Nat} (hb : ∀ i, b i < 256) : ∀ (j a sk c i : Nat), a + j = n → a + sk ≤ n → n < i + (a + sk) → msw b n j a sk c = swF b n i (a + sk) c := by
  intro j
  induction j with
  | zero =>
    intro a sk c i h1 h2 h3
    have e : a + sk = n := by omega
    rw [e]
    cases i with
    | zero => rfl
    | succ i =>
      simp only [swF]
      rw [if_neg (by omega)]
      rfl
  | succ j ih =>
    intro a sk c i h1 h2 h3
    simp only [msw]
    by_cases hs : 0 < sk
    · rw [if_pos hs, ih (a + 1) (sk - 1) c i (by omega) (by omega) (by omega)]
      congr 1
      omega
    · have e0 : sk = 0 := by omega
      subst e0
      rw [if_neg hs, ← cln_mLen hb]
      have hle := cln_le (b := b) (n := n) (a := a) (by omega)
      cases i with
      | zero => omega
      | succ i =>
        simp only [swF, Nat.add_zero]
        rw [if_pos (show a < n by omega)]
        by_cases hc : 0 < cln b n (a : Int)
        · rw [if_pos hc, if_pos hc, ih (a + 1) (cln b n (a : Int) - 1) (c + 1) i (by omega) (by omega) (by omega)]
          congr 1
          omega
        · rw [if_neg hc, if_neg hc, ih (a + 1) 0 c i (by omega) (by omega) (by omega)]
          congr 1
          omega
/-! list -/
def lk (b : Nat → Nat) (n : Nat) (m : Nat → Bool) (a : Nat) : Option Nat := if m a = true then ckd b n (a : Int) else none
def lsz (b : Nat → Nat) (n : Nat) (m : Nat → Bool) (a : Nat) : Nat := match lk b n m a with
  | none => 1
  | some k => kB k
def lsL (b : Nat → Nat) (n : Nat) (m : Nat → Bool) (a : Nat) : List Nat := match lk b n m a with
  | none => lnL 13 0 (b a : Int)
  | some k => lnL k (b a - kF k) (num b a k)
def liF (b : Nat → Nat) (n : Nat) (m : Nat → Bool) : Nat → Nat → txT → txT
  | 0, _, s => s
  | j + 1, a, s => if a < n then liF b n m j (a + max 1 (lsz b n m a)) (ap s (lsL b n m a)) else s
def mnu (v : Int) : List Nat := (if v < 0 then [45] else []) ++ ((if 9999 < v.natAbs then [48 + v.natAbs / 10000] else []) ++ ((if 999 < v.natAbs then [48 + v.natAbs / 1000 % 10] else []) ++ ((if 99 < v.natAbs then [48 + v.natAbs / 100 % 10] else []) ++ ((if 9 < v.natAbs then [48 + v.natAbs / 10 % 10] else []) ++ [48 + v.natAbs % 10]))))
theorem mnu_nuL {v : Int} (h1 : -65536 ≤ v) (h2 : v ≤ 65536) : mnu v = nuL v := by
  have hu : v.natAbs ≤ 65536 := by omega
  unfold mnu nuL
  congr 1
  generalize v.natAbs = u at hu
  show _ = dgL u 10000 ++ (dgL u 1000 ++ (dgL u 100 ++ (dgL u 10 ++ (dgL u 1 ++ []))))
  unfold dgL
  have e5 : u / 10000 % 10 = u / 10000 := by omega
  have e1 : u / 1 % 10 = u % 10 := by omega
  rw [e5, e1, if_pos (Or.inr rfl : 1 ≤ u ∨ 1 = 1)]
  have p (k m : Nat) (hk : k = m + 1) (hm : 1 ≤ m) : (k ≤ u ∨ k = 1) ↔ m < u := by omega
  simp only [p 10000 9999 rfl (by decide), p 1000 999 rfl (by decide), p 100 99 rfl (by decide), p 10 9 rfl (by decide), List.append_nil]
def nmL (a b c : Nat) : List Nat := [a, b] ++ (if 0 < c then [c] else [])
def rgM (r : Nat) : List Nat := [114, 48 + r]
def frL (f : Nat) : List Nat := if f / 16 = 0 then ((if f = 0 then [78, 79, 80] else []) ++ (if f = 1 then [72, 65, 76, 84] else []) ++ (if f = 2 then [82, 69, 84] else [])) else
  (if f / 16 = 1 then [73, 78, 67] else []) ++ (if f / 16 = 2 then [76, 68, 73] else []) ++ (if f / 16 = 3 then [77, 79, 86] else []) ++ (if f / 16 = 4 then [65, 68, 68] else []) ++ (if f = 80 then [74, 77, 80] else []) ++ (if f = 81 then [67, 65, 76, 76] else []) ++ (if 82 ≤ f ∧ f ≤ 85 then [74, 90] else []) ++ (if f / 16 = 6 then [66, 78, 90] else []) ++ (if 112 ≤ f ∧ f ≤ 115 then [76, 68] else []) ++ (if 116 ≤ f then [83, 84] else []) ++ [32] ++ (if f / 16 = 3 ∨ f / 16 = 4 then [114, 48 + f / 4 % 4, 44] else []) ++ (if 82 ≤ f ∧ f ≤ 85 then [114, 48 + (f - 82)] else if f / 16 = 5 then [] else [114, 48 + f % 4]) ++ (if 1 < lgO f ∧ f ≠ 80 ∧ f ≠ 81 then [44] else [])
def prL (f : Nat) (v : Int) : List Nat := frL f ++ (if 1 < lgO f then mnu v else [])
def daL (u : Nat) : List Nat := [46, 98, 121, 116, 101, 32] ++ mnu (u : Int)
def frOk (f : Nat) : Bool := match kd (f : Int) with
  | none => true
  | some k => decide (frL f = opL k ++ rgL k (f - kF k) ++ (if kN k = 0 then [] else cmL (kR k)) ∧ (1 < lgO f ↔ kN k ≠ 0) ∧ f - kF k < kC k ∧ f < 120)
theorem fr_all : ∀ f, f < 256 → frOk f = true := by decide +kernel
theorem fr_some {f k : Nat} (hf : f < 256) (h : kd (f : Int) = some k) : frL f = opL k ++ rgL k (f - kF k) ++ (if kN k = 0 then [] else cmL (kR k)) ∧ (1 < lgO f ↔ kN k ≠ 0) ∧ f - kF k < kC k ∧ f < 120 := by
  have := fr_all f hf
  unfold frOk at this
  rw [h] at this
  exact of_decide_eq_true this
theorem prL_lnL {f k : Nat} {v : Int} (hf : f < 256) (h : kd (f : Int) = some k) (h1 : -65536 ≤ v) (h2 : v ≤ 65536) : prL f v ++ [10] = lnL k (f - kF k) v := by
  obtain ⟨e1, e2, -⟩ := fr_some hf h
  unfold prL lnL
  rw [e1, mnu_nuL h1 h2]
  by_cases hk : kN k = 0
  · rw [if_pos hk, if_pos hk, if_neg (fun q => (e2.mp q) hk)]
    simp
  · rw [if_neg hk, if_neg hk, if_pos (e2.mpr hk)]
    simp
theorem daL_lnL {u : Nat} (hu : u < 256) : daL u ++ [10] = lnL 13 0 (u : Int) := by
  unfold daL
  rw [mnu_nuL (by omega) (by omega)]
  rfl
end
section
/-! list: the reference's lines are the class's -/
def mlk (b : Nat → Nat) (n : Nat) (m : Nat → Bool) (a : Nat) : Nat := if m a = true then mLen b n (a : Int) else 0
def msec (b : Nat → Nat) (a k : Nat) : Nat := if 1 < k then b (a + 1) else 0
def mnm (b : Nat → Nat) (a k : Nat) : Int := if k = 3 then ((256 * msec b a k + b (a + 2) : Nat) : Int) else if 96 ≤ b a then sx8 (msec b a k) else (msec b a k : Int)
def mlL (b : Nat → Nat) (n : Nat) (m : Nat → Bool) (a : Nat) : List Nat := if mlk b n m a = 0 then daL (b a) ++ [10] else prL (b a) (mnm b a (mlk b n m a)) ++ [10]
def mls (b : Nat → Nat) (n : Nat) (m : Nat → Bool) : Nat → Nat → Nat → txT → txT
  | 0, _, _, s => s
  | j + 1, a, sk, s => if 0 < sk then mls b n m j (a + 1) (sk - 1) s else mls b n m j (a + 1) (mlk b n m a - 1) (ap s (mlL b n m a))
theorem kn_all : ∀ k, k < 13 → (kN k = 0 ∧ kB k = 1) ∨ (kN k = 1 ∧ kB k = 2 ∧ kF k + kC k ≤ 96) ∨ (kN k = 2 ∧ kB k = 2 ∧ 96 ≤ kF k) ∨ (kN k = 3 ∧ kB k = 3) := by decide +kernel
theorem mnm_num {b : Nat → Nat} {a k : Nat} (hb : ∀ i, b i < 256) (h : kd (b a : Int) = some k) : mnm b a (kB k) = num b a k := by
  obtain ⟨h1, h2, -, -, -, -, h7, h8⟩ := kd_some (hb a) h
  unfold mnm msec num
  rcases kn_all k h1 with ⟨e1, e2⟩ | ⟨e1, e2, e3⟩ | ⟨e1, e2, e3⟩ | ⟨e1, e2⟩
  · rw [e1, e2]
    simp [sx8]
  · rw [e1, e2]
    simp only [show ¬ (2 = 3) by decide, if_false, if_true, show (1 < 2) = True by decide]
    rw [if_neg (by omega)]
  · rw [e1, e2]
    simp only [show ¬ (2 = 3) by decide, show ¬ (2 = 1) by decide, if_false, if_true, show (1 < 2) = True by decide]
    rw [if_pos (by omega)]
  · rw [e1, e2]
    rfl
theorem ckd_kd {b : Nat → Nat} {n a k : Nat} (ha : a < n) (h : ckd b n (a : Int) = some k) : kd (b a : Int) = some k ∧ a + kB k ≤ n := by
  unfold ckd atZ at h
  rw [if_pos (by omega)] at h
  simp only [Int.toNat_natCast] at h
  cases hk : kd ((b a : Nat) : Int) with
  | none => rw [hk] at h; cases h
  | some k' =>
    rw [hk] at h
    simp only at h
    by_cases q : (kB k' : Int) ≤ (n : Int) - (a : Int)
    · rw [if_pos q] at h
      cases h
      exact ⟨rfl, by omega⟩
    · rw [if_neg q] at h
      cases h
theorem mlL_lsL {b : Nat → Nat} {n a : Nat} {m : Nat → Bool} (hb : ∀ i, b i < 256) (ha : a < n) : mlL b n m a = lsL b n m a ∧ a + 1 + (mlk b n m a - 1) = a + max 1 (lsz b n m a) ∧ a + 1 + (mlk b n m a - 1) ≤ n := by
  unfold mlL lsL lsz mlk lk
  cases hm : m a with
  | false =>
    simp only [Bool.false_eq_true, if_false, if_true]
    exact ⟨daL_lnL (hb a), by omega, by omega⟩
  | true =>
    simp only [if_true]
    have e := cln_mLen (b := b) (n := n) (x := (a : Int)) hb
    rw [← e]
    unfold cln
    cases hk : ckd b n (a : Int) with
    | none =>
      simp only [if_true]
      exact ⟨daL_lnL (hb a), by omega, by omega⟩
    | some k =>
      obtain ⟨k1, k2⟩ := ckd_kd ha hk
      have hp := kB_pos k
      simp only
      rw [if_neg (by omega), mnm_num hb k1]
      have hv := num_in (a := a) (k := k) hb
      exact ⟨prL_lnL (hb a) k1 (by omega) (by omega), by omega, by omega⟩
theorem li_same {b : Nat → Nat} {n : Nat} {m : Nat → Bool} (hb : ∀ i, b i < 256) : ∀ (j a sk i : Nat) (s : txT), a + j = n → a + sk ≤ n → n < i + (a + sk) → mls b n m j a sk s = liF b n m i (a + sk) s := by
  intro j
  induction j with
  | zero =>
    intro a sk i s h1 h2 h3
    have e : a + sk = n := by omega
    rw [e]
    cases i with
    | zero => rfl
    | succ i =>
      simp only [liF]
      rw [if_neg (by omega)]
      rfl
  | succ j ih =>
    intro a sk i s h1 h2 h3
    simp only [mls]
    by_cases hs : 0 < sk
    · rw [if_pos hs, ih (a + 1) (sk - 1) i s (by omega) (by omega) (by omega)]
      congr 1
      omega
    · have e0 : sk = 0 := by omega
      subst e0
      obtain ⟨g1, g2, g3⟩ := mlL_lsL (m := m) hb (show a < n by omega)
      rw [if_neg hs]
      cases i with
      | zero => omega
      | succ i =>
        simp only [liF, Nat.add_zero]
        rw [if_pos (show a < n by omega), ih (a + 1) (mlk b n m a - 1) i _ (by omega) g3 (by omega), g1, g2]
/-! how long a line is -/
theorem nuL_len {v : Int} (h1 : -65536 ≤ v) (h2 : v ≤ 65536) : (nuL v).length ≤ 6 ∧ (0 ≤ v → v < 1000 → (nuL v).length ≤ 3) ∧ (0 ≤ v → (nuL v).length ≤ 5) ∧ (v < 0 → -1000 < v → (nuL v).length ≤ 4) := by
  unfold nuL
  have hs : (if v < 0 then [45] else ([] : List Nat)).length = if v < 0 then 1 else 0 := by
    split <;> rfl
  rw [List.length_append, hs]
  rcases nuF_d (a := v.natAbs) (by omega) with ⟨q, e⟩ | ⟨q, q', e⟩ | ⟨q, q', e⟩ | ⟨q, q', e⟩ | ⟨q, e⟩ <;> rw [e] <;> simp only [List.length_cons, List.length_nil] <;> split <;> omega
theorem op_len : ∀ k, k < 14 → ∀ g, g < kC k → (opL k).length + (rgL k g).length + 1 + (if kN k = 0 then 0 else (cmL (kR k)).length + (if kN k = 1 then 3 else if kN k = 2 then 4 else 5)) ≤ (if k = 13 then 10 else 10 * kB k) := by decide +kernel
theorem ln_len {k g : Nat} {v : Int} (ok : okL k g v) : (lnL k g v).length ≤ (if k = 13 then 10 else 10 * kB k) := by
  obtain ⟨o1, o2, o3, o4⟩ := ok
  have h := op_len k o1 g o2
  have hl := loN_hiN (kN k)
  unfold lnL
  simp only [List.length_append, List.length_cons, List.length_nil]
  by_cases q : kN k = 0
  · rw [if_pos q] at h ⊢
    simp only [List.length_nil]
    omega
  · obtain ⟨w1, w2⟩ := o4 q
    obtain ⟨n1, n2, n3, n4⟩ := nuL_len (v := v) (by omega) (by omega)
    rw [if_neg q] at h ⊢
    simp only [List.length_append]
    by_cases q1 : kN k = 1
    · rw [if_pos q1] at h
      have e1 : loN (kN k) = 0 := by rw [q1]; rfl
      have e2 : hiN (kN k) = 255 := by rw [q1]; rfl
      have := n2 (by omega) (by omega)
      omega
    · rw [if_neg q1] at h
      by_cases q2 : kN k = 2
      · rw [if_pos q2] at h
        have e1 : loN (kN k) = -128 := by rw [q2]; rfl
        have e2 : hiN (kN k) = 127 := by rw [q2]; rfl
        by_cases s : v < 0
        · have := n4 s (by omega)
          omega
        · have := n2 (by omega) (by omega)
          omega
      · rw [if_neg q2] at h
        have e1 : loN (kN k) = 0 := by unfold loN; rw [if_neg q2]
        have := n3 (by omega)
        omega
end
section
/-! assemble: what the reference finds by trying is what the class reads -/
def unD (t : Nat → Nat) (n p : Nat) : Nat → Nat → Option Nat
  | 0, _ => none
  | j + 1, u => if mL t n p (daL u ++ [10]) = true then some u else unD t n p j (u + 1)
def unV (t : Nat → Nat) (n p f : Nat) : Nat → Int → Option Int
  | 0, _ => none
  | j + 1, v => if mL t n p (prL f v ++ [10]) = true then some v else unV t n p f j (v + 1)
def leV (f : Nat) : Int := if 96 ≤ f ∧ f ≤ 99 then -128 else 0
def moV (f : Nat) : Int := if lgO f = 3 then 65535 else if 96 ≤ f then 127 else 255
def unO (t : Nat → Nat) (n p f : Nat) : Option Int := if lgO f = 0 then none else if lgO f = 1 then (if mL t n p (frL f ++ [10]) = true then some 0 else none) else if mL t n p (frL f) = true then unV t n p f (moV f - leV f + 1).toNat (leV f) else none
def unF (t : Nat → Nat) (n p : Nat) : Nat → Nat → Option (Nat × Int)
  | 0, _ => none
  | j + 1, f => match unO t n p f with
    | some v => some (f, v)
    | none => unF t n p j (f + 1)
def und (t : Nat → Nat) (n p : Nat) : Option (Nat × Int) := match unD t n p 256 0 with
  | some u => some (300, (u : Int))
  | none => unF t n p 120 0
theorem unD_none {t : Nat → Nat} {n p : Nat} : ∀ (j u : Nat), unD t n p j u = none → ∀ w, u ≤ w → w < u + j → ¬ mL t n p (daL w ++ [10]) = true := by
  intro j
  induction j with
  | zero => intro u _ w h1 h2; omega
  | succ j ih =>
    intro u h w h1 h2
    simp only [unD] at h
    by_cases q : mL t n p (daL u ++ [10]) = true
    · rw [if_pos q] at h
      cases h
    · rw [if_neg q] at h
      by_cases e : w = u
      · rw [e]; exact q
      · exact ih (u + 1) h w (by omega) (by omega)
theorem unD_some {t : Nat → Nat} {n p : Nat} : ∀ (j u w : Nat), unD t n p j u = some w → u ≤ w ∧ w < u + j ∧ mL t n p (daL w ++ [10]) = true := by
  intro j
  induction j with
  | zero => intro u w h; cases h
  | succ j ih =>
    intro u w h
    simp only [unD] at h
    by_cases q : mL t n p (daL u ++ [10]) = true
    · rw [if_pos q] at h
      cases h
      exact ⟨Nat.le_refl _, by omega, q⟩
    · rw [if_neg q] at h
      obtain ⟨a, b, c⟩ := ih (u + 1) w h
      exact ⟨by omega, by omega, c⟩
theorem unV_none {t : Nat → Nat} {n p f : Nat} : ∀ (j : Nat) (u : Int), unV t n p f j u = none → ∀ w, u ≤ w → w < u + j → ¬ mL t n p (prL f w ++ [10]) = true := by
  intro j
  induction j with
  | zero => intro u _ w h1 h2; omega
  | succ j ih =>
    intro u h w h1 h2
    simp only [unV] at h
    by_cases q : mL t n p (prL f u ++ [10]) = true
    · rw [if_pos q] at h
      cases h
    · rw [if_neg q] at h
      by_cases e : w = u
      · rw [e]; exact q
      · exact ih (u + 1) h w (by omega) (by omega)
theorem unV_some {t : Nat → Nat} {n p f : Nat} : ∀ (j : Nat) (u w : Int), unV t n p f j u = some w → u ≤ w ∧ w < u + j ∧ mL t n p (prL f w ++ [10]) = true := by
  intro j
  induction j with
  | zero => intro u w h; cases h
  | succ j ih =>
    intro u w h
    simp only [unV] at h
    by_cases q : mL t n p (prL f u ++ [10]) = true
    · rw [if_pos q] at h
      cases h
      exact ⟨Int.le_refl _, by omega, q⟩
    · rw [if_neg q] at h
      obtain ⟨a, b, c⟩ := ih (u + 1) w h
      exact ⟨by omega, by omega, c⟩
theorem unF_none {t : Nat → Nat} {n p : Nat} : ∀ (j f : Nat), unF t n p j f = none → ∀ w, f ≤ w → w < f + j → unO t n p w = none := by
  intro j
  induction j with
  | zero => intro u _ w h1 h2; omega
  | succ j ih =>
    intro f h w h1 h2
    simp only [unF] at h
    cases q : unO t n p f with
    | some v => rw [q] at h; cases h
    | none =>
      rw [q] at h
      by_cases e : w = f
      · rw [e]; exact q
      · exact ih (f + 1) h w (by omega) (by omega)
theorem unF_some {t : Nat → Nat} {n p : Nat} : ∀ (j f : Nat) (w : Nat × Int), unF t n p j f = some w → w.1 < f + j ∧ unO t n p w.1 = some w.2 := by
  intro j
  induction j with
  | zero => intro f w h; cases h
  | succ j ih =>
    intro f w h
    simp only [unF] at h
    cases q : unO t n p f with
    | some v =>
      rw [q] at h
      cases h
      exact ⟨by show f < _; omega, q⟩
    | none =>
      rw [q] at h
      obtain ⟨a, b⟩ := ih (f + 1) w h
      exact ⟨by omega, b⟩
/-- each kind's first bytes, and the bounds of its number as the reference has them -/
theorem kf_all : ∀ k, k < 13 → ∀ g, g < kC k → kd ((kF k + g : Nat) : Int) = some k ∧ kF k + g < 120 ∧ lgO (kF k + g) = kB k ∧ (kN k ≠ 0 → leV (kF k + g) = loN (kN k) ∧ moV (kF k + g) = hiN (kN k)) ∧ (kN k = 0 ↔ kB k = 1) := by decide +kernel
theorem und_none {t : Nat → Nat} {n p : Nat} (h : und t n p = none) {k g : Nat} {v : Int} (ok : okL k g v) : ¬ mL t n p (lnL k g v) = true := by
  unfold und at h
  cases hD : unD t n p 256 0 with
  | some u => rw [hD] at h; cases h
  | none =>
    rw [hD] at h
    simp only at h
    obtain ⟨o1, o2, o3, o4⟩ := ok
    by_cases hk : k = 13
    · subst hk
      have hg : g < 1 := o2
      have hv := o4 (by decide)
      have e1 : loN (kN 13) = 0 := rfl
      have e2 : hiN (kN 13) = 255 := rfl
      have hg0 : g = 0 := by omega
      subst hg0
      have := unD_none 256 0 hD v.toNat (Nat.zero_le _) (by omega)
      rw [daL_lnL (by omega), Int.toNat_of_nonneg (by omega)] at this
      exact this
    · obtain ⟨a1, a2, a3, a4, a5⟩ := kf_all k (by omega) g o2
      have hf := unF_none 120 0 h (kF k + g) (Nat.zero_le _) (by omega)
      have hl := loN_hiN (kN k)
      have eg : kF k + g - kF k = g := by omega
      intro hm
      unfold unO at hf
      have hp := kB_pos k
      rw [a3, if_neg (by omega)] at hf
      by_cases hN : kN k = 0
      · have hv0 := o3 hN
        rw [if_pos (a5.mp hN)] at hf
        have e := prL_lnL (v := v) (show kF k + g < 256 by omega) a1 (by omega) (by omega)
        rw [eg] at e
        unfold prL at e
        rw [a3, if_neg (by rw [a5.mp hN]; decide), List.append_nil] at e
        rw [e, if_pos hm] at hf
        cases hf
      · obtain ⟨q1, q2⟩ := o4 hN
        have e := prL_lnL (v := v) (show kF k + g < 256 by omega) a1 (by omega) (by omega)
        rw [eg] at e
        rw [if_neg (fun z => hN (a5.mpr z))] at hf
        have hm2 := hm
        rw [← e] at hm2
        unfold prL at hm2
        rw [mL_app, mL_app] at hm2
        rw [if_pos hm2.1.1] at hf
        have := unV_none _ _ hf v (by rw [(a4 hN).1]; exact q1) (by rw [(a4 hN).1, (a4 hN).2]; omega)
        rw [e] at this
        exact this hm
theorem und_some {t : Nat → Nat} {n p f : Nat} {v : Int} (h : und t n p = some (f, v)) : (f = 300 ∧ okL 13 0 v ∧ mL t n p (lnL 13 0 v) = true ∧ lnL 13 0 v = daL v.toNat ++ [10]) ∨ (f < 120 ∧ ∃ k, k < 13 ∧ kd (f : Int) = some k ∧ okL k (f - kF k) v ∧ mL t n p (lnL k (f - kF k) v) = true ∧ lnL k (f - kF k) v = prL f v ++ [10] ∧ kF k + (f - kF k) = f) := by
  unfold und at h
  cases hD : unD t n p 256 0 with
  | some u =>
    rw [hD] at h
    cases h
    obtain ⟨-, a2, a3⟩ := unD_some 256 0 u hD
    have e := daL_lnL (u := u) (by omega)
    rw [e] at a3
    refine Or.inl ⟨rfl, ⟨by decide, by decide, fun z => absurd z (by decide), fun _ => ?_⟩, a3, ?_⟩
    · have e1 : loN (kN 13) = 0 := rfl
      have e2 : hiN (kN 13) = 255 := rfl
      omega
    · rw [Int.toNat_natCast]
      exact e.symm
  | none =>
    rw [hD] at h
    simp only at h
    obtain ⟨a1, a2⟩ := unF_some 120 0 (f, v) h
    simp only at a1 a2
    right
    refine ⟨by omega, ?_⟩
    cases hk : kd (f : Int) with
    | none =>
      have := kd_none (show f < 256 by omega) hk
      unfold unO at a2
      rw [this] at a2
      cases a2
    | some k =>
      obtain ⟨k1, k2, -, -, -, -, k7, k8⟩ := kd_some (show f < 256 by omega) hk
      obtain ⟨b1, b2, b3, b4, b5⟩ := kf_all k k1 (f - kF k) (by omega)
      have ef : kF k + (f - kF k) = f := by omega
      rw [ef] at b1 b2 b3 b4
      have hl := loN_hiN (kN k)
      have hp := kB_pos k
      unfold unO at a2
      rw [b3, if_neg (by omega)] at a2
      by_cases hN : kN k = 0
      · rw [if_pos (b5.mp hN)] at a2
        by_cases q : mL t n p (frL f ++ [10]) = true
        · rw [if_pos q] at a2
          cases a2
          have e := prL_lnL (v := 0) (show f < 256 by omega) hk (by omega) (by omega)
          have e2 : prL f 0 = frL f := by
            unfold prL
            rw [b3, if_neg (by rw [b5.mp hN]; decide), List.append_nil]
          refine ⟨k, k1, rfl, ⟨by omega, by omega, fun _ => rfl, fun z => absurd hN z⟩, ?_, e.symm, ef⟩
          rw [← e, e2]
          exact q
        · rw [if_neg q] at a2
          cases a2
      · rw [if_neg (fun z => hN (b5.mpr z))] at a2
        by_cases q : mL t n p (frL f) = true
        · rw [if_pos q] at a2
          obtain ⟨c1, c2, c3⟩ := unV_some _ _ _ a2
          rw [(b4 hN).1] at c1 c2
          rw [(b4 hN).2] at c2
          have e := prL_lnL (v := v) (show f < 256 by omega) hk (by omega) (by omega)
          rw [e] at c3
          exact ⟨k, k1, rfl, ⟨by omega, by omega, fun z => absurd z hN, fun _ => ⟨c1, by omega⟩⟩, c3, e.symm, ef⟩
        · rw [if_neg q] at a2
          cases a2
def mll (f : Nat) (v : Int) : Nat := if f = 300 then (daL v.toNat).length else (prL f v).length
def mab (f : Nat) (v : Int) : List Int32 := if f = 300 then [iI v] else if lgO f = 1 then [nI f] else if lgO f = 3 then [nI f, iI (v / 256), iI v &&& 255] else [nI f, iI v &&& 255]
def masF (t : Nat → Nat) (n : Nat) : Nat → Nat → abT → Option abT
  | 0, _, s => some s
  | j + 1, p, s => if p < n then (match und t n p with
    | none => none
    | some w => masF t n j (p + mll w.1 w.2 + 1) ((mab w.1 w.2).foldl adB s)) else some s
def Ag (s s' : abT) : Prop := s.2 = s'.2 ∧ ∀ i, i < s.2 → i < 160 → s.1 i = s'.1 i
theorem adB_ag {s s' : abT} (h : Ag s s') (x : Int32) : Ag (adB s x) (adB s' x) := by
  obtain ⟨h1, h2⟩ := h
  unfold adB
  refine ⟨by show s.2 + 1 = s'.2 + 1; rw [h1], ?_⟩
  intro i hi hi2
  have hi : i < s.2 + 1 := hi
  show (if s.2 < 160 then upd s.1 s.2 x else s.1) i = (if s'.2 < 160 then upd s'.1 s'.2 x else s'.1) i
  rw [← h1]
  by_cases q : s.2 < 160
  · rw [if_pos q, if_pos q]
    by_cases e : i = s.2
    · rw [e, pk_us, pk_us]
    · rw [pk_un e, pk_un e]
      exact h2 i (by omega) hi2
  · rw [if_neg q, if_neg q]
    exact h2 i (by omega) hi2
theorem adBl_ag : ∀ (l : List Int32) (s s' : abT), Ag s s' → Ag (l.foldl adB s) (l.foldl adB s') := by
  intro l
  induction l with
  | nil => exact fun _ _ h => h
  | cons x l ih => exact fun s s' h => ih _ _ (adB_ag h x)
theorem iI_and {v : Int} (h1 : 0 ≤ v) (h2 : v < 256) : iI v &&& 255 = iI v := by
  obtain ⟨n, rfl⟩ := Int.eq_ofNat_of_zero_le h1
  rw [← nI_iI, pk_andN (n := n) (by omega) 8 (by decide)]
  congr 1
  omega
theorem iI_shr8 {v : Int} (h1 : 0 ≤ v) (h2 : v < 65536) : iI v >>> ((8 : Int32) &&& 31) = iI (v / 256) := by
  obtain ⟨n, rfl⟩ := Int.eq_ofNat_of_zero_le h1
  rw [← nI_iI, pk_shrN (n := n) (by omega) _ 8 (by decide)]
  have e : ((n : Nat) : Int) / 256 = ((n / 2 ^ 8 : Nat) : Int) := by omega
  rw [e, ← nI_iI]
theorem mab_adBs {f k : Nat} {v : Int} (hf : f < 120) (hk : k < 13) (hkd : kd (f : Int) = some k) (ok : okL k (f - kF k) v) (ef : kF k + (f - kF k) = f) (s : abT) : (mab f v).foldl adB s = adBs k (f - kF k) v s := by
  obtain ⟨-, k2, -⟩ := kd_some (show f < 256 by omega) hkd
  obtain ⟨o1, o2, o3, o4⟩ := ok
  unfold mab adBs
  rw [if_neg (show ¬ f = 300 by omega), ← k2, ef, if_neg (show ¬ k = 13 by omega)]
  rcases kn_all k hk with ⟨e1, e2⟩ | ⟨e1, e2, e3⟩ | ⟨e1, e2, e3⟩ | ⟨e1, e2⟩
  · rw [e1, e2]
    rfl
  · rw [e1, e2]
    rfl
  · rw [e1, e2]
    rfl
  · have hv := o4 (by rw [e1]; decide)
    rw [e1] at hv
    have l1 : loN 3 = 0 := rfl
    have l2 : hiN 3 = 65535 := rfl
    rw [e1, e2, iI_shr8 (by omega) (by omega)]
    rfl
/-- the class's reading and the reference's trying, round by round -/
theorem as_same {t : Nat → Nat} {n : Nat} : ∀ (j p : Nat) (s s' : abT), Ag s s' → match masF t n j p s' with
    | none => (rdF t n j (p, true) s).1.2 = false
    | some w => (rdF t n j (p, true) s).1.2 = true ∧ Ag (rdF t n j (p, true) s).2 w := by
  intro j
  induction j with
  | zero => intro p s s' h; exact ⟨rfl, h⟩
  | succ j ih =>
    intro p s s' h
    simp only [masF, rdF]
    by_cases hp : p < n
    · rw [if_pos hp, if_pos ⟨trivial, hp⟩]
      have stop : ∀ (r : rdT) (s : abT), r.2 = false → (rdF t n j r s).1.2 = false := by
        intro r s hr
        cases j with
        | zero => exact hr
        | succ j =>
          simp only [rdF]
          rw [if_neg (fun z => by rw [hr] at z; cases z.1)]
          exact hr
      cases hu : und t n p with
      | none =>
        simp only
        refine stop _ _ ?_
        cases hr : (rdLr t n (p, true)).2 with
        | false => rfl
        | true =>
          obtain ⟨k, g, v, ok, hm, -⟩ := line_true hr
          exact absurd hm (und_none hu ok)
      | some w =>
        obtain ⟨f, v⟩ := w
        simp only
        rcases und_some hu with ⟨rfl, ok, hm, hl⟩ | ⟨hf, k, hk, hkd, ok, hm, hl, ef⟩
        · obtain ⟨e1, e2⟩ := line_of ok hm
          rw [e1, e2, hl]
          have ev : adBs 13 0 v s = [iI v].foldl adB s := by
            have hv := ok.2.2.2 (by decide)
            have l1 : loN (kN 13) = 0 := rfl
            have l2 : hiN (kN 13) = 255 := rfl
            show adB s (iI v &&& 255) = adB s (iI v)
            rw [iI_and (by omega) (by omega)]
          rw [ev]
          have em : mab 300 v = [iI v] := rfl
          have ell : p + (daL v.toNat ++ [10]).length = p + mll 300 v + 1 := by
            rw [List.length_append]
            rfl
          rw [ell, em]
          exact ih _ _ _ (adBl_ag _ _ _ h)
        · obtain ⟨e1, e2⟩ := line_of ok hm
          rw [e1, e2, hl, ← mab_adBs hf hk hkd ok ef]
          have ell : p + (prL f v ++ [10]).length = p + mll f v + 1 := by
            unfold mll
            rw [if_neg (show ¬ f = 300 by omega), List.length_append]
            rfl
          rw [ell]
          exact ih _ _ _ (adBl_ag _ _ _ h)
    · rw [if_neg hp, if_neg (fun z => hp z.2)]
      exact ⟨rfl, h⟩
end
section
set_option maxHeartbeats 4000000 in
set_option maxRecDepth 100000 in
theorem c_Ki_ofFirst (l : Launch) (dC : Nat → ClassId) (dI : Nat → Nat → Nat) (z : zT) (x : Int32) (y : Int) (hy : x.toInt = y) : MR l y_Ki_ofFirst b_Ki_ofFirst 3 (some .int) 0 0 (dC, dI) z [.int x] [] [] (.int (oI (kd y))) := by
  refine metR (by decide) (Nat.le_of_ble_eq_true rfl) ?_
  intro p e s m below meth c ls hx hb hr hlocks hml hown ht hl hP hK hSS
  have hl : lv_has ls 3 [(0, .int x)] := hl
  have hS : va_S (fun _ => False) s.heap s.heap [] := va_S.rf
  refine lv_iconst (v := nI 0) hx hb d_Ki_ofFirst_0 (by decide) ?_
  refine lv_istore_n (lv' := [(1, .int (nI 0)), (0, .int x)]) hx hb d_Ki_ofFirst_1 rfl hl (Nat.le_of_ble_eq_true rfl) rfl (fun ls hl => ?_)
  have loop2 : ∀ (j : Nat) (k : Nat) (ls : Array Slot), (k + j = 13) → (kd y = kFind y j k) → lv_has ls 3 [(1, .int (nI k)), (0, .int x)] → W p l e (rmq 0 0) s m [.int x].toArray below meth c s.heap [] 0 0 (MQ below (k2_QcV (.int (oI (kd y)))) [.int x].toArray s 0 0 (fun _ => False)) (F0 m 2 ls []) := by
    intro j
    induction j with
    | zero =>
      intro k ls hk hR hl
      refine lv_iload_n hx hb d_Ki_ofFirst_2 rfl (lv_at hl 0 rfl) ?_
      refine lv_bipush (v := nI 13) hx hb d_Ki_ofFirst_3 (by decide) ?_
      refine z_icmp_ge (tgt := 46) hx hb d_Ki_ofFirst_5 (tI_n (by omega)) (tI_n (by omega)) (by decide) (fun g5 => ?_) (fun g5 => ?_)
      · refine lv_iconst (v := iI (-1)) hx hb d_Ki_ofFirst_46 (by decide) ?_
        exact eRi hx hb hr hlocks d_Ki_ofFirst_47 (by rw [hR]; rfl)
      · exfalso; omega
    | succ j ih =>
      intro k ls hk hR hl
      have hF := kF_lt k
      have hC := kC_lt k
      refine lv_iload_n hx hb d_Ki_ofFirst_2 rfl (lv_at hl 0 rfl) ?_
      refine lv_bipush (v := nI 13) hx hb d_Ki_ofFirst_3 (by decide) ?_
      refine z_icmp_ge (tgt := 46) hx hb d_Ki_ofFirst_5 (tI_n (by omega)) (tI_n (by omega)) (by decide) (fun g5 => ?_) (fun g5 => ?_)
      · exfalso; omega
      · refine lv_iconst (v := nI 1) hx hb d_Ki_ofFirst_8 (by decide) ?_
        refine lv_iconst (v := nI 2) hx hb d_Ki_ofFirst_9 (by decide) ?_
        refine va_gets hx hb (hSS.2.1.1) hS hown (ht _ k_183) (fun _ h9 => h9) d_Ki_ofFirst_10 ?_
        refine lv_iload_n hx hb d_Ki_ofFirst_13 rfl (lv_at hl 0 rfl) ?_
        refine va_ti hx hb (hSS.2.1.2) hS (vin (by omega) (by decide)) (v := .int (nI (kR k))) (by rw [clp (by omega)]) d_Ki_ofFirst_14 ?_
        refine nMul hx hb d_Ki_ofFirst_15 ?_
        refine lv_ishl hx hb d_Ki_ofFirst_16 ?_
        refine eqi (y := nI (kC k)) (shl_kC k (by omega)) ?_
        refine lv_istore_n (lv' := [(2, .int (nI (kC k))), (1, .int (nI k)), (0, .int x)]) hx hb d_Ki_ofFirst_17 rfl hl (Nat.le_of_ble_eq_true rfl) rfl (fun ls hl => ?_)
        refine lv_iload_n hx hb d_Ki_ofFirst_18 rfl (lv_at hl 2 rfl) ?_
        refine va_gets hx hb (hSS.1.1) hS hown (ht _ k_185) (fun _ h9 => h9) d_Ki_ofFirst_19 ?_
        refine lv_iload_n hx hb d_Ki_ofFirst_22 rfl (lv_at hl 1 rfl) ?_
        refine va_ti hx hb (hSS.1.2) hS (vin (by omega) (by decide)) (v := .int (nI (kF k))) (by rw [clp (by omega)]) d_Ki_ofFirst_23 ?_
        refine z_icmp_lt (tgt := 40) hx hb d_Ki_ofFirst_24 hy (tI_n (by omega)) (by decide) (fun g24 => ?_) (fun g24 => ?_)
        · refine lv_iinc (k := 1) (v := nI (k + 1)) (lv' := [(1, .int (nI (k + 1))), (2, .int (nI (kC k))), (0, .int x)]) hx hb d_Ki_ofFirst_40 hl rfl (nI_inc1 _) (Nat.le_of_ble_eq_true rfl) rfl (fun ls hl => ?_)
          refine lv_goto (tgt := 2) hx hb d_Ki_ofFirst_43 (by decide) ?_
          exact ih (k + 1) _ (by omega) (by rw [hR, kFind, if_neg (by omega)]) (lv_sub hl [0, 2] rfl)
        · refine lv_iload_n hx hb d_Ki_ofFirst_27 rfl (lv_at hl 2 rfl) ?_
          refine va_gets hx hb (hSS.1.1) hS hown (ht _ k_185) (fun _ h9 => h9) d_Ki_ofFirst_28 ?_
          refine lv_iload_n hx hb d_Ki_ofFirst_31 rfl (lv_at hl 1 rfl) ?_
          refine va_ti hx hb (hSS.1.2) hS (vin (by omega) (by decide)) (v := .int (nI (kF k))) (by rw [clp (by omega)]) d_Ki_ofFirst_32 ?_
          refine lv_iload_n hx hb d_Ki_ofFirst_33 rfl (lv_at hl 0 rfl) ?_
          refine nAdd hx hb d_Ki_ofFirst_34 ?_
          refine z_icmp_ge (tgt := 40) hx hb d_Ki_ofFirst_35 hy (tI_n (by omega)) (by decide) (fun g35 => ?_) (fun g35 => ?_)
          · refine lv_iinc (k := 1) (v := nI (k + 1)) (lv' := [(1, .int (nI (k + 1))), (2, .int (nI (kC k))), (0, .int x)]) hx hb d_Ki_ofFirst_40 hl rfl (nI_inc1 _) (Nat.le_of_ble_eq_true rfl) rfl (fun ls hl => ?_)
            refine lv_goto (tgt := 2) hx hb d_Ki_ofFirst_43 (by decide) ?_
            exact ih (k + 1) _ (by omega) (by rw [hR, kFind, if_neg (by omega)]) (lv_sub hl [0, 2] rfl)
          · refine lv_iload_n hx hb d_Ki_ofFirst_38 rfl (lv_at hl 1 rfl) ?_
            exact eRi hx hb hr hlocks d_Ki_ofFirst_39 (by rw [hR, kFind, if_pos (by omega)]; rfl)
  exact loop2 13 0 _ (rfl) (rfl) (lv_sub hl [0, 1] rfl)

set_option maxHeartbeats 4000000 in
set_option maxRecDepth 100000 in
theorem c_Ki_first (l : Launch) (dC : Nat → ClassId) (dI : Nat → Nat → Nat) (z : zT) (k : Nat) (hk : k < 14) : MR l y_Ki_first b_Ki_first 1 (some .int) 0 0 (dC, dI) z [.int (nI k)] [] [] (.int (nI (kF k))) := by
  refine metR (by decide) (Nat.le_of_ble_eq_true rfl) ?_
  intro p e s m below meth c ls hx hb hr hlocks hml hown ht hl hP hK hSS
  have hl : lv_has ls 1 [(0, .int (nI k))] := hl
  have hS : va_S (fun _ => False) s.heap s.heap [] := va_S.rf
  refine va_gets hx hb (hSS.1.1) hS hown (ht _ k_185) (fun _ h9 => h9) d_Ki_first_0 ?_
  refine lv_iload_n hx hb d_Ki_first_3 rfl (lv_at hl 0 rfl) ?_
  refine va_ti hx hb (hSS.1.2) hS (vin (by omega) (by decide)) (v := .int (nI (kF k))) (by rw [clp (by omega)]) d_Ki_first_4 ?_
  exact eRi hx hb hr hlocks d_Ki_first_5 (rfl)

set_option maxHeartbeats 4000000 in
set_option maxRecDepth 100000 in
theorem c_Ki_registers (l : Launch) (dC : Nat → ClassId) (dI : Nat → Nat → Nat) (z : zT) (k : Nat) (hk : k < 14) : MR l y_Ki_registers b_Ki_registers 1 (some .int) 0 0 (dC, dI) z [.int (nI k)] [] [] (.int (nI (kR k))) := by
  refine metR (by decide) (Nat.le_of_ble_eq_true rfl) ?_
  intro p e s m below meth c ls hx hb hr hlocks hml hown ht hl hP hK hSS
  have hl : lv_has ls 1 [(0, .int (nI k))] := hl
  have hS : va_S (fun _ => False) s.heap s.heap [] := va_S.rf
  refine va_gets hx hb (hSS.2.1.1) hS hown (ht _ k_183) (fun _ h9 => h9) d_Ki_registers_0 ?_
  refine lv_iload_n hx hb d_Ki_registers_3 rfl (lv_at hl 0 rfl) ?_
  refine va_ti hx hb (hSS.2.1.2) hS (vin (by omega) (by decide)) (v := .int (nI (kR k))) (by rw [clp (by omega)]) d_Ki_registers_4 ?_
  exact eRi hx hb hr hlocks d_Ki_registers_5 (rfl)

set_option maxHeartbeats 4000000 in
set_option maxRecDepth 100000 in
theorem c_Ki_number (l : Launch) (dC : Nat → ClassId) (dI : Nat → Nat → Nat) (z : zT) (k : Nat) (hk : k < 14) : MR l y_Ki_number b_Ki_number 1 (some .int) 0 0 (dC, dI) z [.int (nI k)] [] [] (.int (nI (kN k))) := by
  refine metR (by decide) (Nat.le_of_ble_eq_true rfl) ?_
  intro p e s m below meth c ls hx hb hr hlocks hml hown ht hl hP hK hSS
  have hl : lv_has ls 1 [(0, .int (nI k))] := hl
  have hS : va_S (fun _ => False) s.heap s.heap [] := va_S.rf
  refine va_gets hx hb (hSS.2.2.1.1) hS hown (ht _ k_190) (fun _ h9 => h9) d_Ki_number_0 ?_
  refine lv_iload_n hx hb d_Ki_number_3 rfl (lv_at hl 0 rfl) ?_
  refine va_ti hx hb (hSS.2.2.1.2) hS (vin (by omega) (by decide)) (v := .int (nI (kN k))) (by rw [clp (by omega)]) d_Ki_number_4 ?_
  exact eRi hx hb hr hlocks d_Ki_number_5 (rfl)

set_option maxHeartbeats 4000000 in
set_option maxRecDepth 100000 in
theorem c_Ki_bytes (l : Launch) (dC : Nat → ClassId) (dI : Nat → Nat → Nat) (z : zT) (k : Nat) (hk : k < 14) : MR l y_Ki_bytes b_Ki_bytes 1 (some .int) 0 0 (dC, dI) z [.int (nI k)] [] [] (.int (nI (kB k))) := by
  refine metR (by decide) (Nat.le_of_ble_eq_true rfl) ?_
  intro p e s m below meth c ls hx hb hr hlocks hml hown ht hl hP hK hSS
  have hl : lv_has ls 1 [(0, .int (nI k))] := hl
  have hS : va_S (fun _ => False) s.heap s.heap [] := va_S.rf
  refine va_gets hx hb (hSS.2.2.1.1) hS hown (ht _ k_190) (fun _ h9 => h9) d_Ki_bytes_0 ?_
  refine lv_iload_n hx hb d_Ki_bytes_3 rfl (lv_at hl 0 rfl) ?_
  refine va_ti hx hb (hSS.2.2.1.2) hS (vin (by omega) (by decide)) (v := .int (nI (kN k))) (by rw [clp (by omega)]) d_Ki_bytes_4 ?_
  rcases kN_cases k hk with e | e | e | e
  · refine eqi (y := nI 0) (by rw [e]) ?_
    refine lv_lookup (off := 27) (tgt := 32) hx hb d_Ki_bytes_5 (by decide) (by decide) (by decide) ?_
    refine lv_iconst (v := nI 1) hx hb d_Ki_bytes_32 (by decide) ?_
    exact eRi hx hb hr hlocks d_Ki_bytes_33 (by simp [kB, e])
  · refine eqi (y := nI 1) (by rw [e]) ?_
    refine lv_lookup (off := 31) (tgt := 36) hx hb d_Ki_bytes_5 (by decide) (by decide) (by decide) ?_
    refine lv_iconst (v := nI 2) hx hb d_Ki_bytes_36 (by decide) ?_
    exact eRi hx hb hr hlocks d_Ki_bytes_37 (by simp [kB, e])
  · refine eqi (y := nI 2) (by rw [e]) ?_
    refine lv_lookup (off := 31) (tgt := 36) hx hb d_Ki_bytes_5 (by decide) (by decide) (by decide) ?_
    refine lv_iconst (v := nI 2) hx hb d_Ki_bytes_36 (by decide) ?_
    exact eRi hx hb hr hlocks d_Ki_bytes_37 (by simp [kB, e])
  · refine eqi (y := nI 3) (by rw [e]) ?_
    refine lv_lookup (off := 29) (tgt := 34) hx hb d_Ki_bytes_5 (by decide) (by decide) (by decide) ?_
    refine lv_iconst (v := nI 3) hx hb d_Ki_bytes_34 (by decide) ?_
    exact eRi hx hb hr hlocks d_Ki_bytes_35 (by simp [kB, e])

set_option maxHeartbeats 4000000 in
set_option maxRecDepth 100000 in
theorem c_Ki_lowest (l : Launch) (dC : Nat → ClassId) (dI : Nat → Nat → Nat) (z : zT) (n : Nat) (hn : n < 4) : MR l y_Ki_lowest b_Ki_lowest 1 (some .int) 0 0 (dC, dI) z [.int (nI n)] [] [] (.int (iI (loN n))) := by
  refine metR (by decide) (Nat.le_of_ble_eq_true rfl) ?_
  intro p e s m below meth c ls hx hb hr hlocks hml hown ht hl hP hK hSS
  have hl : lv_has ls 1 [(0, .int (nI n))] := hl
  have hS : va_S (fun _ => False) s.heap s.heap [] := va_S.rf
  refine lv_iload_n hx hb d_Ki_lowest_0 rfl (lv_at hl 0 rfl) ?_
  refine lv_iconst (v := nI 2) hx hb d_Ki_lowest_1 (by decide) ?_
  refine z_icmp_ne (tgt := 10) hx hb d_Ki_lowest_2 (tI_n (by omega)) (tI_n (by omega)) (by decide) (fun g2 => ?_) (fun g2 => ?_)
  · refine lv_iconst (v := nI 0) hx hb d_Ki_lowest_10 (by decide) ?_
    exact eRi hx hb hr hlocks d_Ki_lowest_11 (by unfold loN; first | rw [if_pos (by omega)] | (rw [if_neg (by omega)]; rfl))
  · refine lv_bipush (v := iI (-128)) hx hb d_Ki_lowest_5 (by decide) ?_
    refine lv_goto (tgt := 11) hx hb d_Ki_lowest_7 (by decide) ?_
    exact eRi hx hb hr hlocks d_Ki_lowest_11 (by unfold loN; first | rw [if_pos (by omega)] | (rw [if_neg (by omega)]; rfl))

set_option maxHeartbeats 4000000 in
set_option maxRecDepth 100000 in
theorem c_Ki_highest (l : Launch) (dC : Nat → ClassId) (dI : Nat → Nat → Nat) (z : zT) (n : Nat) (hn : n < 4) : MR l y_Ki_highest b_Ki_highest 1 (some .int) 0 0 (dC, dI) z [.int (nI n)] [] [] (.int (iI (hiN n))) := by
  refine metR (by decide) (Nat.le_of_ble_eq_true rfl) ?_
  intro p e s m below meth c ls hx hb hr hlocks hml hown ht hl hP hK hSS
  have hl : lv_has ls 1 [(0, .int (nI n))] := hl
  have hS : va_S (fun _ => False) s.heap s.heap [] := va_S.rf
  refine lv_iload_n hx hb d_Ki_highest_0 rfl (lv_at hl 0 rfl) ?_
  rcases (show n = 0 ∨ n = 1 ∨ n = 2 ∨ n = 3 by omega) with e | e | e | e
  · subst e
    refine lv_lookup (off := 33) (tgt := 34) hx hb d_Ki_highest_1 (by decide) (by decide) (by decide) ?_
    refine lv_sipush (v := nI 255) hx hb d_Ki_highest_34 (by decide) ?_
    exact eRi hx hb hr hlocks d_Ki_highest_37 (by rfl)
  · subst e
    refine lv_lookup (off := 33) (tgt := 34) hx hb d_Ki_highest_1 (by decide) (by decide) (by decide) ?_
    refine lv_sipush (v := nI 255) hx hb d_Ki_highest_34 (by decide) ?_
    exact eRi hx hb hr hlocks d_Ki_highest_37 (by rfl)
  · subst e
    refine lv_lookup (off := 27) (tgt := 28) hx hb d_Ki_highest_1 (by decide) (by decide) (by decide) ?_
    refine lv_bipush (v := nI 127) hx hb d_Ki_highest_28 (by decide) ?_
    exact eRi hx hb hr hlocks d_Ki_highest_30 (by rfl)
  · subst e
    refine lv_lookup (off := 30) (tgt := 31) hx hb d_Ki_highest_1 (by decide) (by decide) (by decide) ?_
    refine lv_ldc (v := 65535) hx hb hown (ht _ k_443) d_Ki_highest_31 ?_
    refine eqi (y := nI 65535) (by decide) ?_
    exact eRi hx hb hr hlocks d_Ki_highest_33 (by rfl)

set_option maxHeartbeats 4000000 in
set_option maxRecDepth 100000 in
theorem c_Ki_fallsThrough (l : Launch) (dC : Nat → ClassId) (dI : Nat → Nat → Nat) (z : zT) (k : Nat) (hk : k < 14) : MR l y_Ki_fallsThrough b_Ki_fallsThrough 1 (some .boolean) 0 0 (dC, dI) z [.int (nI k)] [] [] (.int (bI (fallsB k))) := by
  refine metR (by decide) (Nat.le_of_ble_eq_true rfl) ?_
  intro p e s m below meth c ls hx hb hr hlocks hml hown ht hl hP hK hSS
  have hl : lv_has ls 1 [(0, .int (nI k))] := hl
  have hS : va_S (fun _ => False) s.heap s.heap [] := va_S.rf
  refine lv_iload_n hx hb d_Ki_fallsThrough_0 rfl (lv_at hl 0 rfl) ?_
  refine lv_iconst (v := nI 1) hx hb d_Ki_fallsThrough_1 (by decide) ?_
  refine z_icmp_eq (tgt := 20) hx hb d_Ki_fallsThrough_2 (tI_n (by omega)) (tI_n (by omega)) (by decide) (fun g2 => ?_) (fun g2 => ?_)
  · refine lv_iconst (v := nI 0) hx hb d_Ki_fallsThrough_20 (by decide) ?_
    refine eqi (y := bI false) (by decide) ?_
    exact eRz hx hb hr hlocks (bI_narrow _) d_Ki_fallsThrough_21 (bI_zero (by omega))
  · refine lv_iload_n hx hb d_Ki_fallsThrough_5 rfl (lv_at hl 0 rfl) ?_
    refine lv_iconst (v := nI 2) hx hb d_Ki_fallsThrough_6 (by decide) ?_
    refine z_icmp_eq (tgt := 20) hx hb d_Ki_fallsThrough_7 (tI_n (by omega)) (tI_n (by omega)) (by decide) (fun g7 => ?_) (fun g7 => ?_)
    · refine lv_iconst (v := nI 0) hx hb d_Ki_fallsThrough_20 (by decide) ?_
      refine eqi (y := bI false) (by decide) ?_
      exact eRz hx hb hr hlocks (bI_narrow _) d_Ki_fallsThrough_21 (bI_zero (by omega))
    · refine lv_iload_n hx hb d_Ki_fallsThrough_10 rfl (lv_at hl 0 rfl) ?_
      refine lv_bipush (v := nI 7) hx hb d_Ki_fallsThrough_11 (by decide) ?_
      refine z_icmp_eq (tgt := 20) hx hb d_Ki_fallsThrough_13 (tI_n (by omega)) (tI_n (by omega)) (by decide) (fun g13 => ?_) (fun g13 => ?_)
      · refine lv_iconst (v := nI 0) hx hb d_Ki_fallsThrough_20 (by decide) ?_
        refine eqi (y := bI false) (by decide) ?_
        exact eRz hx hb hr hlocks (bI_narrow _) d_Ki_fallsThrough_21 (bI_zero (by omega))
      · refine lv_iconst (v := nI 1) hx hb d_Ki_fallsThrough_16 (by decide) ?_
        refine lv_goto (tgt := 21) hx hb d_Ki_fallsThrough_17 (by decide) ?_
        refine eqi (y := bI true) (by decide) ?_
        exact eRz hx hb hr hlocks (bI_narrow _) d_Ki_fallsThrough_21 (bI_one (by omega))
end
section
set_option maxHeartbeats 4000000 in
set_option maxRecDepth 100000 in
theorem c_Ki_opening (l : Launch) (dC : Nat → ClassId) (dI : Nat → Nat → Nat) (z : zT) (k : Nat) (hk : k < 14) : MR l y_Ki_opening b_Ki_opening 1 (some (.object "java/lang/String")) 0 0 (dC, dI) z [.int (nI k)] [] [] (.ref (z.2.2.2.1 k)) := by
  refine metR (by decide) (Nat.le_of_ble_eq_true rfl) ?_
  intro p e s m below meth c ls hx hb hr hlocks hml hown ht hl hP hK hSS
  have hl : lv_has ls 1 [(0, .int (nI k))] := hl
  have hS : va_S (fun _ => False) s.heap s.heap [] := va_S.rf
  refine lv_iload_n hx hb d_Ki_opening_0 rfl (lv_at hl 0 rfl) ?_
  rcases (show k = 0 ∨ k = 1 ∨ k = 2 ∨ k = 3 ∨ k = 4 ∨ k = 5 ∨ k = 6 ∨ k = 7 ∨ k = 8 ∨ k = 9 ∨ k = 10 ∨ k = 11 ∨ k = 12 ∨ k = 13 by omega) with e | e | e | e | e | e | e | e | e | e | e | e | e | e
  · subst e
    refine lv_tableIn (off := 67) (tgt := 68) hx hb d_Ki_opening_1 (by decide) (by decide) (by decide) (by decide) ?_
    refine va_ldcS hx hb hown (hSS.2.2.2.2.2.2 0 (by decide)) d_Ki_opening_68 ?_
    exact eRa hx hb hr hlocks d_Ki_opening_70
  · subst e
    refine lv_tableIn (off := 70) (tgt := 71) hx hb d_Ki_opening_1 (by decide) (by decide) (by decide) (by decide) ?_
    refine va_ldcS hx hb hown (hSS.2.2.2.2.2.2 1 (by decide)) d_Ki_opening_71 ?_
    exact eRa hx hb hr hlocks d_Ki_opening_73
  · subst e
    refine lv_tableIn (off := 73) (tgt := 74) hx hb d_Ki_opening_1 (by decide) (by decide) (by decide) (by decide) ?_
    refine va_ldcS hx hb hown (hSS.2.2.2.2.2.2 2 (by decide)) d_Ki_opening_74 ?_
    exact eRa hx hb hr hlocks d_Ki_opening_76
  · subst e
    refine lv_tableIn (off := 76) (tgt := 77) hx hb d_Ki_opening_1 (by decide) (by decide) (by decide) (by decide) ?_
    refine va_ldcS hx hb hown (hSS.2.2.2.2.2.2 3 (by decide)) d_Ki_opening_77 ?_
    exact eRa hx hb hr hlocks d_Ki_opening_79
  · subst e
    refine lv_tableIn (off := 79) (tgt := 80) hx hb d_Ki_opening_1 (by decide) (by decide) (by decide) (by decide) ?_
    refine va_ldcS hx hb hown (hSS.2.2.2.2.2.2 4 (by decide)) d_Ki_opening_80 ?_
    exact eRa hx hb hr hlocks d_Ki_opening_82
  · subst e
    refine lv_tableIn (off := 82) (tgt := 83) hx hb d_Ki_opening_1 (by decide) (by decide) (by decide) (by decide) ?_
    refine va_ldcS hx hb hown (hSS.2.2.2.2.2.2 5 (by decide)) d_Ki_opening_83 ?_
    exact eRa hx hb hr hlocks d_Ki_opening_85
  · subst e
    refine lv_tableIn (off := 85) (tgt := 86) hx hb d_Ki_opening_1 (by decide) (by decide) (by decide) (by decide) ?_
    refine va_ldcS hx hb hown (hSS.2.2.2.2.2.2 6 (by decide)) d_Ki_opening_86 ?_
    exact eRa hx hb hr hlocks d_Ki_opening_88
  · subst e
    refine lv_tableIn (off := 88) (tgt := 89) hx hb d_Ki_opening_1 (by decide) (by decide) (by decide) (by decide) ?_
    refine va_ldcS hx hb hown (hSS.2.2.2.2.2.2 7 (by decide)) d_Ki_opening_89 ?_
    exact eRa hx hb hr hlocks d_Ki_opening_91
  · subst e
    refine lv_tableIn (off := 91) (tgt := 92) hx hb d_Ki_opening_1 (by decide) (by decide) (by decide) (by decide) ?_
    refine va_ldcS hx hb hown (hSS.2.2.2.2.2.2 8 (by decide)) d_Ki_opening_92 ?_
    exact eRa hx hb hr hlocks d_Ki_opening_94
  · subst e
    refine lv_tableIn (off := 94) (tgt := 95) hx hb d_Ki_opening_1 (by decide) (by decide) (by decide) (by decide) ?_
    refine va_ldcS hx hb hown (hSS.2.2.2.2.2.2 9 (by decide)) d_Ki_opening_95 ?_
    exact eRa hx hb hr hlocks d_Ki_opening_97
  · subst e
    refine lv_tableIn (off := 97) (tgt := 98) hx hb d_Ki_opening_1 (by decide) (by decide) (by decide) (by decide) ?_
    refine va_ldcS hx hb hown (hSS.2.2.2.2.2.2 10 (by decide)) d_Ki_opening_98 ?_
    exact eRa hx hb hr hlocks d_Ki_opening_100
  · subst e
    refine lv_tableIn (off := 100) (tgt := 101) hx hb d_Ki_opening_1 (by decide) (by decide) (by decide) (by decide) ?_
    refine va_ldcS hx hb hown (hSS.2.2.2.2.2.2 11 (by decide)) d_Ki_opening_101 ?_
    exact eRa hx hb hr hlocks d_Ki_opening_103
  · subst e
    refine lv_tableIn (off := 103) (tgt := 104) hx hb d_Ki_opening_1 (by decide) (by decide) (by decide) (by decide) ?_
    refine va_ldcS hx hb hown (hSS.2.2.2.2.2.2 12 (by decide)) d_Ki_opening_104 ?_
    exact eRa hx hb hr hlocks d_Ki_opening_106
  · subst e
    refine lv_tableOut (tgt := 107) hx hb d_Ki_opening_1 (by decide) (by decide) ?_
    refine va_ldcS hx hb hown (hSS.2.2.2.2.2.2 13 (by decide)) d_Ki_opening_107 ?_
    exact eRa hx hb hr hlocks d_Ki_opening_109
end
section
set_option maxHeartbeats 4000000 in
set_option maxRecDepth 100000 in
theorem c_Im_count (l : Launch) (dC : Nat → ClassId) (dI : Nat → Nat → Nat) (z : zT) (h : Nat) (q : Nat) (ca : ClassId) (b : Nat → Nat) (n : Nat) : MR l y_Im_count b_Im_count 1 (some .int) 0 0 (dC, dI) z [.ref h] [(h, .inr (1, [.ref q, .int (nI n)])), (q, .inl (ca, 160, .inl (iN b)))] [(ca, .int)] (.int (nI n)) := by
  refine metR (by decide) (Nat.le_of_ble_eq_true rfl) ?_
  intro p e s m below meth c ls hx hb hr hlocks hml hown ht hl hP hK hSS
  have hl : lv_has ls 1 [(0, .ref h)] := hl
  have hS : va_S (fun _ => False) s.heap s.heap [] := va_S.rf
  refine lv_aload_n hx hb d_Im_count_0 rfl (lv_at hl 0 rfl) ?_
  refine va_get (D := (dC, dI)) (ci := 1) (v := .int (nI n)) (C := R_Im) (T := F_Im) (N := 2) hx hb ht in_Im hown hK hP 0 rfl rfl 1 (by decide) (ht _ k_29) (fun _ h9 => h9) rfl d_Im_count_1 ?_
  exact eRi hx hb hr hlocks d_Im_count_4 (rfl)

set_option maxHeartbeats 4000000 in
set_option maxRecDepth 100000 in
theorem c_Im_holds (l : Launch) (dC : Nat → ClassId) (dI : Nat → Nat → Nat) (z : zT) (h : Nat) (q : Nat) (ca : ClassId) (b : Nat → Nat) (n : Nat) (x : Int32) (y : Int) (hn : n ≤ 160) (hy : x.toInt = y) : MR l y_Im_holds b_Im_holds 2 (some .boolean) 0 0 (dC, dI) z [.ref h, .int x] [(h, .inr (1, [.ref q, .int (nI n)])), (q, .inl (ca, 160, .inl (iN b)))] [(ca, .int)] (.int (bI (decide (0 ≤ y ∧ y < (n : Int))))) := by
  refine metR (by decide) (Nat.le_of_ble_eq_true rfl) ?_
  intro p e s m below meth c ls hx hb hr hlocks hml hown ht hl hP hK hSS
  have hl : lv_has ls 2 [(0, .ref h), (1, .int x)] := hl
  have hS : va_S (fun _ => False) s.heap s.heap [] := va_S.rf
  refine lv_iload_n hx hb d_Im_holds_0 rfl (lv_at hl 1 rfl) ?_
  refine z_if_lt (tgt := 16) hx hb d_Im_holds_1 hy (by decide) (fun g1 => ?_) (fun g1 => ?_)
  · refine lv_iconst (v := nI 0) hx hb d_Im_holds_16 (by decide) ?_
    refine eqi (y := bI false) (by decide) ?_
    exact eRz hx hb hr hlocks (bI_narrow _) d_Im_holds_17 (bI_zero (by omega))
  · refine lv_iload_n hx hb d_Im_holds_4 rfl (lv_at hl 1 rfl) ?_
    refine lv_aload_n hx hb d_Im_holds_5 rfl (lv_at hl 0 rfl) ?_
    refine va_get (D := (dC, dI)) (ci := 1) (v := .int (nI n)) (C := R_Im) (T := F_Im) (N := 2) hx hb ht in_Im hown hK hP 0 rfl rfl 1 (by decide) (ht _ k_29) (fun _ h9 => h9) rfl d_Im_holds_6 ?_
    refine z_icmp_ge (tgt := 16) hx hb d_Im_holds_9 hy (tI_n (by omega)) (by decide) (fun g9 => ?_) (fun g9 => ?_)
    · refine lv_iconst (v := nI 0) hx hb d_Im_holds_16 (by decide) ?_
      refine eqi (y := bI false) (by decide) ?_
      exact eRz hx hb hr hlocks (bI_narrow _) d_Im_holds_17 (bI_zero (by omega))
    · refine lv_iconst (v := nI 1) hx hb d_Im_holds_12 (by decide) ?_
      refine lv_goto (tgt := 17) hx hb d_Im_holds_13 (by decide) ?_
      refine eqi (y := bI true) (by decide) ?_
      exact eRz hx hb hr hlocks (bI_narrow _) d_Im_holds_17 (bI_one (by omega))

set_option maxHeartbeats 4000000 in
set_option maxRecDepth 100000 in
theorem c_Im_at (l : Launch) (dC : Nat → ClassId) (dI : Nat → Nat → Nat) (z : zT) (h : Nat) (q : Nat) (ca : ClassId) (b : Nat → Nat) (n : Nat) (x : Int32) (y : Int) (hn : n ≤ 160) (hy : x.toInt = y) : MR l y_Im_at b_Im_at 2 (some .int) 1 21 (dC, dI) z [.ref h, .int x] [(h, .inr (1, [.ref q, .int (nI n)])), (q, .inl (ca, 160, .inl (iN b)))] [(ca, .int)] (.int (iI (atZ b n y))) := by
  refine metR (by decide) (Nat.le_of_ble_eq_true rfl) ?_
  intro p e s m below meth c ls hx hb hr hlocks hml hown ht hl hP hK hSS
  have hl : lv_has ls 2 [(0, .ref h), (1, .int x)] := hl
  have hS : va_S (fun _ => False) s.heap s.heap [] := va_S.rf
  refine lv_aload_n hx hb d_Im_at_0 rfl (lv_at hl 0 rfl) ?_
  refine lv_iload_n hx hb d_Im_at_1 rfl (lv_at hl 1 rfl) ?_
  refine rV (As := [.int x]) (rest := []) hx hb hml hown ht (c_Im_holds l dC dI z h q ca b n x y (by first | assumption | omega) hy) yv_Im_holds k_162 (Nat.le_of_ble_eq_true rfl) (Nat.le_of_ble_eq_true rfl) hP hK hSS hS [0, 1] [0] rfl rfl 0 1 rfl rfl rfl hl rfl rfl (Nat.le_of_ble_eq_true rfl) (Nat.zero_le _) (Nat.zero_le _) d_Im_at_2 ?_
  refine b_if_eq (tgt := 17) hx hb d_Im_at_5 (by decide) (fun g5 => ?_) (fun g5 => ?_)
  · have g := of_decide_eq_false g5
    refine lv_iconst (v := iI (-1)) hx hb d_Im_at_17 (by decide) ?_
    exact eRi hx hb hr hlocks d_Im_at_18 (by rw [atZ, if_neg g])
  · have g := of_decide_eq_true g5
    refine lv_aload_n hx hb d_Im_at_8 rfl (lv_at hl 0 rfl) ?_
    refine va_get (D := (dC, dI)) (ci := 1) (v := .ref q) (C := R_Im) (T := F_Im) (N := 2) hx hb ht in_Im hown hK hP 0 rfl rfl 0 (by decide) (ht _ k_28) (fun _ h9 => h9) rfl d_Im_at_9 ?_
    refine lv_iload_n hx hb d_Im_at_12 rfl (lv_at hl 1 rfl) ?_
    refine eqi (y := nI y.toNat) (x_yN hy (by omega)) ?_
    refine ldI (q0 := 1) (t0 := 0) hx hb d_Im_at_13 hK hP rfl rfl (by omega) (by decide) ?_
    refine lv_goto (tgt := 18) hx hb d_Im_at_14 (by decide) ?_
    exact eRi hx hb hr hlocks d_Im_at_18 (by rw [nI_iI, atZ, if_pos g])

set_option maxHeartbeats 4000000 in
set_option maxRecDepth 100000 in
theorem c_Im_add (l : Launch) (dC : Nat → ClassId) (dI : Nat → Nat → Nat) (z : zT) (sz : Nat) (h : Nat) (q : Nat) (ca : ClassId) (b : Nat → Nat) (n : Nat) (v : Nat) (hn : n < 160) : MU l y_Im_add b_Im_add 2 none 0 0 (dC, dI) z [.ref h, .int (nI v)] [(h, .inr (1, [.ref q, .int (nI n)])), (q, .inl (ca, 160, .inl (iN b)))] [(ca, .int)] sz none [(h, .inr (1, [.ref q, .int (nI (n + 1))])), (q, .inl (ca, 160, .inl (iN (updN b n v))))] := by
  refine metU (by decide) (Nat.le_of_ble_eq_true rfl) ?_
  intro p e s m below meth c ls A hx hb hr hlocks hml hown ht hl hP hK hSS hD hS hA
  have hl : lv_has ls 2 [(0, .ref h), (1, .int (nI v))] := hl
  refine lv_aload_n hx hb d_Im_add_0 rfl (lv_at hl 0 rfl) ?_
  refine va_get (D := (dC, dI)) (ci := 1) (v := .int (nI n)) (C := R_Im) (T := F_Im) (N := 2) hx hb ht in_Im hown hK hP 0 rfl rfl 1 (by decide) (ht _ k_29) (fun _ h9 => h9) rfl d_Im_add_1 ?_
  refine lv_sipush (v := nI 160) hx hb d_Im_add_4 (by decide) ?_
  refine z_icmp_ge (tgt := 30) hx hb d_Im_add_7 (tI_n (by omega)) (tI_n (by omega)) (by decide) (fun g7 => ?_) (fun g7 => ?_)
  · exfalso; omega
  · refine lv_aload_n hx hb d_Im_add_10 rfl (lv_at hl 0 rfl) ?_
    refine va_get (D := (dC, dI)) (ci := 1) (v := .ref q) (C := R_Im) (T := F_Im) (N := 2) hx hb ht in_Im hown hK hP 0 rfl rfl 0 (by decide) (ht _ k_28) (fun _ h9 => h9) rfl d_Im_add_11 ?_
    refine lv_aload_n hx hb d_Im_add_14 rfl (lv_at hl 0 rfl) ?_
    refine va_get (D := (dC, dI)) (ci := 1) (v := .int (nI n)) (C := R_Im) (T := F_Im) (N := 2) hx hb ht in_Im hown hK hP 0 rfl rfl 1 (by decide) (ht _ k_29) (fun _ h9 => h9) rfl d_Im_add_15 ?_
    refine lv_iload_n hx hb d_Im_add_18 rfl (lv_at hl 1 rfl) ?_
    refine stI (q0 := 1) (t0 := 0) (w1 := [(h, .inr (1, [.ref q, .int (nI n)])), (q, .inl (ca, 160, .inl (iN (updN b n v))))]) hx hb d_Im_add_19 hK hP hD hS rfl rfl (by omega) (by decide) rfl (fun H locs hP hD hS => ?_)
    refine lv_aload_n hx hb d_Im_add_20 rfl (lv_at hl 0 rfl) ?_
    refine lv_dup hx hb d_Im_add_21 rfl ?_
    refine va_get (D := (dC, dI)) (ci := 1) (v := .int (nI n)) (C := R_Im) (T := F_Im) (N := 2) hx hb ht in_Im hown hK hP 0 rfl rfl 1 (by decide) (ht _ k_29) (fun _ h9 => h9) rfl d_Im_add_22 ?_
    refine lv_iconst (v := nI 1) hx hb d_Im_add_25 (by decide) ?_
    refine nAdd hx hb d_Im_add_26 ?_
    refine va_put (D := (dC, dI)) (ci := 1) (v := .int (nI (n + 1))) (ty := .int) (C := R_Im) (T := F_Im) (N := 2) hx hb ht in_Im t_Im t_Im_ok n_Im hown hK hP hD hS 0 rfl rfl 1 (by decide) (ht _ k_29) (fun _ h9 => h9) rfl (by decide +kernel) rfl rfl (Nat.le_of_ble_eq_true rfl) d_Im_add_27 (fun H locs hP hD hS => ?_)
    have hP : va_P (dC, dI) classes [(h, .inr (1, [.ref q, .int (nI (n + 1))])), (q, .inl (ca, 160, .inl (iN (updN b n v))))] H := hP
    have hD : va_D A [(h, .inr (1, [.ref q, .int (nI (n + 1))])), (q, .inl (ca, 160, .inl (iN (updN b n v))))] := hD
    exact eUv hx hb hr hlocks hP hD hS [0, 1] rfl rfl (by decide) d_Im_add_30

set_option maxHeartbeats 4000000 in
set_option maxRecDepth 100000 in
theorem c_Im_drop (l : Launch) (dC : Nat → ClassId) (dI : Nat → Nat → Nat) (z : zT) (sz : Nat) (h : Nat) (q : Nat) (ca : ClassId) (b : Nat → Nat) (n : Nat) : MU l y_Im_drop b_Im_drop 1 none 0 0 (dC, dI) z [.ref h] [(h, .inr (1, [.ref q, .int (nI n)])), (q, .inl (ca, 160, .inl (iN b)))] [(ca, .int)] sz none [(h, .inr (1, [.ref q, .int (nI 0)])), (q, .inl (ca, 160, .inl (iN b)))] := by
  refine metU (by decide) (Nat.le_of_ble_eq_true rfl) ?_
  intro p e s m below meth c ls A hx hb hr hlocks hml hown ht hl hP hK hSS hD hS hA
  have hl : lv_has ls 1 [(0, .ref h)] := hl
  refine lv_aload_n hx hb d_Im_drop_0 rfl (lv_at hl 0 rfl) ?_
  refine lv_iconst (v := nI 0) hx hb d_Im_drop_1 (by decide) ?_
  refine va_put (D := (dC, dI)) (ci := 1) (v := .int (nI 0)) (ty := .int) (C := R_Im) (T := F_Im) (N := 2) hx hb ht in_Im t_Im t_Im_ok n_Im hown hK hP hD hS 0 rfl rfl 1 (by decide) (ht _ k_29) (fun _ h9 => h9) rfl (by decide +kernel) rfl rfl (Nat.le_of_ble_eq_true rfl) d_Im_drop_2 (fun H locs hP hD hS => ?_)
  have hP : va_P (dC, dI) classes [(h, .inr (1, [.ref q, .int (nI 0)])), (q, .inl (ca, 160, .inl (iN b)))] H := hP
  have hD : va_D A [(h, .inr (1, [.ref q, .int (nI 0)])), (q, .inl (ca, 160, .inl (iN b)))] := hD
  exact eUv hx hb hr hlocks hP hD hS [0, 1] rfl rfl (by decide) d_Im_drop_5

set_option maxHeartbeats 4000000 in
set_option maxRecDepth 100000 in
theorem c_Im_codeKind (l : Launch) (dC : Nat → ClassId) (dI : Nat → Nat → Nat) (z : zT) (h : Nat) (q : Nat) (ca : ClassId) (b : Nat → Nat) (n : Nat) (x : Int32) (y : Int) (hn : n ≤ 160) (hb8 : ∀ i, b i < 256) (hy : x.toInt = y) : MR l y_Im_codeKind b_Im_codeKind 3 (some .int) 2 42 (dC, dI) z [.ref h, .int x] [(h, .inr (1, [.ref q, .int (nI n)])), (q, .inl (ca, 160, .inl (iN b)))] [(ca, .int)] (.int (oI (ckd b n y))) := by
  refine metR (by decide) (Nat.le_of_ble_eq_true rfl) ?_
  intro p e s m below meth c ls hx hb hr hlocks hml hown ht hl hP hK hSS
  have hl : lv_has ls 3 [(0, .ref h), (1, .int x)] := hl
  have hS : va_S (fun _ => False) s.heap s.heap [] := va_S.rf
  refine lv_aload_n hx hb d_Im_codeKind_0 rfl (lv_at hl 0 rfl) ?_
  refine lv_iload_n hx hb d_Im_codeKind_1 rfl (lv_at hl 1 rfl) ?_
  refine rV (As := [.int x]) (rest := []) hx hb hml hown ht (c_Im_at l dC dI z h q ca b n x y (by first | assumption | omega) hy) yv_Im_at k_179 (Nat.le_of_ble_eq_true rfl) (Nat.le_of_ble_eq_true rfl) hP hK hSS hS [0, 1] [0] rfl rfl 0 1 rfl rfl rfl hl rfl rfl (Nat.le_of_ble_eq_true rfl) (Nat.zero_le _) (Nat.zero_le _) d_Im_codeKind_2 ?_
  refine rS (As := [.int (iI (atZ b n y))]) (rest := []) hx hb hml hown ht (c_Ki_ofFirst l dC dI z (iI (atZ b n y)) (atZ b n y) (atZ_toInt hb8)) ys_Ki_ofFirst k_180 (Nat.le_of_ble_eq_true rfl) (Nat.le_of_ble_eq_true rfl) hP hK hSS hS [] [] rfl rfl hl rfl rfl (Nat.le_of_ble_eq_true rfl) (Nat.zero_le _) (Nat.zero_le _) d_Im_codeKind_5 ?_
  rcases ek : kd (atZ b n y) with _ | k
  · refine eqi (y := iI (-1)) rfl ?_
    refine lv_istore_n (lv' := [(2, .int (iI (-1))), (0, .ref h), (1, .int x)]) hx hb d_Im_codeKind_8 rfl hl (Nat.le_of_ble_eq_true rfl) rfl (fun ls hl => ?_)
    refine lv_iload_n hx hb d_Im_codeKind_9 rfl (lv_at hl 0 rfl) ?_
    refine lv_iconst (v := iI (-1)) hx hb d_Im_codeKind_10 (by decide) ?_
    refine z_icmp_eq (tgt := 31) hx hb d_Im_codeKind_11 (iI_toInt (by omega) (by omega)) (iI_toInt (by omega) (by omega)) (by decide) (fun g11 => ?_) (fun g11 => ?_)
    · refine lv_iconst (v := iI (-1)) hx hb d_Im_codeKind_31 (by decide) ?_
      exact eRi hx hb hr hlocks d_Im_codeKind_32 (by first | (rw [ckd_n ek]; rfl) | (rw [ckd_z ek (by omega)]; rfl))
    · exfalso; omega
  · have hk := kd_lt ek
    have hx1 := kd_held ek
    have hB := kB_pos k
    refine eqi (y := nI k) rfl ?_
    refine lv_istore_n (lv' := [(2, .int (nI k)), (0, .ref h), (1, .int x)]) hx hb d_Im_codeKind_8 rfl hl (Nat.le_of_ble_eq_true rfl) rfl (fun ls hl => ?_)
    refine lv_iload_n hx hb d_Im_codeKind_9 rfl (lv_at hl 0 rfl) ?_
    refine lv_iconst (v := iI (-1)) hx hb d_Im_codeKind_10 (by decide) ?_
    refine z_icmp_eq (tgt := 31) hx hb d_Im_codeKind_11 (tI_n (by omega)) (iI_toInt (by omega) (by omega)) (by decide) (fun g11 => ?_) (fun g11 => ?_)
    · exfalso; omega
    · refine lv_iload_n hx hb d_Im_codeKind_14 rfl (lv_at hl 0 rfl) ?_
      refine rS (As := [.int (nI k)]) (rest := []) hx hb hml hown ht (c_Ki_bytes l dC dI z k (by first | assumption | omega)) ys_Ki_bytes k_187 (Nat.le_of_ble_eq_true rfl) (Nat.le_of_ble_eq_true rfl) hP hK hSS hS [] [] rfl rfl hl rfl rfl (Nat.le_of_ble_eq_true rfl) (Nat.zero_le _) (Nat.zero_le _) d_Im_codeKind_15 ?_
      refine lv_aload_n hx hb d_Im_codeKind_18 rfl (lv_at hl 1 rfl) ?_
      refine va_get (D := (dC, dI)) (ci := 1) (v := .int (nI n)) (C := R_Im) (T := F_Im) (N := 2) hx hb ht in_Im hown hK hP 0 rfl rfl 1 (by decide) (ht _ k_29) (fun _ h9 => h9) rfl d_Im_codeKind_19 ?_
      refine lv_iload_n hx hb d_Im_codeKind_22 rfl (lv_at hl 2 rfl) ?_
      refine zSub hx hb d_Im_codeKind_23 (nI_iI _) (x_iI hy) ?_
      refine z_icmp_gt (tgt := 31) hx hb d_Im_codeKind_24 (tI_n (by omega)) (iI_toInt (by omega) (by omega)) (by decide) (fun g24 => ?_) (fun g24 => ?_)
      · refine lv_iconst (v := iI (-1)) hx hb d_Im_codeKind_31 (by decide) ?_
        exact eRi hx hb hr hlocks d_Im_codeKind_32 (by first | (rw [ckd_n ek]; rfl) | (rw [ckd_z ek (by omega)]; rfl))
      · refine lv_iload_n hx hb d_Im_codeKind_27 rfl (lv_at hl 0 rfl) ?_
        refine lv_goto (tgt := 32) hx hb d_Im_codeKind_28 (by decide) ?_
        exact eRi hx hb hr hlocks d_Im_codeKind_32 (by rw [ckd_y ek (by omega)]; rfl)

set_option maxHeartbeats 4000000 in
set_option maxRecDepth 100000 in
theorem c_Im_codeLength (l : Launch) (dC : Nat → ClassId) (dI : Nat → Nat → Nat) (z : zT) (h : Nat) (q : Nat) (ca : ClassId) (b : Nat → Nat) (n : Nat) (x : Int32) (y : Int) (hn : n ≤ 160) (hb8 : ∀ i, b i < 256) (hy : x.toInt = y) : MR l y_Im_codeLength b_Im_codeLength 3 (some .int) 3 64 (dC, dI) z [.ref h, .int x] [(h, .inr (1, [.ref q, .int (nI n)])), (q, .inl (ca, 160, .inl (iN b)))] [(ca, .int)] (.int (nI (cln b n y))) := by
  refine metR (by decide) (Nat.le_of_ble_eq_true rfl) ?_
  intro p e s m below meth c ls hx hb hr hlocks hml hown ht hl hP hK hSS
  have hl : lv_has ls 3 [(0, .ref h), (1, .int x)] := hl
  have hS : va_S (fun _ => False) s.heap s.heap [] := va_S.rf
  refine lv_aload_n hx hb d_Im_codeLength_0 rfl (lv_at hl 0 rfl) ?_
  refine lv_iload_n hx hb d_Im_codeLength_1 rfl (lv_at hl 1 rfl) ?_
  refine rV (As := [.int x]) (rest := []) hx hb hml hown ht (c_Im_codeKind l dC dI z h q ca b n x y (by first | assumption | omega) (by first | assumption | omega) hy) yv_Im_codeKind k_175 (Nat.le_of_ble_eq_true rfl) (Nat.le_of_ble_eq_true rfl) hP hK hSS hS [0, 1] [0] rfl rfl 0 1 rfl rfl rfl hl rfl rfl (Nat.le_of_ble_eq_true rfl) (Nat.zero_le _) (Nat.zero_le _) d_Im_codeLength_2 ?_
  rcases ek : ckd b n y with _ | k
  · refine eqi (y := iI (-1)) rfl ?_
    refine lv_istore_n (lv' := [(2, .int (iI (-1))), (0, .ref h), (1, .int x)]) hx hb d_Im_codeLength_5 rfl hl (Nat.le_of_ble_eq_true rfl) rfl (fun ls hl => ?_)
    refine lv_iload_n hx hb d_Im_codeLength_6 rfl (lv_at hl 0 rfl) ?_
    refine lv_iconst (v := iI (-1)) hx hb d_Im_codeLength_7 (by decide) ?_
    refine z_icmp_ne (tgt := 15) hx hb d_Im_codeLength_8 (iI_toInt (by omega) (by omega)) (iI_toInt (by omega) (by omega)) (by decide) (fun g8 => ?_) (fun g8 => ?_)
    · exfalso; omega
    · refine lv_iconst (v := nI 0) hx hb d_Im_codeLength_11 (by decide) ?_
      refine lv_goto (tgt := 19) hx hb d_Im_codeLength_12 (by decide) ?_
      exact eRi hx hb hr hlocks d_Im_codeLength_19 (by unfold cln; rw [ek])
  · have hk := ckd_lt ek
    refine eqi (y := nI k) rfl ?_
    refine lv_istore_n (lv' := [(2, .int (nI k)), (0, .ref h), (1, .int x)]) hx hb d_Im_codeLength_5 rfl hl (Nat.le_of_ble_eq_true rfl) rfl (fun ls hl => ?_)
    refine lv_iload_n hx hb d_Im_codeLength_6 rfl (lv_at hl 0 rfl) ?_
    refine lv_iconst (v := iI (-1)) hx hb d_Im_codeLength_7 (by decide) ?_
    refine z_icmp_ne (tgt := 15) hx hb d_Im_codeLength_8 (tI_n (by omega)) (iI_toInt (by omega) (by omega)) (by decide) (fun g8 => ?_) (fun g8 => ?_)
    · refine lv_iload_n hx hb d_Im_codeLength_15 rfl (lv_at hl 0 rfl) ?_
      refine rS (As := [.int (nI k)]) (rest := []) hx hb hml hown ht (c_Ki_bytes l dC dI z k (by first | assumption | omega)) ys_Ki_bytes k_187 (Nat.le_of_ble_eq_true rfl) (Nat.le_of_ble_eq_true rfl) hP hK hSS hS [] [] rfl rfl hl rfl rfl (Nat.le_of_ble_eq_true rfl) (Nat.zero_le _) (Nat.zero_le _) d_Im_codeLength_16 ?_
      exact eRi hx hb hr hlocks d_Im_codeLength_19 (by unfold cln; rw [ek])
    · exfalso; omega

set_option maxHeartbeats 4000000 in
set_option maxRecDepth 100000 in
theorem c_Im_number (l : Launch) (dC : Nat → ClassId) (dI : Nat → Nat → Nat) (z : zT) (h : Nat) (q : Nat) (ca : ClassId) (b : Nat → Nat) (n : Nat) (a : Nat) (k : Nat) (hn : n ≤ 160) (hb8 : ∀ i, b i < 256) (hk : k < 14) (ha : a + kB k ≤ n) : MR l y_Im_number b_Im_number 3 (some .int) 2 42 (dC, dI) z [.ref h, .int (nI a), .int (nI k)] [(h, .inr (1, [.ref q, .int (nI n)])), (q, .inl (ca, 160, .inl (iN b)))] [(ca, .int)] (.int (iI (num b a k))) := by
  refine metR (by decide) (Nat.le_of_ble_eq_true rfl) ?_
  intro p e s m below meth c ls hx hb hr hlocks hml hown ht hl hP hK hSS
  have hl : lv_has ls 3 [(0, .ref h), (1, .int (nI a)), (2, .int (nI k))] := hl
  have hS : va_S (fun _ => False) s.heap s.heap [] := va_S.rf
  refine lv_iload_n hx hb d_Im_number_0 rfl (lv_at hl 2 rfl) ?_
  refine rS (As := [.int (nI k)]) (rest := []) hx hb hml hown ht (c_Ki_number l dC dI z k (by first | assumption | omega)) ys_Ki_number k_229 (Nat.le_of_ble_eq_true rfl) (Nat.le_of_ble_eq_true rfl) hP hK hSS hS [] [] rfl rfl hl rfl rfl (Nat.le_of_ble_eq_true rfl) (Nat.zero_le _) (Nat.zero_le _) d_Im_number_1 ?_
  rcases kN_cases k hk with ek | ek | ek | ek
  · have hB : kB k = 1 := by simp [kB, ek]
    refine eqi (y := nI 0) (by rw [ek]) ?_
    refine lv_tableOut (tgt := 69) hx hb d_Im_number_4 (by decide) (by decide) ?_
    refine lv_iconst (v := nI 0) hx hb d_Im_number_69 (by decide) ?_
    exact eRi hx hb hr hlocks d_Im_number_70 (by rw [nI_iI, num, if_neg (by omega), if_neg (by omega), if_neg (by omega)]; rfl)
  · have hB : kB k = 2 := by simp [kB, ek]
    refine eqi (y := nI 1) (by rw [ek]) ?_
    refine lv_tableIn (off := 28) (tgt := 32) hx hb d_Im_number_4 (by decide) (by decide) (by decide) (by decide) ?_
    refine lv_aload_n hx hb d_Im_number_32 rfl (lv_at hl 0 rfl) ?_
    refine lv_iload_n hx hb d_Im_number_33 rfl (lv_at hl 1 rfl) ?_
    refine lv_iconst (v := nI 1) hx hb d_Im_number_34 (by decide) ?_
    refine nAdd hx hb d_Im_number_35 ?_
    refine rV (As := [.int (nI (a + 1))]) (rest := []) hx hb hml hown ht (c_Im_at l dC dI z h q ca b n (nI (a + 1)) ((a + 1 : Nat) : Int) (by first | assumption | omega) (tI_n (by omega))) yv_Im_at k_179 (Nat.le_of_ble_eq_true rfl) (Nat.le_of_ble_eq_true rfl) hP hK hSS hS [0, 1] [0] rfl rfl 0 1 rfl rfl rfl hl rfl rfl (Nat.le_of_ble_eq_true rfl) (Nat.zero_le _) (Nat.zero_le _) d_Im_number_36 ?_
    exact eRi hx hb hr hlocks d_Im_number_39 (by rw [atZ_n (by omega), num, if_pos ek])
  · have hB : kB k = 2 := by simp [kB, ek]
    refine eqi (y := nI 2) (by rw [ek]) ?_
    refine lv_tableIn (off := 36) (tgt := 40) hx hb d_Im_number_4 (by decide) (by decide) (by decide) (by decide) ?_
    refine lv_aload_n hx hb d_Im_number_40 rfl (lv_at hl 0 rfl) ?_
    refine lv_iload_n hx hb d_Im_number_41 rfl (lv_at hl 1 rfl) ?_
    refine lv_iconst (v := nI 1) hx hb d_Im_number_42 (by decide) ?_
    refine nAdd hx hb d_Im_number_43 ?_
    refine rV (As := [.int (nI (a + 1))]) (rest := []) hx hb hml hown ht (c_Im_at l dC dI z h q ca b n (nI (a + 1)) ((a + 1 : Nat) : Int) (by first | assumption | omega) (tI_n (by omega))) yv_Im_at k_179 (Nat.le_of_ble_eq_true rfl) (Nat.le_of_ble_eq_true rfl) hP hK hSS hS [0, 1] [0] rfl rfl 0 1 rfl rfl rfl hl rfl rfl (Nat.le_of_ble_eq_true rfl) (Nat.zero_le _) (Nat.zero_le _) d_Im_number_44 ?_
    refine lv_i2b (v := iI (sx8 (b (a + 1)))) hx hb d_Im_number_47 (by rw [atZ_n (by omega), ← nI_iI]; exact i2b_n (hb8 _)) ?_
    exact eRi hx hb hr hlocks d_Im_number_48 (by rw [num, if_neg (by omega), if_pos ek])
  · have hB : kB k = 3 := by simp [kB, ek]
    refine eqi (y := nI 3) (by rw [ek]) ?_
    refine lv_tableIn (off := 45) (tgt := 49) hx hb d_Im_number_4 (by decide) (by decide) (by decide) (by decide) ?_
    refine lv_sipush (v := nI 256) hx hb d_Im_number_49 (by decide) ?_
    refine lv_aload_n hx hb d_Im_number_52 rfl (lv_at hl 0 rfl) ?_
    refine lv_iload_n hx hb d_Im_number_53 rfl (lv_at hl 1 rfl) ?_
    refine lv_iconst (v := nI 1) hx hb d_Im_number_54 (by decide) ?_
    refine nAdd hx hb d_Im_number_55 ?_
    refine rV (As := [.int (nI (a + 1))]) (rest := [.int (nI 256)]) hx hb hml hown ht (c_Im_at l dC dI z h q ca b n (nI (a + 1)) ((a + 1 : Nat) : Int) (by first | assumption | omega) (tI_n (by omega))) yv_Im_at k_179 (Nat.le_of_ble_eq_true rfl) (Nat.le_of_ble_eq_true rfl) hP hK hSS hS [0, 1] [0] rfl rfl 0 1 rfl rfl rfl hl rfl rfl (Nat.le_of_ble_eq_true rfl) (Nat.zero_le _) (Nat.zero_le _) d_Im_number_56 ?_
    refine zMul hx hb d_Im_number_59 (nI_iI _) rfl ?_
    refine lv_aload_n hx hb d_Im_number_60 rfl (lv_at hl 0 rfl) ?_
    refine lv_iload_n hx hb d_Im_number_61 rfl (lv_at hl 1 rfl) ?_
    refine lv_iconst (v := nI 2) hx hb d_Im_number_62 (by decide) ?_
    refine nAdd hx hb d_Im_number_63 ?_
    refine rV (As := [.int (nI (a + 2))]) (rest := [.int (iI (((256 : Nat) : Int) * (atZ b n ((a + 1 : Nat) : Int))))]) hx hb hml hown ht (c_Im_at l dC dI z h q ca b n (nI (a + 2)) ((a + 2 : Nat) : Int) (by first | assumption | omega) (tI_n (by omega))) yv_Im_at k_179 (Nat.le_of_ble_eq_true rfl) (Nat.le_of_ble_eq_true rfl) hP hK hSS hS [0, 1] [0] rfl rfl 0 1 rfl rfl rfl hl rfl rfl (Nat.le_of_ble_eq_true rfl) (Nat.zero_le _) (Nat.zero_le _) d_Im_number_64 ?_
    refine zAdd hx hb d_Im_number_67 rfl rfl ?_
    exact eRi hx hb hr hlocks d_Im_number_68 (by rw [atZ_n (by omega), atZ_n (by omega), num, if_neg (by omega), if_neg (by omega), if_pos ek]; congr 1)
end
section
set_option maxHeartbeats 4000000 in
set_option maxRecDepth 100000 in
theorem c_Wa_count (l : Launch) (dC : Nat → ClassId) (dI : Nat → Nat → Nat) (z : zT) (w : Nat) (qf : Nat) (qi : Nat) (cf : ClassId) (cz : ClassId) (ad : Nat) (s0 : wkT) : MR l y_Wa_count b_Wa_count 1 (some .int) 0 0 (dC, dI) z [.ref w] [(w, .inr (3, [.ref qf, .ref qi, .int (nI ad), .int (nI s0.2.2)])), (qf, .inl (cf, 160, .inl (iN s0.1))), (qi, .inl (cz, 160, .inl (zN s0.2.1)))] [(cf, .int), (cz, .boolean)] (.int (nI s0.2.2)) := by
  refine metR (by decide) (Nat.le_of_ble_eq_true rfl) ?_
  intro p e s m below meth c ls hx hb hr hlocks hml hown ht hl hP hK hSS
  have hl : lv_has ls 1 [(0, .ref w)] := hl
  have hS : va_S (fun _ => False) s.heap s.heap [] := va_S.rf
  refine lv_aload_n hx hb d_Wa_count_0 rfl (lv_at hl 0 rfl) ?_
  refine va_get (D := (dC, dI)) (ci := 3) (v := .int (nI s0.2.2)) (C := R_Wa) (T := F_Wa) (N := 4) hx hb ht in_Wa hown hK hP 0 rfl rfl 3 (by decide) (ht _ k_45) (fun _ h9 => h9) rfl d_Wa_count_1 ?_
  exact eRi hx hb hr hlocks d_Wa_count_4 (rfl)

set_option maxHeartbeats 4000000 in
set_option maxRecDepth 100000 in
theorem c_Wa_start (l : Launch) (dC : Nat → ClassId) (dI : Nat → Nat → Nat) (z : zT) (sz : Nat) (w : Nat) (qf : Nat) (qi : Nat) (cf : ClassId) (cz : ClassId) (x1 : Int32) (x2 : Int32) (fd : Nat → Nat) (m0 : Nat → Bool) (n : Nat) (hn : n ≤ 160) : MU l y_Wa_start b_Wa_start 3 none 1 21 (dC, dI) z [.ref w, .int (nI n)] [(w, .inr (3, [.ref qf, .ref qi, .int x1, .int x2])), (qf, .inl (cf, 160, .inl (iN fd))), (qi, .inl (cz, 160, .inl (zN m0)))] [(cf, .int), (cz, .boolean)] sz none [(w, .inr (3, [.ref qf, .ref qi, .int (nI n), .int (nI ((wk0 fd).2.2))])), (qf, .inl (cf, 160, .inl (iN ((wk0 fd).1)))), (qi, .inl (cz, 160, .inl (zN ((wk0 fd).2.1))))] := by
  refine metU (by decide) (Nat.le_of_ble_eq_true rfl) ?_
  intro p e s m below meth c ls A hx hb hr hlocks hml hown ht hl hP hK hSS hD hS hA
  have hl : lv_has ls 3 [(0, .ref w), (1, .int (nI n))] := hl
  refine lv_iconst (v := nI 0) hx hb d_Wa_start_0 (by decide) ?_
  refine lv_istore_n (lv' := [(2, .int (nI 0)), (0, .ref w), (1, .int (nI n))]) hx hb d_Wa_start_1 rfl hl (Nat.le_of_ble_eq_true rfl) rfl (fun ls hl => ?_)
  have loop2 : ∀ (j : Nat) (k : Nat) (g : Nat → Bool) (ls : Array Slot) (H : Heap) (locs : List Loc), (k + j = 160) → (∀ i, i < k → g i = false) → lv_has ls 3 [(2, .int (nI k)), (0, .ref w), (1, .int (nI n))] → va_P (dC, dI) classes [(w, .inr (3, [.ref qf, .ref qi, .int x1, .int x2])), (qf, .inl (cf, 160, .inl (iN fd))), (qi, .inl (cz, 160, .inl (zN g)))] H → va_D A [(w, .inr (3, [.ref qf, .ref qi, .int x1, .int x2])), (qf, .inl (cf, 160, .inl (iN fd))), (qi, .inl (cz, 160, .inl (zN g)))] → va_S A s.heap H locs → W p l e (rmq 1 21) s m [.ref w, .int (nI n)].toArray below meth c H locs 0 0 (MQ below (qcU none (dC, dI) [(w, .inr (3, [.ref qf, .ref qi, .int (nI n), .int (nI ((wk0 fd).2.2))])), (qf, .inl (cf, 160, .inl (iN ((wk0 fd).1)))), (qi, .inl (cz, 160, .inl (zN ((wk0 fd).2.1))))] A) [.ref w, .int (nI n)].toArray s 0 0 A) (F0 m 2 ls []) := by
    intro j
    induction j with
    | zero =>
      intro k g ls H locs hk hg hl hP hD hS
      refine lv_iload_n hx hb d_Wa_start_2 rfl (lv_at hl 0 rfl) ?_
      refine lv_sipush (v := nI 160) hx hb d_Wa_start_3 (by decide) ?_
      refine z_icmp_ge (tgt := 22) hx hb d_Wa_start_6 (tI_n (by omega)) (tI_n (by omega)) (by decide) (fun g6 => ?_) (fun g6 => ?_)
      · refine lv_aload_n hx hb d_Wa_start_22 rfl (lv_at hl 1 rfl) ?_
        refine lv_iload_n hx hb d_Wa_start_23 rfl (lv_at hl 2 rfl) ?_
        refine lv_sipush (v := nI 160) hx hb d_Wa_start_24 (by decide) ?_
        refine va_mmin hx hb (by rw [hml]; exact hl.1.symm) hown (ht _ k_204) (ht _ k_205) (ht _ k_8) (ht _ k_206) (Nat.le_of_ble_eq_true rfl) (Nat.le_of_ble_eq_true rfl) (Nat.zero_le _) (Nat.zero_le _) d_Wa_start_27 ?_
        refine eqi (y := nI n) (min_n hn) ?_
        refine va_put (D := (dC, dI)) (ci := 3) (v := .int (nI n)) (ty := .int) (C := R_Wa) (T := F_Wa) (N := 4) hx hb ht in_Wa t_Wa t_Wa_ok n_Wa hown hK hP hD hS 0 rfl rfl 2 (by decide) (ht _ k_44) (fun _ h9 => h9) rfl (by decide +kernel) rfl rfl (Nat.le_of_ble_eq_true rfl) d_Wa_start_30 (fun H locs hP hD hS => ?_)
        have hP : va_P (dC, dI) classes [(w, .inr (3, [.ref qf, .ref qi, .int (nI n), .int x2])), (qf, .inl (cf, 160, .inl (iN fd))), (qi, .inl (cz, 160, .inl (zN g)))] H := hP
        have hD : va_D A [(w, .inr (3, [.ref qf, .ref qi, .int (nI n), .int x2])), (qf, .inl (cf, 160, .inl (iN fd))), (qi, .inl (cz, 160, .inl (zN g)))] := hD
        refine lv_aload_n hx hb d_Wa_start_33 rfl (lv_at hl 1 rfl) ?_
        refine lv_iconst (v := nI 0) hx hb d_Wa_start_34 (by decide) ?_
        refine va_put (D := (dC, dI)) (ci := 3) (v := .int (nI 0)) (ty := .int) (C := R_Wa) (T := F_Wa) (N := 4) hx hb ht in_Wa t_Wa t_Wa_ok n_Wa hown hK hP hD hS 0 rfl rfl 3 (by decide) (ht _ k_45) (fun _ h9 => h9) rfl (by decide +kernel) rfl rfl (Nat.le_of_ble_eq_true rfl) d_Wa_start_35 (fun H locs hP hD hS => ?_)
        have hP : va_P (dC, dI) classes [(w, .inr (3, [.ref qf, .ref qi, .int (nI n), .int (nI 0)])), (qf, .inl (cf, 160, .inl (iN fd))), (qi, .inl (cz, 160, .inl (zN g)))] H := hP
        have hD : va_D A [(w, .inr (3, [.ref qf, .ref qi, .int (nI n), .int (nI 0)])), (qf, .inl (cf, 160, .inl (iN fd))), (qi, .inl (cz, 160, .inl (zN g)))] := hD
        have hP : va_P (dC, dI) classes [(w, .inr (3, [.ref qf, .ref qi, .int (nI n), .int (nI 0)])), (qf, .inl (cf, 160, .inl (iN fd))), (qi, .inl (cz, 160, .inl (zN (fun _ => false))))] H := hP.chg 2 rfl (fun i hi => by show bI (g i) = bI false; rw [hg i (by omega)]) rfl
        have hD : va_D A [(w, .inr (3, [.ref qf, .ref qi, .int (nI n), .int (nI 0)])), (qf, .inl (cf, 160, .inl (iN fd))), (qi, .inl (cz, 160, .inl (zN (fun _ => false))))] := hD.chg 2 rfl rfl
        exact eUv hx hb hr hlocks hP hD hS [0, 1, 2] rfl rfl (by decide) d_Wa_start_38
      · exfalso; omega
    | succ j ih =>
      intro k g ls H locs hk hg hl hP hD hS
      refine lv_iload_n hx hb d_Wa_start_2 rfl (lv_at hl 0 rfl) ?_
      refine lv_sipush (v := nI 160) hx hb d_Wa_start_3 (by decide) ?_
      refine z_icmp_ge (tgt := 22) hx hb d_Wa_start_6 (tI_n (by omega)) (tI_n (by omega)) (by decide) (fun g6 => ?_) (fun g6 => ?_)
      · exfalso; omega
      · refine lv_aload_n hx hb d_Wa_start_9 rfl (lv_at hl 1 rfl) ?_
        refine va_get (D := (dC, dI)) (ci := 3) (v := .ref qi) (C := R_Wa) (T := F_Wa) (N := 4) hx hb ht in_Wa hown hK hP 0 rfl rfl 1 (by decide) (ht _ k_43) (fun _ h9 => h9) rfl d_Wa_start_10 ?_
        refine lv_iload_n hx hb d_Wa_start_13 rfl (lv_at hl 0 rfl) ?_
        refine lv_iconst (v := nI 0) hx hb d_Wa_start_14 (by decide) ?_
        refine eqi (y := bI false) (by decide) ?_
        refine stZ (q0 := 2) (t0 := 1) (w1 := [(w, .inr (3, [.ref qf, .ref qi, .int x1, .int x2])), (qf, .inl (cf, 160, .inl (iN fd))), (qi, .inl (cz, 160, .inl (zN (updB g k false))))]) hx hb d_Wa_start_15 hK hP hD hS rfl rfl (by omega) (by decide) rfl (fun H locs hP hD hS => ?_)
        refine lv_iinc (k := 0) (v := nI (k + 1)) (lv' := [(2, .int (nI (k + 1))), (0, .ref w), (1, .int (nI n))]) hx hb d_Wa_start_16 hl rfl (nI_inc1 _) (Nat.le_of_ble_eq_true rfl) rfl (fun ls hl => ?_)
        refine lv_goto (tgt := 2) hx hb d_Wa_start_19 (by decide) ?_
        exact ih (k + 1) (updB g k false) _ _ _ (by omega) (clr_step hg) (lv_sub hl [0, 1, 2] rfl) (hP.sub [0, 1, 2] rfl) (hD.sub [0, 1, 2] (by decide) rfl) hS
  exact loop2 160 0 m0 _ _ _ (rfl) (fun i hi => absurd hi (Nat.not_lt_zero _)) (lv_sub hl [0, 1, 2] rfl) (hP.sub [0, 1, 2] rfl) (hD.sub [0, 1, 2] (by decide) rfl) hS

set_option maxHeartbeats 4000000 in
set_option maxRecDepth 100000 in
theorem c_Wa_cameTo (l : Launch) (dC : Nat → ClassId) (dI : Nat → Nat → Nat) (z : zT) (w : Nat) (qf : Nat) (qi : Nat) (cf : ClassId) (cz : ClassId) (ad : Nat) (s0 : wkT) (x : Int32) (y : Int) (had : ad ≤ 160) (hy : x.toInt = y) : MR l y_Wa_cameTo b_Wa_cameTo 2 (some .boolean) 0 0 (dC, dI) z [.ref w, .int x] [(w, .inr (3, [.ref qf, .ref qi, .int (nI ad), .int (nI s0.2.2)])), (qf, .inl (cf, 160, .inl (iN s0.1))), (qi, .inl (cz, 160, .inl (zN s0.2.1)))] [(cf, .int), (cz, .boolean)] (.int (bI (decide (0 ≤ y ∧ y < (ad : Int) ∧ s0.2.1 y.toNat = true)))) := by
  refine metR (by decide) (Nat.le_of_ble_eq_true rfl) ?_
  intro p e s m below meth c ls hx hb hr hlocks hml hown ht hl hP hK hSS
  have hl : lv_has ls 2 [(0, .ref w), (1, .int x)] := hl
  have hS : va_S (fun _ => False) s.heap s.heap [] := va_S.rf
  refine lv_iload_n hx hb d_Wa_cameTo_0 rfl (lv_at hl 1 rfl) ?_
  refine z_if_lt (tgt := 25) hx hb d_Wa_cameTo_1 hy (by decide) (fun g1 => ?_) (fun g1 => ?_)
  · refine lv_iconst (v := nI 0) hx hb d_Wa_cameTo_25 (by decide) ?_
    refine eqi (y := bI false) (by decide) ?_
    exact eRz hx hb hr hlocks (bI_narrow _) d_Wa_cameTo_26 (bI_zero (by first | omega | (intro q; rw [g18] at q; cases q.2.2)))
  · refine lv_iload_n hx hb d_Wa_cameTo_4 rfl (lv_at hl 1 rfl) ?_
    refine lv_aload_n hx hb d_Wa_cameTo_5 rfl (lv_at hl 0 rfl) ?_
    refine va_get (D := (dC, dI)) (ci := 3) (v := .int (nI ad)) (C := R_Wa) (T := F_Wa) (N := 4) hx hb ht in_Wa hown hK hP 0 rfl rfl 2 (by decide) (ht _ k_44) (fun _ h9 => h9) rfl d_Wa_cameTo_6 ?_
    refine z_icmp_ge (tgt := 25) hx hb d_Wa_cameTo_9 hy (tI_n (by omega)) (by decide) (fun g9 => ?_) (fun g9 => ?_)
    · refine lv_iconst (v := nI 0) hx hb d_Wa_cameTo_25 (by decide) ?_
      refine eqi (y := bI false) (by decide) ?_
      exact eRz hx hb hr hlocks (bI_narrow _) d_Wa_cameTo_26 (bI_zero (by first | omega | (intro q; rw [g18] at q; cases q.2.2)))
    · refine lv_aload_n hx hb d_Wa_cameTo_12 rfl (lv_at hl 0 rfl) ?_
      refine va_get (D := (dC, dI)) (ci := 3) (v := .ref qi) (C := R_Wa) (T := F_Wa) (N := 4) hx hb ht in_Wa hown hK hP 0 rfl rfl 1 (by decide) (ht _ k_43) (fun _ h9 => h9) rfl d_Wa_cameTo_13 ?_
      refine lv_iload_n hx hb d_Wa_cameTo_16 rfl (lv_at hl 1 rfl) ?_
      refine eqi (y := nI y.toNat) (x_yN hy (by omega)) ?_
      refine ldZ (q0 := 2) (t0 := 1) hx hb d_Wa_cameTo_17 hK hP rfl rfl (by omega) (by decide) ?_
      refine b_if_eq (tgt := 25) hx hb d_Wa_cameTo_18 (by decide) (fun g18 => ?_) (fun g18 => ?_)
      · refine lv_iconst (v := nI 0) hx hb d_Wa_cameTo_25 (by decide) ?_
        refine eqi (y := bI false) (by decide) ?_
        exact eRz hx hb hr hlocks (bI_narrow _) d_Wa_cameTo_26 (bI_zero (by first | omega | (intro q; rw [g18] at q; cases q.2.2)))
      · refine lv_iconst (v := nI 1) hx hb d_Wa_cameTo_21 (by decide) ?_
        refine lv_goto (tgt := 26) hx hb d_Wa_cameTo_22 (by decide) ?_
        refine eqi (y := bI true) (by decide) ?_
        exact eRz hx hb hr hlocks (bI_narrow _) d_Wa_cameTo_26 (bI_one ⟨by omega, by omega, by assumption⟩)

set_option maxHeartbeats 4000000 in
set_option maxRecDepth 100000 in
theorem c_Wa_comeTo (l : Launch) (dC : Nat → ClassId) (dI : Nat → Nat → Nat) (z : zT) (sz : Nat) (w : Nat) (qf : Nat) (qi : Nat) (cf : ClassId) (cz : ClassId) (ad : Nat) (s0 : wkT) (x : Int32) (y : Int) (had : ad ≤ 160) (hw : wok s0) (hy : x.toInt = y) : MU l y_Wa_comeTo b_Wa_comeTo 2 none 0 0 (dC, dI) z [.ref w, .int x] [(w, .inr (3, [.ref qf, .ref qi, .int (nI ad), .int (nI s0.2.2)])), (qf, .inl (cf, 160, .inl (iN s0.1))), (qi, .inl (cz, 160, .inl (zN s0.2.1)))] [(cf, .int), (cz, .boolean)] sz none [(w, .inr (3, [.ref qf, .ref qi, .int (nI ad), .int (nI ((cm ad s0 y).2.2))])), (qf, .inl (cf, 160, .inl (iN ((cm ad s0 y).1)))), (qi, .inl (cz, 160, .inl (zN ((cm ad s0 y).2.1))))] := by
  have hw1 := hw.1
  refine metU (by decide) (Nat.le_of_ble_eq_true rfl) ?_
  intro p e s m below meth c ls A hx hb hr hlocks hml hown ht hl hP hK hSS hD hS hA
  have hl : lv_has ls 2 [(0, .ref w), (1, .int x)] := hl
  refine lv_iload_n hx hb d_Wa_comeTo_0 rfl (lv_at hl 1 rfl) ?_
  refine z_if_lt (tgt := 58) hx hb d_Wa_comeTo_1 hy (by decide) (fun g1 => ?_) (fun g1 => ?_)
  · rw [cm_n (by first | omega | (intro q; rw [g18] at q; cases q.2.2.1))]
    exact eUv hx hb hr hlocks hP hD hS [0, 1, 2] rfl rfl (by decide) d_Wa_comeTo_58
  · refine lv_iload_n hx hb d_Wa_comeTo_4 rfl (lv_at hl 1 rfl) ?_
    refine lv_aload_n hx hb d_Wa_comeTo_5 rfl (lv_at hl 0 rfl) ?_
    refine va_get (D := (dC, dI)) (ci := 3) (v := .int (nI ad)) (C := R_Wa) (T := F_Wa) (N := 4) hx hb ht in_Wa hown hK hP 0 rfl rfl 2 (by decide) (ht _ k_44) (fun _ h9 => h9) rfl d_Wa_comeTo_6 ?_
    refine z_icmp_ge (tgt := 58) hx hb d_Wa_comeTo_9 hy (tI_n (by omega)) (by decide) (fun g9 => ?_) (fun g9 => ?_)
    · rw [cm_n (by first | omega | (intro q; rw [g18] at q; cases q.2.2.1))]
      exact eUv hx hb hr hlocks hP hD hS [0, 1, 2] rfl rfl (by decide) d_Wa_comeTo_58
    · refine lv_aload_n hx hb d_Wa_comeTo_12 rfl (lv_at hl 0 rfl) ?_
      refine va_get (D := (dC, dI)) (ci := 3) (v := .ref qi) (C := R_Wa) (T := F_Wa) (N := 4) hx hb ht in_Wa hown hK hP 0 rfl rfl 1 (by decide) (ht _ k_43) (fun _ h9 => h9) rfl d_Wa_comeTo_13 ?_
      refine lv_iload_n hx hb d_Wa_comeTo_16 rfl (lv_at hl 1 rfl) ?_
      refine eqi (y := nI y.toNat) (x_yN hy (by omega)) ?_
      refine ldZ (q0 := 2) (t0 := 1) hx hb d_Wa_comeTo_17 hK hP rfl rfl (by omega) (by decide) ?_
      refine b_if_ne (tgt := 58) hx hb d_Wa_comeTo_18 (by decide) (fun g18 => ?_) (fun g18 => ?_)
      · rw [cm_n (by first | omega | (intro q; rw [g18] at q; cases q.2.2.1))]
        exact eUv hx hb hr hlocks hP hD hS [0, 1, 2] rfl rfl (by decide) d_Wa_comeTo_58
      · refine lv_aload_n hx hb d_Wa_comeTo_21 rfl (lv_at hl 0 rfl) ?_
        refine va_get (D := (dC, dI)) (ci := 3) (v := .int (nI s0.2.2)) (C := R_Wa) (T := F_Wa) (N := 4) hx hb ht in_Wa hown hK hP 0 rfl rfl 3 (by decide) (ht _ k_45) (fun _ h9 => h9) rfl d_Wa_comeTo_22 ?_
        refine lv_sipush (v := nI 160) hx hb d_Wa_comeTo_25 (by decide) ?_
        refine z_icmp_ge (tgt := 58) hx hb d_Wa_comeTo_28 (tI_n (by omega)) (tI_n (by omega)) (by decide) (fun g28 => ?_) (fun g28 => ?_)
        · rw [cm_n (by first | omega | (intro q; rw [g18] at q; cases q.2.2.1))]
          exact eUv hx hb hr hlocks hP hD hS [0, 1, 2] rfl rfl (by decide) d_Wa_comeTo_58
        · refine lv_aload_n hx hb d_Wa_comeTo_31 rfl (lv_at hl 0 rfl) ?_
          refine va_get (D := (dC, dI)) (ci := 3) (v := .ref qi) (C := R_Wa) (T := F_Wa) (N := 4) hx hb ht in_Wa hown hK hP 0 rfl rfl 1 (by decide) (ht _ k_43) (fun _ h9 => h9) rfl d_Wa_comeTo_32 ?_
          refine lv_iload_n hx hb d_Wa_comeTo_35 rfl (lv_at hl 1 rfl) ?_
          refine eqi (y := nI y.toNat) (x_yN hy (by omega)) ?_
          refine lv_iconst (v := nI 1) hx hb d_Wa_comeTo_36 (by decide) ?_
          refine eqi (y := bI true) (by decide) ?_
          refine stZ (q0 := 2) (t0 := 1) (w1 := [(w, .inr (3, [.ref qf, .ref qi, .int (nI ad), .int (nI s0.2.2)])), (qf, .inl (cf, 160, .inl (iN s0.1))), (qi, .inl (cz, 160, .inl (zN (updB s0.2.1 y.toNat true))))]) hx hb d_Wa_comeTo_37 hK hP hD hS rfl rfl (by omega) (by decide) rfl (fun H locs hP hD hS => ?_)
          refine lv_aload_n hx hb d_Wa_comeTo_38 rfl (lv_at hl 0 rfl) ?_
          refine va_get (D := (dC, dI)) (ci := 3) (v := .ref qf) (C := R_Wa) (T := F_Wa) (N := 4) hx hb ht in_Wa hown hK hP 0 rfl rfl 0 (by decide) (ht _ k_42) (fun _ h9 => h9) rfl d_Wa_comeTo_39 ?_
          refine lv_aload_n hx hb d_Wa_comeTo_42 rfl (lv_at hl 0 rfl) ?_
          refine va_get (D := (dC, dI)) (ci := 3) (v := .int (nI s0.2.2)) (C := R_Wa) (T := F_Wa) (N := 4) hx hb ht in_Wa hown hK hP 0 rfl rfl 3 (by decide) (ht _ k_45) (fun _ h9 => h9) rfl d_Wa_comeTo_43 ?_
          refine lv_iload_n hx hb d_Wa_comeTo_46 rfl (lv_at hl 1 rfl) ?_
          refine eqi (y := nI y.toNat) (x_yN hy (by omega)) ?_
          refine stI (q0 := 1) (t0 := 0) (w1 := [(w, .inr (3, [.ref qf, .ref qi, .int (nI ad), .int (nI s0.2.2)])), (qf, .inl (cf, 160, .inl (iN (updN s0.1 s0.2.2 y.toNat)))), (qi, .inl (cz, 160, .inl (zN (updB s0.2.1 y.toNat true))))]) hx hb d_Wa_comeTo_47 hK hP hD hS rfl rfl (by omega) (by decide) rfl (fun H locs hP hD hS => ?_)
          refine lv_aload_n hx hb d_Wa_comeTo_48 rfl (lv_at hl 0 rfl) ?_
          refine lv_dup hx hb d_Wa_comeTo_49 rfl ?_
          refine va_get (D := (dC, dI)) (ci := 3) (v := .int (nI s0.2.2)) (C := R_Wa) (T := F_Wa) (N := 4) hx hb ht in_Wa hown hK hP 0 rfl rfl 3 (by decide) (ht _ k_45) (fun _ h9 => h9) rfl d_Wa_comeTo_50 ?_
          refine lv_iconst (v := nI 1) hx hb d_Wa_comeTo_53 (by decide) ?_
          refine nAdd hx hb d_Wa_comeTo_54 ?_
          refine va_put (D := (dC, dI)) (ci := 3) (v := .int (nI (s0.2.2 + 1))) (ty := .int) (C := R_Wa) (T := F_Wa) (N := 4) hx hb ht in_Wa t_Wa t_Wa_ok n_Wa hown hK hP hD hS 0 rfl rfl 3 (by decide) (ht _ k_45) (fun _ h9 => h9) rfl (by decide +kernel) rfl rfl (Nat.le_of_ble_eq_true rfl) d_Wa_comeTo_55 (fun H locs hP hD hS => ?_)
          have hP : va_P (dC, dI) classes [(w, .inr (3, [.ref qf, .ref qi, .int (nI ad), .int (nI (s0.2.2 + 1))])), (qf, .inl (cf, 160, .inl (iN (updN s0.1 s0.2.2 y.toNat)))), (qi, .inl (cz, 160, .inl (zN (updB s0.2.1 y.toNat true))))] H := hP
          have hD : va_D A [(w, .inr (3, [.ref qf, .ref qi, .int (nI ad), .int (nI (s0.2.2 + 1))])), (qf, .inl (cf, 160, .inl (iN (updN s0.1 s0.2.2 y.toNat)))), (qi, .inl (cz, 160, .inl (zN (updB s0.2.1 y.toNat true))))] := hD
          rw [cm_y ⟨by omega, by omega, by assumption, by omega⟩]
          exact eUv hx hb hr hlocks hP hD hS [0, 1, 2] rfl rfl (by decide) d_Wa_comeTo_58

set_option maxHeartbeats 4000000 in
set_option maxRecDepth 100000 in
theorem c_Wa_comeToSuccessors (l : Launch) (dC : Nat → ClassId) (dI : Nat → Nat → Nat) (z : zT) (sz : Nat) (w : Nat) (qf : Nat) (qi : Nat) (cf : ClassId) (cz : ClassId) (ad : Nat) (s0 : wkT) (h : Nat) (q : Nat) (ca : ClassId) (b : Nat → Nat) (n : Nat) (a : Nat) (cs : Bool) (had : ad ≤ 160) (hw : wok s0) (hn : n ≤ 160) (hb8 : ∀ i, b i < 256) (ha : a < 160) : MU l y_Wa_comeToSuccessors b_Wa_comeToSuccessors 6 none 3 64 (dC, dI) z [.ref w, .ref h, .int (nI a), .int (bI cs)] [(w, .inr (3, [.ref qf, .ref qi, .int (nI ad), .int (nI s0.2.2)])), (qf, .inl (cf, 160, .inl (iN s0.1))), (qi, .inl (cz, 160, .inl (zN s0.2.1))), (h, .inr (1, [.ref q, .int (nI n)])), (q, .inl (ca, 160, .inl (iN b)))] [(cf, .int), (cz, .boolean), (ca, .int)] sz none [(w, .inr (3, [.ref qf, .ref qi, .int (nI ad), .int (nI ((suc b n ad cs a s0).2.2))])), (qf, .inl (cf, 160, .inl (iN ((suc b n ad cs a s0).1)))), (qi, .inl (cz, 160, .inl (zN ((suc b n ad cs a s0).2.1)))), (h, .inr (1, [.ref q, .int (nI n)])), (q, .inl (ca, 160, .inl (iN b)))] := by
  have hkb := kB_pos
  refine metU (by decide) (Nat.le_of_ble_eq_true rfl) ?_
  intro p e s m below meth c ls A hx hb hr hlocks hml hown ht hl hP hK hSS hD hS hA
  have hl : lv_has ls 6 [(0, .ref w), (1, .ref h), (2, .int (nI a)), (3, .int (bI cs))] := hl
  refine lv_aload_n hx hb d_Wa_comeToSuccessors_0 rfl (lv_at hl 1 rfl) ?_
  refine lv_iload_n hx hb d_Wa_comeToSuccessors_1 rfl (lv_at hl 2 rfl) ?_
  refine rV (As := [.int (nI a)]) (rest := []) hx hb hml hown ht (c_Im_codeKind l dC dI z h q ca b n (nI a) ((a : Nat) : Int) (by first | assumption | omega) (by first | assumption | omega) (tI_n (by omega))) yv_Im_codeKind k_219 (Nat.le_of_ble_eq_true rfl) (Nat.le_of_ble_eq_true rfl) hP hK hSS hS [3, 4] [2] rfl rfl 3 1 rfl rfl rfl hl rfl rfl (Nat.le_of_ble_eq_true rfl) (Nat.zero_le _) (Nat.zero_le _) d_Wa_comeToSuccessors_2 ?_
  rcases ek : ckd b n (a : Int) with _ | k
  · refine eqi (y := iI (-1)) rfl ?_
    refine lv_istore (lv' := [(4, .int (iI (-1))), (0, .ref w), (1, .ref h), (2, .int (nI a)), (3, .int (bI cs))]) hx hb d_Wa_comeToSuccessors_5 hl (Nat.le_of_ble_eq_true rfl) rfl (fun ls hl => ?_)
    refine lv_iload hx hb d_Wa_comeToSuccessors_7 (lv_at hl 0 rfl) ?_
    refine lv_iconst (v := iI (-1)) hx hb d_Wa_comeToSuccessors_9 (by decide) ?_
    refine z_icmp_ne (tgt := 14) hx hb d_Wa_comeToSuccessors_10 (iI_toInt (by omega) (by omega)) (iI_toInt (by omega) (by omega)) (by decide) (fun g10 => ?_) (fun g10 => ?_)
    · exfalso; omega
    · rw [suc_none ek]
      exact eUv hx hb hr hlocks hP hD hS [0, 1, 2, 3, 4] rfl rfl (by decide) d_Wa_comeToSuccessors_13
  · obtain ⟨hk, hak⟩ := ckd_in ek
    have hnum := num_in (a := a) (k := k) hb8
    refine eqi (y := nI k) rfl ?_
    refine lv_istore (lv' := [(4, .int (nI k)), (0, .ref w), (1, .ref h), (2, .int (nI a)), (3, .int (bI cs))]) hx hb d_Wa_comeToSuccessors_5 hl (Nat.le_of_ble_eq_true rfl) rfl (fun ls hl => ?_)
    refine lv_iload hx hb d_Wa_comeToSuccessors_7 (lv_at hl 0 rfl) ?_
    refine lv_iconst (v := iI (-1)) hx hb d_Wa_comeToSuccessors_9 (by decide) ?_
    refine z_icmp_ne (tgt := 14) hx hb d_Wa_comeToSuccessors_10 (tI_n (by omega)) (iI_toInt (by omega) (by omega)) (by decide) (fun g10 => ?_) (fun g10 => ?_)
    · refine lv_iload_n hx hb d_Wa_comeToSuccessors_14 rfl (lv_at hl 3 rfl) ?_
      refine lv_iload hx hb d_Wa_comeToSuccessors_15 (lv_at hl 0 rfl) ?_
      refine rS (As := [.int (nI k)]) (rest := [.int (nI a)]) hx hb hml hown ht (c_Ki_bytes l dC dI z k (by first | assumption | omega)) ys_Ki_bytes k_220 (Nat.le_of_ble_eq_true rfl) (Nat.le_of_ble_eq_true rfl) hP hK hSS hS [] [] rfl rfl hl rfl rfl (Nat.le_of_ble_eq_true rfl) (Nat.zero_le _) (Nat.zero_le _) d_Wa_comeToSuccessors_17 ?_
      refine nAdd hx hb d_Wa_comeToSuccessors_20 ?_
      refine lv_istore (lv' := [(5, .int (nI (a + (kB k)))), (4, .int (nI k)), (0, .ref w), (1, .ref h), (2, .int (nI a)), (3, .int (bI cs))]) hx hb d_Wa_comeToSuccessors_21 hl (Nat.le_of_ble_eq_true rfl) rfl (fun ls hl => ?_)
      have cut37 : ∀  (s1 : wkT) (ls : Array Slot) (H : Heap) (locs : List Loc), (suc b n ad cs a s0 = suc3 b ad a k cs (suc2 b ad a k s1)) → (wok s1) → lv_has ls 6 [(5, .int (nI (a + (kB k)))), (4, .int (nI k)), (0, .ref w), (1, .ref h), (2, .int (nI a)), (3, .int (bI cs))] → va_P (dC, dI) classes [(w, .inr (3, [.ref qf, .ref qi, .int (nI ad), .int (nI s1.2.2)])), (qf, .inl (cf, 160, .inl (iN s1.1))), (qi, .inl (cz, 160, .inl (zN s1.2.1))), (h, .inr (1, [.ref q, .int (nI n)])), (q, .inl (ca, 160, .inl (iN b)))] H → va_D A [(w, .inr (3, [.ref qf, .ref qi, .int (nI ad), .int (nI s1.2.2)])), (qf, .inl (cf, 160, .inl (iN s1.1))), (qi, .inl (cz, 160, .inl (zN s1.2.1))), (h, .inr (1, [.ref q, .int (nI n)])), (q, .inl (ca, 160, .inl (iN b)))] → va_S A s.heap H locs → W p l e (rmq 3 64) s m [.ref w, .ref h, .int (nI a), .int (bI cs)].toArray below meth c H locs 0 0 (MQ below (qcU none (dC, dI) [(w, .inr (3, [.ref qf, .ref qi, .int (nI ad), .int (nI ((suc b n ad cs a s0).2.2))])), (qf, .inl (cf, 160, .inl (iN ((suc b n ad cs a s0).1)))), (qi, .inl (cz, 160, .inl (zN ((suc b n ad cs a s0).2.1)))), (h, .inr (1, [.ref q, .int (nI n)])), (q, .inl (ca, 160, .inl (iN b)))] A) [.ref w, .ref h, .int (nI a), .int (bI cs)].toArray s 0 0 A) (F0 m 37 ls []) := by
        intro s1 ls H locs hR1 hw1 hl hP hD hS
        have cut58 : ∀  (s2 : wkT) (ls : Array Slot) (H : Heap) (locs : List Loc), (suc b n ad cs a s0 = suc3 b ad a k cs s2) → (wok s2) → lv_has ls 6 [(5, .int (nI (a + (kB k)))), (4, .int (nI k)), (0, .ref w), (1, .ref h), (2, .int (nI a)), (3, .int (bI cs))] → va_P (dC, dI) classes [(w, .inr (3, [.ref qf, .ref qi, .int (nI ad), .int (nI s2.2.2)])), (qf, .inl (cf, 160, .inl (iN s2.1))), (qi, .inl (cz, 160, .inl (zN s2.2.1))), (h, .inr (1, [.ref q, .int (nI n)])), (q, .inl (ca, 160, .inl (iN b)))] H → va_D A [(w, .inr (3, [.ref qf, .ref qi, .int (nI ad), .int (nI s2.2.2)])), (qf, .inl (cf, 160, .inl (iN s2.1))), (qi, .inl (cz, 160, .inl (zN s2.2.1))), (h, .inr (1, [.ref q, .int (nI n)])), (q, .inl (ca, 160, .inl (iN b)))] → va_S A s.heap H locs → W p l e (rmq 3 64) s m [.ref w, .ref h, .int (nI a), .int (bI cs)].toArray below meth c H locs 0 0 (MQ below (qcU none (dC, dI) [(w, .inr (3, [.ref qf, .ref qi, .int (nI ad), .int (nI ((suc b n ad cs a s0).2.2))])), (qf, .inl (cf, 160, .inl (iN ((suc b n ad cs a s0).1)))), (qi, .inl (cz, 160, .inl (zN ((suc b n ad cs a s0).2.1)))), (h, .inr (1, [.ref q, .int (nI n)])), (q, .inl (ca, 160, .inl (iN b)))] A) [.ref w, .ref h, .int (nI a), .int (bI cs)].toArray s 0 0 A) (F0 m 58 ls []) := by
          intro s2 ls H locs hR2 hw2 hl hP hD hS
          refine lv_iload hx hb d_Wa_comeToSuccessors_58 (lv_at hl 1 rfl) ?_
          refine lv_bipush (v := nI 7) hx hb d_Wa_comeToSuccessors_60 (by decide) ?_
          refine z_icmp_eq (tgt := 83) hx hb d_Wa_comeToSuccessors_62 (tI_n (by omega)) (tI_n (by omega)) (by decide) (fun g62 => ?_) (fun g62 => ?_)
          · refine lv_aload_n hx hb d_Wa_comeToSuccessors_83 rfl (lv_at hl 2 rfl) ?_
            refine lv_aload_n hx hb d_Wa_comeToSuccessors_84 rfl (lv_at hl 3 rfl) ?_
            refine lv_iload_n hx hb d_Wa_comeToSuccessors_85 rfl (lv_at hl 4 rfl) ?_
            refine lv_iload hx hb d_Wa_comeToSuccessors_86 (lv_at hl 1 rfl) ?_
            refine rV (As := [.int (nI a), .int (nI k)]) (rest := [.ref w]) hx hb hml hown ht (c_Im_number l dC dI z h q ca b n a k (by first | assumption | omega) (by first | assumption | omega) (by first | assumption | omega) (by first | assumption | omega)) yv_Im_number k_225 (Nat.le_of_ble_eq_true rfl) (Nat.le_of_ble_eq_true rfl) hP hK hSS hS [3, 4] [2] rfl rfl 3 1 rfl rfl rfl hl rfl rfl (Nat.le_of_ble_eq_true rfl) (Nat.zero_le _) (Nat.zero_le _) d_Wa_comeToSuccessors_88 ?_
            refine uV (As := [.int (iI (num b a k))]) (rest := []) (wr := [(h, .inr (1, [.ref q, .int (nI n)])), (q, .inl (ca, 160, .inl (iN b)))]) hx hb hml hown ht (c_Wa_comeTo l dC dI z _ w qf qi cf cz ad s2 (iI (num b a k)) (num b a k) (by first | assumption | omega) (by first | assumption | omega) (iI_toInt (by omega) (by omega))) yv_Wa_comeTo k_224 (Nat.le_of_ble_eq_true rfl) (Nat.le_of_ble_eq_true rfl) hP hK hSS hD hS hA [0, 1, 2] [3, 4] [0, 1] rfl rfl (by decide) rfl (by decide) (by decide) rfl 0 3 rfl rfl rfl hl rfl rfl (Nat.le_of_ble_eq_true rfl) (Nat.zero_le _) (Nat.zero_le _) d_Wa_comeToSuccessors_91 (fun H locs hP hD hS => ?_)
            have hP : va_P (dC, dI) classes [(h, .inr (1, [.ref q, .int (nI n)])), (q, .inl (ca, 160, .inl (iN b))), (w, .inr (3, [.ref qf, .ref qi, .int (nI ad), .int (nI ((cm ad s2 (num b a k)).2.2))])), (qf, .inl (cf, 160, .inl (iN ((cm ad s2 (num b a k)).1)))), (qi, .inl (cz, 160, .inl (zN ((cm ad s2 (num b a k)).2.1))))] H := hP
            have hD : va_D A [(h, .inr (1, [.ref q, .int (nI n)])), (q, .inl (ca, 160, .inl (iN b))), (w, .inr (3, [.ref qf, .ref qi, .int (nI ad), .int (nI ((cm ad s2 (num b a k)).2.2))])), (qf, .inl (cf, 160, .inl (iN ((cm ad s2 (num b a k)).1)))), (qi, .inl (cz, 160, .inl (zN ((cm ad s2 (num b a k)).2.1))))] := hD
            refine stk (st2 := []) rfl ?_
            rw [hR2, suc3, if_pos (by first | omega | exact Or.inr (Or.inr ⟨by omega, g80⟩))]
            exact eUv hx hb hr hlocks hP hD hS [2, 3, 4, 0, 1] rfl rfl (by decide) d_Wa_comeToSuccessors_94
          · refine lv_iload hx hb d_Wa_comeToSuccessors_65 (lv_at hl 1 rfl) ?_
            refine lv_bipush (v := nI 9) hx hb d_Wa_comeToSuccessors_67 (by decide) ?_
            refine z_icmp_eq (tgt := 83) hx hb d_Wa_comeToSuccessors_69 (tI_n (by omega)) (tI_n (by omega)) (by decide) (fun g69 => ?_) (fun g69 => ?_)
            · refine lv_aload_n hx hb d_Wa_comeToSuccessors_83 rfl (lv_at hl 2 rfl) ?_
              refine lv_aload_n hx hb d_Wa_comeToSuccessors_84 rfl (lv_at hl 3 rfl) ?_
              refine lv_iload_n hx hb d_Wa_comeToSuccessors_85 rfl (lv_at hl 4 rfl) ?_
              refine lv_iload hx hb d_Wa_comeToSuccessors_86 (lv_at hl 1 rfl) ?_
              refine rV (As := [.int (nI a), .int (nI k)]) (rest := [.ref w]) hx hb hml hown ht (c_Im_number l dC dI z h q ca b n a k (by first | assumption | omega) (by first | assumption | omega) (by first | assumption | omega) (by first | assumption | omega)) yv_Im_number k_225 (Nat.le_of_ble_eq_true rfl) (Nat.le_of_ble_eq_true rfl) hP hK hSS hS [3, 4] [2] rfl rfl 3 1 rfl rfl rfl hl rfl rfl (Nat.le_of_ble_eq_true rfl) (Nat.zero_le _) (Nat.zero_le _) d_Wa_comeToSuccessors_88 ?_
              refine uV (As := [.int (iI (num b a k))]) (rest := []) (wr := [(h, .inr (1, [.ref q, .int (nI n)])), (q, .inl (ca, 160, .inl (iN b)))]) hx hb hml hown ht (c_Wa_comeTo l dC dI z _ w qf qi cf cz ad s2 (iI (num b a k)) (num b a k) (by first | assumption | omega) (by first | assumption | omega) (iI_toInt (by omega) (by omega))) yv_Wa_comeTo k_224 (Nat.le_of_ble_eq_true rfl) (Nat.le_of_ble_eq_true rfl) hP hK hSS hD hS hA [0, 1, 2] [3, 4] [0, 1] rfl rfl (by decide) rfl (by decide) (by decide) rfl 0 3 rfl rfl rfl hl rfl rfl (Nat.le_of_ble_eq_true rfl) (Nat.zero_le _) (Nat.zero_le _) d_Wa_comeToSuccessors_91 (fun H locs hP hD hS => ?_)
              have hP : va_P (dC, dI) classes [(h, .inr (1, [.ref q, .int (nI n)])), (q, .inl (ca, 160, .inl (iN b))), (w, .inr (3, [.ref qf, .ref qi, .int (nI ad), .int (nI ((cm ad s2 (num b a k)).2.2))])), (qf, .inl (cf, 160, .inl (iN ((cm ad s2 (num b a k)).1)))), (qi, .inl (cz, 160, .inl (zN ((cm ad s2 (num b a k)).2.1))))] H := hP
              have hD : va_D A [(h, .inr (1, [.ref q, .int (nI n)])), (q, .inl (ca, 160, .inl (iN b))), (w, .inr (3, [.ref qf, .ref qi, .int (nI ad), .int (nI ((cm ad s2 (num b a k)).2.2))])), (qf, .inl (cf, 160, .inl (iN ((cm ad s2 (num b a k)).1)))), (qi, .inl (cz, 160, .inl (zN ((cm ad s2 (num b a k)).2.1))))] := hD
              refine stk (st2 := []) rfl ?_
              rw [hR2, suc3, if_pos (by first | omega | exact Or.inr (Or.inr ⟨by omega, g80⟩))]
              exact eUv hx hb hr hlocks hP hD hS [2, 3, 4, 0, 1] rfl rfl (by decide) d_Wa_comeToSuccessors_94
            · refine lv_iload hx hb d_Wa_comeToSuccessors_72 (lv_at hl 1 rfl) ?_
              refine lv_bipush (v := nI 8) hx hb d_Wa_comeToSuccessors_74 (by decide) ?_
              refine z_icmp_ne (tgt := 94) hx hb d_Wa_comeToSuccessors_76 (tI_n (by omega)) (tI_n (by omega)) (by decide) (fun g76 => ?_) (fun g76 => ?_)
              · rw [hR2, suc3, if_neg (by first | omega | (intro q; rw [g80] at q; simp at q; omega))]
                exact eUv hx hb hr hlocks hP hD hS [0, 1, 2, 3, 4] rfl rfl (by decide) d_Wa_comeToSuccessors_94
              · refine lv_iload_n hx hb d_Wa_comeToSuccessors_79 rfl (lv_at hl 5 rfl) ?_
                refine b_if_eq (tgt := 94) hx hb d_Wa_comeToSuccessors_80 (by decide) (fun g80 => ?_) (fun g80 => ?_)
                · rw [hR2, suc3, if_neg (by first | omega | (intro q; rw [g80] at q; simp at q; omega))]
                  exact eUv hx hb hr hlocks hP hD hS [0, 1, 2, 3, 4] rfl rfl (by decide) d_Wa_comeToSuccessors_94
                · refine lv_aload_n hx hb d_Wa_comeToSuccessors_83 rfl (lv_at hl 2 rfl) ?_
                  refine lv_aload_n hx hb d_Wa_comeToSuccessors_84 rfl (lv_at hl 3 rfl) ?_
                  refine lv_iload_n hx hb d_Wa_comeToSuccessors_85 rfl (lv_at hl 4 rfl) ?_
                  refine lv_iload hx hb d_Wa_comeToSuccessors_86 (lv_at hl 1 rfl) ?_
                  refine rV (As := [.int (nI a), .int (nI k)]) (rest := [.ref w]) hx hb hml hown ht (c_Im_number l dC dI z h q ca b n a k (by first | assumption | omega) (by first | assumption | omega) (by first | assumption | omega) (by first | assumption | omega)) yv_Im_number k_225 (Nat.le_of_ble_eq_true rfl) (Nat.le_of_ble_eq_true rfl) hP hK hSS hS [3, 4] [2] rfl rfl 3 1 rfl rfl rfl hl rfl rfl (Nat.le_of_ble_eq_true rfl) (Nat.zero_le _) (Nat.zero_le _) d_Wa_comeToSuccessors_88 ?_
                  refine uV (As := [.int (iI (num b a k))]) (rest := []) (wr := [(h, .inr (1, [.ref q, .int (nI n)])), (q, .inl (ca, 160, .inl (iN b)))]) hx hb hml hown ht (c_Wa_comeTo l dC dI z _ w qf qi cf cz ad s2 (iI (num b a k)) (num b a k) (by first | assumption | omega) (by first | assumption | omega) (iI_toInt (by omega) (by omega))) yv_Wa_comeTo k_224 (Nat.le_of_ble_eq_true rfl) (Nat.le_of_ble_eq_true rfl) hP hK hSS hD hS hA [0, 1, 2] [3, 4] [0, 1] rfl rfl (by decide) rfl (by decide) (by decide) rfl 0 3 rfl rfl rfl hl rfl rfl (Nat.le_of_ble_eq_true rfl) (Nat.zero_le _) (Nat.zero_le _) d_Wa_comeToSuccessors_91 (fun H locs hP hD hS => ?_)
                  have hP : va_P (dC, dI) classes [(h, .inr (1, [.ref q, .int (nI n)])), (q, .inl (ca, 160, .inl (iN b))), (w, .inr (3, [.ref qf, .ref qi, .int (nI ad), .int (nI ((cm ad s2 (num b a k)).2.2))])), (qf, .inl (cf, 160, .inl (iN ((cm ad s2 (num b a k)).1)))), (qi, .inl (cz, 160, .inl (zN ((cm ad s2 (num b a k)).2.1))))] H := hP
                  have hD : va_D A [(h, .inr (1, [.ref q, .int (nI n)])), (q, .inl (ca, 160, .inl (iN b))), (w, .inr (3, [.ref qf, .ref qi, .int (nI ad), .int (nI ((cm ad s2 (num b a k)).2.2))])), (qf, .inl (cf, 160, .inl (iN ((cm ad s2 (num b a k)).1)))), (qi, .inl (cz, 160, .inl (zN ((cm ad s2 (num b a k)).2.1))))] := hD
                  refine stk (st2 := []) rfl ?_
                  rw [hR2, suc3, if_pos (by first | omega | exact Or.inr (Or.inr ⟨by omega, g80⟩))]
                  exact eUv hx hb hr hlocks hP hD hS [2, 3, 4, 0, 1] rfl rfl (by decide) d_Wa_comeToSuccessors_94
        refine lv_iload hx hb d_Wa_comeToSuccessors_37 (lv_at hl 1 rfl) ?_
        refine lv_bipush (v := nI 10) hx hb d_Wa_comeToSuccessors_39 (by decide) ?_
        refine z_icmp_ne (tgt := 58) hx hb d_Wa_comeToSuccessors_41 (tI_n (by omega)) (tI_n (by omega)) (by decide) (fun g41 => ?_) (fun g41 => ?_)
        · exact cut58 s1 _ _ _ (by rw [hR1, suc2, if_neg (by omega)]) (hw1) (lv_sub hl [0, 1, 2, 3, 4, 5] rfl) (hP.sub [0, 1, 2, 3, 4] rfl) (hD.sub [0, 1, 2, 3, 4] (by decide) rfl) hS
        · refine lv_aload_n hx hb d_Wa_comeToSuccessors_44 rfl (lv_at hl 2 rfl) ?_
          refine lv_iload hx hb d_Wa_comeToSuccessors_45 (lv_at hl 0 rfl) ?_
          refine lv_aload_n hx hb d_Wa_comeToSuccessors_47 rfl (lv_at hl 3 rfl) ?_
          refine lv_iload_n hx hb d_Wa_comeToSuccessors_48 rfl (lv_at hl 4 rfl) ?_
          refine lv_iload hx hb d_Wa_comeToSuccessors_49 (lv_at hl 1 rfl) ?_
          refine rV (As := [.int (nI a), .int (nI k)]) (rest := [.int (nI (a + (kB k))), .ref w]) hx hb hml hown ht (c_Im_number l dC dI z h q ca b n a k (by first | assumption | omega) (by first | assumption | omega) (by first | assumption | omega) (by first | assumption | omega)) yv_Im_number k_225 (Nat.le_of_ble_eq_true rfl) (Nat.le_of_ble_eq_true rfl) hP hK hSS hS [3, 4] [2] rfl rfl 3 1 rfl rfl rfl hl rfl rfl (Nat.le_of_ble_eq_true rfl) (Nat.zero_le _) (Nat.zero_le _) d_Wa_comeToSuccessors_51 ?_
          refine zAdd hx hb d_Wa_comeToSuccessors_54 (nI_iI _) rfl ?_
          refine uV (As := [.int (iI (((a + (kB k) : Nat) : Int) + (num b a k)))]) (rest := []) (wr := [(h, .inr (1, [.ref q, .int (nI n)])), (q, .inl (ca, 160, .inl (iN b)))]) hx hb hml hown ht (c_Wa_comeTo l dC dI z _ w qf qi cf cz ad s1 (iI (((a + (kB k) : Nat) : Int) + (num b a k))) (((a + (kB k) : Nat) : Int) + (num b a k)) (by first | assumption | omega) (by first | assumption | omega) (iI_toInt (by omega) (by omega))) yv_Wa_comeTo k_224 (Nat.le_of_ble_eq_true rfl) (Nat.le_of_ble_eq_true rfl) hP hK hSS hD hS hA [0, 1, 2] [3, 4] [0, 1] rfl rfl (by decide) rfl (by decide) (by decide) rfl 0 3 rfl rfl rfl hl rfl rfl (Nat.le_of_ble_eq_true rfl) (Nat.zero_le _) (Nat.zero_le _) d_Wa_comeToSuccessors_55 (fun H locs hP hD hS => ?_)
          have hP : va_P (dC, dI) classes [(h, .inr (1, [.ref q, .int (nI n)])), (q, .inl (ca, 160, .inl (iN b))), (w, .inr (3, [.ref qf, .ref qi, .int (nI ad), .int (nI ((cm ad s1 (((a + (kB k) : Nat) : Int) + (num b a k))).2.2))])), (qf, .inl (cf, 160, .inl (iN ((cm ad s1 (((a + (kB k) : Nat) : Int) + (num b a k))).1)))), (qi, .inl (cz, 160, .inl (zN ((cm ad s1 (((a + (kB k) : Nat) : Int) + (num b a k))).2.1))))] H := hP
          have hD : va_D A [(h, .inr (1, [.ref q, .int (nI n)])), (q, .inl (ca, 160, .inl (iN b))), (w, .inr (3, [.ref qf, .ref qi, .int (nI ad), .int (nI ((cm ad s1 (((a + (kB k) : Nat) : Int) + (num b a k))).2.2))])), (qf, .inl (cf, 160, .inl (iN ((cm ad s1 (((a + (kB k) : Nat) : Int) + (num b a k))).1)))), (qi, .inl (cz, 160, .inl (zN ((cm ad s1 (((a + (kB k) : Nat) : Int) + (num b a k))).2.1))))] := hD
          refine stk (st2 := []) rfl ?_
          exact cut58 (cm ad s1 (((a + (kB k) : Nat) : Int) + (num b a k))) _ _ _ (by rw [hR1, suc2, if_pos (by omega)]) (cm_ok had hw1) (lv_sub hl [0, 1, 2, 3, 4, 5] rfl) (hP.sub [2, 3, 4, 0, 1] rfl) (hD.sub [2, 3, 4, 0, 1] (by decide) rfl) hS
      refine lv_iload hx hb d_Wa_comeToSuccessors_23 (lv_at hl 1 rfl) ?_
      refine rS (As := [.int (nI k)]) (rest := []) hx hb hml hown ht (c_Ki_fallsThrough l dC dI z k (by first | assumption | omega)) ys_Ki_fallsThrough k_221 (Nat.le_of_ble_eq_true rfl) (Nat.le_of_ble_eq_true rfl) hP hK hSS hS [] [] rfl rfl hl rfl rfl (Nat.le_of_ble_eq_true rfl) (Nat.zero_le _) (Nat.zero_le _) d_Wa_comeToSuccessors_25 ?_
      refine b_if_eq (tgt := 37) hx hb d_Wa_comeToSuccessors_28 (by decide) (fun g28 => ?_) (fun g28 => ?_)
      · exact cut37 s0 _ _ _ (by rw [suc_some ek, suc1, if_neg (by rw [g28]; decide)]) (hw) (lv_sub hl [0, 1, 2, 3, 4, 5] rfl) (hP.sub [0, 1, 2, 3, 4] rfl) (hD.sub [0, 1, 2, 3, 4] (by decide) rfl) hS
      · refine lv_aload_n hx hb d_Wa_comeToSuccessors_31 rfl (lv_at hl 2 rfl) ?_
        refine lv_iload hx hb d_Wa_comeToSuccessors_32 (lv_at hl 0 rfl) ?_
        refine uV (As := [.int (nI (a + (kB k)))]) (rest := []) (wr := [(h, .inr (1, [.ref q, .int (nI n)])), (q, .inl (ca, 160, .inl (iN b)))]) hx hb hml hown ht (c_Wa_comeTo l dC dI z _ w qf qi cf cz ad s0 (nI (a + (kB k))) ((a + (kB k) : Nat) : Int) (by first | assumption | omega) (by first | assumption | omega) (tI_n (by omega))) yv_Wa_comeTo k_224 (Nat.le_of_ble_eq_true rfl) (Nat.le_of_ble_eq_true rfl) hP hK hSS hD hS hA [0, 1, 2] [3, 4] [0, 1] rfl rfl (by decide) rfl (by decide) (by decide) rfl 0 3 rfl rfl rfl hl rfl rfl (Nat.le_of_ble_eq_true rfl) (Nat.zero_le _) (Nat.zero_le _) d_Wa_comeToSuccessors_34 (fun H locs hP hD hS => ?_)
        have hP : va_P (dC, dI) classes [(h, .inr (1, [.ref q, .int (nI n)])), (q, .inl (ca, 160, .inl (iN b))), (w, .inr (3, [.ref qf, .ref qi, .int (nI ad), .int (nI ((cm ad s0 ((a + (kB k) : Nat) : Int)).2.2))])), (qf, .inl (cf, 160, .inl (iN ((cm ad s0 ((a + (kB k) : Nat) : Int)).1)))), (qi, .inl (cz, 160, .inl (zN ((cm ad s0 ((a + (kB k) : Nat) : Int)).2.1))))] H := hP
        have hD : va_D A [(h, .inr (1, [.ref q, .int (nI n)])), (q, .inl (ca, 160, .inl (iN b))), (w, .inr (3, [.ref qf, .ref qi, .int (nI ad), .int (nI ((cm ad s0 ((a + (kB k) : Nat) : Int)).2.2))])), (qf, .inl (cf, 160, .inl (iN ((cm ad s0 ((a + (kB k) : Nat) : Int)).1)))), (qi, .inl (cz, 160, .inl (zN ((cm ad s0 ((a + (kB k) : Nat) : Int)).2.1))))] := hD
        refine stk (st2 := []) rfl ?_
        exact cut37 (cm ad s0 ((a + (kB k) : Nat) : Int)) _ _ _ (by rw [suc_some ek, suc1, if_pos g28]) (cm_ok had hw) (lv_sub hl [0, 1, 2, 3, 4, 5] rfl) (hP.sub [2, 3, 4, 0, 1] rfl) (hD.sub [2, 3, 4, 0, 1] (by decide) rfl) hS
    · exfalso; omega

set_option maxHeartbeats 4000000 in
set_option maxRecDepth 100000 in
theorem c_Wa_follow (l : Launch) (dC : Nat → ClassId) (dI : Nat → Nat → Nat) (z : zT) (sz : Nat) (w : Nat) (qf : Nat) (qi : Nat) (cf : ClassId) (cz : ClassId) (ad : Nat) (s0 : wkT) (h : Nat) (q : Nat) (ca : ClassId) (b : Nat → Nat) (n : Nat) (cs : Bool) (had : ad ≤ 160) (hw : wok s0) (hn : n ≤ 160) (hb8 : ∀ i, b i < 256) : MU l y_Wa_follow b_Wa_follow 4 none 4 89 (dC, dI) z [.ref w, .ref h, .int (bI cs)] [(w, .inr (3, [.ref qf, .ref qi, .int (nI ad), .int (nI s0.2.2)])), (qf, .inl (cf, 160, .inl (iN s0.1))), (qi, .inl (cz, 160, .inl (zN s0.2.1))), (h, .inr (1, [.ref q, .int (nI n)])), (q, .inl (ca, 160, .inl (iN b)))] [(cf, .int), (cz, .boolean), (ca, .int)] sz none [(w, .inr (3, [.ref qf, .ref qi, .int (nI ad), .int (nI ((fol b n ad cs 160 0 s0).2.2))])), (qf, .inl (cf, 160, .inl (iN ((fol b n ad cs 160 0 s0).1)))), (qi, .inl (cz, 160, .inl (zN ((fol b n ad cs 160 0 s0).2.1)))), (h, .inr (1, [.ref q, .int (nI n)])), (q, .inl (ca, 160, .inl (iN b)))] := by
  refine metU (by decide) (Nat.le_of_ble_eq_true rfl) ?_
  intro p e s m below meth c ls A hx hb hr hlocks hml hown ht hl hP hK hSS hD hS hA
  have hl : lv_has ls 4 [(0, .ref w), (1, .ref h), (2, .int (bI cs))] := hl
  refine lv_iconst (v := nI 0) hx hb d_Wa_follow_0 (by decide) ?_
  refine lv_istore_n (lv' := [(3, .int (nI 0)), (0, .ref w), (1, .ref h), (2, .int (bI cs))]) hx hb d_Wa_follow_1 rfl hl (Nat.le_of_ble_eq_true rfl) rfl (fun ls hl => ?_)
  have loop2 : ∀ (j : Nat) (k : Nat) (s1 : wkT) (ls : Array Slot) (H : Heap) (locs : List Loc), (k + j = 160) → (wok s1) → (fol b n ad cs 160 0 s0 = fol b n ad cs j k s1) → lv_has ls 4 [(3, .int (nI k)), (0, .ref w), (1, .ref h), (2, .int (bI cs))] → va_P (dC, dI) classes [(w, .inr (3, [.ref qf, .ref qi, .int (nI ad), .int (nI s1.2.2)])), (qf, .inl (cf, 160, .inl (iN s1.1))), (qi, .inl (cz, 160, .inl (zN s1.2.1))), (h, .inr (1, [.ref q, .int (nI n)])), (q, .inl (ca, 160, .inl (iN b)))] H → va_D A [(w, .inr (3, [.ref qf, .ref qi, .int (nI ad), .int (nI s1.2.2)])), (qf, .inl (cf, 160, .inl (iN s1.1))), (qi, .inl (cz, 160, .inl (zN s1.2.1))), (h, .inr (1, [.ref q, .int (nI n)])), (q, .inl (ca, 160, .inl (iN b)))] → va_S A s.heap H locs → W p l e (rmq 4 89) s m [.ref w, .ref h, .int (bI cs)].toArray below meth c H locs 0 0 (MQ below (qcU none (dC, dI) [(w, .inr (3, [.ref qf, .ref qi, .int (nI ad), .int (nI ((fol b n ad cs 160 0 s0).2.2))])), (qf, .inl (cf, 160, .inl (iN ((fol b n ad cs 160 0 s0).1)))), (qi, .inl (cz, 160, .inl (zN ((fol b n ad cs 160 0 s0).2.1)))), (h, .inr (1, [.ref q, .int (nI n)])), (q, .inl (ca, 160, .inl (iN b)))] A) [.ref w, .ref h, .int (bI cs)].toArray s 0 0 A) (F0 m 2 ls []) := by
    intro j
    induction j with
    | zero =>
      intro k s1 ls H locs hk hw1 hR hl hP hD hS
      have hq := hw1.1
      refine lv_iload_n hx hb d_Wa_follow_2 rfl (lv_at hl 0 rfl) ?_
      refine lv_aload_n hx hb d_Wa_follow_3 rfl (lv_at hl 1 rfl) ?_
      refine va_get (D := (dC, dI)) (ci := 3) (v := .int (nI s1.2.2)) (C := R_Wa) (T := F_Wa) (N := 4) hx hb ht in_Wa hown hK hP 0 rfl rfl 3 (by decide) (ht _ k_45) (fun _ h9 => h9) rfl d_Wa_follow_4 ?_
      refine z_icmp_ge (tgt := 35) hx hb d_Wa_follow_7 (tI_n (by omega)) (tI_n (by omega)) (by decide) (fun g7 => ?_) (fun g7 => ?_)
      · rw [hR]
        exact eUv hx hb hr hlocks hP hD hS [0, 1, 2, 3, 4] rfl rfl (by decide) d_Wa_follow_35
      · refine lv_iload_n hx hb d_Wa_follow_10 rfl (lv_at hl 0 rfl) ?_
        refine lv_sipush (v := nI 160) hx hb d_Wa_follow_11 (by decide) ?_
        refine z_icmp_ge (tgt := 35) hx hb d_Wa_follow_14 (tI_n (by omega)) (tI_n (by omega)) (by decide) (fun g14 => ?_) (fun g14 => ?_)
        · rw [hR]
          exact eUv hx hb hr hlocks hP hD hS [0, 1, 2, 3, 4] rfl rfl (by decide) d_Wa_follow_35
        · exfalso; omega
    | succ j ih =>
      intro k s1 ls H locs hk hw1 hR hl hP hD hS
      have hq := hw1.1
      refine lv_iload_n hx hb d_Wa_follow_2 rfl (lv_at hl 0 rfl) ?_
      refine lv_aload_n hx hb d_Wa_follow_3 rfl (lv_at hl 1 rfl) ?_
      refine va_get (D := (dC, dI)) (ci := 3) (v := .int (nI s1.2.2)) (C := R_Wa) (T := F_Wa) (N := 4) hx hb ht in_Wa hown hK hP 0 rfl rfl 3 (by decide) (ht _ k_45) (fun _ h9 => h9) rfl d_Wa_follow_4 ?_
      refine z_icmp_ge (tgt := 35) hx hb d_Wa_follow_7 (tI_n (by omega)) (tI_n (by omega)) (by decide) (fun g7 => ?_) (fun g7 => ?_)
      · rw [hR, fol, if_neg (by omega)]
        exact eUv hx hb hr hlocks hP hD hS [0, 1, 2, 3, 4] rfl rfl (by decide) d_Wa_follow_35
      · refine lv_iload_n hx hb d_Wa_follow_10 rfl (lv_at hl 0 rfl) ?_
        refine lv_sipush (v := nI 160) hx hb d_Wa_follow_11 (by decide) ?_
        refine z_icmp_ge (tgt := 35) hx hb d_Wa_follow_14 (tI_n (by omega)) (tI_n (by omega)) (by decide) (fun g14 => ?_) (fun g14 => ?_)
        · exfalso; omega
        · refine lv_aload_n hx hb d_Wa_follow_17 rfl (lv_at hl 1 rfl) ?_
          refine lv_aload_n hx hb d_Wa_follow_18 rfl (lv_at hl 2 rfl) ?_
          refine lv_aload_n hx hb d_Wa_follow_19 rfl (lv_at hl 1 rfl) ?_
          refine va_get (D := (dC, dI)) (ci := 3) (v := .ref qf) (C := R_Wa) (T := F_Wa) (N := 4) hx hb ht in_Wa hown hK hP 0 rfl rfl 0 (by decide) (ht _ k_42) (fun _ h9 => h9) rfl d_Wa_follow_20 ?_
          refine lv_iload_n hx hb d_Wa_follow_23 rfl (lv_at hl 0 rfl) ?_
          refine ldI (q0 := 1) (t0 := 0) hx hb d_Wa_follow_24 hK hP rfl rfl (by omega) (by decide) ?_
          refine lv_iload_n hx hb d_Wa_follow_25 rfl (lv_at hl 3 rfl) ?_
          refine uV (As := [.ref h, .int (nI (s1.1 k)), .int (bI cs)]) (rest := []) (wr := []) hx hb hml hown ht (c_Wa_comeToSuccessors l dC dI z _ w qf qi cf cz ad s1 h q ca b n (s1.1 k) cs (by first | assumption | omega) (by first | assumption | omega) (by first | assumption | omega) (by first | assumption | omega) (hw1.2 k (by omega))) yv_Wa_comeToSuccessors k_215 (Nat.le_of_ble_eq_true rfl) (Nat.le_of_ble_eq_true rfl) hP hK hSS hD hS hA [0, 1, 2, 3, 4] [] [0, 1, 2] rfl rfl (by decide) rfl (by decide) (by decide) rfl 0 3 rfl rfl rfl hl rfl rfl (Nat.le_of_ble_eq_true rfl) (Nat.zero_le _) (Nat.zero_le _) d_Wa_follow_26 (fun H locs hP hD hS => ?_)
          have hP : va_P (dC, dI) classes [(w, .inr (3, [.ref qf, .ref qi, .int (nI ad), .int (nI ((suc b n ad cs (s1.1 k) s1).2.2))])), (qf, .inl (cf, 160, .inl (iN ((suc b n ad cs (s1.1 k) s1).1)))), (qi, .inl (cz, 160, .inl (zN ((suc b n ad cs (s1.1 k) s1).2.1)))), (h, .inr (1, [.ref q, .int (nI n)])), (q, .inl (ca, 160, .inl (iN b)))] H := hP
          have hD : va_D A [(w, .inr (3, [.ref qf, .ref qi, .int (nI ad), .int (nI ((suc b n ad cs (s1.1 k) s1).2.2))])), (qf, .inl (cf, 160, .inl (iN ((suc b n ad cs (s1.1 k) s1).1)))), (qi, .inl (cz, 160, .inl (zN ((suc b n ad cs (s1.1 k) s1).2.1)))), (h, .inr (1, [.ref q, .int (nI n)])), (q, .inl (ca, 160, .inl (iN b)))] := hD
          refine stk (st2 := []) rfl ?_
          refine lv_iinc (k := 0) (v := nI (k + 1)) (lv' := [(3, .int (nI (k + 1))), (0, .ref w), (1, .ref h), (2, .int (bI cs))]) hx hb d_Wa_follow_29 hl rfl (nI_inc1 _) (Nat.le_of_ble_eq_true rfl) rfl (fun ls hl => ?_)
          refine lv_goto (tgt := 2) hx hb d_Wa_follow_32 (by decide) ?_
          exact ih (k + 1) (suc b n ad cs (s1.1 k) s1) _ _ _ (by omega) (suc_ok had hw1) (by rw [hR, fol, if_pos (by omega)]) (lv_sub hl [0, 1, 2, 3] rfl) (hP.sub [0, 1, 2, 3, 4] rfl) (hD.sub [0, 1, 2, 3, 4] (by decide) rfl) hS
  exact loop2 160 0 s0 _ _ _ (rfl) (hw) (rfl) (lv_sub hl [0, 1, 2, 3] rfl) (hP.sub [0, 1, 2, 3, 4] rfl) (hD.sub [0, 1, 2, 3, 4] (by decide) rfl) hS
end
section
set_option maxHeartbeats 4000000 in
set_option maxRecDepth 100000 in
theorem c_Te_count (l : Launch) (dC : Nat → ClassId) (dI : Nat → Nat → Nat) (z : zT) (h : Nat) (q : Nat) (cc : ClassId) (s0 : txT) (r0 : rdT) : MR l y_Te_count b_Te_count 1 (some .int) 0 0 (dC, dI) z [.ref h] [(h, .inr (2, [.ref q, .int (nI s0.2), .int (nI r0.1), .int (bI r0.2)])), (q, .inl (cc, 2400, .inl (iN s0.1)))] [(cc, .char)] (.int (nI s0.2)) := by
  refine metR (by decide) (Nat.le_of_ble_eq_true rfl) ?_
  intro p e s m below meth c ls hx hb hr hlocks hml hown ht hl hP hK hSS
  have hl : lv_has ls 1 [(0, .ref h)] := hl
  have hS : va_S (fun _ => False) s.heap s.heap [] := va_S.rf
  refine lv_aload_n hx hb d_Te_count_0 rfl (lv_at hl 0 rfl) ?_
  refine va_get (D := (dC, dI)) (ci := 2) (v := .int (nI s0.2)) (C := R_Te) (T := F_Te) (N := 4) hx hb ht in_Te hown hK hP 0 rfl rfl 1 (by decide) (ht _ k_63) (fun _ h9 => h9) rfl d_Te_count_1 ?_
  exact eRi hx hb hr hlocks d_Te_count_4 (rfl)

set_option maxHeartbeats 4000000 in
set_option maxRecDepth 100000 in
theorem c_Te_at (l : Launch) (dC : Nat → ClassId) (dI : Nat → Nat → Nat) (z : zT) (h : Nat) (q : Nat) (cc : ClassId) (s0 : txT) (pl0 : Nat) (rt0 : Bool) (x : Int32) (y : Int) (hs : s0.2 ≤ 2400) (hy : x.toInt = y) : MR l y_Te_at b_Te_at 2 (some .int) 0 0 (dC, dI) z [.ref h, .int x] [(h, .inr (2, [.ref q, .int (nI s0.2), .int (nI pl0), .int (bI rt0)])), (q, .inl (cc, 2400, .inl (iN s0.1)))] [(cc, .char)] (.int (iI (atZ s0.1 s0.2 y))) := by
  refine metR (by decide) (Nat.le_of_ble_eq_true rfl) ?_
  intro p e s m below meth c ls hx hb hr hlocks hml hown ht hl hP hK hSS
  have hl : lv_has ls 2 [(0, .ref h), (1, .int x)] := hl
  have hS : va_S (fun _ => False) s.heap s.heap [] := va_S.rf
  refine lv_iload_n hx hb d_Te_at_0 rfl (lv_at hl 1 rfl) ?_
  refine z_if_lt (tgt := 21) hx hb d_Te_at_1 hy (by decide) (fun g1 => ?_) (fun g1 => ?_)
  · refine lv_iconst (v := iI (-1)) hx hb d_Te_at_21 (by decide) ?_
    exact eRi hx hb hr hlocks d_Te_at_22 (by rw [atZ, if_neg (by omega)])
  · refine lv_iload_n hx hb d_Te_at_4 rfl (lv_at hl 1 rfl) ?_
    refine lv_aload_n hx hb d_Te_at_5 rfl (lv_at hl 0 rfl) ?_
    refine va_get (D := (dC, dI)) (ci := 2) (v := .int (nI s0.2)) (C := R_Te) (T := F_Te) (N := 4) hx hb ht in_Te hown hK hP 0 rfl rfl 1 (by decide) (ht _ k_63) (fun _ h9 => h9) rfl d_Te_at_6 ?_
    refine z_icmp_ge (tgt := 21) hx hb d_Te_at_9 hy (tI_n (by omega)) (by decide) (fun g9 => ?_) (fun g9 => ?_)
    · refine lv_iconst (v := iI (-1)) hx hb d_Te_at_21 (by decide) ?_
      exact eRi hx hb hr hlocks d_Te_at_22 (by rw [atZ, if_neg (by omega)])
    · refine lv_aload_n hx hb d_Te_at_12 rfl (lv_at hl 0 rfl) ?_
      refine va_get (D := (dC, dI)) (ci := 2) (v := .ref q) (C := R_Te) (T := F_Te) (N := 4) hx hb ht in_Te hown hK hP 0 rfl rfl 0 (by decide) (ht _ k_62) (fun _ h9 => h9) rfl d_Te_at_13 ?_
      refine lv_iload_n hx hb d_Te_at_16 rfl (lv_at hl 1 rfl) ?_
      refine eqi (y := nI y.toNat) (x_yN hy (by omega)) ?_
      refine ldC (q0 := 1) (t0 := 0) hx hb d_Te_at_17 hK hP rfl rfl (by omega) (by decide) ?_
      refine lv_goto (tgt := 22) hx hb d_Te_at_18 (by decide) ?_
      exact eRi hx hb hr hlocks d_Te_at_22 (by rw [nI_iI, atZ, if_pos (by omega)])

set_option maxHeartbeats 4000000 in
set_option maxRecDepth 100000 in
theorem c_Te_drop (l : Launch) (dC : Nat → ClassId) (dI : Nat → Nat → Nat) (z : zT) (sz : Nat) (h : Nat) (q : Nat) (cc : ClassId) (s0 : txT) (r0 : rdT) : MU l y_Te_drop b_Te_drop 1 none 0 0 (dC, dI) z [.ref h] [(h, .inr (2, [.ref q, .int (nI s0.2), .int (nI r0.1), .int (bI r0.2)])), (q, .inl (cc, 2400, .inl (iN s0.1)))] [(cc, .char)] sz none [(h, .inr (2, [.ref q, .int (nI ((dr s0).2)), .int (nI r0.1), .int (bI r0.2)])), (q, .inl (cc, 2400, .inl (iN ((dr s0).1))))] := by
  refine metU (by decide) (Nat.le_of_ble_eq_true rfl) ?_
  intro p e s m below meth c ls A hx hb hr hlocks hml hown ht hl hP hK hSS hD hS hA
  have hl : lv_has ls 1 [(0, .ref h)] := hl
  refine lv_aload_n hx hb d_Te_drop_0 rfl (lv_at hl 0 rfl) ?_
  refine lv_iconst (v := nI 0) hx hb d_Te_drop_1 (by decide) ?_
  refine va_put (D := (dC, dI)) (ci := 2) (v := .int (nI 0)) (ty := .int) (C := R_Te) (T := F_Te) (N := 4) hx hb ht in_Te t_Te t_Te_ok n_Te hown hK hP hD hS 0 rfl rfl 1 (by decide) (ht _ k_63) (fun _ h9 => h9) rfl (by decide +kernel) rfl rfl (Nat.le_of_ble_eq_true rfl) d_Te_drop_2 (fun H locs hP hD hS => ?_)
  have hP : va_P (dC, dI) classes [(h, .inr (2, [.ref q, .int (nI 0), .int (nI r0.1), .int (bI r0.2)])), (q, .inl (cc, 2400, .inl (iN s0.1)))] H := hP
  have hD : va_D A [(h, .inr (2, [.ref q, .int (nI 0), .int (nI r0.1), .int (bI r0.2)])), (q, .inl (cc, 2400, .inl (iN s0.1)))] := hD
  exact eUv hx hb hr hlocks hP hD hS [0, 1] rfl rfl (by decide) d_Te_drop_5

set_option maxHeartbeats 4000000 in
set_option maxRecDepth 100000 in
theorem c_Te_put (l : Launch) (dC : Nat → ClassId) (dI : Nat → Nat → Nat) (z : zT) (sz : Nat) (h : Nat) (q : Nat) (cc : ClassId) (s0 : txT) (r0 : rdT) (i : Nat) (v : Nat) (hs : s0.2 ≤ 2400) (hi : i ≤ s0.2) (hi2 : i < 2400) (hv : v < 65536) : MU l y_Te_put b_Te_put 3 none 1 21 (dC, dI) z [.ref h, .int (nI i), .int (nI v)] [(h, .inr (2, [.ref q, .int (nI s0.2), .int (nI r0.1), .int (bI r0.2)])), (q, .inl (cc, 2400, .inl (iN s0.1)))] [(cc, .char)] sz none [(h, .inr (2, [.ref q, .int (nI ((pu s0 i v).2)), .int (nI r0.1), .int (bI r0.2)])), (q, .inl (cc, 2400, .inl (iN ((pu s0 i v).1))))] := by
  refine metU (by decide) (Nat.le_of_ble_eq_true rfl) ?_
  intro p e s m below meth c ls A hx hb hr hlocks hml hown ht hl hP hK hSS hD hS hA
  have hl : lv_has ls 3 [(0, .ref h), (1, .int (nI i)), (2, .int (nI v))] := hl
  refine lv_iload_n hx hb d_Te_put_0 rfl (lv_at hl 1 rfl) ?_
  refine z_if_lt (tgt := 40) hx hb d_Te_put_1 (tI_n (by omega)) (by decide) (fun g1 => ?_) (fun g1 => ?_)
  · exfalso; omega
  · refine lv_iload_n hx hb d_Te_put_4 rfl (lv_at hl 1 rfl) ?_
    refine lv_aload_n hx hb d_Te_put_5 rfl (lv_at hl 0 rfl) ?_
    refine va_get (D := (dC, dI)) (ci := 2) (v := .int (nI s0.2)) (C := R_Te) (T := F_Te) (N := 4) hx hb ht in_Te hown hK hP 0 rfl rfl 1 (by decide) (ht _ k_63) (fun _ h9 => h9) rfl d_Te_put_6 ?_
    refine z_icmp_gt (tgt := 40) hx hb d_Te_put_9 (tI_n (by omega)) (tI_n (by omega)) (by decide) (fun g9 => ?_) (fun g9 => ?_)
    · exfalso; omega
    · refine lv_iload_n hx hb d_Te_put_12 rfl (lv_at hl 1 rfl) ?_
      refine lv_sipush (v := nI 2400) hx hb d_Te_put_13 (by decide) ?_
      refine z_icmp_ge (tgt := 40) hx hb d_Te_put_16 (tI_n (by omega)) (tI_n (by omega)) (by decide) (fun g16 => ?_) (fun g16 => ?_)
      · exfalso; omega
      · refine lv_aload_n hx hb d_Te_put_19 rfl (lv_at hl 0 rfl) ?_
        refine va_get (D := (dC, dI)) (ci := 2) (v := .ref q) (C := R_Te) (T := F_Te) (N := 4) hx hb ht in_Te hown hK hP 0 rfl rfl 0 (by decide) (ht _ k_62) (fun _ h9 => h9) rfl d_Te_put_20 ?_
        refine lv_iload_n hx hb d_Te_put_23 rfl (lv_at hl 1 rfl) ?_
        refine lv_iload_n hx hb d_Te_put_24 rfl (lv_at hl 2 rfl) ?_
        refine stC (q0 := 1) (t0 := 0) (w1 := [(h, .inr (2, [.ref q, .int (nI s0.2), .int (nI r0.1), .int (bI r0.2)])), (q, .inl (cc, 2400, .inl (iN (updN s0.1 i v))))]) hx hb d_Te_put_25 hK hP hD hS rfl rfl (by omega) (by decide) (by omega) rfl (fun H locs hP hD hS => ?_)
        refine lv_aload_n hx hb d_Te_put_26 rfl (lv_at hl 0 rfl) ?_
        refine lv_aload_n hx hb d_Te_put_27 rfl (lv_at hl 0 rfl) ?_
        refine va_get (D := (dC, dI)) (ci := 2) (v := .int (nI s0.2)) (C := R_Te) (T := F_Te) (N := 4) hx hb ht in_Te hown hK hP 0 rfl rfl 1 (by decide) (ht _ k_63) (fun _ h9 => h9) rfl d_Te_put_28 ?_
        refine lv_iload_n hx hb d_Te_put_31 rfl (lv_at hl 1 rfl) ?_
        refine lv_iconst (v := nI 1) hx hb d_Te_put_32 (by decide) ?_
        refine nAdd hx hb d_Te_put_33 ?_
        refine va_mmax hx hb (by rw [hml]; exact hl.1.symm) hown (ht _ k_341) (ht _ k_253) (ht _ k_8) (ht _ k_254) (Nat.le_of_ble_eq_true rfl) (Nat.le_of_ble_eq_true rfl) (Nat.zero_le _) (Nat.zero_le _) d_Te_put_34 ?_
        refine eqi (y := nI (max s0.2 (i + 1))) (max_n (by omega) (by omega)) ?_
        refine va_put (D := (dC, dI)) (ci := 2) (v := .int (nI (max s0.2 (i + 1)))) (ty := .int) (C := R_Te) (T := F_Te) (N := 4) hx hb ht in_Te t_Te t_Te_ok n_Te hown hK hP hD hS 0 rfl rfl 1 (by decide) (ht _ k_63) (fun _ h9 => h9) rfl (by decide +kernel) rfl rfl (Nat.le_of_ble_eq_true rfl) d_Te_put_37 (fun H locs hP hD hS => ?_)
        have hP : va_P (dC, dI) classes [(h, .inr (2, [.ref q, .int (nI (max s0.2 (i + 1))), .int (nI r0.1), .int (bI r0.2)])), (q, .inl (cc, 2400, .inl (iN (updN s0.1 i v))))] H := hP
        have hD : va_D A [(h, .inr (2, [.ref q, .int (nI (max s0.2 (i + 1))), .int (nI r0.1), .int (bI r0.2)])), (q, .inl (cc, 2400, .inl (iN (updN s0.1 i v))))] := hD
        exact eUv hx hb hr hlocks hP hD hS [0, 1] rfl rfl (by decide) d_Te_put_40

set_option maxHeartbeats 4000000 in
set_option maxRecDepth 100000 in
theorem c_Te_add (l : Launch) (dC : Nat → ClassId) (dI : Nat → Nat → Nat) (z : zT) (sz : Nat) (h : Nat) (q : Nat) (cc : ClassId) (s0 : txT) (r0 : rdT) (v : Nat) (hs : s0.2 < 2400) (hv : v < 65536) : MU l y_Te_add b_Te_add 2 none 2 43 (dC, dI) z [.ref h, .int (nI v)] [(h, .inr (2, [.ref q, .int (nI s0.2), .int (nI r0.1), .int (bI r0.2)])), (q, .inl (cc, 2400, .inl (iN s0.1)))] [(cc, .char)] sz none [(h, .inr (2, [.ref q, .int (nI ((ap1 s0 v).2)), .int (nI r0.1), .int (bI r0.2)])), (q, .inl (cc, 2400, .inl (iN ((ap1 s0 v).1))))] := by
  refine metU (by decide) (Nat.le_of_ble_eq_true rfl) ?_
  intro p e s m below meth c ls A hx hb hr hlocks hml hown ht hl hP hK hSS hD hS hA
  have hl : lv_has ls 2 [(0, .ref h), (1, .int (nI v))] := hl
  refine lv_aload_n hx hb d_Te_add_0 rfl (lv_at hl 0 rfl) ?_
  refine lv_aload_n hx hb d_Te_add_1 rfl (lv_at hl 0 rfl) ?_
  refine va_get (D := (dC, dI)) (ci := 2) (v := .int (nI s0.2)) (C := R_Te) (T := F_Te) (N := 4) hx hb ht in_Te hown hK hP 0 rfl rfl 1 (by decide) (ht _ k_63) (fun _ h9 => h9) rfl d_Te_add_2 ?_
  refine lv_iload_n hx hb d_Te_add_5 rfl (lv_at hl 1 rfl) ?_
  refine uV (As := [.int (nI s0.2), .int (nI v)]) (rest := []) (wr := []) hx hb hml hown ht (c_Te_put l dC dI z _ h q cc s0 r0 s0.2 v (by first | assumption | omega) (by first | assumption | omega) (by first | assumption | omega) (by first | assumption | omega)) yv_Te_put k_337 (Nat.le_of_ble_eq_true rfl) (Nat.le_of_ble_eq_true rfl) hP hK hSS hD hS hA [0, 1] [] [0] rfl rfl (by decide) rfl (by decide) (by decide) rfl 0 2 rfl rfl rfl hl rfl rfl (Nat.le_of_ble_eq_true rfl) (Nat.zero_le _) (Nat.zero_le _) d_Te_add_6 (fun H locs hP hD hS => ?_)
  have hP : va_P (dC, dI) classes [(h, .inr (2, [.ref q, .int (nI ((pu s0 s0.2 v).2)), .int (nI r0.1), .int (bI r0.2)])), (q, .inl (cc, 2400, .inl (iN ((pu s0 s0.2 v).1))))] H := hP
  have hD : va_D A [(h, .inr (2, [.ref q, .int (nI ((pu s0 s0.2 v).2)), .int (nI r0.1), .int (bI r0.2)])), (q, .inl (cc, 2400, .inl (iN ((pu s0 s0.2 v).1))))] := hD
  refine stk (st2 := []) rfl ?_
  rw [← pu_add s0 v]
  exact eUv hx hb hr hlocks hP hD hS [0, 1] rfl rfl (by decide) d_Te_add_9

set_option maxHeartbeats 4000000 in
set_option maxRecDepth 100000 in
theorem c_Te_addComma (l : Launch) (dC : Nat → ClassId) (dI : Nat → Nat → Nat) (z : zT) (sz : Nat) (h : Nat) (q : Nat) (cc : ClassId) (s0 : txT) (r0 : rdT) (k : Nat) (hs : s0.2 < 2400) (hk : k < 100) : MU l y_Te_addComma b_Te_addComma 2 none 3 64 (dC, dI) z [.ref h, .int (nI k)] [(h, .inr (2, [.ref q, .int (nI s0.2), .int (nI r0.1), .int (bI r0.2)])), (q, .inl (cc, 2400, .inl (iN s0.1)))] [(cc, .char)] sz none [(h, .inr (2, [.ref q, .int (nI ((ap s0 (cmL k)).2)), .int (nI r0.1), .int (bI r0.2)])), (q, .inl (cc, 2400, .inl (iN ((ap s0 (cmL k)).1))))] := by
  refine metU (by decide) (Nat.le_of_ble_eq_true rfl) ?_
  intro p e s m below meth c ls A hx hb hr hlocks hml hown ht hl hP hK hSS hD hS hA
  have hl : lv_has ls 2 [(0, .ref h), (1, .int (nI k))] := hl
  refine lv_iload_n hx hb d_Te_addComma_0 rfl (lv_at hl 1 rfl) ?_
  refine z_if_le (tgt := 10) hx hb d_Te_addComma_1 (tI_n (by omega)) (by decide) (fun g1 => ?_) (fun g1 => ?_)
  · rw [ap_cm_n (by omega)]
    exact eUv hx hb hr hlocks hP hD hS [0, 1] rfl rfl (by decide) d_Te_addComma_10
  · refine lv_aload_n hx hb d_Te_addComma_4 rfl (lv_at hl 0 rfl) ?_
    refine lv_bipush (v := nI 44) hx hb d_Te_addComma_5 (by decide) ?_
    refine uV (As := [.int (nI 44)]) (rest := []) (wr := []) hx hb hml hown ht (c_Te_add l dC dI z _ h q cc s0 r0 44 (by first | assumption | omega) (by first | assumption | omega)) yv_Te_add k_333 (Nat.le_of_ble_eq_true rfl) (Nat.le_of_ble_eq_true rfl) hP hK hSS hD hS hA [0, 1] [] [0] rfl rfl (by decide) rfl (by decide) (by decide) rfl 0 2 rfl rfl rfl hl rfl rfl (Nat.le_of_ble_eq_true rfl) (Nat.zero_le _) (Nat.zero_le _) d_Te_addComma_7 (fun H locs hP hD hS => ?_)
    have hP : va_P (dC, dI) classes [(h, .inr (2, [.ref q, .int (nI ((ap1 s0 44).2)), .int (nI r0.1), .int (bI r0.2)])), (q, .inl (cc, 2400, .inl (iN ((ap1 s0 44).1))))] H := hP
    have hD : va_D A [(h, .inr (2, [.ref q, .int (nI ((ap1 s0 44).2)), .int (nI r0.1), .int (bI r0.2)])), (q, .inl (cc, 2400, .inl (iN ((ap1 s0 44).1))))] := hD
    refine stk (st2 := []) rfl ?_
    rw [ap_cm_y (by omega)]
    exact eUv hx hb hr hlocks hP hD hS [0, 1] rfl rfl (by decide) d_Te_addComma_10

set_option maxHeartbeats 4000000 in
set_option maxRecDepth 100000 in
theorem c_Te_addDigit (l : Launch) (dC : Nat → ClassId) (dI : Nat → Nat → Nat) (z : zT) (sz : Nat) (h : Nat) (q : Nat) (cc : ClassId) (s0 : txT) (r0 : rdT) (d : Nat) (hs : s0.2 < 2400) (hd : d ≤ 9) : MU l y_Te_addDigit b_Te_addDigit 2 none 3 64 (dC, dI) z [.ref h, .int (nI d)] [(h, .inr (2, [.ref q, .int (nI s0.2), .int (nI r0.1), .int (bI r0.2)])), (q, .inl (cc, 2400, .inl (iN s0.1)))] [(cc, .char)] sz none [(h, .inr (2, [.ref q, .int (nI ((ap1 s0 (48 + d)).2)), .int (nI r0.1), .int (bI r0.2)])), (q, .inl (cc, 2400, .inl (iN ((ap1 s0 (48 + d)).1))))] := by
  refine metU (by decide) (Nat.le_of_ble_eq_true rfl) ?_
  intro p e s m below meth c ls A hx hb hr hlocks hml hown ht hl hP hK hSS hD hS hA
  have hl : lv_has ls 2 [(0, .ref h), (1, .int (nI d))] := hl
  refine lv_aload_n hx hb d_Te_addDigit_0 rfl (lv_at hl 0 rfl) ?_
  refine lv_bipush (v := nI 48) hx hb d_Te_addDigit_1 (by decide) ?_
  refine lv_iload_n hx hb d_Te_addDigit_3 rfl (lv_at hl 1 rfl) ?_
  refine nAdd hx hb d_Te_addDigit_4 ?_
  refine lv_i2c (v := nI (48 + d)) hx hb d_Te_addDigit_5 (i2c_n (by omega)) ?_
  refine uV (As := [.int (nI (48 + d))]) (rest := []) (wr := []) hx hb hml hown ht (c_Te_add l dC dI z _ h q cc s0 r0 (48 + d) (by first | assumption | omega) (by first | assumption | omega)) yv_Te_add k_333 (Nat.le_of_ble_eq_true rfl) (Nat.le_of_ble_eq_true rfl) hP hK hSS hD hS hA [0, 1] [] [0] rfl rfl (by decide) rfl (by decide) (by decide) rfl 0 2 rfl rfl rfl hl rfl rfl (Nat.le_of_ble_eq_true rfl) (Nat.zero_le _) (Nat.zero_le _) d_Te_addDigit_6 (fun H locs hP hD hS => ?_)
  have hP : va_P (dC, dI) classes [(h, .inr (2, [.ref q, .int (nI ((ap1 s0 (48 + d)).2)), .int (nI r0.1), .int (bI r0.2)])), (q, .inl (cc, 2400, .inl (iN ((ap1 s0 (48 + d)).1))))] H := hP
  have hD : va_D A [(h, .inr (2, [.ref q, .int (nI ((ap1 s0 (48 + d)).2)), .int (nI r0.1), .int (bI r0.2)])), (q, .inl (cc, 2400, .inl (iN ((ap1 s0 (48 + d)).1))))] := hD
  refine stk (st2 := []) rfl ?_
  exact eUv hx hb hr hlocks hP hD hS [0, 1] rfl rfl (by decide) d_Te_addDigit_9

set_option maxHeartbeats 4000000 in
set_option maxRecDepth 100000 in
theorem c_Te_addNumber (l : Launch) (dC : Nat → ClassId) (dI : Nat → Nat → Nat) (z : zT) (sz : Nat) (h : Nat) (q : Nat) (cc : ClassId) (s0 : txT) (r0 : rdT) (v : Int) (hs : s0.2 + 6 ≤ 2400) (hv1 : -65536 ≤ v) (hv2 : v ≤ 65536) : MU l y_Te_addNumber b_Te_addNumber 4 none 4 85 (dC, dI) z [.ref h, .int (iI v)] [(h, .inr (2, [.ref q, .int (nI s0.2), .int (nI r0.1), .int (bI r0.2)])), (q, .inl (cc, 2400, .inl (iN s0.1)))] [(cc, .char)] sz none [(h, .inr (2, [.ref q, .int (nI ((ap s0 (nuL v)).2)), .int (nI r0.1), .int (bI r0.2)])), (q, .inl (cc, 2400, .inl (iN ((ap s0 (nuL v)).1))))] := by
  refine metU (by decide) (Nat.le_of_ble_eq_true rfl) ?_
  intro p e s m below meth c ls A hx hb hr hlocks hml hown ht hl hP hK hSS hD hS hA
  have hl : lv_has ls 4 [(0, .ref h), (1, .int (iI v))] := hl
  have cut10 : ∀  (s1 : txT) (ls : Array Slot) (H : Heap) (locs : List Loc), (ap s0 (nuL v) = ap s1 (nuF v.natAbs 5)) → (s1.2 ≤ s0.2 + 1) → lv_has ls 4 [(0, .ref h), (1, .int (iI v))] → va_P (dC, dI) classes [(h, .inr (2, [.ref q, .int (nI s1.2), .int (nI r0.1), .int (bI r0.2)])), (q, .inl (cc, 2400, .inl (iN s1.1)))] H → va_D A [(h, .inr (2, [.ref q, .int (nI s1.2), .int (nI r0.1), .int (bI r0.2)])), (q, .inl (cc, 2400, .inl (iN s1.1)))] → va_S A s.heap H locs → W p l e (rmq 4 85) s m [.ref h, .int (iI v)].toArray below meth c H locs 0 0 (MQ below (qcU none (dC, dI) [(h, .inr (2, [.ref q, .int (nI ((ap s0 (nuL v)).2)), .int (nI r0.1), .int (bI r0.2)])), (q, .inl (cc, 2400, .inl (iN ((ap s0 (nuL v)).1))))] A) [.ref h, .int (iI v)].toArray s 0 0 A) (F0 m 10 ls []) := by
    intro s1 ls H locs hR1 hl1 hl hP hD hS
    refine lv_iload_n hx hb d_Te_addNumber_10 rfl (lv_at hl 1 rfl) ?_
    refine va_mabs hx hb (by rw [hml]; exact hl.1.symm) hown (ht _ k_358) (ht _ k_359) (ht _ k_8) (ht _ k_360) (Nat.le_of_ble_eq_true rfl) (Nat.le_of_ble_eq_true rfl) (Nat.zero_le _) (Nat.zero_le _) d_Te_addNumber_11 ?_
    refine eqi (y := nI v.natAbs) (abs_n hv1 hv2) ?_
    refine lv_istore_n (lv' := [(2, .int (nI v.natAbs)), (0, .ref h), (1, .int (iI v))]) hx hb d_Te_addNumber_14 rfl hl (Nat.le_of_ble_eq_true rfl) rfl (fun ls hl => ?_)
    refine lv_sipush (v := nI 10000) hx hb d_Te_addNumber_15 (by decide) ?_
    refine lv_istore_n (lv' := [(3, .int (nI 10000)), (2, .int (nI v.natAbs)), (0, .ref h), (1, .int (iI v))]) hx hb d_Te_addNumber_18 rfl hl (Nat.le_of_ble_eq_true rfl) rfl (fun ls hl => ?_)
    have loop19 : ∀ (j : Nat) (s2 : txT) (ls : Array Slot) (H : Heap) (locs : List Loc), (ap s0 (nuL v) = ap s2 (nuF v.natAbs j)) → (j ≤ 5) → (s2.2 + j ≤ s0.2 + 6) → lv_has ls 4 [(3, .int (nI (10 ^ j / 10))), (2, .int (nI v.natAbs)), (0, .ref h), (1, .int (iI v))] → va_P (dC, dI) classes [(h, .inr (2, [.ref q, .int (nI s2.2), .int (nI r0.1), .int (bI r0.2)])), (q, .inl (cc, 2400, .inl (iN s2.1)))] H → va_D A [(h, .inr (2, [.ref q, .int (nI s2.2), .int (nI r0.1), .int (bI r0.2)])), (q, .inl (cc, 2400, .inl (iN s2.1)))] → va_S A s.heap H locs → W p l e (rmq 4 85) s m [.ref h, .int (iI v)].toArray below meth c H locs 0 0 (MQ below (qcU none (dC, dI) [(h, .inr (2, [.ref q, .int (nI ((ap s0 (nuL v)).2)), .int (nI r0.1), .int (bI r0.2)])), (q, .inl (cc, 2400, .inl (iN ((ap s0 (nuL v)).1))))] A) [.ref h, .int (iI v)].toArray s 0 0 A) (F0 m 19 ls []) := by
      intro j
      induction j with
      | zero =>
        intro s2 ls H locs hR2 hj hl2 hl hP hD hS
        refine lv_iload_n hx hb d_Te_addNumber_19 rfl (lv_at hl 0 rfl) ?_
        refine z_if_le (tgt := 51) hx hb d_Te_addNumber_20 (tI_n (by omega)) (by decide) (fun g20 => ?_) (fun g20 => ?_)
        · rw [hR2]
          exact eUv hx hb hr hlocks hP hD hS [0, 1] rfl rfl (by decide) d_Te_addNumber_51
        · exfalso; omega
      | succ j ih =>
        intro s2 ls H locs hR2 hj hl2 hl hP hD hS
        rw [ten_div] at hl
        obtain ⟨ht1, ht2⟩ := ten_pow (show j ≤ 4 by omega)
        have hdv := Nat.div_le_self v.natAbs (10 ^ j)
        refine lv_iload_n hx hb d_Te_addNumber_19 rfl (lv_at hl 0 rfl) ?_
        refine z_if_le (tgt := 51) hx hb d_Te_addNumber_20 (tI_n (by omega)) (by decide) (fun g20 => ?_) (fun g20 => ?_)
        · exfalso; omega
        · refine lv_iload_n hx hb d_Te_addNumber_23 rfl (lv_at hl 1 rfl) ?_
          refine lv_iload_n hx hb d_Te_addNumber_24 rfl (lv_at hl 0 rfl) ?_
          refine z_icmp_ge (tgt := 33) hx hb d_Te_addNumber_25 (tI_n (by omega)) (tI_n (by omega)) (by decide) (fun g25 => ?_) (fun g25 => ?_)
          · refine lv_aload_n hx hb d_Te_addNumber_33 rfl (lv_at hl 2 rfl) ?_
            refine lv_iload_n hx hb d_Te_addNumber_34 rfl (lv_at hl 1 rfl) ?_
            refine lv_iload_n hx hb d_Te_addNumber_35 rfl (lv_at hl 0 rfl) ?_
            refine nDiv hx hb d_Te_addNumber_36 (by omega) (by omega) (by omega) ?_
            refine lv_bipush (v := nI 10) hx hb d_Te_addNumber_37 (by decide) ?_
            refine nRem hx hb d_Te_addNumber_39 (by omega) (by omega) (by omega) ?_
            refine uV (As := [.int (nI ((v.natAbs / (10 ^ j)) % 10))]) (rest := []) (wr := []) hx hb hml hown ht (c_Te_addDigit l dC dI z _ h q cc s2 r0 ((v.natAbs / (10 ^ j)) % 10) (by first | assumption | omega) (by first | assumption | omega)) yv_Te_addDigit k_349 (Nat.le_of_ble_eq_true rfl) (Nat.le_of_ble_eq_true rfl) hP hK hSS hD hS hA [0, 1] [] [0] rfl rfl (by decide) rfl (by decide) (by decide) rfl 0 2 rfl rfl rfl hl rfl rfl (Nat.le_of_ble_eq_true rfl) (Nat.zero_le _) (Nat.zero_le _) d_Te_addNumber_40 (fun H locs hP hD hS => ?_)
            have hP : va_P (dC, dI) classes [(h, .inr (2, [.ref q, .int (nI ((ap1 s2 (48 + ((v.natAbs / (10 ^ j)) % 10))).2)), .int (nI r0.1), .int (bI r0.2)])), (q, .inl (cc, 2400, .inl (iN ((ap1 s2 (48 + ((v.natAbs / (10 ^ j)) % 10))).1))))] H := hP
            have hD : va_D A [(h, .inr (2, [.ref q, .int (nI ((ap1 s2 (48 + ((v.natAbs / (10 ^ j)) % 10))).2)), .int (nI r0.1), .int (bI r0.2)])), (q, .inl (cc, 2400, .inl (iN ((ap1 s2 (48 + ((v.natAbs / (10 ^ j)) % 10))).1))))] := hD
            refine stk (st2 := []) rfl ?_
            refine lv_iload_n hx hb d_Te_addNumber_43 rfl (lv_at hl 0 rfl) ?_
            refine lv_bipush (v := nI 10) hx hb d_Te_addNumber_44 (by decide) ?_
            refine nDiv hx hb d_Te_addNumber_46 (by omega) (by omega) (by omega) ?_
            refine lv_istore_n (lv' := [(3, .int (nI ((10 ^ j) / 10))), (2, .int (nI v.natAbs)), (0, .ref h), (1, .int (iI v))]) hx hb d_Te_addNumber_47 rfl hl (Nat.le_of_ble_eq_true rfl) rfl (fun ls hl => ?_)
            refine lv_goto (tgt := 19) hx hb d_Te_addNumber_48 (by decide) ?_
            exact ih (ap1 s2 (48 + v.natAbs / 10 ^ j % 10)) _ _ _ (by rw [hR2, nuF, ap_dg_y (by omega)]) (by omega) (by show s2.2 + 1 + j ≤ _; omega) (lv_sub hl [0, 1, 2, 3] rfl) (hP.sub [0, 1] rfl) (hD.sub [0, 1] (by decide) rfl) hS
          · refine lv_iload_n hx hb d_Te_addNumber_28 rfl (lv_at hl 0 rfl) ?_
            refine lv_iconst (v := nI 1) hx hb d_Te_addNumber_29 (by decide) ?_
            refine z_icmp_ne (tgt := 43) hx hb d_Te_addNumber_30 (tI_n (by omega)) (tI_n (by omega)) (by decide) (fun g30 => ?_) (fun g30 => ?_)
            · refine lv_iload_n hx hb d_Te_addNumber_43 rfl (lv_at hl 0 rfl) ?_
              refine lv_bipush (v := nI 10) hx hb d_Te_addNumber_44 (by decide) ?_
              refine nDiv hx hb d_Te_addNumber_46 (by omega) (by omega) (by omega) ?_
              refine lv_istore_n (lv' := [(3, .int (nI ((10 ^ j) / 10))), (2, .int (nI v.natAbs)), (0, .ref h), (1, .int (iI v))]) hx hb d_Te_addNumber_47 rfl hl (Nat.le_of_ble_eq_true rfl) rfl (fun ls hl => ?_)
              refine lv_goto (tgt := 19) hx hb d_Te_addNumber_48 (by decide) ?_
              exact ih s2 _ _ _ (by rw [hR2, nuF, ap_dg_n (by omega)]) (by omega) (by omega) (lv_sub hl [0, 1, 2, 3] rfl) (hP.sub [0, 1] rfl) (hD.sub [0, 1] (by decide) rfl) hS
            · refine lv_aload_n hx hb d_Te_addNumber_33 rfl (lv_at hl 2 rfl) ?_
              refine lv_iload_n hx hb d_Te_addNumber_34 rfl (lv_at hl 1 rfl) ?_
              refine lv_iload_n hx hb d_Te_addNumber_35 rfl (lv_at hl 0 rfl) ?_
              refine nDiv hx hb d_Te_addNumber_36 (by omega) (by omega) (by omega) ?_
              refine lv_bipush (v := nI 10) hx hb d_Te_addNumber_37 (by decide) ?_
              refine nRem hx hb d_Te_addNumber_39 (by omega) (by omega) (by omega) ?_
              refine uV (As := [.int (nI ((v.natAbs / (10 ^ j)) % 10))]) (rest := []) (wr := []) hx hb hml hown ht (c_Te_addDigit l dC dI z _ h q cc s2 r0 ((v.natAbs / (10 ^ j)) % 10) (by first | assumption | omega) (by first | assumption | omega)) yv_Te_addDigit k_349 (Nat.le_of_ble_eq_true rfl) (Nat.le_of_ble_eq_true rfl) hP hK hSS hD hS hA [0, 1] [] [0] rfl rfl (by decide) rfl (by decide) (by decide) rfl 0 2 rfl rfl rfl hl rfl rfl (Nat.le_of_ble_eq_true rfl) (Nat.zero_le _) (Nat.zero_le _) d_Te_addNumber_40 (fun H locs hP hD hS => ?_)
              have hP : va_P (dC, dI) classes [(h, .inr (2, [.ref q, .int (nI ((ap1 s2 (48 + ((v.natAbs / (10 ^ j)) % 10))).2)), .int (nI r0.1), .int (bI r0.2)])), (q, .inl (cc, 2400, .inl (iN ((ap1 s2 (48 + ((v.natAbs / (10 ^ j)) % 10))).1))))] H := hP
              have hD : va_D A [(h, .inr (2, [.ref q, .int (nI ((ap1 s2 (48 + ((v.natAbs / (10 ^ j)) % 10))).2)), .int (nI r0.1), .int (bI r0.2)])), (q, .inl (cc, 2400, .inl (iN ((ap1 s2 (48 + ((v.natAbs / (10 ^ j)) % 10))).1))))] := hD
              refine stk (st2 := []) rfl ?_
              refine lv_iload_n hx hb d_Te_addNumber_43 rfl (lv_at hl 0 rfl) ?_
              refine lv_bipush (v := nI 10) hx hb d_Te_addNumber_44 (by decide) ?_
              refine nDiv hx hb d_Te_addNumber_46 (by omega) (by omega) (by omega) ?_
              refine lv_istore_n (lv' := [(3, .int (nI ((10 ^ j) / 10))), (2, .int (nI v.natAbs)), (0, .ref h), (1, .int (iI v))]) hx hb d_Te_addNumber_47 rfl hl (Nat.le_of_ble_eq_true rfl) rfl (fun ls hl => ?_)
              refine lv_goto (tgt := 19) hx hb d_Te_addNumber_48 (by decide) ?_
              exact ih (ap1 s2 (48 + v.natAbs / 10 ^ j % 10)) _ _ _ (by rw [hR2, nuF, ap_dg_y (by omega)]) (by omega) (by show s2.2 + 1 + j ≤ _; omega) (lv_sub hl [0, 1, 2, 3] rfl) (hP.sub [0, 1] rfl) (hD.sub [0, 1] (by decide) rfl) hS
    exact loop19 5 s1 _ _ _ (hR1) (Nat.le_refl _) (by omega) (lv_sub hl [0, 1, 2, 3] rfl) (hP.sub [0, 1] rfl) (hD.sub [0, 1] (by decide) rfl) hS
  refine lv_iload_n hx hb d_Te_addNumber_0 rfl (lv_at hl 1 rfl) ?_
  refine z_if_ge (tgt := 10) hx hb d_Te_addNumber_1 (iI_toInt (by omega) (by omega)) (by decide) (fun g1 => ?_) (fun g1 => ?_)
  · exact cut10 s0 _ _ _ (by rw [nuL, if_neg (by omega)]; rfl) (Nat.le_succ _) (lv_sub hl [0, 1] rfl) (hP.sub [0, 1] rfl) (hD.sub [0, 1] (by decide) rfl) hS
  · refine lv_aload_n hx hb d_Te_addNumber_4 rfl (lv_at hl 0 rfl) ?_
    refine lv_bipush (v := nI 45) hx hb d_Te_addNumber_5 (by decide) ?_
    refine uV (As := [.int (nI 45)]) (rest := []) (wr := []) hx hb hml hown ht (c_Te_add l dC dI z _ h q cc s0 r0 45 (by first | assumption | omega) (by first | assumption | omega)) yv_Te_add k_333 (Nat.le_of_ble_eq_true rfl) (Nat.le_of_ble_eq_true rfl) hP hK hSS hD hS hA [0, 1] [] [0] rfl rfl (by decide) rfl (by decide) (by decide) rfl 0 2 rfl rfl rfl hl rfl rfl (Nat.le_of_ble_eq_true rfl) (Nat.zero_le _) (Nat.zero_le _) d_Te_addNumber_7 (fun H locs hP hD hS => ?_)
    have hP : va_P (dC, dI) classes [(h, .inr (2, [.ref q, .int (nI ((ap1 s0 45).2)), .int (nI r0.1), .int (bI r0.2)])), (q, .inl (cc, 2400, .inl (iN ((ap1 s0 45).1))))] H := hP
    have hD : va_D A [(h, .inr (2, [.ref q, .int (nI ((ap1 s0 45).2)), .int (nI r0.1), .int (bI r0.2)])), (q, .inl (cc, 2400, .inl (iN ((ap1 s0 45).1))))] := hD
    refine stk (st2 := []) rfl ?_
    exact cut10 (ap1 s0 45) _ _ _ (by rw [nuL, if_pos (by omega)]; rfl) (Nat.le_refl _) (lv_sub hl [0, 1] rfl) (hP.sub [0, 1] rfl) (hD.sub [0, 1] (by decide) rfl) hS
end
section
theorem lenK_op {i : Nat} (h : i < 14) : lenK.getD i 0 = (opL i).length := by
  have q : ∀ i, i < 14 → lenK.getD i 0 = (opL i).length := by decide +kernel
  exact q i h
theorem byt_op {i k : Nat} (h : i < 14) (hk : k < 6) : (bytK.getD i []).getD k 0 = nI ((opL i).getD k 0) := by
  have q : ∀ i, i < 14 → ∀ k, k < 6 → (bytK.getD i []).getD k 0 = nI ((opL i).getD k 0) := by decide +kernel
  exact q i h k hk
theorem and255 {v : Nat} (h : v < 128) : nI v &&& nI 255 = nI v := by
  have q : ∀ v, v < 128 → nI v &&& nI 255 = nI v := by decide +kernel
  exact q v h
def qcN : Array Value → State → Outcome → State → Prop := fun _ st o t => o = .returned none ∧ t.heap = st.heap
def MN (l : Launch) (y : MethodName) (bytes : ByteArray) (maxL : Nat) (ret : Option FieldType) (f lo : Nat) (D : va_G) (z : zT) (av : List Value) (ws : va_W) (tys : tyL) : Prop :=
  Met l y (Cond.code y bytes maxL ret :: lw_g) (rmq f lo) (va_Pc av (PR D z ws tys)) qcN 0 0 (fun _ => False)
section JdkA
variable {l : Launch} {y : MethodName} {bytes : ByteArray} {maxL : Nat} {ret : Option FieldType} {f lo : Nat} {D : va_G} {z : zT} {av : List Value} {ws : va_W} {tys : tyL} {sz : Nat}
theorem metN (hy : plainName y.cls = true) (hn : (lg_sl av).length ≤ maxL)
    (body : ∀ (p : Program) (e : Env) (s : State) (m : MethodId) (below : List Frame) (meth : Method) (c : Code) (ls : Array Slot), p.tables.exec = Jvm.exec → c.code = bytes → meth.sig.returnType = ret → meth.locks = false → c.maxLocals = maxL → s.vm.findClass y.cls = some m.cls → (∀ w ∈ lw_g, w.before av.toArray s = true) → lv_has ls maxL (lv_args 0 av) → va_P D classes ws s.heap → va_K D classes tys s → SS z (fun _ => False) s s.heap →
      W p l e (rmq f lo) s m av.toArray below meth c s.heap [] 0 0 (MQ below qcN av.toArray s 0 0 (fun _ => False)) (F0 m 0 ls [])) : MN l y bytes maxL ret f lo D z av ws tys := by
  refine Met.ofW (cc := bytes) (maxL := maxL) (ret := ret) hy rfl ?_
  intro p e s m args below meth c s₁ B hml hv
  obtain ⟨rfl, hP, hK, hSS⟩ := hv
  have hts := atoms_spec (ws := Cond.code y bytes maxL ret :: lw_g) B.pre
  have hl := lv_entry av (n := maxL) hn
  rw [lg_entry_eq]
  generalize (lg_sl av ++ List.replicate (maxL - (lg_sl av).length) Slot.unset).toArray = ls at hl ⊢
  exact body p e s m below meth c ls B.exec B.bytes B.returns B.notSynchronized hml (findClass_of_methodNamed B.named) (fun w hw => hts w (List.mem_cons_of_mem _ hw)) hl hP hK hSS
end JdkA
section JdkB
variable {p : Program} {l : Launch} {e : Env} {R : Room} {s : State} {m : MethodId} {args : Array Value} {below : List Frame} {meth : Method} {c : Code} {H : Heap} {locs : List Loc} {cells slots : Nat} {Q : State → Prop} {pc : Nat} {ls : Array Slot} {rest st0 : List Value}
variable {own : String} {index : Nat} {y : MethodName} {bytes cc : ByteArray} {maxL nL n : Nat} {ret : Option FieldType} {f lo : Nat} {D : va_G} {z : zT} {ws wc wr w1 : va_W} {tys tc : tyL} {b : Nat} {As : List Value} {A : Nat → Prop} {lv : List (Nat × Value)}
theorem callN {a : Array Value} (hr : CallRun p l e R s m args below meth c H locs cells slots 0 0 (F0 m pc ls st0) rest (qcN a) (fun _ => False)) (kk : W p l e R s m args below meth c H locs cells slots Q (F0 m (pc + 3) ls rest)) : W p l e R s m args below meth c H locs cells slots Q (F0 m pc ls st0) := by
  intro T hT X
  obtain ⟨v, st₀, t, T', L, h0, X', hL, e1, ⟨hv, hh⟩, st⟩ := hr T hT X
  cases hv
  obtain ⟨t2, a1, b1⟩ := kk T' (by rw [e1, hh, h0]) (Stand.forget X' (fun q h => (hL q h).elim))
  exact ⟨t2, st t2 a1, b1⟩
theorem nS (hx : p.tables.exec = Jvm.exec) (hb : c.code = cc) (hml : c.maxLocals = nL) (hown : s.vm.findClass own = some m.cls) (ht : ∀ w ∈ lw_g, w.before args s = true)
    (hM : MN l y bytes maxL ret f lo D z As wc tc) (hY : YS y bytes maxL ret n) (hlink : Cond.methodLink own index y ∈ lw_g)
    (hf : f + 1 ≤ R.frames) (hlo : 8 + (maxL + 11) + lo ≤ R.locals) (hP : va_P D classes ws H) (hK : va_K D classes tys s) (hSS : SS z A s s.heap) (hS : va_S A s.heap H locs)
    (isC isT : List Nat) (hC : isC.filterMap (fun i => ws[i]?) = wc) (hT : isT.filterMap (fun i => tys[i]?) = tc)
    (hl : lv_has ls nL lv) (hn : As.length = n) (hst : st0 = As.reverse ++ rest) (hW : (rest.map fun v => v.category).sum ≤ 8) (hcl : cells ≤ R.cells) (hsl : slots ≤ R.slots)
    (hdg : decode cc pc = .ok (.invokestatic index, 3))
    (kk : W p l e R s m args below meth c H locs cells slots Q (F0 m (pc + 3) ls rest)) : W p l e R s m args below meth c H locs cells slots Q (F0 m pc ls st0) := by
  obtain ⟨y1, y2, y3, y5, y6, y7⟩ := hY
  refine callN (W.runS (As := As) (rest := rest) ⟨hx, hb, hml, hown, ht⟩ hM ⟨callB_of n ht (gd y1) rfl rfl rfl (ht _ y2) (ht _ hlink) ⟨y5, y6, y7⟩ ⟨hf, hlo⟩, ht _ y3⟩ ⟨PR.calling, ?_⟩ rfl hn hl.1 hst (lv_room hW) hdg ⟨hcl, hsl⟩) kk
  exact fun U hU hWm => ⟨rfl, by rw [hU]; exact hP.sub isC hC, va_K.moved hWm.alike (hK.sub isT hT), hSS.to hS (fun _ h => h.elim) hU hWm⟩
theorem rVK {v : Value} (hx : p.tables.exec = Jvm.exec) (hb : c.code = cc) (hml : c.maxLocals = nL) (hown : s.vm.findClass own = some m.cls) (ht : ∀ w ∈ lw_g, w.before args s = true)
    (hM : MR l y bytes maxL ret f lo D z (.ref b :: As) wc tc v) (hY : YV y bytes maxL ret n) (hlink : Cond.methodLink own index y ∈ lw_g)
    (hf : f + 1 ≤ R.frames) (hlo : 8 + (maxL + 11) + lo ≤ R.locals) (hP : va_P D classes ws H) (hK : va_K D classes tys s) (hSS : SS z A s s.heap) (hS : va_S A s.heap H locs)
    (isC isT : List Nat) (hC : isC.filterMap (fun i => ws[i]?) = wc) (hT : isT.filterMap (fun i => tys[i]?) = tc)
    (hrecv : ∃ cell : Cell, H[b]? = some cell ∧ cell.vm.isStatics = false ∧ s.vm.findClass y.cls = some cell.cls)
    (hl : lv_has ls nL lv) (hn : As.length = n) (hst : st0 = As.reverse ++ .ref b :: rest) (hW : (rest.map fun v => v.category).sum ≤ 8) (hcl : cells ≤ R.cells) (hsl : slots ≤ R.slots)
    (hdg : decode cc pc = .ok (.invokevirtual index, 3))
    (kk : W p l e R s m args below meth c H locs cells slots Q (F0 m (pc + 3) ls (v :: rest))) : W p l e R s m args below meth c H locs cells slots Q (F0 m pc ls st0) := by
  obtain ⟨y1, y2, y3, y4, y5, y6, y7⟩ := hY
  refine W.callV (W.runV (As := As) (rest := rest) (b := b) (C := y.cls) ⟨hx, hb, hml, hown, ht⟩ hM ⟨callB_of n ht (gd y1) rfl rfl rfl (ht _ y2) (ht _ hlink) ⟨y5, y6, y7⟩ ⟨hf, hlo⟩, ht _ y3, ht _ y4⟩ ⟨PR.calling, hrecv, ?_⟩ rfl hn hl.1 hst (lv_room hW) hdg ⟨hcl, hsl⟩) kk
  exact fun U hU hWm => ⟨rfl, by rw [hU]; exact hP.sub isC hC, va_K.moved hWm.alike (hK.sub isT hT), hSS.to hS (fun _ h => h.elim) hU hWm⟩
theorem eNv (hx : p.tables.exec = Jvm.exec) (hb : c.code = cc) (hr : meth.sig.returnType = none) (hlocks : meth.locks = false) (hd : decode cc pc = .ok (.return_, 1)) : W p l e R s m args below meth c s.heap [] 0 0 (MQ below qcN args s 0 0 (fun _ => False)) (F0 m pc ls []) :=
  W.vret hx hb hr (fun t ht _ => ⟨rfl, ht⟩) (fun _ h => by cases h) hd
end JdkB
end
section
set_option maxHeartbeats 4000000 in
set_option maxRecDepth 100000 in
theorem c_St_coder (l : Launch) (dC : Nat → ClassId) (dI : Nat → Nat → Nat) (z : zT) (i : Nat) (hi : i < 14) : MR l y_St_coder b_St_coder 1 (some .byte) 0 0 (dC, dI) z [.ref (z.2.2.2.1 i)] [] [] (.int (nI 0)) := by
  refine metR (by decide) (Nat.le_of_ble_eq_true rfl) ?_
  intro p e s m below meth c ls hx hb hr hlocks hml hown ht hl hP hK hSS
  have hl : lv_has ls 1 [(0, .ref (z.2.2.2.1 i))] := hl
  have hS : va_S (fun _ => False) s.heap s.heap [] := va_S.rf
  refine va_gets hx hb (hSS.2.2.2.1) hS hown (ht _ k_293) (fun _ h9 => h9) d_St_coder_0 ?_
  refine eqi (y := bI true) (by decide) ?_
  refine b_if_eq (tgt := 13) hx hb d_St_coder_3 (by decide) (fun g3 => ?_) (fun g3 => ?_)
  · cases g3
  · refine lv_aload_n hx hb d_St_coder_6 rfl (lv_at hl 0 rfl) ?_
    refine vk_getf hx hb (hSS.2.2.2.2.2.1.1 i hi).2.1 hS hown (ht _ k_664) (fun _ h9 => h9) d_St_coder_7 ?_
    refine eqi (y := nI 0) (by decide) ?_
    refine lv_goto (tgt := 14) hx hb d_St_coder_10 (by decide) ?_
    exact eRz hx hb hr hlocks (by decide) d_St_coder_14 (rfl)

set_option maxHeartbeats 4000000 in
set_option maxRecDepth 100000 in
theorem c_St_isLatin1 (l : Launch) (dC : Nat → ClassId) (dI : Nat → Nat → Nat) (z : zT) (i : Nat) (hi : i < 14) : MR l y_St_isLatin1 b_St_isLatin1 1 (some .boolean) 0 0 (dC, dI) z [.ref (z.2.2.2.1 i)] [] [] (.int (bI true)) := by
  refine metR (by decide) (Nat.le_of_ble_eq_true rfl) ?_
  intro p e s m below meth c ls hx hb hr hlocks hml hown ht hl hP hK hSS
  have hl : lv_has ls 1 [(0, .ref (z.2.2.2.1 i))] := hl
  have hS : va_S (fun _ => False) s.heap s.heap [] := va_S.rf
  refine va_gets hx hb (hSS.2.2.2.1) hS hown (ht _ k_293) (fun _ h9 => h9) d_St_isLatin1_0 ?_
  refine eqi (y := bI true) (by decide) ?_
  refine b_if_eq (tgt := 17) hx hb d_St_isLatin1_3 (by decide) (fun g3 => ?_) (fun g3 => ?_)
  · cases g3
  · refine lv_aload_n hx hb d_St_isLatin1_6 rfl (lv_at hl 0 rfl) ?_
    refine vk_getf hx hb (hSS.2.2.2.2.2.1.1 i hi).2.1 hS hown (ht _ k_664) (fun _ h9 => h9) d_St_isLatin1_7 ?_
    refine eqi (y := nI 0) (by decide) ?_
    refine z_if_ne (tgt := 17) hx hb d_St_isLatin1_10 (tI_n (by omega)) (by decide) (fun g10 => ?_) (fun g10 => ?_)
    · exfalso; omega
    · refine lv_iconst (v := nI 1) hx hb d_St_isLatin1_13 (by decide) ?_
      refine lv_goto (tgt := 18) hx hb d_St_isLatin1_14 (by decide) ?_
      refine eqi (y := bI true) (by decide) ?_
      exact eRz hx hb hr hlocks (bI_narrow _) d_St_isLatin1_18 (rfl)

set_option maxHeartbeats 4000000 in
set_option maxRecDepth 100000 in
theorem c_St_length (l : Launch) (dC : Nat → ClassId) (dI : Nat → Nat → Nat) (z : zT) (i : Nat) (hi : i < 14) : MR l y_St_length b_St_length 1 (some .int) 1 20 (dC, dI) z [.ref (z.2.2.2.1 i)] [] [] (.int (nI ((opL i).length))) := by
  refine metR (by decide) (Nat.le_of_ble_eq_true rfl) ?_
  intro p e s m below meth c ls hx hb hr hlocks hml hown ht hl hP hK hSS
  have hl : lv_has ls 1 [(0, .ref (z.2.2.2.1 i))] := hl
  have hS : va_S (fun _ => False) s.heap s.heap [] := va_S.rf
  refine lv_aload_n hx hb d_St_length_0 rfl (lv_at hl 0 rfl) ?_
  refine vk_getf hx hb (hSS.2.2.2.2.2.1.1 i hi).2.2.1 hS hown (ht _ k_663) (fun _ h9 => h9) d_St_length_1 ?_
  refine va_tlen hx hb (hSS.2.2.2.2.2.1.1 i hi).2.2.2 hS (v := nI (opL i).length) (by rw [lenK_op hi]; rfl) d_St_length_4 ?_
  refine lv_aload_n hx hb d_St_length_5 rfl (lv_at hl 0 rfl) ?_
  refine rVK (As := []) (rest := [.int (nI ((opL i).length))]) hx hb hml hown ht (c_St_coder l dC dI z i (by first | assumption | omega)) yv_St_coder k_289 (Nat.le_of_ble_eq_true rfl) (Nat.le_of_ble_eq_true rfl) hP hK hSS hS [] [] rfl rfl (vk_recv hSS.2.2.2.2.2.1 hi hS) hl rfl rfl (Nat.le_of_ble_eq_true rfl) (Nat.zero_le _) (Nat.zero_le _) d_St_length_6 ?_
  refine lv_ishr hx hb d_St_length_9 ?_
  refine eqi (y := nI ((opL i).length)) (sc_shr0 (by have := (op_bd i hi).2.1; omega)) ?_
  exact eRi hx hb hr hlocks d_St_length_10 (rfl)

set_option maxHeartbeats 4000000 in
set_option maxRecDepth 100000 in
theorem c_Pr_checkIndex (l : Launch) (dC : Nat → ClassId) (dI : Nat → Nat → Nat) (z : zT) (k : Nat) (n : Nat) (q : Nat) (hk : k < n) (hn : n < 2147483648) : MR l y_Pr_checkIndex b_Pr_checkIndex 3 (some .int) 0 0 (dC, dI) z [.int (nI k), .int (nI n), .ref q] [] [] (.int (nI k)) := by
  refine metR (by decide) (Nat.le_of_ble_eq_true rfl) ?_
  intro p e s m below meth c ls hx hb hr hlocks hml hown ht hl hP hK hSS
  have hl : lv_has ls 3 [(0, .int (nI k)), (1, .int (nI n)), (2, .ref q)] := hl
  have hS : va_S (fun _ => False) s.heap s.heap [] := va_S.rf
  refine lv_iload_n hx hb d_Pr_checkIndex_0 rfl (lv_at hl 0 rfl) ?_
  refine z_if_lt (tgt := 9) hx hb d_Pr_checkIndex_1 (tI_n (by omega)) (by decide) (fun g1 => ?_) (fun g1 => ?_)
  · exfalso; omega
  · refine lv_iload_n hx hb d_Pr_checkIndex_4 rfl (lv_at hl 0 rfl) ?_
    refine lv_iload_n hx hb d_Pr_checkIndex_5 rfl (lv_at hl 1 rfl) ?_
    refine z_icmp_lt (tgt := 16) hx hb d_Pr_checkIndex_6 (tI_n (by omega)) (tI_n (by omega)) (by decide) (fun g6 => ?_) (fun g6 => ?_)
    · refine lv_iload_n hx hb d_Pr_checkIndex_16 rfl (lv_at hl 0 rfl) ?_
      exact eRi hx hb hr hlocks d_Pr_checkIndex_17 (rfl)
    · exfalso; omega

set_option maxHeartbeats 4000000 in
set_option maxRecDepth 100000 in
theorem c_Pr_checkIndexN (l : Launch) (dC : Nat → ClassId) (dI : Nat → Nat → Nat) (z : zT) (k : Nat) (n : Nat) (hk : k < n) (hn : n < 2147483648) : MR l y_Pr_checkIndex b_Pr_checkIndex 3 (some .int) 0 0 (dC, dI) z [.int (nI k), .int (nI n), .null] [] [] (.int (nI k)) := by
  refine metR (by decide) (Nat.le_of_ble_eq_true rfl) ?_
  intro p e s m below meth c ls hx hb hr hlocks hml hown ht hl hP hK hSS
  have hl : lv_has ls 3 [(0, .int (nI k)), (1, .int (nI n)), (2, .null)] := hl
  have hS : va_S (fun _ => False) s.heap s.heap [] := va_S.rf
  refine lv_iload_n hx hb d_Pr_checkIndex_0 rfl (lv_at hl 0 rfl) ?_
  refine z_if_lt (tgt := 9) hx hb d_Pr_checkIndex_1 (tI_n (by omega)) (by decide) (fun g1 => ?_) (fun g1 => ?_)
  · exfalso; omega
  · refine lv_iload_n hx hb d_Pr_checkIndex_4 rfl (lv_at hl 0 rfl) ?_
    refine lv_iload_n hx hb d_Pr_checkIndex_5 rfl (lv_at hl 1 rfl) ?_
    refine z_icmp_lt (tgt := 16) hx hb d_Pr_checkIndex_6 (tI_n (by omega)) (tI_n (by omega)) (by decide) (fun g6 => ?_) (fun g6 => ?_)
    · refine lv_iload_n hx hb d_Pr_checkIndex_16 rfl (lv_at hl 0 rfl) ?_
      exact eRi hx hb hr hlocks d_Pr_checkIndex_17 (rfl)
    · exfalso; omega

set_option maxHeartbeats 4000000 in
set_option maxRecDepth 100000 in
theorem c_St_checkIndex (l : Launch) (dC : Nat → ClassId) (dI : Nat → Nat → Nat) (z : zT) (k : Nat) (n : Nat) (hk : k < n) (hn : n < 2147483648) : MN l y_St_checkIndex b_St_checkIndex 2 none 1 22 (dC, dI) z [.int (nI k), .int (nI n)] [] [] := by
  refine metN (by decide) (Nat.le_of_ble_eq_true rfl) ?_
  intro p e s m below meth c ls hx hb hr hlocks hml hown ht hl hP hK hSS
  have hl : lv_has ls 2 [(0, .int (nI k)), (1, .int (nI n))] := hl
  have hS : va_S (fun _ => False) s.heap s.heap [] := va_S.rf
  refine lv_iload_n hx hb d_St_checkIndex_0 rfl (lv_at hl 0 rfl) ?_
  refine lv_iload_n hx hb d_St_checkIndex_1 rfl (lv_at hl 1 rfl) ?_
  rcases hSS.2.2.2.2.1 with hz | ⟨qz, hz⟩
  · refine va_gets hx hb hz hS hown (ht _ k_309) (fun _ h9 => h9) d_St_checkIndex_2 ?_
    refine rS (As := [.int (nI k), .int (nI n), .null]) (rest := []) hx hb hml hown ht (c_Pr_checkIndexN l dC dI z k n (by first | assumption | omega) (by first | assumption | omega)) ys_Pr_checkIndex k_311 (Nat.le_of_ble_eq_true rfl) (Nat.le_of_ble_eq_true rfl) hP hK hSS hS [] [] rfl rfl hl rfl rfl (Nat.le_of_ble_eq_true rfl) (Nat.zero_le _) (Nat.zero_le _) d_St_checkIndex_5 ?_
    refine lv_pop hx hb d_St_checkIndex_8 rfl ?_
    exact eNv hx hb hr hlocks d_St_checkIndex_9
  · refine va_gets hx hb hz hS hown (ht _ k_309) (fun _ h9 => h9) d_St_checkIndex_2 ?_
    refine rS (As := [.int (nI k), .int (nI n), .ref qz]) (rest := []) hx hb hml hown ht (c_Pr_checkIndex l dC dI z k n qz (by first | assumption | omega) (by first | assumption | omega)) ys_Pr_checkIndex k_311 (Nat.le_of_ble_eq_true rfl) (Nat.le_of_ble_eq_true rfl) hP hK hSS hS [] [] rfl rfl hl rfl rfl (Nat.le_of_ble_eq_true rfl) (Nat.zero_le _) (Nat.zero_le _) d_St_checkIndex_5 ?_
    refine lv_pop hx hb d_St_checkIndex_8 rfl ?_
    exact eNv hx hb hr hlocks d_St_checkIndex_9

set_option maxHeartbeats 4000000 in
set_option maxRecDepth 100000 in
theorem c_Sl_charAt (l : Launch) (dC : Nat → ClassId) (dI : Nat → Nat → Nat) (z : zT) (i : Nat) (k : Nat) (hi : i < 14) (hk : k < (opL i).length) : MR l y_Sl_charAt b_Sl_charAt 2 (some .char) 2 43 (dC, dI) z [.ref (z.2.2.2.2 i), .int (nI k)] [] [] (.int (nI ((opL i).getD k 0))) := by
  have hop := (op_bd i hi).2.1
  have hch := (op_bd i hi).2.2 k (by omega)
  refine metR (by decide) (Nat.le_of_ble_eq_true rfl) ?_
  intro p e s m below meth c ls hx hb hr hlocks hml hown ht hl hP hK hSS
  have hl : lv_has ls 2 [(0, .ref (z.2.2.2.2 i)), (1, .int (nI k))] := hl
  have hS : va_S (fun _ => False) s.heap s.heap [] := va_S.rf
  refine lv_iload_n hx hb d_Sl_charAt_0 rfl (lv_at hl 1 rfl) ?_
  refine lv_aload_n hx hb d_Sl_charAt_1 rfl (lv_at hl 0 rfl) ?_
  refine va_tlen hx hb (hSS.2.2.2.2.2.1.1 i hi).2.2.2 hS (v := nI (opL i).length) (by rw [lenK_op hi]; rfl) d_Sl_charAt_2 ?_
  refine nS (As := [.int (nI k), .int (nI ((opL i).length))]) (rest := []) hx hb hml hown ht (c_St_checkIndex l dC dI z k ((opL i).length) (by first | assumption | omega) (by first | assumption | omega)) ys_St_checkIndex k_306 (Nat.le_of_ble_eq_true rfl) (Nat.le_of_ble_eq_true rfl) hP hK hSS hS [] [] rfl rfl hl rfl rfl (Nat.le_of_ble_eq_true rfl) (Nat.zero_le _) (Nat.zero_le _) d_Sl_charAt_3 ?_
  refine lv_aload_n hx hb d_Sl_charAt_6 rfl (lv_at hl 0 rfl) ?_
  refine lv_iload_n hx hb d_Sl_charAt_7 rfl (lv_at hl 1 rfl) ?_
  refine va_tb hx hb (hSS.2.2.2.2.2.1.1 i hi).2.2.2 hS (vin (by rw [lenK_op hi]; exact hk) (by rw [lenK_op hi]; omega)) (v := .int (nI ((opL i).getD k 0))) (by show Value.int ((bytK.getD i []).getD (nI k).toNatClampNeg 0) = _; rw [clp (by omega), byt_op hi (by omega)]) d_Sl_charAt_8 ?_
  refine lv_sipush (v := nI 255) hx hb d_Sl_charAt_9 (by decide) ?_
  refine lv_iand hx hb d_Sl_charAt_12 ?_
  refine eqi (y := nI ((opL i).getD k 0)) (and255 hch) ?_
  refine lv_i2c (v := nI ((opL i).getD k 0)) hx hb d_Sl_charAt_13 (i2c_n (by omega)) ?_
  exact eRz hx hb hr hlocks (pk_charN (by omega)).1 d_Sl_charAt_14 (rfl)

set_option maxHeartbeats 4000000 in
set_option maxRecDepth 100000 in
theorem c_St_charAt (l : Launch) (dC : Nat → ClassId) (dI : Nat → Nat → Nat) (z : zT) (i : Nat) (k : Nat) (hi : i < 14) (hk : k < (opL i).length) : MR l y_St_charAt b_St_charAt 2 (some .char) 3 64 (dC, dI) z [.ref (z.2.2.2.1 i), .int (nI k)] [] [] (.int (nI ((opL i).getD k 0))) := by
  have hop := (op_bd i hi).2.1
  have hch := (op_bd i hi).2.2 k (by omega)
  refine metR (by decide) (Nat.le_of_ble_eq_true rfl) ?_
  intro p e s m below meth c ls hx hb hr hlocks hml hown ht hl hP hK hSS
  have hl : lv_has ls 2 [(0, .ref (z.2.2.2.1 i)), (1, .int (nI k))] := hl
  have hS : va_S (fun _ => False) s.heap s.heap [] := va_S.rf
  refine lv_aload_n hx hb d_St_charAt_0 rfl (lv_at hl 0 rfl) ?_
  refine rVK (As := []) (rest := []) hx hb hml hown ht (c_St_isLatin1 l dC dI z i (by first | assumption | omega)) yv_St_isLatin1 k_299 (Nat.le_of_ble_eq_true rfl) (Nat.le_of_ble_eq_true rfl) hP hK hSS hS [] [] rfl rfl (vk_recv hSS.2.2.2.2.2.1 hi hS) hl rfl rfl (Nat.le_of_ble_eq_true rfl) (Nat.zero_le _) (Nat.zero_le _) d_St_charAt_1 ?_
  refine b_if_eq (tgt := 16) hx hb d_St_charAt_4 (by decide) (fun g4 => ?_) (fun g4 => ?_)
  · cases g4
  · refine lv_aload_n hx hb d_St_charAt_7 rfl (lv_at hl 0 rfl) ?_
    refine vk_getf hx hb (hSS.2.2.2.2.2.1.1 i hi).2.2.1 hS hown (ht _ k_663) (fun _ h9 => h9) d_St_charAt_8 ?_
    refine lv_iload_n hx hb d_St_charAt_11 rfl (lv_at hl 1 rfl) ?_
    refine rS (As := [.ref (z.2.2.2.2 i), .int (nI k)]) (rest := []) hx hb hml hown ht (c_Sl_charAt l dC dI z i k (by first | assumption | omega) (by first | assumption | omega)) ys_Sl_charAt k_303 (Nat.le_of_ble_eq_true rfl) (Nat.le_of_ble_eq_true rfl) hP hK hSS hS [] [] rfl rfl hl rfl rfl (Nat.le_of_ble_eq_true rfl) (Nat.zero_le _) (Nat.zero_le _) d_St_charAt_12 ?_
    exact eRz hx hb hr hlocks (pk_charN (by omega)).1 d_St_charAt_15 (rfl)
end
section
theorem bn_one {P : Prop} [Decidable P] (h : P) : nI 1 = bI (decide P) := by rw [decide_eq_true h]; decide
theorem bn_zero {P : Prop} [Decidable P] (h : ¬ P) : nI 0 = bI (decide P) := by rw [decide_eq_false h]; decide
theorem atZ_nat {t : Nat → Nat} {n p c : Nat} (h : atZ t n (p : Int) = (c : Int)) : p < n := by
  unfold atZ at h
  by_cases q : (0 : Int) ≤ (p : Int) ∧ (p : Int) < (n : Int)
  · omega
  · rw [if_neg q] at h
    omega
theorem tk_le {t : Nat → Nat} {n c : Nat} {r : rdT} (h : r.1 ≤ n) : (tk t n c r).1 ≤ n := by
  unfold tk
  by_cases q : atZ t n (r.1 : Int) = (c : Int)
  · rw [if_pos q]
    have := atZ_nat q
    show r.1 + 1 ≤ n
    omega
  · rw [if_neg q]
    exact h
theorem tkC_le {t : Nat → Nat} {n k : Nat} {r : rdT} (h : r.1 ≤ n) : (tkC t n k r).1 ≤ n := by
  unfold tkC
  split
  · exact tk_le h
  · exact h
theorem tkR_le {t : Nat → Nat} {n : Nat} {r : rdT} (h : r.1 ≤ n) : (tkR2 t n r).1 ≤ n ∧ tkR1 t n r < 4 := by
  have h1 := tk_le (t := t) (c := 114) h
  unfold tkR2 tkR1
  by_cases q : atZ t n ((tk t n 114 r).1 : Int) - 48 < 0 ∨ 3 < atZ t n ((tk t n 114 r).1 : Int) - 48
  · rw [if_pos q, if_pos q]
    exact ⟨h1, by omega⟩
  · rw [if_neg q, if_neg q]
    have e : atZ t n ((tk t n 114 r).1 : Int) = (((atZ t n ((tk t n 114 r).1 : Int)).toNat : Nat) : Int) := by omega
    have := atZ_nat e
    exact ⟨by show (tk t n 114 r).1 + 1 ≤ n; omega, by omega⟩
theorem mL_le {t : Nat → Nat} {n : Nat} : ∀ (l : List Nat) (p : Nat), p ≤ n → mL t n p l = true → p + l.length ≤ n := by
  intro l
  induction l with
  | nil => intro p h _; exact h
  | cons c l ih =>
    intro p h hm
    rw [mL_cons] at hm
    have := ih (p + 1) (by have := atZ_nat hm.1; omega) hm.2
    simp only [List.length_cons]
    omega
theorem tkK_y {t : Nat → Nat} {n k : Nat} {r : rdT} (h : tkK1 t n r = some k) : tkK2 t n r = (r.1 + (opL k).length, r.2) := by
  unfold tkK2
  rw [h]
theorem tkK_n {t : Nat → Nat} {n : Nat} {r : rdT} (h : tkK1 t n r = none) : tkK2 t n r = (r.1, false) := by
  unfold tkK2
  rw [h]
theorem tkK_le {t : Nat → Nat} {n : Nat} {r : rdT} (h : r.1 ≤ n) : (tkK2 t n r).1 ≤ n := by
  cases hk : tkK1 t n r with
  | none => rw [tkK_n hk]; exact h
  | some k =>
    rw [tkK_y hk]
    exact mL_le _ _ h (tkKF_some 14 0 k hk).2
theorem tkK_lt {t : Nat → Nat} {n k : Nat} {r : rdT} (h : tkK1 t n r = some k) : k < 14 := by
  have := (tkKF_some 14 0 k h).1
  omega
theorem vl_lt : ∀ (D : List Nat) (acc B : Nat), dig D → acc < B → vl D acc < B * 10 ^ D.length := by
  intro D
  induction D with
  | nil => intro acc B _ h; simpa [vl] using h
  | cons c D ih =>
    intro acc B hd h
    have hc := hd c List.mem_cons_self
    have := ih (10 * acc + c - 48) (10 * B) (fun x hx => hd x (List.mem_cons_of_mem _ hx)) (by omega)
    show vl D (10 * acc + c - 48) < B * 10 ^ (D.length + 1)
    have e : B * 10 ^ (D.length + 1) = 10 * B * 10 ^ D.length := by
      rw [Nat.pow_succ, Nat.mul_comm (10 ^ D.length) 10, ← Nat.mul_assoc, Nat.mul_comm B 10]
    rw [e]
    exact this
theorem tkA_lt {t : Nat → Nat} {n : Nat} {r : rdT} : tkA1 t n r < 100000 := by
  obtain ⟨D, d1, d2, d3, d4⟩ := tkAF_is (t := t) (n := n) 5 r.1 0
  unfold tkA1
  rw [d4]
  have h := vl_lt D 0 1 d1 (by omega)
  have h2 : (10 : Nat) ^ D.length ≤ 10 ^ 5 := Nat.pow_le_pow_right (by omega) d2
  show vl D 0 < 100000
  omega
theorem tkA_le {t : Nat → Nat} {n : Nat} {r : rdT} (h : r.1 ≤ n) : (tkA2 t n r).1 ≤ n := by
  obtain ⟨D, d1, d2, d3, d4⟩ := tkAF_is (t := t) (n := n) 5 r.1 0
  unfold tkA2
  rw [d4]
  exact mL_le _ _ h d3
theorem tkNs_le {t : Nat → Nat} {n : Nat} {r : rdT} (h : r.1 ≤ n) : (tkNs t n r).1 ≤ n := by
  unfold tkNs
  by_cases q : atZ t n (r.1 : Int) = 45
  · rw [if_pos q]
    have := atZ_nat (c := 45) q
    show r.1 + 1 ≤ n
    omega
  · rw [if_neg q]
    exact h
theorem tkN1_in {t : Nat → Nat} {n : Nat} {r : rdT} : -100000 < tkN1 t n r ∧ tkN1 t n r < 100000 := by
  have := tkA_lt (t := t) (n := n) (r := tkNs t n r)
  unfold tkN1
  split <;> omega
theorem tkN_le {t : Nat → Nat} {n : Nat} {lo hi : Int} {r : rdT} (h : r.1 ≤ n) : (tkN2 t n lo hi r).1 ≤ n := tkA_le (tkNs_le h)
theorem tkA2_y {t : Nat → Nat} {n p a : Nat} {r : rdT} (e : tkAF t n 5 r.1 0 = (p, a)) (h : p - r.1 = 0 ∨ (1 < p - r.1 ∧ atZ t n (r.1 : Int) = 48)) : tkA2 t n r = (p, false) := by
  unfold tkA2
  rw [e]
  exact congrArg (Prod.mk p) (if_pos h)
theorem tkA2_n {t : Nat → Nat} {n p a : Nat} {r : rdT} (e : tkAF t n 5 r.1 0 = (p, a)) (h : ¬ (p - r.1 = 0 ∨ (1 < p - r.1 ∧ atZ t n (r.1 : Int) = 48))) : tkA2 t n r = (p, r.2) := by
  unfold tkA2
  rw [e]
  exact congrArg (Prod.mk p) (if_neg h)
theorem tkA1_e {t : Nat → Nat} {n p a : Nat} {r : rdT} (e : tkAF t n 5 r.1 0 = (p, a)) : tkA1 t n r = a := by
  unfold tkA1
  rw [e]
theorem tkN2_y {t : Nat → Nat} {n : Nat} {lo hi : Int} {r r1 : rdT} (e : r1 = tkNs t n r) (h : (atZ t n (r.1 : Int) = 45 ∧ tkA1 t n r1 = 0) ∨ tkN1 t n r < lo ∨ hi < tkN1 t n r) : tkN2 t n lo hi r = ((tkA2 t n r1).1, false) := by
  subst e
  exact congrArg (Prod.mk _) (if_pos h)
theorem tkN2_n {t : Nat → Nat} {n : Nat} {lo hi : Int} {r r1 : rdT} (e : r1 = tkNs t n r) (h : ¬ ((atZ t n (r.1 : Int) = 45 ∧ tkA1 t n r1 = 0) ∨ tkN1 t n r < lo ∨ hi < tkN1 t n r)) : tkN2 t n lo hi r = ((tkA2 t n r1).1, (tkA2 t n r1).2) := by
  subst e
  exact congrArg (Prod.mk _) (if_neg h)
theorem tkN1_y {t : Nat → Nat} {n : Nat} {r r1 : rdT} (e : r1 = tkNs t n r) (h : atZ t n (r.1 : Int) = 45) : tkN1 t n r = -(tkA1 t n r1 : Int) := by
  subst e
  exact if_pos h
theorem tkN1_n {t : Nat → Nat} {n : Nat} {r r1 : rdT} (e : r1 = tkNs t n r) (h : ¬ atZ t n (r.1 : Int) = 45) : tkN1 t n r = (tkA1 t n r1 : Int) := by
  subst e
  exact if_neg h
end
section
set_option maxHeartbeats 4000000 in
set_option maxRecDepth 100000 in
theorem c_Te_addLine (l : Launch) (dC : Nat → ClassId) (dI : Nat → Nat → Nat) (z : zT) (sz : Nat) (h : Nat) (q : Nat) (cc : ClassId) (s0 : txT) (r0 : rdT) (k : Nat) (g : Nat) (v : Int) (hs : s0.2 + 20 ≤ 2400) (hk : k < 14) (hg : g < 16) (hv1 : -65536 ≤ v) (hv2 : v ≤ 65536) : MU l y_Te_addLine b_Te_addLine 7 none 5 108 (dC, dI) z [.ref h, .int (nI k), .int (nI g), .int (iI v)] [(h, .inr (2, [.ref q, .int (nI s0.2), .int (nI r0.1), .int (bI r0.2)])), (q, .inl (cc, 2400, .inl (iN s0.1)))] [(cc, .char)] sz none [(h, .inr (2, [.ref q, .int (nI ((ap s0 (lnL k g v)).2)), .int (nI r0.1), .int (bI r0.2)])), (q, .inl (cc, 2400, .inl (iN ((ap s0 (lnL k g v)).1))))] := by
  have hop := op_bd k hk
  have hkr := kR_le k
  have hkn := kN_cases k hk
  have hcm2 := cm_len (kR k)
  refine metU (by decide) (Nat.le_of_ble_eq_true rfl) ?_
  intro p e s m below meth c ls A hx hb hr hlocks hml hown ht hl hP hK hSS hD hS hA
  have hl : lv_has ls 7 [(0, .ref h), (1, .int (nI k)), (2, .int (nI g)), (3, .int (iI v))] := hl
  refine lv_iload_n hx hb d_Te_addLine_0 rfl (lv_at hl 1 rfl) ?_
  refine rS (As := [.int (nI k)]) (rest := []) hx hb hml hown ht (c_Ki_opening l dC dI z k (by first | assumption | omega)) ys_Ki_opening k_268 (Nat.le_of_ble_eq_true rfl) (Nat.le_of_ble_eq_true rfl) hP hK hSS hS [] [] rfl rfl hl rfl rfl (Nat.le_of_ble_eq_true rfl) (Nat.zero_le _) (Nat.zero_le _) d_Te_addLine_1 ?_
  refine lv_astore (lv' := [(4, .ref (z.2.2.2.1 k)), (0, .ref h), (1, .int (nI k)), (2, .int (nI g)), (3, .int (iI v))]) hx hb d_Te_addLine_4 hl (Nat.le_of_ble_eq_true rfl) rfl (fun ls hl => ?_)
  refine lv_iconst (v := nI 0) hx hb d_Te_addLine_6 (by decide) ?_
  refine lv_istore (lv' := [(5, .int (nI 0)), (4, .ref (z.2.2.2.1 k)), (0, .ref h), (1, .int (nI k)), (2, .int (nI g)), (3, .int (iI v))]) hx hb d_Te_addLine_7 hl (Nat.le_of_ble_eq_true rfl) rfl (fun ls hl => ?_)
  have loop9 : ∀ (j : Nat) (i : Nat) (s1 : txT) (ls : Array Slot) (H : Heap) (locs : List Loc), (i + j = (opL k).length) → (ap s0 (opL k) = ap s1 ((opL k).drop i)) → (s1.2 = s0.2 + i) → lv_has ls 7 [(5, .int (nI i)), (4, .ref (z.2.2.2.1 k)), (0, .ref h), (1, .int (nI k)), (2, .int (nI g)), (3, .int (iI v))] → va_P (dC, dI) classes [(h, .inr (2, [.ref q, .int (nI s1.2), .int (nI r0.1), .int (bI r0.2)])), (q, .inl (cc, 2400, .inl (iN s1.1)))] H → va_D A [(h, .inr (2, [.ref q, .int (nI s1.2), .int (nI r0.1), .int (bI r0.2)])), (q, .inl (cc, 2400, .inl (iN s1.1)))] → va_S A s.heap H locs → W p l e (rmq 5 108) s m [.ref h, .int (nI k), .int (nI g), .int (iI v)].toArray below meth c H locs 0 0 (MQ below (qcU none (dC, dI) [(h, .inr (2, [.ref q, .int (nI ((ap s0 (lnL k g v)).2)), .int (nI r0.1), .int (bI r0.2)])), (q, .inl (cc, 2400, .inl (iN ((ap s0 (lnL k g v)).1))))] A) [.ref h, .int (nI k), .int (nI g), .int (iI v)].toArray s 0 0 A) (F0 m 9 ls []) := by
    intro j
    induction j with
    | zero =>
      intro i s1 ls H locs hi hR1 hl1 hl hP hD hS
      rw [List.drop_eq_nil_of_le (by omega)] at hR1
      have hR1 : ap s0 (opL k) = s1 := hR1
      refine lv_iload hx hb d_Te_addLine_9 (lv_at hl 0 rfl) ?_
      refine lv_aload hx hb d_Te_addLine_11 (lv_at hl 1 rfl) ?_
      refine rVK (As := []) (rest := [.int (nI i)]) hx hb hml hown ht (c_St_length l dC dI z k (by first | assumption | omega)) yv_St_length k_285 (Nat.le_of_ble_eq_true rfl) (Nat.le_of_ble_eq_true rfl) hP hK hSS hS [] [] rfl rfl (vk_recv hSS.2.2.2.2.2.1 hk hS) hl rfl rfl (Nat.le_of_ble_eq_true rfl) (Nat.zero_le _) (Nat.zero_le _) d_Te_addLine_13 ?_
      refine z_icmp_ge (tgt := 36) hx hb d_Te_addLine_16 (tI_n (by omega)) (tI_n (by omega)) (by decide) (fun g16 => ?_) (fun g16 => ?_)
      · refine lv_iload_n hx hb d_Te_addLine_36 rfl (lv_at hl 3 rfl) ?_
        refine rS (As := [.int (nI k)]) (rest := []) hx hb hml hown ht (c_Ki_registers l dC dI z k (by first | assumption | omega)) ys_Ki_registers k_342 (Nat.le_of_ble_eq_true rfl) (Nat.le_of_ble_eq_true rfl) hP hK hSS hS [] [] rfl rfl hl rfl rfl (Nat.le_of_ble_eq_true rfl) (Nat.zero_le _) (Nat.zero_le _) d_Te_addLine_37 ?_
        refine lv_istore (lv' := [(5, .int (nI (kR k))), (4, .ref (z.2.2.2.1 k)), (0, .ref h), (1, .int (nI k)), (2, .int (nI g)), (3, .int (iI v))]) hx hb d_Te_addLine_40 hl (Nat.le_of_ble_eq_true rfl) rfl (fun ls hl => ?_)
        refine lv_iconst (v := nI 0) hx hb d_Te_addLine_42 (by decide) ?_
        refine lv_istore (lv' := [(6, .int (nI 0)), (5, .int (nI (kR k))), (4, .ref (z.2.2.2.1 k)), (0, .ref h), (1, .int (nI k)), (2, .int (nI g)), (3, .int (iI v))]) hx hb d_Te_addLine_43 hl (Nat.le_of_ble_eq_true rfl) rfl (fun ls hl => ?_)
        have loop45 : ∀ (j : Nat) (i2 : Nat) (s2 : txT) (ls : Array Slot) (H : Heap) (locs : List Loc), (i2 + j = kR k) → (ap s1 (rgL k g) = ap s2 (rgF (kR k) g j i2)) → (s2.2 + 3 * j ≤ s1.2 + 6) → lv_has ls 7 [(6, .int (nI i2)), (5, .int (nI (kR k))), (4, .ref (z.2.2.2.1 k)), (0, .ref h), (1, .int (nI k)), (2, .int (nI g)), (3, .int (iI v))] → va_P (dC, dI) classes [(h, .inr (2, [.ref q, .int (nI s2.2), .int (nI r0.1), .int (bI r0.2)])), (q, .inl (cc, 2400, .inl (iN s2.1)))] H → va_D A [(h, .inr (2, [.ref q, .int (nI s2.2), .int (nI r0.1), .int (bI r0.2)])), (q, .inl (cc, 2400, .inl (iN s2.1)))] → va_S A s.heap H locs → W p l e (rmq 5 108) s m [.ref h, .int (nI k), .int (nI g), .int (iI v)].toArray below meth c H locs 0 0 (MQ below (qcU none (dC, dI) [(h, .inr (2, [.ref q, .int (nI ((ap s0 (lnL k g v)).2)), .int (nI r0.1), .int (bI r0.2)])), (q, .inl (cc, 2400, .inl (iN ((ap s0 (lnL k g v)).1))))] A) [.ref h, .int (nI k), .int (nI g), .int (iI v)].toArray s 0 0 A) (F0 m 45 ls []) := by
          intro j
          induction j with
          | zero =>
            intro i2 s2 ls H locs hi2 hR2 hl2 hl hP hD hS
            have hR2 : ap s1 (rgL k g) = s2 := hR2
            refine lv_iload hx hb d_Te_addLine_45 (lv_at hl 0 rfl) ?_
            refine lv_iload hx hb d_Te_addLine_47 (lv_at hl 1 rfl) ?_
            refine z_icmp_ge (tgt := 87) hx hb d_Te_addLine_49 (tI_n (by omega)) (tI_n (by omega)) (by decide) (fun g49 => ?_) (fun g49 => ?_)
            · have cut105 : ∀  (s3 : txT) (ls : Array Slot) (H : Heap) (locs : List Loc), (ap s2 (if kN k = 0 then [] else cmL (kR k) ++ nuL v) = s3) → (s3.2 ≤ s2.2 + 7) → lv_has ls 7 [(6, .int (nI i2)), (5, .int (nI (kR k))), (4, .ref (z.2.2.2.1 k)), (0, .ref h), (1, .int (nI k)), (2, .int (nI g)), (3, .int (iI v))] → va_P (dC, dI) classes [(h, .inr (2, [.ref q, .int (nI s3.2), .int (nI r0.1), .int (bI r0.2)])), (q, .inl (cc, 2400, .inl (iN s3.1)))] H → va_D A [(h, .inr (2, [.ref q, .int (nI s3.2), .int (nI r0.1), .int (bI r0.2)])), (q, .inl (cc, 2400, .inl (iN s3.1)))] → va_S A s.heap H locs → W p l e (rmq 5 108) s m [.ref h, .int (nI k), .int (nI g), .int (iI v)].toArray below meth c H locs 0 0 (MQ below (qcU none (dC, dI) [(h, .inr (2, [.ref q, .int (nI ((ap s0 (lnL k g v)).2)), .int (nI r0.1), .int (bI r0.2)])), (q, .inl (cc, 2400, .inl (iN ((ap s0 (lnL k g v)).1))))] A) [.ref h, .int (nI k), .int (nI g), .int (iI v)].toArray s 0 0 A) (F0 m 105 ls []) := by
                intro s3 ls H locs hR3 hl3 hl hP hD hS
                refine lv_aload_n hx hb d_Te_addLine_105 rfl (lv_at hl 3 rfl) ?_
                refine lv_bipush (v := nI 10) hx hb d_Te_addLine_106 (by decide) ?_
                refine uV (As := [.int (nI 10)]) (rest := []) (wr := []) hx hb hml hown ht (c_Te_add l dC dI z _ h q cc s3 r0 10 (by first | assumption | omega) (by first | assumption | omega)) yv_Te_add k_333 (Nat.le_of_ble_eq_true rfl) (Nat.le_of_ble_eq_true rfl) hP hK hSS hD hS hA [0, 1] [] [0] rfl rfl (by decide) rfl (by decide) (by decide) rfl 0 2 rfl rfl rfl hl rfl rfl (Nat.le_of_ble_eq_true rfl) (Nat.zero_le _) (Nat.zero_le _) d_Te_addLine_108 (fun H locs hP hD hS => ?_)
                have hP : va_P (dC, dI) classes [(h, .inr (2, [.ref q, .int (nI ((ap1 s3 10).2)), .int (nI r0.1), .int (bI r0.2)])), (q, .inl (cc, 2400, .inl (iN ((ap1 s3 10).1))))] H := hP
                have hD : va_D A [(h, .inr (2, [.ref q, .int (nI ((ap1 s3 10).2)), .int (nI r0.1), .int (bI r0.2)])), (q, .inl (cc, 2400, .inl (iN ((ap1 s3 10).1))))] := hD
                refine stk (st2 := []) rfl ?_
                rw [lnL, ap_app, ap_app, ap_app, hR1, hR2, hR3]
                exact eUv hx hb hr hlocks hP hD hS [0, 1] rfl rfl (by decide) d_Te_addLine_111
              refine lv_iload_n hx hb d_Te_addLine_87 rfl (lv_at hl 4 rfl) ?_
              refine rS (As := [.int (nI k)]) (rest := []) hx hb hml hown ht (c_Ki_number l dC dI z k (by first | assumption | omega)) ys_Ki_number k_353 (Nat.le_of_ble_eq_true rfl) (Nat.le_of_ble_eq_true rfl) hP hK hSS hS [] [] rfl rfl hl rfl rfl (Nat.le_of_ble_eq_true rfl) (Nat.zero_le _) (Nat.zero_le _) d_Te_addLine_88 ?_
              refine z_if_eq (tgt := 105) hx hb d_Te_addLine_91 (tI_n (by omega)) (by decide) (fun g91 => ?_) (fun g91 => ?_)
              · exact cut105 s2 _ _ _ (by rw [if_pos (by omega)]; rfl) (by omega) (lv_sub hl [0, 1, 2, 3, 4, 5, 6] rfl) (hP.sub [0, 1] rfl) (hD.sub [0, 1] (by decide) rfl) hS
              · have hal2 : (ap s2 (cmL (kR k))).2 = s2.2 + (cmL (kR k)).length := ap_len _ _
                refine lv_aload_n hx hb d_Te_addLine_94 rfl (lv_at hl 3 rfl) ?_
                refine lv_iload hx hb d_Te_addLine_95 (lv_at hl 1 rfl) ?_
                refine uV (As := [.int (nI (kR k))]) (rest := []) (wr := []) hx hb hml hown ht (c_Te_addComma l dC dI z _ h q cc s2 r0 (kR k) (by first | assumption | omega) (by omega)) yv_Te_addComma k_345 (Nat.le_of_ble_eq_true rfl) (Nat.le_of_ble_eq_true rfl) hP hK hSS hD hS hA [0, 1] [] [0] rfl rfl (by decide) rfl (by decide) (by decide) rfl 0 2 rfl rfl rfl hl rfl rfl (Nat.le_of_ble_eq_true rfl) (Nat.zero_le _) (Nat.zero_le _) d_Te_addLine_97 (fun H locs hP hD hS => ?_)
                have hP : va_P (dC, dI) classes [(h, .inr (2, [.ref q, .int (nI ((ap s2 (cmL (kR k))).2)), .int (nI r0.1), .int (bI r0.2)])), (q, .inl (cc, 2400, .inl (iN ((ap s2 (cmL (kR k))).1))))] H := hP
                have hD : va_D A [(h, .inr (2, [.ref q, .int (nI ((ap s2 (cmL (kR k))).2)), .int (nI r0.1), .int (bI r0.2)])), (q, .inl (cc, 2400, .inl (iN ((ap s2 (cmL (kR k))).1))))] := hD
                refine stk (st2 := []) rfl ?_
                refine lv_aload_n hx hb d_Te_addLine_100 rfl (lv_at hl 3 rfl) ?_
                refine lv_iload_n hx hb d_Te_addLine_101 rfl (lv_at hl 6 rfl) ?_
                refine uV (As := [.int (iI v)]) (rest := []) (wr := []) hx hb hml hown ht (c_Te_addNumber l dC dI z _ h q cc (ap s2 (cmL (kR k))) r0 v (by first | assumption | omega) (by first | assumption | omega) (by first | assumption | omega)) yv_Te_addNumber k_354 (Nat.le_of_ble_eq_true rfl) (Nat.le_of_ble_eq_true rfl) hP hK hSS hD hS hA [0, 1] [] [0] rfl rfl (by decide) rfl (by decide) (by decide) rfl 0 2 rfl rfl rfl hl rfl rfl (Nat.le_of_ble_eq_true rfl) (Nat.zero_le _) (Nat.zero_le _) d_Te_addLine_102 (fun H locs hP hD hS => ?_)
                have hP : va_P (dC, dI) classes [(h, .inr (2, [.ref q, .int (nI ((ap (ap s2 (cmL (kR k))) (nuL v)).2)), .int (nI r0.1), .int (bI r0.2)])), (q, .inl (cc, 2400, .inl (iN ((ap (ap s2 (cmL (kR k))) (nuL v)).1))))] H := hP
                have hD : va_D A [(h, .inr (2, [.ref q, .int (nI ((ap (ap s2 (cmL (kR k))) (nuL v)).2)), .int (nI r0.1), .int (bI r0.2)])), (q, .inl (cc, 2400, .inl (iN ((ap (ap s2 (cmL (kR k))) (nuL v)).1))))] := hD
                refine stk (st2 := []) rfl ?_
                exact cut105 (ap (ap s2 (cmL (kR k))) (nuL v)) _ _ _ (by rw [if_neg (by omega), ap_app]) (by rw [ap_len, ap_len]; have := (nuL_len hv1 hv2).1; omega) (lv_sub hl [0, 1, 2, 3, 4, 5, 6] rfl) (hP.sub [0, 1] rfl) (hD.sub [0, 1] (by decide) rfl) hS
            · exfalso; omega
          | succ j ih =>
            intro i2 s2 ls H locs hi2 hR2 hl2 hl hP hD hS
            have hcm := cm_len i2
            have hal : (ap s2 (cmL i2)).2 = s2.2 + (cmL i2).length := ap_len _ _
            have hal3 : (ap1 (ap s2 (cmL i2)) 114).2 = (ap s2 (cmL i2)).2 + 1 := rfl
            refine lv_iload hx hb d_Te_addLine_45 (lv_at hl 0 rfl) ?_
            refine lv_iload hx hb d_Te_addLine_47 (lv_at hl 1 rfl) ?_
            refine z_icmp_ge (tgt := 87) hx hb d_Te_addLine_49 (tI_n (by omega)) (tI_n (by omega)) (by decide) (fun g49 => ?_) (fun g49 => ?_)
            · exfalso; omega
            · refine lv_aload_n hx hb d_Te_addLine_52 rfl (lv_at hl 3 rfl) ?_
              refine lv_iload hx hb d_Te_addLine_53 (lv_at hl 0 rfl) ?_
              refine uV (As := [.int (nI i2)]) (rest := []) (wr := []) hx hb hml hown ht (c_Te_addComma l dC dI z _ h q cc s2 r0 i2 (by first | assumption | omega) (by first | assumption | omega)) yv_Te_addComma k_345 (Nat.le_of_ble_eq_true rfl) (Nat.le_of_ble_eq_true rfl) hP hK hSS hD hS hA [0, 1] [] [0] rfl rfl (by decide) rfl (by decide) (by decide) rfl 0 2 rfl rfl rfl hl rfl rfl (Nat.le_of_ble_eq_true rfl) (Nat.zero_le _) (Nat.zero_le _) d_Te_addLine_55 (fun H locs hP hD hS => ?_)
              have hP : va_P (dC, dI) classes [(h, .inr (2, [.ref q, .int (nI ((ap s2 (cmL i2)).2)), .int (nI r0.1), .int (bI r0.2)])), (q, .inl (cc, 2400, .inl (iN ((ap s2 (cmL i2)).1))))] H := hP
              have hD : va_D A [(h, .inr (2, [.ref q, .int (nI ((ap s2 (cmL i2)).2)), .int (nI r0.1), .int (bI r0.2)])), (q, .inl (cc, 2400, .inl (iN ((ap s2 (cmL i2)).1))))] := hD
              refine stk (st2 := []) rfl ?_
              refine lv_aload_n hx hb d_Te_addLine_58 rfl (lv_at hl 3 rfl) ?_
              refine lv_bipush (v := nI 114) hx hb d_Te_addLine_59 (by decide) ?_
              refine uV (As := [.int (nI 114)]) (rest := []) (wr := []) hx hb hml hown ht (c_Te_add l dC dI z _ h q cc (ap s2 (cmL i2)) r0 114 (by first | assumption | omega) (by first | assumption | omega)) yv_Te_add k_333 (Nat.le_of_ble_eq_true rfl) (Nat.le_of_ble_eq_true rfl) hP hK hSS hD hS hA [0, 1] [] [0] rfl rfl (by decide) rfl (by decide) (by decide) rfl 0 2 rfl rfl rfl hl rfl rfl (Nat.le_of_ble_eq_true rfl) (Nat.zero_le _) (Nat.zero_le _) d_Te_addLine_61 (fun H locs hP hD hS => ?_)
              have hP : va_P (dC, dI) classes [(h, .inr (2, [.ref q, .int (nI ((ap1 (ap s2 (cmL i2)) 114).2)), .int (nI r0.1), .int (bI r0.2)])), (q, .inl (cc, 2400, .inl (iN ((ap1 (ap s2 (cmL i2)) 114).1))))] H := hP
              have hD : va_D A [(h, .inr (2, [.ref q, .int (nI ((ap1 (ap s2 (cmL i2)) 114).2)), .int (nI r0.1), .int (bI r0.2)])), (q, .inl (cc, 2400, .inl (iN ((ap1 (ap s2 (cmL i2)) 114).1))))] := hD
              refine stk (st2 := []) rfl ?_
              refine lv_aload_n hx hb d_Te_addLine_64 rfl (lv_at hl 3 rfl) ?_
              refine lv_iload_n hx hb d_Te_addLine_65 rfl (lv_at hl 5 rfl) ?_
              refine lv_iconst (v := nI 2) hx hb d_Te_addLine_66 (by decide) ?_
              refine lv_iload hx hb d_Te_addLine_67 (lv_at hl 1 rfl) ?_
              refine lv_iconst (v := nI 1) hx hb d_Te_addLine_69 (by decide) ?_
              refine nSub hx hb d_Te_addLine_70 (by omega) ?_
              refine lv_iload hx hb d_Te_addLine_71 (lv_at hl 0 rfl) ?_
              refine nSub hx hb d_Te_addLine_73 (by omega) ?_
              refine nMul hx hb d_Te_addLine_74 ?_
              refine lv_ishr hx hb d_Te_addLine_75 ?_
              refine lv_iconst (v := nI 3) hx hb d_Te_addLine_76 (by decide) ?_
              refine lv_iand hx hb d_Te_addLine_77 ?_
              refine eqi (y := nI (g / 4 ^ (kR k - 1 - i2) % 4)) (shr3 hg (by omega)) ?_
              refine uV (As := [.int (nI (g / 4 ^ (kR k - 1 - i2) % 4))]) (rest := []) (wr := []) hx hb hml hown ht (c_Te_addDigit l dC dI z _ h q cc (ap1 (ap s2 (cmL i2)) 114) r0 (g / 4 ^ (kR k - 1 - i2) % 4) (by first | assumption | omega) (by first | assumption | omega)) yv_Te_addDigit k_349 (Nat.le_of_ble_eq_true rfl) (Nat.le_of_ble_eq_true rfl) hP hK hSS hD hS hA [0, 1] [] [0] rfl rfl (by decide) rfl (by decide) (by decide) rfl 0 2 rfl rfl rfl hl rfl rfl (Nat.le_of_ble_eq_true rfl) (Nat.zero_le _) (Nat.zero_le _) d_Te_addLine_78 (fun H locs hP hD hS => ?_)
              have hP : va_P (dC, dI) classes [(h, .inr (2, [.ref q, .int (nI ((ap1 (ap1 (ap s2 (cmL i2)) 114) (48 + (g / 4 ^ (kR k - 1 - i2) % 4))).2)), .int (nI r0.1), .int (bI r0.2)])), (q, .inl (cc, 2400, .inl (iN ((ap1 (ap1 (ap s2 (cmL i2)) 114) (48 + (g / 4 ^ (kR k - 1 - i2) % 4))).1))))] H := hP
              have hD : va_D A [(h, .inr (2, [.ref q, .int (nI ((ap1 (ap1 (ap s2 (cmL i2)) 114) (48 + (g / 4 ^ (kR k - 1 - i2) % 4))).2)), .int (nI r0.1), .int (bI r0.2)])), (q, .inl (cc, 2400, .inl (iN ((ap1 (ap1 (ap s2 (cmL i2)) 114) (48 + (g / 4 ^ (kR k - 1 - i2) % 4))).1))))] := hD
              refine stk (st2 := []) rfl ?_
              refine lv_iinc (k := 0) (v := nI (i2 + 1)) (lv' := [(6, .int (nI (i2 + 1))), (5, .int (nI (kR k))), (4, .ref (z.2.2.2.1 k)), (0, .ref h), (1, .int (nI k)), (2, .int (nI g)), (3, .int (iI v))]) hx hb d_Te_addLine_81 hl rfl (nI_inc1 _) (Nat.le_of_ble_eq_true rfl) rfl (fun ls hl => ?_)
              refine lv_goto (tgt := 45) hx hb d_Te_addLine_84 (by decide) ?_
              exact ih (i2 + 1) (ap1 (ap1 (ap s2 (cmL i2)) 114) (48 + (g / 4 ^ (kR k - 1 - i2) % 4))) _ _ _ (by omega) (by rw [hR2, rgF, ap_app, ap_app]; rfl) (by show (ap s2 (cmL i2)).2 + 1 + 1 + 3 * j ≤ _; rw [ap_len]; omega) (lv_sub hl [0, 1, 2, 3, 4, 5, 6] rfl) (hP.sub [0, 1] rfl) (hD.sub [0, 1] (by decide) rfl) hS
        exact loop45 (kR k) 0 s1 _ _ _ (Nat.zero_add _) (rfl) (by omega) (lv_sub hl [0, 1, 2, 3, 4, 5, 6] rfl) (hP.sub [0, 1] rfl) (hD.sub [0, 1] (by decide) rfl) hS
      · exfalso; omega
    | succ j ih =>
      intro i s1 ls H locs hi hR1 hl1 hl hP hD hS
      have hch := hop.2.2 i (by omega)
      refine lv_iload hx hb d_Te_addLine_9 (lv_at hl 0 rfl) ?_
      refine lv_aload hx hb d_Te_addLine_11 (lv_at hl 1 rfl) ?_
      refine rVK (As := []) (rest := [.int (nI i)]) hx hb hml hown ht (c_St_length l dC dI z k (by first | assumption | omega)) yv_St_length k_285 (Nat.le_of_ble_eq_true rfl) (Nat.le_of_ble_eq_true rfl) hP hK hSS hS [] [] rfl rfl (vk_recv hSS.2.2.2.2.2.1 hk hS) hl rfl rfl (Nat.le_of_ble_eq_true rfl) (Nat.zero_le _) (Nat.zero_le _) d_Te_addLine_13 ?_
      refine z_icmp_ge (tgt := 36) hx hb d_Te_addLine_16 (tI_n (by omega)) (tI_n (by omega)) (by decide) (fun g16 => ?_) (fun g16 => ?_)
      · exfalso; omega
      · refine lv_aload_n hx hb d_Te_addLine_19 rfl (lv_at hl 2 rfl) ?_
        refine lv_aload hx hb d_Te_addLine_20 (lv_at hl 1 rfl) ?_
        refine lv_iload hx hb d_Te_addLine_22 (lv_at hl 0 rfl) ?_
        refine rVK (As := [.int (nI i)]) (rest := [.ref h]) hx hb hml hown ht (c_St_charAt l dC dI z k i (by first | assumption | omega) (by omega)) yv_St_charAt k_295 (Nat.le_of_ble_eq_true rfl) (Nat.le_of_ble_eq_true rfl) hP hK hSS hS [] [] rfl rfl (vk_recv hSS.2.2.2.2.2.1 hk hS) hl rfl rfl (Nat.le_of_ble_eq_true rfl) (Nat.zero_le _) (Nat.zero_le _) d_Te_addLine_24 ?_
        refine uV (As := [.int (nI ((opL k).getD i 0))]) (rest := []) (wr := []) hx hb hml hown ht (c_Te_add l dC dI z _ h q cc s1 r0 ((opL k).getD i 0) (by first | assumption | omega) (by first | assumption | omega)) yv_Te_add k_333 (Nat.le_of_ble_eq_true rfl) (Nat.le_of_ble_eq_true rfl) hP hK hSS hD hS hA [0, 1] [] [0] rfl rfl (by decide) rfl (by decide) (by decide) rfl 0 2 rfl rfl rfl hl rfl rfl (Nat.le_of_ble_eq_true rfl) (Nat.zero_le _) (Nat.zero_le _) d_Te_addLine_27 (fun H locs hP hD hS => ?_)
        have hP : va_P (dC, dI) classes [(h, .inr (2, [.ref q, .int (nI ((ap1 s1 ((opL k).getD i 0)).2)), .int (nI r0.1), .int (bI r0.2)])), (q, .inl (cc, 2400, .inl (iN ((ap1 s1 ((opL k).getD i 0)).1))))] H := hP
        have hD : va_D A [(h, .inr (2, [.ref q, .int (nI ((ap1 s1 ((opL k).getD i 0)).2)), .int (nI r0.1), .int (bI r0.2)])), (q, .inl (cc, 2400, .inl (iN ((ap1 s1 ((opL k).getD i 0)).1))))] := hD
        refine stk (st2 := []) rfl ?_
        refine lv_iinc (k := 0) (v := nI (i + 1)) (lv' := [(5, .int (nI (i + 1))), (4, .ref (z.2.2.2.1 k)), (0, .ref h), (1, .int (nI k)), (2, .int (nI g)), (3, .int (iI v))]) hx hb d_Te_addLine_30 hl rfl (nI_inc1 _) (Nat.le_of_ble_eq_true rfl) rfl (fun ls hl => ?_)
        refine lv_goto (tgt := 9) hx hb d_Te_addLine_33 (by decide) ?_
        exact ih (i + 1) (ap1 s1 ((opL k).getD i 0)) _ _ _ (by omega) (by rw [hR1, drop_c (by omega)]; rfl) (by show s1.2 + 1 = _; omega) (lv_sub hl [0, 1, 2, 3, 4, 5] rfl) (hP.sub [0, 1] rfl) (hD.sub [0, 1] (by decide) rfl) hS
  exact loop9 ((opL k).length) 0 s0 _ _ _ (Nat.zero_add _) (rfl) (rfl) (lv_sub hl [0, 1, 2, 3, 4, 5] rfl) (hP.sub [0, 1] rfl) (hD.sub [0, 1] (by decide) rfl) hS
end
section
set_option maxHeartbeats 4000000 in
set_option maxRecDepth 100000 in
theorem c_Te_startReading (l : Launch) (dC : Nat → ClassId) (dI : Nat → Nat → Nat) (z : zT) (sz : Nat) (h : Nat) (q : Nat) (cc : ClassId) (s0 : txT) (r0 : rdT) : MU l y_Te_startReading b_Te_startReading 1 none 0 0 (dC, dI) z [.ref h] [(h, .inr (2, [.ref q, .int (nI s0.2), .int (nI r0.1), .int (bI r0.2)])), (q, .inl (cc, 2400, .inl (iN s0.1)))] [(cc, .char)] sz none [(h, .inr (2, [.ref q, .int (nI s0.2), .int (nI r00.1), .int (bI r00.2)])), (q, .inl (cc, 2400, .inl (iN s0.1)))] := by
  refine metU (by decide) (Nat.le_of_ble_eq_true rfl) ?_
  intro p e s m below meth c ls A hx hb hr hlocks hml hown ht hl hP hK hSS hD hS hA
  have hl : lv_has ls 1 [(0, .ref h)] := hl
  refine lv_aload_n hx hb d_Te_startReading_0 rfl (lv_at hl 0 rfl) ?_
  refine lv_iconst (v := nI 0) hx hb d_Te_startReading_1 (by decide) ?_
  refine va_put (D := (dC, dI)) (ci := 2) (v := .int (nI 0)) (ty := .int) (C := R_Te) (T := F_Te) (N := 4) hx hb ht in_Te t_Te t_Te_ok n_Te hown hK hP hD hS 0 rfl rfl 2 (by decide) (ht _ k_64) (fun _ h9 => h9) rfl (by decide +kernel) rfl rfl (Nat.le_of_ble_eq_true rfl) d_Te_startReading_2 (fun H locs hP hD hS => ?_)
  have hP : va_P (dC, dI) classes [(h, .inr (2, [.ref q, .int (nI s0.2), .int (nI 0), .int (bI r0.2)])), (q, .inl (cc, 2400, .inl (iN s0.1)))] H := hP
  have hD : va_D A [(h, .inr (2, [.ref q, .int (nI s0.2), .int (nI 0), .int (bI r0.2)])), (q, .inl (cc, 2400, .inl (iN s0.1)))] := hD
  refine lv_aload_n hx hb d_Te_startReading_5 rfl (lv_at hl 0 rfl) ?_
  refine lv_iconst (v := nI 1) hx hb d_Te_startReading_6 (by decide) ?_
  refine eqi (y := bI true) (by decide) ?_
  refine va_put (D := (dC, dI)) (ci := 2) (v := .int (bI true)) (ty := .boolean) (C := R_Te) (T := F_Te) (N := 4) hx hb ht in_Te t_Te t_Te_ok n_Te hown hK hP hD hS 0 rfl rfl 3 (by decide) (ht _ k_65) (fun _ h9 => h9) rfl (by decide +kernel) (bI_narrow _) (bI_fits _) (Nat.le_of_ble_eq_true rfl) d_Te_startReading_7 (fun H locs hP hD hS => ?_)
  have hP : va_P (dC, dI) classes [(h, .inr (2, [.ref q, .int (nI s0.2), .int (nI 0), .int (bI true)])), (q, .inl (cc, 2400, .inl (iN s0.1)))] H := hP
  have hD : va_D A [(h, .inr (2, [.ref q, .int (nI s0.2), .int (nI 0), .int (bI true)])), (q, .inl (cc, 2400, .inl (iN s0.1)))] := hD
  exact eUv hx hb hr hlocks hP hD hS [0, 1] rfl rfl (by decide) d_Te_startReading_10

set_option maxHeartbeats 4000000 in
set_option maxRecDepth 100000 in
theorem c_Te_isRight (l : Launch) (dC : Nat → ClassId) (dI : Nat → Nat → Nat) (z : zT) (h : Nat) (q : Nat) (cc : ClassId) (s0 : txT) (r0 : rdT) : MR l y_Te_isRight b_Te_isRight 1 (some .boolean) 0 0 (dC, dI) z [.ref h] [(h, .inr (2, [.ref q, .int (nI s0.2), .int (nI r0.1), .int (bI r0.2)])), (q, .inl (cc, 2400, .inl (iN s0.1)))] [(cc, .char)] (.int (bI r0.2)) := by
  refine metR (by decide) (Nat.le_of_ble_eq_true rfl) ?_
  intro p e s m below meth c ls hx hb hr hlocks hml hown ht hl hP hK hSS
  have hl : lv_has ls 1 [(0, .ref h)] := hl
  have hS : va_S (fun _ => False) s.heap s.heap [] := va_S.rf
  refine lv_aload_n hx hb d_Te_isRight_0 rfl (lv_at hl 0 rfl) ?_
  refine va_get (D := (dC, dI)) (ci := 2) (v := .int (bI r0.2)) (C := R_Te) (T := F_Te) (N := 4) hx hb ht in_Te hown hK hP 0 rfl rfl 3 (by decide) (ht _ k_65) (fun _ h9 => h9) rfl d_Te_isRight_1 ?_
  exact eRz hx hb hr hlocks (bI_narrow _) d_Te_isRight_4 (rfl)

set_option maxHeartbeats 4000000 in
set_option maxRecDepth 100000 in
theorem c_Te_hasMore (l : Launch) (dC : Nat → ClassId) (dI : Nat → Nat → Nat) (z : zT) (h : Nat) (q : Nat) (cc : ClassId) (s0 : txT) (r0 : rdT) (hs : s0.2 ≤ 2400) (hr1 : r0.1 ≤ s0.2) : MR l y_Te_hasMore b_Te_hasMore 1 (some .boolean) 0 0 (dC, dI) z [.ref h] [(h, .inr (2, [.ref q, .int (nI s0.2), .int (nI r0.1), .int (bI r0.2)])), (q, .inl (cc, 2400, .inl (iN s0.1)))] [(cc, .char)] (.int (bI (decide (r0.2 = true ∧ r0.1 < s0.2)))) := by
  refine metR (by decide) (Nat.le_of_ble_eq_true rfl) ?_
  intro p e s m below meth c ls hx hb hr hlocks hml hown ht hl hP hK hSS
  have hl : lv_has ls 1 [(0, .ref h)] := hl
  have hS : va_S (fun _ => False) s.heap s.heap [] := va_S.rf
  refine lv_aload_n hx hb d_Te_hasMore_0 rfl (lv_at hl 0 rfl) ?_
  refine va_get (D := (dC, dI)) (ci := 2) (v := .int (bI r0.2)) (C := R_Te) (T := F_Te) (N := 4) hx hb ht in_Te hown hK hP 0 rfl rfl 3 (by decide) (ht _ k_65) (fun _ h9 => h9) rfl d_Te_hasMore_1 ?_
  refine b_if_eq (tgt := 22) hx hb d_Te_hasMore_4 (by decide) (fun g4 => ?_) (fun g4 => ?_)
  · refine lv_iconst (v := nI 0) hx hb d_Te_hasMore_22 (by decide) ?_
    refine eqi (y := bI false) (by decide) ?_
    exact eRz hx hb hr hlocks (bI_narrow _) d_Te_hasMore_23 (bI_zero (by first | omega | (intro q; rw [g4] at q; cases q.1)))
  · refine lv_aload_n hx hb d_Te_hasMore_7 rfl (lv_at hl 0 rfl) ?_
    refine va_get (D := (dC, dI)) (ci := 2) (v := .int (nI r0.1)) (C := R_Te) (T := F_Te) (N := 4) hx hb ht in_Te hown hK hP 0 rfl rfl 2 (by decide) (ht _ k_64) (fun _ h9 => h9) rfl d_Te_hasMore_8 ?_
    refine lv_aload_n hx hb d_Te_hasMore_11 rfl (lv_at hl 0 rfl) ?_
    refine va_get (D := (dC, dI)) (ci := 2) (v := .int (nI s0.2)) (C := R_Te) (T := F_Te) (N := 4) hx hb ht in_Te hown hK hP 0 rfl rfl 1 (by decide) (ht _ k_63) (fun _ h9 => h9) rfl d_Te_hasMore_12 ?_
    refine z_icmp_ge (tgt := 22) hx hb d_Te_hasMore_15 (tI_n (by omega)) (tI_n (by omega)) (by decide) (fun g15 => ?_) (fun g15 => ?_)
    · refine lv_iconst (v := nI 0) hx hb d_Te_hasMore_22 (by decide) ?_
      refine eqi (y := bI false) (by decide) ?_
      exact eRz hx hb hr hlocks (bI_narrow _) d_Te_hasMore_23 (bI_zero (by first | omega | (intro q; rw [g4] at q; cases q.1)))
    · refine lv_iconst (v := nI 1) hx hb d_Te_hasMore_18 (by decide) ?_
      refine lv_goto (tgt := 23) hx hb d_Te_hasMore_19 (by decide) ?_
      refine eqi (y := bI true) (by decide) ?_
      exact eRz hx hb hr hlocks (bI_narrow _) d_Te_hasMore_23 (bI_one ⟨g4, by omega⟩)

set_option maxHeartbeats 4000000 in
set_option maxRecDepth 100000 in
theorem c_Te_take (l : Launch) (dC : Nat → ClassId) (dI : Nat → Nat → Nat) (z : zT) (sz : Nat) (h : Nat) (q : Nat) (cc : ClassId) (s0 : txT) (r0 : rdT) (v : Nat) (hs : s0.2 ≤ 2400) (hr1 : r0.1 ≤ s0.2) (ht8 : ∀ i, s0.1 i < 256) (hv : v < 65536) : MU l y_Te_take b_Te_take 2 none 1 21 (dC, dI) z [.ref h, .int (nI v)] [(h, .inr (2, [.ref q, .int (nI s0.2), .int (nI r0.1), .int (bI r0.2)])), (q, .inl (cc, 2400, .inl (iN s0.1)))] [(cc, .char)] sz none [(h, .inr (2, [.ref q, .int (nI s0.2), .int (nI ((tk s0.1 s0.2 v r0).1)), .int (bI ((tk s0.1 s0.2 v r0).2))])), (q, .inl (cc, 2400, .inl (iN s0.1)))] := by
  have hat := atZ_in (n := s0.2) (x := (r0.1 : Int)) ht8
  refine metU (by decide) (Nat.le_of_ble_eq_true rfl) ?_
  intro p e s m below meth c ls A hx hb hr hlocks hml hown ht hl hP hK hSS hD hS hA
  have hl : lv_has ls 2 [(0, .ref h), (1, .int (nI v))] := hl
  refine lv_aload_n hx hb d_Te_take_0 rfl (lv_at hl 0 rfl) ?_
  refine lv_aload_n hx hb d_Te_take_1 rfl (lv_at hl 0 rfl) ?_
  refine va_get (D := (dC, dI)) (ci := 2) (v := .int (nI r0.1)) (C := R_Te) (T := F_Te) (N := 4) hx hb ht in_Te hown hK hP 0 rfl rfl 2 (by decide) (ht _ k_64) (fun _ h9 => h9) rfl d_Te_take_2 ?_
  refine rV (As := [.int (nI r0.1)]) (rest := []) hx hb hml hown ht (c_Te_at l dC dI z h q cc s0 r0.1 r0.2 (nI r0.1) ((r0.1 : Nat) : Int) (by first | assumption | omega) (tI_n (by omega))) yv_Te_at k_416 (Nat.le_of_ble_eq_true rfl) (Nat.le_of_ble_eq_true rfl) hP hK hSS hS [0, 1] [0] rfl rfl 0 2 rfl rfl rfl hl rfl rfl (Nat.le_of_ble_eq_true rfl) (Nat.zero_le _) (Nat.zero_le _) d_Te_take_5 ?_
  refine lv_iload_n hx hb d_Te_take_8 rfl (lv_at hl 1 rfl) ?_
  refine z_icmp_ne (tgt := 25) hx hb d_Te_take_9 (iI_toInt (by omega) (by omega)) (tI_n (by omega)) (by decide) (fun g9 => ?_) (fun g9 => ?_)
  · refine lv_aload_n hx hb d_Te_take_25 rfl (lv_at hl 0 rfl) ?_
    refine lv_iconst (v := nI 0) hx hb d_Te_take_26 (by decide) ?_
    refine eqi (y := bI false) (by decide) ?_
    refine va_put (D := (dC, dI)) (ci := 2) (v := .int (bI false)) (ty := .boolean) (C := R_Te) (T := F_Te) (N := 4) hx hb ht in_Te t_Te t_Te_ok n_Te hown hK hP hD hS 0 rfl rfl 3 (by decide) (ht _ k_65) (fun _ h9 => h9) rfl (by decide +kernel) (bI_narrow _) (bI_fits _) (Nat.le_of_ble_eq_true rfl) d_Te_take_27 (fun H locs hP hD hS => ?_)
    have hP : va_P (dC, dI) classes [(h, .inr (2, [.ref q, .int (nI s0.2), .int (nI r0.1), .int (bI false)])), (q, .inl (cc, 2400, .inl (iN s0.1)))] H := hP
    have hD : va_D A [(h, .inr (2, [.ref q, .int (nI s0.2), .int (nI r0.1), .int (bI false)])), (q, .inl (cc, 2400, .inl (iN s0.1)))] := hD
    rw [tk, if_neg g9]
    exact eUv hx hb hr hlocks hP hD hS [0, 1] rfl rfl (by decide) d_Te_take_30
  · refine lv_aload_n hx hb d_Te_take_12 rfl (lv_at hl 0 rfl) ?_
    refine lv_dup hx hb d_Te_take_13 rfl ?_
    refine va_get (D := (dC, dI)) (ci := 2) (v := .int (nI r0.1)) (C := R_Te) (T := F_Te) (N := 4) hx hb ht in_Te hown hK hP 0 rfl rfl 2 (by decide) (ht _ k_64) (fun _ h9 => h9) rfl d_Te_take_14 ?_
    refine lv_iconst (v := nI 1) hx hb d_Te_take_17 (by decide) ?_
    refine nAdd hx hb d_Te_take_18 ?_
    refine va_put (D := (dC, dI)) (ci := 2) (v := .int (nI (r0.1 + 1))) (ty := .int) (C := R_Te) (T := F_Te) (N := 4) hx hb ht in_Te t_Te t_Te_ok n_Te hown hK hP hD hS 0 rfl rfl 2 (by decide) (ht _ k_64) (fun _ h9 => h9) rfl (by decide +kernel) rfl rfl (Nat.le_of_ble_eq_true rfl) d_Te_take_19 (fun H locs hP hD hS => ?_)
    have hP : va_P (dC, dI) classes [(h, .inr (2, [.ref q, .int (nI s0.2), .int (nI (r0.1 + 1)), .int (bI r0.2)])), (q, .inl (cc, 2400, .inl (iN s0.1)))] H := hP
    have hD : va_D A [(h, .inr (2, [.ref q, .int (nI s0.2), .int (nI (r0.1 + 1)), .int (bI r0.2)])), (q, .inl (cc, 2400, .inl (iN s0.1)))] := hD
    refine lv_goto (tgt := 30) hx hb d_Te_take_22 (by decide) ?_
    rw [tk, if_pos g9]
    exact eUv hx hb hr hlocks hP hD hS [0, 1] rfl rfl (by decide) d_Te_take_30

set_option maxHeartbeats 4000000 in
set_option maxRecDepth 100000 in
theorem c_Te_takeComma (l : Launch) (dC : Nat → ClassId) (dI : Nat → Nat → Nat) (z : zT) (sz : Nat) (h : Nat) (q : Nat) (cc : ClassId) (s0 : txT) (r0 : rdT) (k : Nat) (hs : s0.2 ≤ 2400) (hr1 : r0.1 ≤ s0.2) (ht8 : ∀ i, s0.1 i < 256) (hk : k < 100) : MU l y_Te_takeComma b_Te_takeComma 2 none 2 42 (dC, dI) z [.ref h, .int (nI k)] [(h, .inr (2, [.ref q, .int (nI s0.2), .int (nI r0.1), .int (bI r0.2)])), (q, .inl (cc, 2400, .inl (iN s0.1)))] [(cc, .char)] sz none [(h, .inr (2, [.ref q, .int (nI s0.2), .int (nI ((tkC s0.1 s0.2 k r0).1)), .int (bI ((tkC s0.1 s0.2 k r0).2))])), (q, .inl (cc, 2400, .inl (iN s0.1)))] := by
  refine metU (by decide) (Nat.le_of_ble_eq_true rfl) ?_
  intro p e s m below meth c ls A hx hb hr hlocks hml hown ht hl hP hK hSS hD hS hA
  have hl : lv_has ls 2 [(0, .ref h), (1, .int (nI k))] := hl
  refine lv_iload_n hx hb d_Te_takeComma_0 rfl (lv_at hl 1 rfl) ?_
  refine z_if_le (tgt := 10) hx hb d_Te_takeComma_1 (tI_n (by omega)) (by decide) (fun g1 => ?_) (fun g1 => ?_)
  · rw [tkC, if_neg (by omega)]
    exact eUv hx hb hr hlocks hP hD hS [0, 1] rfl rfl (by decide) d_Te_takeComma_10
  · refine lv_aload_n hx hb d_Te_takeComma_4 rfl (lv_at hl 0 rfl) ?_
    refine lv_bipush (v := nI 44) hx hb d_Te_takeComma_5 (by decide) ?_
    refine uV (As := [.int (nI 44)]) (rest := []) (wr := []) hx hb hml hown ht (c_Te_take l dC dI z _ h q cc s0 r0 44 (by first | assumption | omega) (by first | assumption | omega) (by first | assumption | omega) (by first | assumption | omega)) yv_Te_take k_425 (Nat.le_of_ble_eq_true rfl) (Nat.le_of_ble_eq_true rfl) hP hK hSS hD hS hA [0, 1] [] [0] rfl rfl (by decide) rfl (by decide) (by decide) rfl 0 2 rfl rfl rfl hl rfl rfl (Nat.le_of_ble_eq_true rfl) (Nat.zero_le _) (Nat.zero_le _) d_Te_takeComma_7 (fun H locs hP hD hS => ?_)
    have hP : va_P (dC, dI) classes [(h, .inr (2, [.ref q, .int (nI s0.2), .int (nI ((tk s0.1 s0.2 44 r0).1)), .int (bI ((tk s0.1 s0.2 44 r0).2))])), (q, .inl (cc, 2400, .inl (iN s0.1)))] H := hP
    have hD : va_D A [(h, .inr (2, [.ref q, .int (nI s0.2), .int (nI ((tk s0.1 s0.2 44 r0).1)), .int (bI ((tk s0.1 s0.2 44 r0).2))])), (q, .inl (cc, 2400, .inl (iN s0.1)))] := hD
    refine stk (st2 := []) rfl ?_
    rw [tkC, if_pos (by omega)]
    exact eUv hx hb hr hlocks hP hD hS [0, 1] rfl rfl (by decide) d_Te_takeComma_10

set_option maxHeartbeats 4000000 in
set_option maxRecDepth 100000 in
theorem c_Te_goesOnWith (l : Launch) (dC : Nat → ClassId) (dI : Nat → Nat → Nat) (z : zT) (h : Nat) (q : Nat) (cc : ClassId) (s0 : txT) (r0 : rdT) (i : Nat) (hs : s0.2 ≤ 2400) (hr1 : r0.1 ≤ s0.2) (ht8 : ∀ i, s0.1 i < 256) (hi : i < 14) : MR l y_Te_goesOnWith b_Te_goesOnWith 3 (some .boolean) 4 85 (dC, dI) z [.ref h, .ref (z.2.2.2.1 i)] [(h, .inr (2, [.ref q, .int (nI s0.2), .int (nI r0.1), .int (bI r0.2)])), (q, .inl (cc, 2400, .inl (iN s0.1)))] [(cc, .char)] (.int (bI (mL s0.1 s0.2 r0.1 (opL i)))) := by
  have hop := op_bd i hi
  refine metR (by decide) (Nat.le_of_ble_eq_true rfl) ?_
  intro p e s m below meth c ls hx hb hr hlocks hml hown ht hl hP hK hSS
  have hl : lv_has ls 3 [(0, .ref h), (1, .ref (z.2.2.2.1 i))] := hl
  have hS : va_S (fun _ => False) s.heap s.heap [] := va_S.rf
  refine lv_iconst (v := nI 0) hx hb d_Te_goesOnWith_0 (by decide) ?_
  refine lv_istore_n (lv' := [(2, .int (nI 0)), (0, .ref h), (1, .ref (z.2.2.2.1 i))]) hx hb d_Te_goesOnWith_1 rfl hl (Nat.le_of_ble_eq_true rfl) rfl (fun ls hl => ?_)
  have loop2 : ∀ (j : Nat) (k : Nat) (ls : Array Slot), (k + j = (opL i).length) → (mL s0.1 s0.2 r0.1 (opL i) = mL s0.1 s0.2 (r0.1 + k) ((opL i).drop k)) → lv_has ls 3 [(2, .int (nI k)), (0, .ref h), (1, .ref (z.2.2.2.1 i))] → W p l e (rmq 4 85) s m [.ref h, .ref (z.2.2.2.1 i)].toArray below meth c s.heap [] 0 0 (MQ below (k2_QcV (.int (bI (mL s0.1 s0.2 r0.1 (opL i))))) [.ref h, .ref (z.2.2.2.1 i)].toArray s 0 0 (fun _ => False)) (F0 m 2 ls []) := by
    intro j
    induction j with
    | zero =>
      intro k ls hk hR hl
      rw [List.drop_eq_nil_of_le (by omega)] at hR
      refine lv_iload_n hx hb d_Te_goesOnWith_2 rfl (lv_at hl 0 rfl) ?_
      refine lv_aload_n hx hb d_Te_goesOnWith_3 rfl (lv_at hl 2 rfl) ?_
      refine rVK (As := []) (rest := [.int (nI k)]) hx hb hml hown ht (c_St_length l dC dI z i (by first | assumption | omega)) yv_St_length k_285 (Nat.le_of_ble_eq_true rfl) (Nat.le_of_ble_eq_true rfl) hP hK hSS hS [] [] rfl rfl (vk_recv hSS.2.2.2.2.2.1 hi hS) hl rfl rfl (Nat.le_of_ble_eq_true rfl) (Nat.zero_le _) (Nat.zero_le _) d_Te_goesOnWith_4 ?_
      refine z_icmp_ge (tgt := 36) hx hb d_Te_goesOnWith_7 (tI_n (by omega)) (tI_n (by omega)) (by decide) (fun g7 => ?_) (fun g7 => ?_)
      · refine lv_iconst (v := nI 1) hx hb d_Te_goesOnWith_36 (by decide) ?_
        refine eqi (y := bI true) (by decide) ?_
        exact eRz hx hb hr hlocks (bI_narrow _) d_Te_goesOnWith_37 (by rw [hR]; rfl)
      · exfalso; omega
    | succ j ih =>
      intro k ls hk hR hl
      have hch := hop.2.2 k (by omega)
      have hat := atZ_in (n := s0.2) (x := ((r0.1 + k : Nat) : Int)) ht8
      refine lv_iload_n hx hb d_Te_goesOnWith_2 rfl (lv_at hl 0 rfl) ?_
      refine lv_aload_n hx hb d_Te_goesOnWith_3 rfl (lv_at hl 2 rfl) ?_
      refine rVK (As := []) (rest := [.int (nI k)]) hx hb hml hown ht (c_St_length l dC dI z i (by first | assumption | omega)) yv_St_length k_285 (Nat.le_of_ble_eq_true rfl) (Nat.le_of_ble_eq_true rfl) hP hK hSS hS [] [] rfl rfl (vk_recv hSS.2.2.2.2.2.1 hi hS) hl rfl rfl (Nat.le_of_ble_eq_true rfl) (Nat.zero_le _) (Nat.zero_le _) d_Te_goesOnWith_4 ?_
      refine z_icmp_ge (tgt := 36) hx hb d_Te_goesOnWith_7 (tI_n (by omega)) (tI_n (by omega)) (by decide) (fun g7 => ?_) (fun g7 => ?_)
      · exfalso; omega
      · refine lv_aload_n hx hb d_Te_goesOnWith_10 rfl (lv_at hl 1 rfl) ?_
        refine lv_aload_n hx hb d_Te_goesOnWith_11 rfl (lv_at hl 1 rfl) ?_
        refine va_get (D := (dC, dI)) (ci := 2) (v := .int (nI r0.1)) (C := R_Te) (T := F_Te) (N := 4) hx hb ht in_Te hown hK hP 0 rfl rfl 2 (by decide) (ht _ k_64) (fun _ h9 => h9) rfl d_Te_goesOnWith_12 ?_
        refine lv_iload_n hx hb d_Te_goesOnWith_15 rfl (lv_at hl 0 rfl) ?_
        refine nAdd hx hb d_Te_goesOnWith_16 ?_
        refine rV (As := [.int (nI (r0.1 + k))]) (rest := []) hx hb hml hown ht (c_Te_at l dC dI z h q cc s0 r0.1 r0.2 (nI (r0.1 + k)) ((r0.1 + k : Nat) : Int) (by first | assumption | omega) (tI_n (by omega))) yv_Te_at k_416 (Nat.le_of_ble_eq_true rfl) (Nat.le_of_ble_eq_true rfl) hP hK hSS hS [0, 1] [0] rfl rfl 0 2 rfl rfl rfl hl rfl rfl (Nat.le_of_ble_eq_true rfl) (Nat.zero_le _) (Nat.zero_le _) d_Te_goesOnWith_17 ?_
        refine lv_aload_n hx hb d_Te_goesOnWith_20 rfl (lv_at hl 2 rfl) ?_
        refine lv_iload_n hx hb d_Te_goesOnWith_21 rfl (lv_at hl 0 rfl) ?_
        refine rVK (As := [.int (nI k)]) (rest := [.int (iI (atZ s0.1 s0.2 ((r0.1 + k : Nat) : Int)))]) hx hb hml hown ht (c_St_charAt l dC dI z i k (by first | assumption | omega) (by omega)) yv_St_charAt k_295 (Nat.le_of_ble_eq_true rfl) (Nat.le_of_ble_eq_true rfl) hP hK hSS hS [] [] rfl rfl (vk_recv hSS.2.2.2.2.2.1 hi hS) hl rfl rfl (Nat.le_of_ble_eq_true rfl) (Nat.zero_le _) (Nat.zero_le _) d_Te_goesOnWith_22 ?_
        refine z_icmp_eq (tgt := 30) hx hb d_Te_goesOnWith_25 (iI_toInt (by omega) (by omega)) (tI_n (by omega)) (by decide) (fun g25 => ?_) (fun g25 => ?_)
        · refine lv_iinc (k := 0) (v := nI (k + 1)) (lv' := [(2, .int (nI (k + 1))), (0, .ref h), (1, .ref (z.2.2.2.1 i))]) hx hb d_Te_goesOnWith_30 hl rfl (nI_inc1 _) (Nat.le_of_ble_eq_true rfl) rfl (fun ls hl => ?_)
          refine lv_goto (tgt := 2) hx hb d_Te_goesOnWith_33 (by decide) ?_
          exact ih (k + 1) _ (by omega) (by rw [hR, drop_c (by omega), mL, if_pos g25]; rfl) (lv_sub hl [0, 1, 2] rfl)
        · refine lv_iconst (v := nI 0) hx hb d_Te_goesOnWith_28 (by decide) ?_
          refine eqi (y := bI false) (by decide) ?_
          exact eRz hx hb hr hlocks (bI_narrow _) d_Te_goesOnWith_29 (by rw [hR, drop_c (by omega), mL, if_neg g25])
  exact loop2 ((opL i).length) 0 _ (Nat.zero_add _) (rfl) (lv_sub hl [0, 1, 2] rfl)

set_option maxHeartbeats 4000000 in
set_option maxRecDepth 100000 in
theorem c_Te_takeKind (l : Launch) (dC : Nat → ClassId) (dI : Nat → Nat → Nat) (z : zT) (sz : Nat) (h : Nat) (q : Nat) (cc : ClassId) (s0 : txT) (r0 : rdT) (hs : s0.2 ≤ 2400) (hr1 : r0.1 ≤ s0.2) (ht8 : ∀ i, s0.1 i < 256) : MU l y_Te_takeKind b_Te_takeKind 3 (some .int) 5 107 (dC, dI) z [.ref h] [(h, .inr (2, [.ref q, .int (nI s0.2), .int (nI r0.1), .int (bI r0.2)])), (q, .inl (cc, 2400, .inl (iN s0.1)))] [(cc, .char)] sz (some (.int (oI (tkK1 s0.1 s0.2 r0)))) [(h, .inr (2, [.ref q, .int (nI s0.2), .int (nI ((tkK2 s0.1 s0.2 r0).1)), .int (bI ((tkK2 s0.1 s0.2 r0).2))])), (q, .inl (cc, 2400, .inl (iN s0.1)))] := by
  refine metU (by decide) (Nat.le_of_ble_eq_true rfl) ?_
  intro p e s m below meth c ls A hx hb hr hlocks hml hown ht hl hP hK hSS hD hS hA
  have hl : lv_has ls 3 [(0, .ref h)] := hl
  refine lv_iconst (v := nI 0) hx hb d_Te_takeKind_0 (by decide) ?_
  refine lv_istore_n (lv' := [(1, .int (nI 0)), (0, .ref h)]) hx hb d_Te_takeKind_1 rfl hl (Nat.le_of_ble_eq_true rfl) rfl (fun ls hl => ?_)
  have loop2 : ∀ (j : Nat) (k : Nat) (ls : Array Slot) (H : Heap) (locs : List Loc), (k + j = 14) → (tkK1 s0.1 s0.2 r0 = tkKF s0.1 s0.2 r0.1 j k) → lv_has ls 3 [(1, .int (nI k)), (0, .ref h)] → va_P (dC, dI) classes [(h, .inr (2, [.ref q, .int (nI s0.2), .int (nI r0.1), .int (bI r0.2)])), (q, .inl (cc, 2400, .inl (iN s0.1)))] H → va_D A [(h, .inr (2, [.ref q, .int (nI s0.2), .int (nI r0.1), .int (bI r0.2)])), (q, .inl (cc, 2400, .inl (iN s0.1)))] → va_S A s.heap H locs → W p l e (rmq 5 107) s m [.ref h].toArray below meth c H locs 0 0 (MQ below (qcU (some (.int (oI (tkK1 s0.1 s0.2 r0)))) (dC, dI) [(h, .inr (2, [.ref q, .int (nI s0.2), .int (nI ((tkK2 s0.1 s0.2 r0).1)), .int (bI ((tkK2 s0.1 s0.2 r0).2))])), (q, .inl (cc, 2400, .inl (iN s0.1)))] A) [.ref h].toArray s 0 0 A) (F0 m 2 ls []) := by
    intro j
    induction j with
    | zero =>
      intro k ls H locs hk hR hl hP hD hS
      refine lv_iload_n hx hb d_Te_takeKind_2 rfl (lv_at hl 0 rfl) ?_
      refine lv_bipush (v := nI 14) hx hb d_Te_takeKind_3 (by decide) ?_
      refine z_icmp_ge (tgt := 42) hx hb d_Te_takeKind_5 (tI_n (by omega)) (tI_n (by omega)) (by decide) (fun g5 => ?_) (fun g5 => ?_)
      · refine lv_aload_n hx hb d_Te_takeKind_42 rfl (lv_at hl 1 rfl) ?_
        refine lv_iconst (v := nI 0) hx hb d_Te_takeKind_43 (by decide) ?_
        refine eqi (y := bI false) (by decide) ?_
        refine va_put (D := (dC, dI)) (ci := 2) (v := .int (bI false)) (ty := .boolean) (C := R_Te) (T := F_Te) (N := 4) hx hb ht in_Te t_Te t_Te_ok n_Te hown hK hP hD hS 0 rfl rfl 3 (by decide) (ht _ k_65) (fun _ h9 => h9) rfl (by decide +kernel) (bI_narrow _) (bI_fits _) (Nat.le_of_ble_eq_true rfl) d_Te_takeKind_44 (fun H locs hP hD hS => ?_)
        have hP : va_P (dC, dI) classes [(h, .inr (2, [.ref q, .int (nI s0.2), .int (nI r0.1), .int (bI false)])), (q, .inl (cc, 2400, .inl (iN s0.1)))] H := hP
        have hD : va_D A [(h, .inr (2, [.ref q, .int (nI s0.2), .int (nI r0.1), .int (bI false)])), (q, .inl (cc, 2400, .inl (iN s0.1)))] := hD
        refine lv_iconst (v := iI (-1)) hx hb d_Te_takeKind_47 (by decide) ?_
        rw [tkK_n hR]
        exact eUi hx hb hr hlocks hP hD hS [0, 1] rfl rfl (by decide) d_Te_takeKind_48 (by rw [hR]; rfl)
      · exfalso; omega
    | succ j ih =>
      intro k ls H locs hk hR hl hP hD hS
      have hop := op_bd k (by omega)
      refine lv_iload_n hx hb d_Te_takeKind_2 rfl (lv_at hl 0 rfl) ?_
      refine lv_bipush (v := nI 14) hx hb d_Te_takeKind_3 (by decide) ?_
      refine z_icmp_ge (tgt := 42) hx hb d_Te_takeKind_5 (tI_n (by omega)) (tI_n (by omega)) (by decide) (fun g5 => ?_) (fun g5 => ?_)
      · exfalso; omega
      · refine lv_iload_n hx hb d_Te_takeKind_8 rfl (lv_at hl 0 rfl) ?_
        refine rS (As := [.int (nI k)]) (rest := []) hx hb hml hown ht (c_Ki_opening l dC dI z k (by first | assumption | omega)) ys_Ki_opening k_268 (Nat.le_of_ble_eq_true rfl) (Nat.le_of_ble_eq_true rfl) hP hK hSS hS [] [] rfl rfl hl rfl rfl (Nat.le_of_ble_eq_true rfl) (Nat.zero_le _) (Nat.zero_le _) d_Te_takeKind_9 ?_
        refine lv_astore_n (lv' := [(2, .ref (z.2.2.2.1 k)), (1, .int (nI k)), (0, .ref h)]) hx hb d_Te_takeKind_12 rfl hl (Nat.le_of_ble_eq_true rfl) rfl (fun ls hl => ?_)
        refine lv_aload_n hx hb d_Te_takeKind_13 rfl (lv_at hl 2 rfl) ?_
        refine lv_aload_n hx hb d_Te_takeKind_14 rfl (lv_at hl 0 rfl) ?_
        refine rV (As := [.ref (z.2.2.2.1 k)]) (rest := []) hx hb hml hown ht (c_Te_goesOnWith l dC dI z h q cc s0 r0 k (by first | assumption | omega) (by first | assumption | omega) (by first | assumption | omega) (by first | assumption | omega)) yv_Te_goesOnWith k_412 (Nat.le_of_ble_eq_true rfl) (Nat.le_of_ble_eq_true rfl) hP hK hSS hS [0, 1] [0] rfl rfl 0 2 rfl rfl rfl hl rfl rfl (Nat.le_of_ble_eq_true rfl) (Nat.zero_le _) (Nat.zero_le _) d_Te_takeKind_15 ?_
        refine b_if_eq (tgt := 36) hx hb d_Te_takeKind_18 (by decide) (fun g18 => ?_) (fun g18 => ?_)
        · refine lv_iinc (k := 1) (v := nI (k + 1)) (lv' := [(1, .int (nI (k + 1))), (2, .ref (z.2.2.2.1 k)), (0, .ref h)]) hx hb d_Te_takeKind_36 hl rfl (nI_inc1 _) (Nat.le_of_ble_eq_true rfl) rfl (fun ls hl => ?_)
          refine lv_goto (tgt := 2) hx hb d_Te_takeKind_39 (by decide) ?_
          exact ih (k + 1) _ _ _ (by omega) (by rw [hR, tkKF, if_neg (by rw [g18]; decide)]) (lv_sub hl [0, 2] rfl) (hP.sub [0, 1] rfl) (hD.sub [0, 1] (by decide) rfl) hS
        · refine lv_aload_n hx hb d_Te_takeKind_21 rfl (lv_at hl 2 rfl) ?_
          refine lv_dup hx hb d_Te_takeKind_22 rfl ?_
          refine va_get (D := (dC, dI)) (ci := 2) (v := .int (nI r0.1)) (C := R_Te) (T := F_Te) (N := 4) hx hb ht in_Te hown hK hP 0 rfl rfl 2 (by decide) (ht _ k_64) (fun _ h9 => h9) rfl d_Te_takeKind_23 ?_
          refine lv_aload_n hx hb d_Te_takeKind_26 rfl (lv_at hl 0 rfl) ?_
          refine rVK (As := []) (rest := [.int (nI r0.1), .ref h]) hx hb hml hown ht (c_St_length l dC dI z k (by omega)) yv_St_length k_285 (Nat.le_of_ble_eq_true rfl) (Nat.le_of_ble_eq_true rfl) hP hK hSS hS [] [] rfl rfl (vk_recv hSS.2.2.2.2.2.1 (by omega) hS) hl rfl rfl (Nat.le_of_ble_eq_true rfl) (Nat.zero_le _) (Nat.zero_le _) d_Te_takeKind_27 ?_
          refine nAdd hx hb d_Te_takeKind_30 ?_
          refine va_put (D := (dC, dI)) (ci := 2) (v := .int (nI (r0.1 + ((opL k).length)))) (ty := .int) (C := R_Te) (T := F_Te) (N := 4) hx hb ht in_Te t_Te t_Te_ok n_Te hown hK hP hD hS 0 rfl rfl 2 (by decide) (ht _ k_64) (fun _ h9 => h9) rfl (by decide +kernel) rfl rfl (Nat.le_of_ble_eq_true rfl) d_Te_takeKind_31 (fun H locs hP hD hS => ?_)
          have hP : va_P (dC, dI) classes [(h, .inr (2, [.ref q, .int (nI s0.2), .int (nI (r0.1 + ((opL k).length))), .int (bI r0.2)])), (q, .inl (cc, 2400, .inl (iN s0.1)))] H := hP
          have hD : va_D A [(h, .inr (2, [.ref q, .int (nI s0.2), .int (nI (r0.1 + ((opL k).length))), .int (bI r0.2)])), (q, .inl (cc, 2400, .inl (iN s0.1)))] := hD
          refine lv_iload_n hx hb d_Te_takeKind_34 rfl (lv_at hl 1 rfl) ?_
          have hRk : tkK1 s0.1 s0.2 r0 = some k := by rw [hR, tkKF, if_pos g18]
          rw [tkK_y hRk]
          exact eUi hx hb hr hlocks hP hD hS [0, 1] rfl rfl (by decide) d_Te_takeKind_35 (by rw [hRk]; rfl)
  exact loop2 14 0 _ _ _ (rfl) (rfl) (lv_sub hl [0, 1] rfl) (hP.sub [0, 1] rfl) (hD.sub [0, 1] (by decide) rfl) hS

set_option maxHeartbeats 4000000 in
set_option maxRecDepth 100000 in
theorem c_Te_takeRegister (l : Launch) (dC : Nat → ClassId) (dI : Nat → Nat → Nat) (z : zT) (sz : Nat) (h : Nat) (q : Nat) (cc : ClassId) (s0 : txT) (r0 : rdT) (hs : s0.2 ≤ 2400) (hr1 : r0.1 ≤ s0.2) (ht8 : ∀ i, s0.1 i < 256) : MU l y_Te_takeRegister b_Te_takeRegister 2 (some .int) 2 42 (dC, dI) z [.ref h] [(h, .inr (2, [.ref q, .int (nI s0.2), .int (nI r0.1), .int (bI r0.2)])), (q, .inl (cc, 2400, .inl (iN s0.1)))] [(cc, .char)] sz (some (.int (nI (tkR1 s0.1 s0.2 r0)))) [(h, .inr (2, [.ref q, .int (nI s0.2), .int (nI ((tkR2 s0.1 s0.2 r0).1)), .int (bI ((tkR2 s0.1 s0.2 r0).2))])), (q, .inl (cc, 2400, .inl (iN s0.1)))] := by
  have htk := tk_le (t := s0.1) (c := 114) hr1
  have hat := atZ_in (n := s0.2) (x := ((tk s0.1 s0.2 114 r0).1 : Int)) ht8
  refine metU (by decide) (Nat.le_of_ble_eq_true rfl) ?_
  intro p e s m below meth c ls A hx hb hr hlocks hml hown ht hl hP hK hSS hD hS hA
  have hl : lv_has ls 2 [(0, .ref h)] := hl
  refine lv_aload_n hx hb d_Te_takeRegister_0 rfl (lv_at hl 0 rfl) ?_
  refine lv_bipush (v := nI 114) hx hb d_Te_takeRegister_1 (by decide) ?_
  refine uV (As := [.int (nI 114)]) (rest := []) (wr := []) hx hb hml hown ht (c_Te_take l dC dI z _ h q cc s0 r0 114 (by first | assumption | omega) (by first | assumption | omega) (by first | assumption | omega) (by first | assumption | omega)) yv_Te_take k_425 (Nat.le_of_ble_eq_true rfl) (Nat.le_of_ble_eq_true rfl) hP hK hSS hD hS hA [0, 1] [] [0] rfl rfl (by decide) rfl (by decide) (by decide) rfl 0 2 rfl rfl rfl hl rfl rfl (Nat.le_of_ble_eq_true rfl) (Nat.zero_le _) (Nat.zero_le _) d_Te_takeRegister_3 (fun H locs hP hD hS => ?_)
  have hP : va_P (dC, dI) classes [(h, .inr (2, [.ref q, .int (nI s0.2), .int (nI ((tk s0.1 s0.2 114 r0).1)), .int (bI ((tk s0.1 s0.2 114 r0).2))])), (q, .inl (cc, 2400, .inl (iN s0.1)))] H := hP
  have hD : va_D A [(h, .inr (2, [.ref q, .int (nI s0.2), .int (nI ((tk s0.1 s0.2 114 r0).1)), .int (bI ((tk s0.1 s0.2 114 r0).2))])), (q, .inl (cc, 2400, .inl (iN s0.1)))] := hD
  refine stk (st2 := []) rfl ?_
  refine lv_aload_n hx hb d_Te_takeRegister_6 rfl (lv_at hl 0 rfl) ?_
  refine lv_aload_n hx hb d_Te_takeRegister_7 rfl (lv_at hl 0 rfl) ?_
  refine va_get (D := (dC, dI)) (ci := 2) (v := .int (nI ((tk s0.1 s0.2 114 r0).1))) (C := R_Te) (T := F_Te) (N := 4) hx hb ht in_Te hown hK hP 0 rfl rfl 2 (by decide) (ht _ k_64) (fun _ h9 => h9) rfl d_Te_takeRegister_8 ?_
  refine rV (As := [.int (nI ((tk s0.1 s0.2 114 r0).1))]) (rest := []) hx hb hml hown ht (c_Te_at l dC dI z h q cc s0 ((tk s0.1 s0.2 114 r0).1) ((tk s0.1 s0.2 114 r0).2) (nI ((tk s0.1 s0.2 114 r0).1)) (((tk s0.1 s0.2 114 r0).1 : Nat) : Int) (by first | assumption | omega) (tI_n (by omega))) yv_Te_at k_416 (Nat.le_of_ble_eq_true rfl) (Nat.le_of_ble_eq_true rfl) hP hK hSS hS [0, 1] [0] rfl rfl 0 2 rfl rfl rfl hl rfl rfl (Nat.le_of_ble_eq_true rfl) (Nat.zero_le _) (Nat.zero_le _) d_Te_takeRegister_11 ?_
  refine lv_bipush (v := nI 48) hx hb d_Te_takeRegister_14 (by decide) ?_
  refine zSub hx hb d_Te_takeRegister_16 rfl (nI_iI _) ?_
  refine lv_istore_n (lv' := [(1, .int (iI ((atZ s0.1 s0.2 (((tk s0.1 s0.2 114 r0).1 : Nat) : Int)) - ((48 : Nat) : Int)))), (0, .ref h)]) hx hb d_Te_takeRegister_17 rfl hl (Nat.le_of_ble_eq_true rfl) rfl (fun ls hl => ?_)
  refine lv_iload_n hx hb d_Te_takeRegister_18 rfl (lv_at hl 0 rfl) ?_
  refine z_if_lt (tgt := 27) hx hb d_Te_takeRegister_19 (iI_toInt (by omega) (by omega)) (by decide) (fun g19 => ?_) (fun g19 => ?_)
  · refine lv_aload_n hx hb d_Te_takeRegister_27 rfl (lv_at hl 1 rfl) ?_
    refine lv_iconst (v := nI 0) hx hb d_Te_takeRegister_28 (by decide) ?_
    refine eqi (y := bI false) (by decide) ?_
    refine va_put (D := (dC, dI)) (ci := 2) (v := .int (bI false)) (ty := .boolean) (C := R_Te) (T := F_Te) (N := 4) hx hb ht in_Te t_Te t_Te_ok n_Te hown hK hP hD hS 0 rfl rfl 3 (by decide) (ht _ k_65) (fun _ h9 => h9) rfl (by decide +kernel) (bI_narrow _) (bI_fits _) (Nat.le_of_ble_eq_true rfl) d_Te_takeRegister_29 (fun H locs hP hD hS => ?_)
    have hP : va_P (dC, dI) classes [(h, .inr (2, [.ref q, .int (nI s0.2), .int (nI ((tk s0.1 s0.2 114 r0).1)), .int (bI false)])), (q, .inl (cc, 2400, .inl (iN s0.1)))] H := hP
    have hD : va_D A [(h, .inr (2, [.ref q, .int (nI s0.2), .int (nI ((tk s0.1 s0.2 114 r0).1)), .int (bI false)])), (q, .inl (cc, 2400, .inl (iN s0.1)))] := hD
    refine lv_iconst (v := nI 0) hx hb d_Te_takeRegister_32 (by decide) ?_
    rw [tkR2, if_pos (by omega)]
    exact eUi hx hb hr hlocks hP hD hS [0, 1] rfl rfl (by decide) d_Te_takeRegister_33 (by rw [tkR1, if_pos (by omega)])
  · refine lv_iload_n hx hb d_Te_takeRegister_22 rfl (lv_at hl 0 rfl) ?_
    refine lv_iconst (v := nI 3) hx hb d_Te_takeRegister_23 (by decide) ?_
    refine z_icmp_le (tgt := 34) hx hb d_Te_takeRegister_24 (iI_toInt (by omega) (by omega)) (tI_n (by omega)) (by decide) (fun g24 => ?_) (fun g24 => ?_)
    · refine lv_aload_n hx hb d_Te_takeRegister_34 rfl (lv_at hl 1 rfl) ?_
      refine lv_dup hx hb d_Te_takeRegister_35 rfl ?_
      refine va_get (D := (dC, dI)) (ci := 2) (v := .int (nI ((tk s0.1 s0.2 114 r0).1))) (C := R_Te) (T := F_Te) (N := 4) hx hb ht in_Te hown hK hP 0 rfl rfl 2 (by decide) (ht _ k_64) (fun _ h9 => h9) rfl d_Te_takeRegister_36 ?_
      refine lv_iconst (v := nI 1) hx hb d_Te_takeRegister_39 (by decide) ?_
      refine nAdd hx hb d_Te_takeRegister_40 ?_
      refine va_put (D := (dC, dI)) (ci := 2) (v := .int (nI (((tk s0.1 s0.2 114 r0).1) + 1))) (ty := .int) (C := R_Te) (T := F_Te) (N := 4) hx hb ht in_Te t_Te t_Te_ok n_Te hown hK hP hD hS 0 rfl rfl 2 (by decide) (ht _ k_64) (fun _ h9 => h9) rfl (by decide +kernel) rfl rfl (Nat.le_of_ble_eq_true rfl) d_Te_takeRegister_41 (fun H locs hP hD hS => ?_)
      have hP : va_P (dC, dI) classes [(h, .inr (2, [.ref q, .int (nI s0.2), .int (nI (((tk s0.1 s0.2 114 r0).1) + 1)), .int (bI ((tk s0.1 s0.2 114 r0).2))])), (q, .inl (cc, 2400, .inl (iN s0.1)))] H := hP
      have hD : va_D A [(h, .inr (2, [.ref q, .int (nI s0.2), .int (nI (((tk s0.1 s0.2 114 r0).1) + 1)), .int (bI ((tk s0.1 s0.2 114 r0).2))])), (q, .inl (cc, 2400, .inl (iN s0.1)))] := hD
      refine lv_iload_n hx hb d_Te_takeRegister_44 rfl (lv_at hl 0 rfl) ?_
      rw [tkR2, if_neg (by omega)]
      exact eUi hx hb hr hlocks hP hD hS [0, 1] rfl rfl (by decide) d_Te_takeRegister_45 (by rw [tkR1, if_neg (by omega), nI_iI]; congr 1; omega)
    · refine lv_aload_n hx hb d_Te_takeRegister_27 rfl (lv_at hl 1 rfl) ?_
      refine lv_iconst (v := nI 0) hx hb d_Te_takeRegister_28 (by decide) ?_
      refine eqi (y := bI false) (by decide) ?_
      refine va_put (D := (dC, dI)) (ci := 2) (v := .int (bI false)) (ty := .boolean) (C := R_Te) (T := F_Te) (N := 4) hx hb ht in_Te t_Te t_Te_ok n_Te hown hK hP hD hS 0 rfl rfl 3 (by decide) (ht _ k_65) (fun _ h9 => h9) rfl (by decide +kernel) (bI_narrow _) (bI_fits _) (Nat.le_of_ble_eq_true rfl) d_Te_takeRegister_29 (fun H locs hP hD hS => ?_)
      have hP : va_P (dC, dI) classes [(h, .inr (2, [.ref q, .int (nI s0.2), .int (nI ((tk s0.1 s0.2 114 r0).1)), .int (bI false)])), (q, .inl (cc, 2400, .inl (iN s0.1)))] H := hP
      have hD : va_D A [(h, .inr (2, [.ref q, .int (nI s0.2), .int (nI ((tk s0.1 s0.2 114 r0).1)), .int (bI false)])), (q, .inl (cc, 2400, .inl (iN s0.1)))] := hD
      refine lv_iconst (v := nI 0) hx hb d_Te_takeRegister_32 (by decide) ?_
      rw [tkR2, if_pos (by omega)]
      exact eUi hx hb hr hlocks hP hD hS [0, 1] rfl rfl (by decide) d_Te_takeRegister_33 (by rw [tkR1, if_pos (by omega)])

set_option maxHeartbeats 4000000 in
set_option maxRecDepth 100000 in
theorem c_Te_isDigit (l : Launch) (dC : Nat → ClassId) (dI : Nat → Nat → Nat) (z : zT) (x : Int32) (y : Int) (hy : x.toInt = y) : MR l y_Te_isDigit b_Te_isDigit 1 (some .boolean) 0 0 (dC, dI) z [.int x] [] [] (.int (bI (decide (48 ≤ y ∧ y ≤ 57)))) := by
  refine metR (by decide) (Nat.le_of_ble_eq_true rfl) ?_
  intro p e s m below meth c ls hx hb hr hlocks hml hown ht hl hP hK hSS
  have hl : lv_has ls 1 [(0, .int x)] := hl
  have hS : va_S (fun _ => False) s.heap s.heap [] := va_S.rf
  refine lv_iload_n hx hb d_Te_isDigit_0 rfl (lv_at hl 0 rfl) ?_
  refine lv_bipush (v := nI 48) hx hb d_Te_isDigit_1 (by decide) ?_
  refine z_icmp_lt (tgt := 16) hx hb d_Te_isDigit_3 hy (tI_n (by omega)) (by decide) (fun g3 => ?_) (fun g3 => ?_)
  · refine lv_iconst (v := nI 0) hx hb d_Te_isDigit_16 (by decide) ?_
    refine eqi (y := bI false) (by decide) ?_
    exact eRz hx hb hr hlocks (bI_narrow _) d_Te_isDigit_17 (bI_zero (by omega))
  · refine lv_iload_n hx hb d_Te_isDigit_6 rfl (lv_at hl 0 rfl) ?_
    refine lv_bipush (v := nI 57) hx hb d_Te_isDigit_7 (by decide) ?_
    refine z_icmp_gt (tgt := 16) hx hb d_Te_isDigit_9 hy (tI_n (by omega)) (by decide) (fun g9 => ?_) (fun g9 => ?_)
    · refine lv_iconst (v := nI 0) hx hb d_Te_isDigit_16 (by decide) ?_
      refine eqi (y := bI false) (by decide) ?_
      exact eRz hx hb hr hlocks (bI_narrow _) d_Te_isDigit_17 (bI_zero (by omega))
    · refine lv_iconst (v := nI 1) hx hb d_Te_isDigit_12 (by decide) ?_
      refine lv_goto (tgt := 17) hx hb d_Te_isDigit_13 (by decide) ?_
      refine eqi (y := bI true) (by decide) ?_
      exact eRz hx hb hr hlocks (bI_narrow _) d_Te_isDigit_17 (bI_one (by omega))

set_option maxHeartbeats 4000000 in
set_option maxRecDepth 100000 in
theorem c_Te_takeAmount (l : Launch) (dC : Nat → ClassId) (dI : Nat → Nat → Nat) (z : zT) (sz : Nat) (h : Nat) (q : Nat) (cc : ClassId) (s0 : txT) (r0 : rdT) (hs : s0.2 ≤ 2400) (hr1 : r0.1 ≤ s0.2) (ht8 : ∀ i, s0.1 i < 256) : MU l y_Te_takeAmount b_Te_takeAmount 4 (some .int) 1 21 (dC, dI) z [.ref h] [(h, .inr (2, [.ref q, .int (nI s0.2), .int (nI r0.1), .int (bI r0.2)])), (q, .inl (cc, 2400, .inl (iN s0.1)))] [(cc, .char)] sz (some (.int (nI (tkA1 s0.1 s0.2 r0)))) [(h, .inr (2, [.ref q, .int (nI s0.2), .int (nI ((tkA2 s0.1 s0.2 r0).1)), .int (bI ((tkA2 s0.1 s0.2 r0).2))])), (q, .inl (cc, 2400, .inl (iN s0.1)))] := by
  refine metU (by decide) (Nat.le_of_ble_eq_true rfl) ?_
  intro p e s m below meth c ls A hx hb hr hlocks hml hown ht hl hP hK hSS hD hS hA
  have hl : lv_has ls 4 [(0, .ref h)] := hl
  refine lv_aload_n hx hb d_Te_takeAmount_0 rfl (lv_at hl 0 rfl) ?_
  refine va_get (D := (dC, dI)) (ci := 2) (v := .int (nI r0.1)) (C := R_Te) (T := F_Te) (N := 4) hx hb ht in_Te hown hK hP 0 rfl rfl 2 (by decide) (ht _ k_64) (fun _ h9 => h9) rfl d_Te_takeAmount_1 ?_
  refine lv_istore_n (lv' := [(1, .int (nI r0.1)), (0, .ref h)]) hx hb d_Te_takeAmount_4 rfl hl (Nat.le_of_ble_eq_true rfl) rfl (fun ls hl => ?_)
  refine lv_iconst (v := nI 0) hx hb d_Te_takeAmount_5 (by decide) ?_
  refine lv_istore_n (lv' := [(2, .int (nI 0)), (1, .int (nI r0.1)), (0, .ref h)]) hx hb d_Te_takeAmount_6 rfl hl (Nat.le_of_ble_eq_true rfl) rfl (fun ls hl => ?_)
  refine lv_iconst (v := nI 0) hx hb d_Te_takeAmount_7 (by decide) ?_
  refine lv_istore_n (lv' := [(3, .int (nI 0)), (2, .int (nI 0)), (1, .int (nI r0.1)), (0, .ref h)]) hx hb d_Te_takeAmount_8 rfl hl (Nat.le_of_ble_eq_true rfl) rfl (fun ls hl => ?_)
  have loop9 : ∀ (j : Nat) (k : Nat) (pl : Nat) (a : Nat) (ls : Array Slot) (H : Heap) (locs : List Loc), (k + j = 5) → (tkAF s0.1 s0.2 5 r0.1 0 = tkAF s0.1 s0.2 j pl a) → (r0.1 ≤ pl) → (pl ≤ s0.2) → (a < 10 ^ k) → lv_has ls 4 [(3, .int (nI k)), (2, .int (nI a)), (1, .int (nI r0.1)), (0, .ref h)] → va_P (dC, dI) classes [(h, .inr (2, [.ref q, .int (nI s0.2), .int (nI pl), .int (bI r0.2)])), (q, .inl (cc, 2400, .inl (iN s0.1)))] H → va_D A [(h, .inr (2, [.ref q, .int (nI s0.2), .int (nI pl), .int (bI r0.2)])), (q, .inl (cc, 2400, .inl (iN s0.1)))] → va_S A s.heap H locs → W p l e (rmq 1 21) s m [.ref h].toArray below meth c H locs 0 0 (MQ below (qcU (some (.int (nI (tkA1 s0.1 s0.2 r0)))) (dC, dI) [(h, .inr (2, [.ref q, .int (nI s0.2), .int (nI ((tkA2 s0.1 s0.2 r0).1)), .int (bI ((tkA2 s0.1 s0.2 r0).2))])), (q, .inl (cc, 2400, .inl (iN s0.1)))] A) [.ref h].toArray s 0 0 A) (F0 m 9 ls []) := by
    intro j
    induction j with
    | zero =>
      intro k pl a ls H locs hk hR hp1 hp2 ha hl hP hD hS
      have hat0 := atZ_in (n := s0.2) (x := (r0.1 : Int)) ht8
      have hRe : tkAF s0.1 s0.2 5 r0.1 0 = (pl, a) := hR
      refine lv_iload_n hx hb d_Te_takeAmount_9 rfl (lv_at hl 0 rfl) ?_
      refine lv_iconst (v := nI 5) hx hb d_Te_takeAmount_10 (by decide) ?_
      refine z_icmp_ge (tgt := 61) hx hb d_Te_takeAmount_11 (tI_n (by omega)) (tI_n (by omega)) (by decide) (fun g11 => ?_) (fun g11 => ?_)
      · refine lv_aload_n hx hb d_Te_takeAmount_61 rfl (lv_at hl 3 rfl) ?_
        refine va_get (D := (dC, dI)) (ci := 2) (v := .int (nI pl)) (C := R_Te) (T := F_Te) (N := 4) hx hb ht in_Te hown hK hP 0 rfl rfl 2 (by decide) (ht _ k_64) (fun _ h9 => h9) rfl d_Te_takeAmount_62 ?_
        refine lv_iload_n hx hb d_Te_takeAmount_65 rfl (lv_at hl 2 rfl) ?_
        refine nSub hx hb d_Te_takeAmount_66 (by omega) ?_
        refine lv_istore_n (lv' := [(3, .int (nI (pl - r0.1))), (2, .int (nI a)), (1, .int (nI r0.1)), (0, .ref h)]) hx hb d_Te_takeAmount_67 rfl hl (Nat.le_of_ble_eq_true rfl) rfl (fun ls hl => ?_)
        refine lv_iload_n hx hb d_Te_takeAmount_68 rfl (lv_at hl 0 rfl) ?_
        refine z_if_eq (tgt := 87) hx hb d_Te_takeAmount_69 (tI_n (by omega)) (by decide) (fun g69 => ?_) (fun g69 => ?_)
        · refine lv_aload_n hx hb d_Te_takeAmount_87 rfl (lv_at hl 3 rfl) ?_
          refine lv_iconst (v := nI 0) hx hb d_Te_takeAmount_88 (by decide) ?_
          refine eqi (y := bI false) (by decide) ?_
          refine va_put (D := (dC, dI)) (ci := 2) (v := .int (bI false)) (ty := .boolean) (C := R_Te) (T := F_Te) (N := 4) hx hb ht in_Te t_Te t_Te_ok n_Te hown hK hP hD hS 0 rfl rfl 3 (by decide) (ht _ k_65) (fun _ h9 => h9) rfl (by decide +kernel) (bI_narrow _) (bI_fits _) (Nat.le_of_ble_eq_true rfl) d_Te_takeAmount_89 (fun H locs hP hD hS => ?_)
          have hP : va_P (dC, dI) classes [(h, .inr (2, [.ref q, .int (nI s0.2), .int (nI pl), .int (bI false)])), (q, .inl (cc, 2400, .inl (iN s0.1)))] H := hP
          have hD : va_D A [(h, .inr (2, [.ref q, .int (nI s0.2), .int (nI pl), .int (bI false)])), (q, .inl (cc, 2400, .inl (iN s0.1)))] := hD
          refine lv_iload_n hx hb d_Te_takeAmount_92 rfl (lv_at hl 1 rfl) ?_
          rw [tkA2_y hRe (by omega)]
          exact eUi hx hb hr hlocks hP hD hS [0, 1] rfl rfl (by decide) d_Te_takeAmount_93 (by rw [tkA1_e hRe])
        · refine lv_iload_n hx hb d_Te_takeAmount_72 rfl (lv_at hl 0 rfl) ?_
          refine lv_iconst (v := nI 1) hx hb d_Te_takeAmount_73 (by decide) ?_
          refine z_icmp_le (tgt := 92) hx hb d_Te_takeAmount_74 (tI_n (by omega)) (tI_n (by omega)) (by decide) (fun g74 => ?_) (fun g74 => ?_)
          · refine lv_iload_n hx hb d_Te_takeAmount_92 rfl (lv_at hl 1 rfl) ?_
            rw [tkA2_n hRe (by omega)]
            exact eUi hx hb hr hlocks hP hD hS [0, 1] rfl rfl (by decide) d_Te_takeAmount_93 (by rw [tkA1_e hRe])
          · refine lv_aload_n hx hb d_Te_takeAmount_77 rfl (lv_at hl 3 rfl) ?_
            refine lv_iload_n hx hb d_Te_takeAmount_78 rfl (lv_at hl 2 rfl) ?_
            refine rV (As := [.int (nI r0.1)]) (rest := []) hx hb hml hown ht (c_Te_at l dC dI z h q cc s0 pl r0.2 (nI r0.1) ((r0.1 : Nat) : Int) (by first | assumption | omega) (tI_n (by omega))) yv_Te_at k_416 (Nat.le_of_ble_eq_true rfl) (Nat.le_of_ble_eq_true rfl) hP hK hSS hS [0, 1] [0] rfl rfl 0 2 rfl rfl rfl hl rfl rfl (Nat.le_of_ble_eq_true rfl) (Nat.zero_le _) (Nat.zero_le _) d_Te_takeAmount_79 ?_
            refine lv_bipush (v := nI 48) hx hb d_Te_takeAmount_82 (by decide) ?_
            refine z_icmp_ne (tgt := 92) hx hb d_Te_takeAmount_84 (iI_toInt (by omega) (by omega)) (tI_n (by omega)) (by decide) (fun g84 => ?_) (fun g84 => ?_)
            · refine lv_iload_n hx hb d_Te_takeAmount_92 rfl (lv_at hl 1 rfl) ?_
              rw [tkA2_n hRe (by omega)]
              exact eUi hx hb hr hlocks hP hD hS [0, 1] rfl rfl (by decide) d_Te_takeAmount_93 (by rw [tkA1_e hRe])
            · refine lv_aload_n hx hb d_Te_takeAmount_87 rfl (lv_at hl 3 rfl) ?_
              refine lv_iconst (v := nI 0) hx hb d_Te_takeAmount_88 (by decide) ?_
              refine eqi (y := bI false) (by decide) ?_
              refine va_put (D := (dC, dI)) (ci := 2) (v := .int (bI false)) (ty := .boolean) (C := R_Te) (T := F_Te) (N := 4) hx hb ht in_Te t_Te t_Te_ok n_Te hown hK hP hD hS 0 rfl rfl 3 (by decide) (ht _ k_65) (fun _ h9 => h9) rfl (by decide +kernel) (bI_narrow _) (bI_fits _) (Nat.le_of_ble_eq_true rfl) d_Te_takeAmount_89 (fun H locs hP hD hS => ?_)
              have hP : va_P (dC, dI) classes [(h, .inr (2, [.ref q, .int (nI s0.2), .int (nI pl), .int (bI false)])), (q, .inl (cc, 2400, .inl (iN s0.1)))] H := hP
              have hD : va_D A [(h, .inr (2, [.ref q, .int (nI s0.2), .int (nI pl), .int (bI false)])), (q, .inl (cc, 2400, .inl (iN s0.1)))] := hD
              refine lv_iload_n hx hb d_Te_takeAmount_92 rfl (lv_at hl 1 rfl) ?_
              rw [tkA2_y hRe (by omega)]
              exact eUi hx hb hr hlocks hP hD hS [0, 1] rfl rfl (by decide) d_Te_takeAmount_93 (by rw [tkA1_e hRe])
      · exfalso; omega
    | succ j ih =>
      intro k pl a ls H locs hk hR hp1 hp2 ha hl hP hD hS
      have hat0 := atZ_in (n := s0.2) (x := (r0.1 : Int)) ht8
      have hat := atZ_in (n := s0.2) (x := (pl : Int)) ht8
      have h10 : 10 ^ k ≤ 10 ^ 4 := Nat.pow_le_pow_right (by omega) (by omega)
      refine lv_iload_n hx hb d_Te_takeAmount_9 rfl (lv_at hl 0 rfl) ?_
      refine lv_iconst (v := nI 5) hx hb d_Te_takeAmount_10 (by decide) ?_
      refine z_icmp_ge (tgt := 61) hx hb d_Te_takeAmount_11 (tI_n (by omega)) (tI_n (by omega)) (by decide) (fun g11 => ?_) (fun g11 => ?_)
      · exfalso; omega
      · refine lv_aload_n hx hb d_Te_takeAmount_14 rfl (lv_at hl 3 rfl) ?_
        refine lv_aload_n hx hb d_Te_takeAmount_15 rfl (lv_at hl 3 rfl) ?_
        refine va_get (D := (dC, dI)) (ci := 2) (v := .int (nI pl)) (C := R_Te) (T := F_Te) (N := 4) hx hb ht in_Te hown hK hP 0 rfl rfl 2 (by decide) (ht _ k_64) (fun _ h9 => h9) rfl d_Te_takeAmount_16 ?_
        refine rV (As := [.int (nI pl)]) (rest := []) hx hb hml hown ht (c_Te_at l dC dI z h q cc s0 pl r0.2 (nI pl) ((pl : Nat) : Int) (by first | assumption | omega) (tI_n (by omega))) yv_Te_at k_416 (Nat.le_of_ble_eq_true rfl) (Nat.le_of_ble_eq_true rfl) hP hK hSS hS [0, 1] [0] rfl rfl 0 2 rfl rfl rfl hl rfl rfl (Nat.le_of_ble_eq_true rfl) (Nat.zero_le _) (Nat.zero_le _) d_Te_takeAmount_19 ?_
        refine rS (As := [.int (iI (atZ s0.1 s0.2 ((pl : Nat) : Int)))]) (rest := []) hx hb hml hown ht (c_Te_isDigit l dC dI z (iI (atZ s0.1 s0.2 ((pl : Nat) : Int))) (atZ s0.1 s0.2 ((pl : Nat) : Int)) (iI_toInt (by omega) (by omega))) ys_Te_isDigit k_452 (Nat.le_of_ble_eq_true rfl) (Nat.le_of_ble_eq_true rfl) hP hK hSS hS [] [] rfl rfl hl rfl rfl (Nat.le_of_ble_eq_true rfl) (Nat.zero_le _) (Nat.zero_le _) d_Te_takeAmount_22 ?_
        refine b_if_eq (tgt := 61) hx hb d_Te_takeAmount_25 (by decide) (fun g25 => ?_) (fun g25 => ?_)
        · have hRe : tkAF s0.1 s0.2 5 r0.1 0 = (pl, a) := by rw [hR, tkAF, if_neg (of_decide_eq_false g25)]
          refine lv_aload_n hx hb d_Te_takeAmount_61 rfl (lv_at hl 3 rfl) ?_
          refine va_get (D := (dC, dI)) (ci := 2) (v := .int (nI pl)) (C := R_Te) (T := F_Te) (N := 4) hx hb ht in_Te hown hK hP 0 rfl rfl 2 (by decide) (ht _ k_64) (fun _ h9 => h9) rfl d_Te_takeAmount_62 ?_
          refine lv_iload_n hx hb d_Te_takeAmount_65 rfl (lv_at hl 2 rfl) ?_
          refine nSub hx hb d_Te_takeAmount_66 (by omega) ?_
          refine lv_istore_n (lv' := [(3, .int (nI (pl - r0.1))), (2, .int (nI a)), (1, .int (nI r0.1)), (0, .ref h)]) hx hb d_Te_takeAmount_67 rfl hl (Nat.le_of_ble_eq_true rfl) rfl (fun ls hl => ?_)
          refine lv_iload_n hx hb d_Te_takeAmount_68 rfl (lv_at hl 0 rfl) ?_
          refine z_if_eq (tgt := 87) hx hb d_Te_takeAmount_69 (tI_n (by omega)) (by decide) (fun g69 => ?_) (fun g69 => ?_)
          · refine lv_aload_n hx hb d_Te_takeAmount_87 rfl (lv_at hl 3 rfl) ?_
            refine lv_iconst (v := nI 0) hx hb d_Te_takeAmount_88 (by decide) ?_
            refine eqi (y := bI false) (by decide) ?_
            refine va_put (D := (dC, dI)) (ci := 2) (v := .int (bI false)) (ty := .boolean) (C := R_Te) (T := F_Te) (N := 4) hx hb ht in_Te t_Te t_Te_ok n_Te hown hK hP hD hS 0 rfl rfl 3 (by decide) (ht _ k_65) (fun _ h9 => h9) rfl (by decide +kernel) (bI_narrow _) (bI_fits _) (Nat.le_of_ble_eq_true rfl) d_Te_takeAmount_89 (fun H locs hP hD hS => ?_)
            have hP : va_P (dC, dI) classes [(h, .inr (2, [.ref q, .int (nI s0.2), .int (nI pl), .int (bI false)])), (q, .inl (cc, 2400, .inl (iN s0.1)))] H := hP
            have hD : va_D A [(h, .inr (2, [.ref q, .int (nI s0.2), .int (nI pl), .int (bI false)])), (q, .inl (cc, 2400, .inl (iN s0.1)))] := hD
            refine lv_iload_n hx hb d_Te_takeAmount_92 rfl (lv_at hl 1 rfl) ?_
            rw [tkA2_y hRe (by omega)]
            exact eUi hx hb hr hlocks hP hD hS [0, 1] rfl rfl (by decide) d_Te_takeAmount_93 (by rw [tkA1_e hRe])
          · refine lv_iload_n hx hb d_Te_takeAmount_72 rfl (lv_at hl 0 rfl) ?_
            refine lv_iconst (v := nI 1) hx hb d_Te_takeAmount_73 (by decide) ?_
            refine z_icmp_le (tgt := 92) hx hb d_Te_takeAmount_74 (tI_n (by omega)) (tI_n (by omega)) (by decide) (fun g74 => ?_) (fun g74 => ?_)
            · refine lv_iload_n hx hb d_Te_takeAmount_92 rfl (lv_at hl 1 rfl) ?_
              rw [tkA2_n hRe (by omega)]
              exact eUi hx hb hr hlocks hP hD hS [0, 1] rfl rfl (by decide) d_Te_takeAmount_93 (by rw [tkA1_e hRe])
            · refine lv_aload_n hx hb d_Te_takeAmount_77 rfl (lv_at hl 3 rfl) ?_
              refine lv_iload_n hx hb d_Te_takeAmount_78 rfl (lv_at hl 2 rfl) ?_
              refine rV (As := [.int (nI r0.1)]) (rest := []) hx hb hml hown ht (c_Te_at l dC dI z h q cc s0 pl r0.2 (nI r0.1) ((r0.1 : Nat) : Int) (by first | assumption | omega) (tI_n (by omega))) yv_Te_at k_416 (Nat.le_of_ble_eq_true rfl) (Nat.le_of_ble_eq_true rfl) hP hK hSS hS [0, 1] [0] rfl rfl 0 2 rfl rfl rfl hl rfl rfl (Nat.le_of_ble_eq_true rfl) (Nat.zero_le _) (Nat.zero_le _) d_Te_takeAmount_79 ?_
              refine lv_bipush (v := nI 48) hx hb d_Te_takeAmount_82 (by decide) ?_
              refine z_icmp_ne (tgt := 92) hx hb d_Te_takeAmount_84 (iI_toInt (by omega) (by omega)) (tI_n (by omega)) (by decide) (fun g84 => ?_) (fun g84 => ?_)
              · refine lv_iload_n hx hb d_Te_takeAmount_92 rfl (lv_at hl 1 rfl) ?_
                rw [tkA2_n hRe (by omega)]
                exact eUi hx hb hr hlocks hP hD hS [0, 1] rfl rfl (by decide) d_Te_takeAmount_93 (by rw [tkA1_e hRe])
              · refine lv_aload_n hx hb d_Te_takeAmount_87 rfl (lv_at hl 3 rfl) ?_
                refine lv_iconst (v := nI 0) hx hb d_Te_takeAmount_88 (by decide) ?_
                refine eqi (y := bI false) (by decide) ?_
                refine va_put (D := (dC, dI)) (ci := 2) (v := .int (bI false)) (ty := .boolean) (C := R_Te) (T := F_Te) (N := 4) hx hb ht in_Te t_Te t_Te_ok n_Te hown hK hP hD hS 0 rfl rfl 3 (by decide) (ht _ k_65) (fun _ h9 => h9) rfl (by decide +kernel) (bI_narrow _) (bI_fits _) (Nat.le_of_ble_eq_true rfl) d_Te_takeAmount_89 (fun H locs hP hD hS => ?_)
                have hP : va_P (dC, dI) classes [(h, .inr (2, [.ref q, .int (nI s0.2), .int (nI pl), .int (bI false)])), (q, .inl (cc, 2400, .inl (iN s0.1)))] H := hP
                have hD : va_D A [(h, .inr (2, [.ref q, .int (nI s0.2), .int (nI pl), .int (bI false)])), (q, .inl (cc, 2400, .inl (iN s0.1)))] := hD
                refine lv_iload_n hx hb d_Te_takeAmount_92 rfl (lv_at hl 1 rfl) ?_
                rw [tkA2_y hRe (by omega)]
                exact eUi hx hb hr hlocks hP hD hS [0, 1] rfl rfl (by decide) d_Te_takeAmount_93 (by rw [tkA1_e hRe])
        · have hdg := of_decide_eq_true g25
          refine lv_bipush (v := nI 10) hx hb d_Te_takeAmount_28 (by decide) ?_
          refine lv_iload_n hx hb d_Te_takeAmount_30 rfl (lv_at hl 1 rfl) ?_
          refine nMul hx hb d_Te_takeAmount_31 ?_
          refine lv_aload_n hx hb d_Te_takeAmount_32 rfl (lv_at hl 3 rfl) ?_
          refine lv_aload_n hx hb d_Te_takeAmount_33 rfl (lv_at hl 3 rfl) ?_
          refine va_get (D := (dC, dI)) (ci := 2) (v := .int (nI pl)) (C := R_Te) (T := F_Te) (N := 4) hx hb ht in_Te hown hK hP 0 rfl rfl 2 (by decide) (ht _ k_64) (fun _ h9 => h9) rfl d_Te_takeAmount_34 ?_
          refine rV (As := [.int (nI pl)]) (rest := [.int (nI (10 * a))]) hx hb hml hown ht (c_Te_at l dC dI z h q cc s0 pl r0.2 (nI pl) ((pl : Nat) : Int) (by first | assumption | omega) (tI_n (by omega))) yv_Te_at k_416 (Nat.le_of_ble_eq_true rfl) (Nat.le_of_ble_eq_true rfl) hP hK hSS hS [0, 1] [0] rfl rfl 0 2 rfl rfl rfl hl rfl rfl (Nat.le_of_ble_eq_true rfl) (Nat.zero_le _) (Nat.zero_le _) d_Te_takeAmount_37 ?_
          refine zAdd hx hb d_Te_takeAmount_40 (nI_iI _) rfl ?_
          refine lv_bipush (v := nI 48) hx hb d_Te_takeAmount_41 (by decide) ?_
          refine zSub hx hb d_Te_takeAmount_43 rfl (nI_iI _) ?_
          refine eqi (y := nI (10 * a + (atZ s0.1 s0.2 (pl : Int)).toNat - 48)) (by rw [nI_iI]; congr 1; omega) ?_
          refine lv_istore_n (lv' := [(2, .int (nI (10 * a + (atZ s0.1 s0.2 (pl : Int)).toNat - 48))), (3, .int (nI k)), (1, .int (nI r0.1)), (0, .ref h)]) hx hb d_Te_takeAmount_44 rfl hl (Nat.le_of_ble_eq_true rfl) rfl (fun ls hl => ?_)
          refine lv_aload_n hx hb d_Te_takeAmount_45 rfl (lv_at hl 3 rfl) ?_
          refine lv_dup hx hb d_Te_takeAmount_46 rfl ?_
          refine va_get (D := (dC, dI)) (ci := 2) (v := .int (nI pl)) (C := R_Te) (T := F_Te) (N := 4) hx hb ht in_Te hown hK hP 0 rfl rfl 2 (by decide) (ht _ k_64) (fun _ h9 => h9) rfl d_Te_takeAmount_47 ?_
          refine lv_iconst (v := nI 1) hx hb d_Te_takeAmount_50 (by decide) ?_
          refine nAdd hx hb d_Te_takeAmount_51 ?_
          refine va_put (D := (dC, dI)) (ci := 2) (v := .int (nI (pl + 1))) (ty := .int) (C := R_Te) (T := F_Te) (N := 4) hx hb ht in_Te t_Te t_Te_ok n_Te hown hK hP hD hS 0 rfl rfl 2 (by decide) (ht _ k_64) (fun _ h9 => h9) rfl (by decide +kernel) rfl rfl (Nat.le_of_ble_eq_true rfl) d_Te_takeAmount_52 (fun H locs hP hD hS => ?_)
          have hP : va_P (dC, dI) classes [(h, .inr (2, [.ref q, .int (nI s0.2), .int (nI (pl + 1)), .int (bI r0.2)])), (q, .inl (cc, 2400, .inl (iN s0.1)))] H := hP
          have hD : va_D A [(h, .inr (2, [.ref q, .int (nI s0.2), .int (nI (pl + 1)), .int (bI r0.2)])), (q, .inl (cc, 2400, .inl (iN s0.1)))] := hD
          refine lv_iinc (k := 1) (v := nI (k + 1)) (lv' := [(3, .int (nI (k + 1))), (2, .int (nI (10 * a + (atZ s0.1 s0.2 (pl : Int)).toNat - 48))), (1, .int (nI r0.1)), (0, .ref h)]) hx hb d_Te_takeAmount_55 hl rfl (nI_inc1 _) (Nat.le_of_ble_eq_true rfl) rfl (fun ls hl => ?_)
          refine lv_goto (tgt := 9) hx hb d_Te_takeAmount_58 (by decide) ?_
          exact ih (k + 1) (pl + 1) (10 * a + (atZ s0.1 s0.2 (pl : Int)).toNat - 48) _ _ _ (by omega) (by rw [hR, tkAF, if_pos (of_decide_eq_true g25)]) (by omega) (by have := atZ_nat (t := s0.1) (n := s0.2) (p := pl) (c := (atZ s0.1 s0.2 (pl : Int)).toNat) (by omega); omega) (by rw [Nat.pow_succ]; omega) (lv_sub hl [0, 1, 2, 3] rfl) (hP.sub [0, 1] rfl) (hD.sub [0, 1] (by decide) rfl) hS
  exact loop9 5 0 r0.1 0 _ _ _ (rfl) (rfl) (Nat.le_refl _) (hr1) (by decide) (lv_sub hl [0, 1, 2, 3] rfl) (hP.sub [0, 1] rfl) (hD.sub [0, 1] (by decide) rfl) hS

set_option maxHeartbeats 4000000 in
set_option maxRecDepth 100000 in
theorem c_Te_takeNumber (l : Launch) (dC : Nat → ClassId) (dI : Nat → Nat → Nat) (z : zT) (sz : Nat) (h : Nat) (q : Nat) (cc : ClassId) (s0 : txT) (r0 : rdT) (lo : Int) (hi : Int) (hs : s0.2 ≤ 2400) (hr1 : r0.1 ≤ s0.2) (ht8 : ∀ i, s0.1 i < 256) (hlo : -65536 ≤ lo ∧ lo ≤ 65536) (hhi : -65536 ≤ hi ∧ hi ≤ 65536) : MU l y_Te_takeNumber b_Te_takeNumber 6 (some .int) 2 44 (dC, dI) z [.ref h, .int (iI lo), .int (iI hi)] [(h, .inr (2, [.ref q, .int (nI s0.2), .int (nI r0.1), .int (bI r0.2)])), (q, .inl (cc, 2400, .inl (iN s0.1)))] [(cc, .char)] sz (some (.int (iI (tkN1 s0.1 s0.2 r0)))) [(h, .inr (2, [.ref q, .int (nI s0.2), .int (nI ((tkN2 s0.1 s0.2 lo hi r0).1)), .int (bI ((tkN2 s0.1 s0.2 lo hi r0).2))])), (q, .inl (cc, 2400, .inl (iN s0.1)))] := by
  have hat := atZ_in (n := s0.2) (x := (r0.1 : Int)) ht8
  have hN1 := tkN1_in (t := s0.1) (n := s0.2) (r := r0)
  refine metU (by decide) (Nat.le_of_ble_eq_true rfl) ?_
  intro p e s m below meth c ls A hx hb hr hlocks hml hown ht hl hP hK hSS hD hS hA
  have hl : lv_has ls 6 [(0, .ref h), (1, .int (iI lo)), (2, .int (iI hi))] := hl
  refine lv_aload_n hx hb d_Te_takeNumber_0 rfl (lv_at hl 0 rfl) ?_
  refine lv_aload_n hx hb d_Te_takeNumber_1 rfl (lv_at hl 0 rfl) ?_
  refine va_get (D := (dC, dI)) (ci := 2) (v := .int (nI r0.1)) (C := R_Te) (T := F_Te) (N := 4) hx hb ht in_Te hown hK hP 0 rfl rfl 2 (by decide) (ht _ k_64) (fun _ h9 => h9) rfl d_Te_takeNumber_2 ?_
  refine rV (As := [.int (nI r0.1)]) (rest := []) hx hb hml hown ht (c_Te_at l dC dI z h q cc s0 r0.1 r0.2 (nI r0.1) ((r0.1 : Nat) : Int) (by first | assumption | omega) (tI_n (by omega))) yv_Te_at k_416 (Nat.le_of_ble_eq_true rfl) (Nat.le_of_ble_eq_true rfl) hP hK hSS hS [0, 1] [0] rfl rfl 0 2 rfl rfl rfl hl rfl rfl (Nat.le_of_ble_eq_true rfl) (Nat.zero_le _) (Nat.zero_le _) d_Te_takeNumber_5 ?_
  refine lv_bipush (v := nI 45) hx hb d_Te_takeNumber_8 (by decide) ?_
  have cut18 : ∀  (ls : Array Slot) (H : Heap) (locs : List Loc), lv_has ls 6 [(0, .ref h), (1, .int (iI lo)), (2, .int (iI hi))] → va_P (dC, dI) classes [(h, .inr (2, [.ref q, .int (nI s0.2), .int (nI r0.1), .int (bI r0.2)])), (q, .inl (cc, 2400, .inl (iN s0.1)))] H → va_D A [(h, .inr (2, [.ref q, .int (nI s0.2), .int (nI r0.1), .int (bI r0.2)])), (q, .inl (cc, 2400, .inl (iN s0.1)))] → va_S A s.heap H locs → W p l e (rmq 2 44) s m [.ref h, .int (iI lo), .int (iI hi)].toArray below meth c H locs 0 0 (MQ below (qcU (some (.int (iI (tkN1 s0.1 s0.2 r0)))) (dC, dI) [(h, .inr (2, [.ref q, .int (nI s0.2), .int (nI ((tkN2 s0.1 s0.2 lo hi r0).1)), .int (bI ((tkN2 s0.1 s0.2 lo hi r0).2))])), (q, .inl (cc, 2400, .inl (iN s0.1)))] A) [.ref h, .int (iI lo), .int (iI hi)].toArray s 0 0 A) (F0 m 18 ls [.int (bI (decide (atZ s0.1 s0.2 (r0.1 : Int) = 45)))]) := by
    intro  ls H locs  hl hP hD hS
    refine lv_istore_n (lv' := [(3, .int (bI (decide (atZ s0.1 s0.2 (r0.1 : Int) = 45)))), (0, .ref h), (1, .int (iI lo)), (2, .int (iI hi))]) hx hb d_Te_takeNumber_18 rfl hl (Nat.le_of_ble_eq_true rfl) rfl (fun ls hl => ?_)
    have cut33 : ∀  (r1 : rdT) (ls : Array Slot) (H : Heap) (locs : List Loc), (r1 = tkNs s0.1 s0.2 r0) → (r1.1 ≤ s0.2) → lv_has ls 6 [(3, .int (bI (decide (atZ s0.1 s0.2 (r0.1 : Int) = 45)))), (0, .ref h), (1, .int (iI lo)), (2, .int (iI hi))] → va_P (dC, dI) classes [(h, .inr (2, [.ref q, .int (nI s0.2), .int (nI r1.1), .int (bI r1.2)])), (q, .inl (cc, 2400, .inl (iN s0.1)))] H → va_D A [(h, .inr (2, [.ref q, .int (nI s0.2), .int (nI r1.1), .int (bI r1.2)])), (q, .inl (cc, 2400, .inl (iN s0.1)))] → va_S A s.heap H locs → W p l e (rmq 2 44) s m [.ref h, .int (iI lo), .int (iI hi)].toArray below meth c H locs 0 0 (MQ below (qcU (some (.int (iI (tkN1 s0.1 s0.2 r0)))) (dC, dI) [(h, .inr (2, [.ref q, .int (nI s0.2), .int (nI ((tkN2 s0.1 s0.2 lo hi r0).1)), .int (bI ((tkN2 s0.1 s0.2 lo hi r0).2))])), (q, .inl (cc, 2400, .inl (iN s0.1)))] A) [.ref h, .int (iI lo), .int (iI hi)].toArray s 0 0 A) (F0 m 33 ls []) := by
      intro r1 ls H locs hrN hr2 hl hP hD hS
      have hA1 := tkA_lt (t := s0.1) (n := s0.2) (r := r1)
      refine lv_aload_n hx hb d_Te_takeNumber_33 rfl (lv_at hl 1 rfl) ?_
      refine uV (As := []) (rest := []) (wr := []) hx hb hml hown ht (c_Te_takeAmount l dC dI z _ h q cc s0 r1 (by first | assumption | omega) (by first | assumption | omega) (by first | assumption | omega)) yv_Te_takeAmount k_448 (Nat.le_of_ble_eq_true rfl) (Nat.le_of_ble_eq_true rfl) hP hK hSS hD hS hA [0, 1] [] [0] rfl rfl (by decide) rfl (by decide) (by decide) rfl 0 2 rfl rfl rfl hl rfl rfl (Nat.le_of_ble_eq_true rfl) (Nat.zero_le _) (Nat.zero_le _) d_Te_takeNumber_34 (fun H locs hP hD hS => ?_)
      have hP : va_P (dC, dI) classes [(h, .inr (2, [.ref q, .int (nI s0.2), .int (nI ((tkA2 s0.1 s0.2 r1).1)), .int (bI ((tkA2 s0.1 s0.2 r1).2))])), (q, .inl (cc, 2400, .inl (iN s0.1)))] H := hP
      have hD : va_D A [(h, .inr (2, [.ref q, .int (nI s0.2), .int (nI ((tkA2 s0.1 s0.2 r1).1)), .int (bI ((tkA2 s0.1 s0.2 r1).2))])), (q, .inl (cc, 2400, .inl (iN s0.1)))] := hD
      refine stk (st2 := [.int (nI (tkA1 s0.1 s0.2 r1))]) rfl ?_
      refine lv_istore (lv' := [(4, .int (nI (tkA1 s0.1 s0.2 r1))), (3, .int (bI (decide (atZ s0.1 s0.2 (r0.1 : Int) = 45)))), (0, .ref h), (1, .int (iI lo)), (2, .int (iI hi))]) hx hb d_Te_takeNumber_37 hl (Nat.le_of_ble_eq_true rfl) rfl (fun ls hl => ?_)
      have cut51 : ∀  (ls : Array Slot) (H : Heap) (locs : List Loc), lv_has ls 6 [(4, .int (nI (tkA1 s0.1 s0.2 r1))), (3, .int (bI (decide (atZ s0.1 s0.2 (r0.1 : Int) = 45)))), (0, .ref h), (1, .int (iI lo)), (2, .int (iI hi))] → va_P (dC, dI) classes [(h, .inr (2, [.ref q, .int (nI s0.2), .int (nI ((tkA2 s0.1 s0.2 r1).1)), .int (bI ((tkA2 s0.1 s0.2 r1).2))])), (q, .inl (cc, 2400, .inl (iN s0.1)))] H → va_D A [(h, .inr (2, [.ref q, .int (nI s0.2), .int (nI ((tkA2 s0.1 s0.2 r1).1)), .int (bI ((tkA2 s0.1 s0.2 r1).2))])), (q, .inl (cc, 2400, .inl (iN s0.1)))] → va_S A s.heap H locs → W p l e (rmq 2 44) s m [.ref h, .int (iI lo), .int (iI hi)].toArray below meth c H locs 0 0 (MQ below (qcU (some (.int (iI (tkN1 s0.1 s0.2 r0)))) (dC, dI) [(h, .inr (2, [.ref q, .int (nI s0.2), .int (nI ((tkN2 s0.1 s0.2 lo hi r0).1)), .int (bI ((tkN2 s0.1 s0.2 lo hi r0).2))])), (q, .inl (cc, 2400, .inl (iN s0.1)))] A) [.ref h, .int (iI lo), .int (iI hi)].toArray s 0 0 A) (F0 m 51 ls [.int (iI (tkN1 s0.1 s0.2 r0))]) := by
        intro  ls H locs  hl hP hD hS
        refine lv_istore (lv' := [(5, .int (iI (tkN1 s0.1 s0.2 r0))), (4, .int (nI (tkA1 s0.1 s0.2 r1))), (3, .int (bI (decide (atZ s0.1 s0.2 (r0.1 : Int) = 45)))), (0, .ref h), (1, .int (iI lo)), (2, .int (iI hi))]) hx hb d_Te_takeNumber_51 hl (Nat.le_of_ble_eq_true rfl) rfl (fun ls hl => ?_)
        refine lv_iload_n hx hb d_Te_takeNumber_53 rfl (lv_at hl 2 rfl) ?_
        refine b_if_eq (tgt := 62) hx hb d_Te_takeNumber_54 (by decide) (fun g54 => ?_) (fun g54 => ?_)
        · refine lv_iload hx hb d_Te_takeNumber_62 (lv_at hl 0 rfl) ?_
          refine lv_iload_n hx hb d_Te_takeNumber_64 rfl (lv_at hl 4 rfl) ?_
          refine z_icmp_lt (tgt := 74) hx hb d_Te_takeNumber_65 (iI_toInt (by omega) (by omega)) (iI_toInt (by omega) (by omega)) (by decide) (fun g65 => ?_) (fun g65 => ?_)
          · refine lv_aload_n hx hb d_Te_takeNumber_74 rfl (lv_at hl 3 rfl) ?_
            refine lv_iconst (v := nI 0) hx hb d_Te_takeNumber_75 (by decide) ?_
            refine eqi (y := bI false) (by decide) ?_
            refine va_put (D := (dC, dI)) (ci := 2) (v := .int (bI false)) (ty := .boolean) (C := R_Te) (T := F_Te) (N := 4) hx hb ht in_Te t_Te t_Te_ok n_Te hown hK hP hD hS 0 rfl rfl 3 (by decide) (ht _ k_65) (fun _ h9 => h9) rfl (by decide +kernel) (bI_narrow _) (bI_fits _) (Nat.le_of_ble_eq_true rfl) d_Te_takeNumber_76 (fun H locs hP hD hS => ?_)
            have hP : va_P (dC, dI) classes [(h, .inr (2, [.ref q, .int (nI s0.2), .int (nI ((tkA2 s0.1 s0.2 r1).1)), .int (bI false)])), (q, .inl (cc, 2400, .inl (iN s0.1)))] H := hP
            have hD : va_D A [(h, .inr (2, [.ref q, .int (nI s0.2), .int (nI ((tkA2 s0.1 s0.2 r1).1)), .int (bI false)])), (q, .inl (cc, 2400, .inl (iN s0.1)))] := hD
            refine lv_iload hx hb d_Te_takeNumber_79 (lv_at hl 0 rfl) ?_
            rw [tkN2_y hrN (by first | omega | (left; exact ⟨of_decide_eq_true g54, by omega⟩))]
            exact eUi hx hb hr hlocks hP hD hS [0, 1] rfl rfl (by decide) d_Te_takeNumber_81 (rfl)
          · refine lv_iload hx hb d_Te_takeNumber_68 (lv_at hl 0 rfl) ?_
            refine lv_iload_n hx hb d_Te_takeNumber_70 rfl (lv_at hl 5 rfl) ?_
            refine z_icmp_le (tgt := 79) hx hb d_Te_takeNumber_71 (iI_toInt (by omega) (by omega)) (iI_toInt (by omega) (by omega)) (by decide) (fun g71 => ?_) (fun g71 => ?_)
            · refine lv_iload hx hb d_Te_takeNumber_79 (lv_at hl 0 rfl) ?_
              rw [tkN2_n hrN (by first | (have := of_decide_eq_false g54; omega) | omega)]
              exact eUi hx hb hr hlocks hP hD hS [0, 1] rfl rfl (by decide) d_Te_takeNumber_81 (rfl)
            · refine lv_aload_n hx hb d_Te_takeNumber_74 rfl (lv_at hl 3 rfl) ?_
              refine lv_iconst (v := nI 0) hx hb d_Te_takeNumber_75 (by decide) ?_
              refine eqi (y := bI false) (by decide) ?_
              refine va_put (D := (dC, dI)) (ci := 2) (v := .int (bI false)) (ty := .boolean) (C := R_Te) (T := F_Te) (N := 4) hx hb ht in_Te t_Te t_Te_ok n_Te hown hK hP hD hS 0 rfl rfl 3 (by decide) (ht _ k_65) (fun _ h9 => h9) rfl (by decide +kernel) (bI_narrow _) (bI_fits _) (Nat.le_of_ble_eq_true rfl) d_Te_takeNumber_76 (fun H locs hP hD hS => ?_)
              have hP : va_P (dC, dI) classes [(h, .inr (2, [.ref q, .int (nI s0.2), .int (nI ((tkA2 s0.1 s0.2 r1).1)), .int (bI false)])), (q, .inl (cc, 2400, .inl (iN s0.1)))] H := hP
              have hD : va_D A [(h, .inr (2, [.ref q, .int (nI s0.2), .int (nI ((tkA2 s0.1 s0.2 r1).1)), .int (bI false)])), (q, .inl (cc, 2400, .inl (iN s0.1)))] := hD
              refine lv_iload hx hb d_Te_takeNumber_79 (lv_at hl 0 rfl) ?_
              rw [tkN2_y hrN (by first | omega | (left; exact ⟨of_decide_eq_true g54, by omega⟩))]
              exact eUi hx hb hr hlocks hP hD hS [0, 1] rfl rfl (by decide) d_Te_takeNumber_81 (rfl)
        · refine lv_iload hx hb d_Te_takeNumber_57 (lv_at hl 1 rfl) ?_
          refine z_if_eq (tgt := 74) hx hb d_Te_takeNumber_59 (tI_n (by omega)) (by decide) (fun g59 => ?_) (fun g59 => ?_)
          · refine lv_aload_n hx hb d_Te_takeNumber_74 rfl (lv_at hl 3 rfl) ?_
            refine lv_iconst (v := nI 0) hx hb d_Te_takeNumber_75 (by decide) ?_
            refine eqi (y := bI false) (by decide) ?_
            refine va_put (D := (dC, dI)) (ci := 2) (v := .int (bI false)) (ty := .boolean) (C := R_Te) (T := F_Te) (N := 4) hx hb ht in_Te t_Te t_Te_ok n_Te hown hK hP hD hS 0 rfl rfl 3 (by decide) (ht _ k_65) (fun _ h9 => h9) rfl (by decide +kernel) (bI_narrow _) (bI_fits _) (Nat.le_of_ble_eq_true rfl) d_Te_takeNumber_76 (fun H locs hP hD hS => ?_)
            have hP : va_P (dC, dI) classes [(h, .inr (2, [.ref q, .int (nI s0.2), .int (nI ((tkA2 s0.1 s0.2 r1).1)), .int (bI false)])), (q, .inl (cc, 2400, .inl (iN s0.1)))] H := hP
            have hD : va_D A [(h, .inr (2, [.ref q, .int (nI s0.2), .int (nI ((tkA2 s0.1 s0.2 r1).1)), .int (bI false)])), (q, .inl (cc, 2400, .inl (iN s0.1)))] := hD
            refine lv_iload hx hb d_Te_takeNumber_79 (lv_at hl 0 rfl) ?_
            rw [tkN2_y hrN (by first | omega | (left; exact ⟨of_decide_eq_true g54, by omega⟩))]
            exact eUi hx hb hr hlocks hP hD hS [0, 1] rfl rfl (by decide) d_Te_takeNumber_81 (rfl)
          · refine lv_iload hx hb d_Te_takeNumber_62 (lv_at hl 0 rfl) ?_
            refine lv_iload_n hx hb d_Te_takeNumber_64 rfl (lv_at hl 4 rfl) ?_
            refine z_icmp_lt (tgt := 74) hx hb d_Te_takeNumber_65 (iI_toInt (by omega) (by omega)) (iI_toInt (by omega) (by omega)) (by decide) (fun g65 => ?_) (fun g65 => ?_)
            · refine lv_aload_n hx hb d_Te_takeNumber_74 rfl (lv_at hl 3 rfl) ?_
              refine lv_iconst (v := nI 0) hx hb d_Te_takeNumber_75 (by decide) ?_
              refine eqi (y := bI false) (by decide) ?_
              refine va_put (D := (dC, dI)) (ci := 2) (v := .int (bI false)) (ty := .boolean) (C := R_Te) (T := F_Te) (N := 4) hx hb ht in_Te t_Te t_Te_ok n_Te hown hK hP hD hS 0 rfl rfl 3 (by decide) (ht _ k_65) (fun _ h9 => h9) rfl (by decide +kernel) (bI_narrow _) (bI_fits _) (Nat.le_of_ble_eq_true rfl) d_Te_takeNumber_76 (fun H locs hP hD hS => ?_)
              have hP : va_P (dC, dI) classes [(h, .inr (2, [.ref q, .int (nI s0.2), .int (nI ((tkA2 s0.1 s0.2 r1).1)), .int (bI false)])), (q, .inl (cc, 2400, .inl (iN s0.1)))] H := hP
              have hD : va_D A [(h, .inr (2, [.ref q, .int (nI s0.2), .int (nI ((tkA2 s0.1 s0.2 r1).1)), .int (bI false)])), (q, .inl (cc, 2400, .inl (iN s0.1)))] := hD
              refine lv_iload hx hb d_Te_takeNumber_79 (lv_at hl 0 rfl) ?_
              rw [tkN2_y hrN (by first | omega | (left; exact ⟨of_decide_eq_true g54, by omega⟩))]
              exact eUi hx hb hr hlocks hP hD hS [0, 1] rfl rfl (by decide) d_Te_takeNumber_81 (rfl)
            · refine lv_iload hx hb d_Te_takeNumber_68 (lv_at hl 0 rfl) ?_
              refine lv_iload_n hx hb d_Te_takeNumber_70 rfl (lv_at hl 5 rfl) ?_
              refine z_icmp_le (tgt := 79) hx hb d_Te_takeNumber_71 (iI_toInt (by omega) (by omega)) (iI_toInt (by omega) (by omega)) (by decide) (fun g71 => ?_) (fun g71 => ?_)
              · refine lv_iload hx hb d_Te_takeNumber_79 (lv_at hl 0 rfl) ?_
                rw [tkN2_n hrN (by first | (have := of_decide_eq_false g54; omega) | omega)]
                exact eUi hx hb hr hlocks hP hD hS [0, 1] rfl rfl (by decide) d_Te_takeNumber_81 (rfl)
              · refine lv_aload_n hx hb d_Te_takeNumber_74 rfl (lv_at hl 3 rfl) ?_
                refine lv_iconst (v := nI 0) hx hb d_Te_takeNumber_75 (by decide) ?_
                refine eqi (y := bI false) (by decide) ?_
                refine va_put (D := (dC, dI)) (ci := 2) (v := .int (bI false)) (ty := .boolean) (C := R_Te) (T := F_Te) (N := 4) hx hb ht in_Te t_Te t_Te_ok n_Te hown hK hP hD hS 0 rfl rfl 3 (by decide) (ht _ k_65) (fun _ h9 => h9) rfl (by decide +kernel) (bI_narrow _) (bI_fits _) (Nat.le_of_ble_eq_true rfl) d_Te_takeNumber_76 (fun H locs hP hD hS => ?_)
                have hP : va_P (dC, dI) classes [(h, .inr (2, [.ref q, .int (nI s0.2), .int (nI ((tkA2 s0.1 s0.2 r1).1)), .int (bI false)])), (q, .inl (cc, 2400, .inl (iN s0.1)))] H := hP
                have hD : va_D A [(h, .inr (2, [.ref q, .int (nI s0.2), .int (nI ((tkA2 s0.1 s0.2 r1).1)), .int (bI false)])), (q, .inl (cc, 2400, .inl (iN s0.1)))] := hD
                refine lv_iload hx hb d_Te_takeNumber_79 (lv_at hl 0 rfl) ?_
                rw [tkN2_y hrN (by first | omega | (left; exact ⟨of_decide_eq_true g54, by omega⟩))]
                exact eUi hx hb hr hlocks hP hD hS [0, 1] rfl rfl (by decide) d_Te_takeNumber_81 (rfl)
      refine lv_iload_n hx hb d_Te_takeNumber_39 rfl (lv_at hl 1 rfl) ?_
      refine b_if_eq (tgt := 49) hx hb d_Te_takeNumber_40 (by decide) (fun g40 => ?_) (fun g40 => ?_)
      · refine lv_iload hx hb d_Te_takeNumber_49 (lv_at hl 0 rfl) ?_
        refine eqi (y := iI (tkN1 s0.1 s0.2 r0)) (by rw [nI_iI, tkN1_n hrN (of_decide_eq_false g40)]) ?_
        exact cut51  _ _ _  (lv_sub hl [0, 1, 2, 3, 4] rfl) (hP.sub [0, 1] rfl) (hD.sub [0, 1] (by decide) rfl) hS
      · refine lv_iload hx hb d_Te_takeNumber_43 (lv_at hl 0 rfl) ?_
        refine eqi (y := iI ((tkA1 s0.1 s0.2 r1 : Nat) : Int)) ((nI_iI _)) ?_
        refine zNeg hx hb d_Te_takeNumber_45 ?_
        refine eqi (y := iI (tkN1 s0.1 s0.2 r0)) (by rw [tkN1_y hrN (of_decide_eq_true g40)]) ?_
        refine lv_goto (tgt := 51) hx hb d_Te_takeNumber_46 (by decide) ?_
        exact cut51  _ _ _  (lv_sub hl [0, 1, 2, 3, 4] rfl) (hP.sub [0, 1] rfl) (hD.sub [0, 1] (by decide) rfl) hS
    refine lv_iload_n hx hb d_Te_takeNumber_19 rfl (lv_at hl 0 rfl) ?_
    refine b_if_eq (tgt := 33) hx hb d_Te_takeNumber_20 (by decide) (fun g20 => ?_) (fun g20 => ?_)
    · exact cut33 r0 _ _ _ (by rw [tkNs, if_neg (of_decide_eq_false g20)]) (hr1) (lv_sub hl [0, 1, 2, 3] rfl) (hP.sub [0, 1] rfl) (hD.sub [0, 1] (by decide) rfl) hS
    · refine lv_aload_n hx hb d_Te_takeNumber_23 rfl (lv_at hl 1 rfl) ?_
      refine lv_dup hx hb d_Te_takeNumber_24 rfl ?_
      refine va_get (D := (dC, dI)) (ci := 2) (v := .int (nI r0.1)) (C := R_Te) (T := F_Te) (N := 4) hx hb ht in_Te hown hK hP 0 rfl rfl 2 (by decide) (ht _ k_64) (fun _ h9 => h9) rfl d_Te_takeNumber_25 ?_
      refine lv_iconst (v := nI 1) hx hb d_Te_takeNumber_28 (by decide) ?_
      refine nAdd hx hb d_Te_takeNumber_29 ?_
      refine va_put (D := (dC, dI)) (ci := 2) (v := .int (nI (r0.1 + 1))) (ty := .int) (C := R_Te) (T := F_Te) (N := 4) hx hb ht in_Te t_Te t_Te_ok n_Te hown hK hP hD hS 0 rfl rfl 2 (by decide) (ht _ k_64) (fun _ h9 => h9) rfl (by decide +kernel) rfl rfl (Nat.le_of_ble_eq_true rfl) d_Te_takeNumber_30 (fun H locs hP hD hS => ?_)
      have hP : va_P (dC, dI) classes [(h, .inr (2, [.ref q, .int (nI s0.2), .int (nI (r0.1 + 1)), .int (bI r0.2)])), (q, .inl (cc, 2400, .inl (iN s0.1)))] H := hP
      have hD : va_D A [(h, .inr (2, [.ref q, .int (nI s0.2), .int (nI (r0.1 + 1)), .int (bI r0.2)])), (q, .inl (cc, 2400, .inl (iN s0.1)))] := hD
      exact cut33 (r0.1 + 1, r0.2) _ _ _ (by rw [tkNs, if_pos (of_decide_eq_true g20)]) (by have := atZ_nat (c := 45) (of_decide_eq_true g20); show r0.1 + 1 ≤ _; omega) (lv_sub hl [0, 1, 2, 3] rfl) (hP.sub [0, 1] rfl) (hD.sub [0, 1] (by decide) rfl) hS
  refine z_icmp_ne (tgt := 17) hx hb d_Te_takeNumber_10 (iI_toInt (by omega) (by omega)) (tI_n (by omega)) (by decide) (fun g10 => ?_) (fun g10 => ?_)
  · refine lv_iconst (v := nI 0) hx hb d_Te_takeNumber_17 (by decide) ?_
    refine eqi (y := bI (decide (atZ s0.1 s0.2 (r0.1 : Int) = 45))) (bn_zero g10) ?_
    exact cut18  _ _ _  (lv_sub hl [0, 1, 2] rfl) (hP.sub [0, 1] rfl) (hD.sub [0, 1] (by decide) rfl) hS
  · refine lv_iconst (v := nI 1) hx hb d_Te_takeNumber_13 (by decide) ?_
    refine eqi (y := bI (decide (atZ s0.1 s0.2 (r0.1 : Int) = 45))) (bn_one g10) ?_
    refine lv_goto (tgt := 18) hx hb d_Te_takeNumber_14 (by decide) ?_
    exact cut18  _ _ _  (lv_sub hl [0, 1, 2] rfl) (hP.sub [0, 1] rfl) (hD.sub [0, 1] (by decide) rfl) hS
end
section
def ab1 (k g : Nat) (s : abT) : abT := if k = 13 then s else adB s (nI (kF k + g))
def ab2 (k : Nat) (v : Int) (s : abT) : abT := if kN k = 3 then adB s (iI v >>> ((8 : Int32) &&& 31)) else s
def ab3 (k : Nat) (v : Int) (s : abT) : abT := if kN k = 0 then s else adB s (iI v &&& 255)
theorem adBs_e (k g : Nat) (v : Int) (s : abT) : adBs k g v s = ab3 k v (ab2 k v (ab1 k g s)) := rfl
theorem adBs_len (k g : Nat) (v : Int) (s : abT) : (adBs k g v s).2 ≤ s.2 + 3 := by
  have h : ∀ (s : abT) (x : Int32), (adB s x).2 = s.2 + 1 := fun _ _ => rfl
  rw [adBs_e]
  have h1 : (ab1 k g s).2 ≤ s.2 + 1 := by
    unfold ab1
    split
    · omega
    · rw [h]; omega
  have h2 : (ab2 k v (ab1 k g s)).2 ≤ (ab1 k g s).2 + 1 := by
    unfold ab2
    split
    · rw [h]; omega
    · omega
  have h3 : (ab3 k v (ab2 k v (ab1 k g s))).2 ≤ (ab2 k v (ab1 k g s)).2 + 1 := by
    unfold ab3
    split
    · omega
    · rw [h]; omega
  omega
theorem rdRF_in {t : Nat → Nat} {n : Nat} : ∀ (j k : Nat) (r : rdT) (g : Nat), r.1 ≤ n → g < 4 ^ k → k + j ≤ 2 → (rdRF t n j k r g).1.1 ≤ n ∧ (rdRF t n j k r g).2 < 16 := by
  intro j
  induction j with
  | zero =>
    intro k r g h1 h2 h3
    refine ⟨h1, ?_⟩
    have : (4 : Nat) ^ k ≤ 4 ^ 2 := Nat.pow_le_pow_right (by omega) (by omega)
    show g < 16
    omega
  | succ j ih =>
    intro k r g h1 h2 h3
    simp only [rdRF]
    have hc := tkC_le (t := t) (k := k) h1
    have hr := tkR_le (t := t) hc
    exact ih (k + 1) _ _ hr.1 (by rw [Nat.pow_succ]; omega) (by omega)
theorem rdR_in {t : Nat → Nat} {n k : Nat} {r : rdT} (h : r.1 ≤ n) : (rdR t n k r).1.1 ≤ n ∧ (rdR t n k r).2 < 16 := rdRF_in _ 0 r 0 h (by decide) (by have := kR_le k; omega)
theorem rdN_le {t : Nat → Nat} {n k : Nat} {r : rdT} (h : r.1 ≤ n) : (rdN2 t n k r).1 ≤ n := by
  unfold rdN2
  split
  · exact h
  · exact tkN_le (tkC_le h)
theorem rdL_n {t : Nat → Nat} {n : Nat} {r : rdT} {a : abT} (e : tkK1 t n r = none) : rdLr t n r = tkK2 t n r ∧ rdLs t n r a = a := by
  unfold rdLr rdLs
  rw [e]
  exact ⟨rfl, rfl⟩
theorem rdL_y {t : Nat → Nat} {n k : Nat} {r : rdT} {a : abT} (e : tkK1 t n r = some k) : rdLr t n r = tk t n 10 (rdN2 t n k (rdR t n k (tkK2 t n r)).1) ∧ rdLs t n r a = adBs k (rdR t n k (tkK2 t n r)).2 (rdN1 t n k (rdR t n k (tkK2 t n r)).1) a := by
  unfold rdLr rdLs
  rw [e]
  exact ⟨rfl, rfl⟩
theorem rdLr_le {t : Nat → Nat} {n : Nat} {r : rdT} (h : r.1 ≤ n) : (rdLr t n r).1 ≤ n := by
  cases e : tkK1 t n r with
  | none => rw [(rdL_n (a := (fun _ => 0, 0)) e).1]; exact tkK_le h
  | some k => rw [(rdL_y (a := (fun _ => 0, 0)) e).1]; exact tk_le (rdN_le (rdR_in (tkK_le h)).1)
theorem rdLs_le {t : Nat → Nat} {n : Nat} {r : rdT} {a : abT} : (rdLs t n r a).2 ≤ a.2 + 3 := by
  cases e : tkK1 t n r with
  | none => rw [(rdL_n (a := a) e).2]; omega
  | some k => rw [(rdL_y (a := a) e).2]; exact adBs_len _ _ _ _
theorem min_160 {k : Nat} (h : k ≤ 160) : (if nI 160 < nI k then nI 160 else nI k) = nI k := if_neg (nI_nlt h (by decide))
theorem min_160b {k : Nat} (h : k ≤ 160) : (if nI k < nI 160 then nI k else nI 160) = nI k := by
  by_cases q : k = 160
  · subst q
    rw [if_neg (nI_nlt (Nat.le_refl _) (by decide))]
  · rw [if_pos (nI_lt (by omega) (by decide))]
section CpI
variable {p : Program} {l : Launch} {e : Env} {R : Room} {s : State} {m : MethodId} {args : Array Value} {below : List Frame} {meth : Method} {c : Code} {H : Heap} {locs : List Loc} {cells slots : Nat} {Q : State → Prop} {pc : Nat} {ls : Array Slot} {rest : List Value} {cc : ByteArray} {D : va_G} {tys : tyL} {ws w1 : va_W} {A : Nat → Prop} {nL : Nat} {lv : List (Nat × Value)}
theorem cpI {own : String} {index q0 q1 t0 t1 a a0 k : Nat} {c0 c1 : ClassId} {f g : Nat → Int32} (hx : p.tables.exec = Jvm.exec) (hb : c.code = cc) (hml : c.maxLocals = nL) (hl : lv_has ls nL lv) (hown : s.vm.findClass own = some m.cls) (ht : ∀ w ∈ lw_g, w.before args s = true) (k1 : Cond.methodLink own index arraycopyName ∈ lw_g) (k2 : Cond.native arraycopyName ∈ lw_g) (k3 : Cond.static arraycopyName ∈ lw_g) (k4 : Cond.initialized "java/lang/System" ∈ lw_g)
    (hK : va_K D classes tys s) (hP : va_P D classes ws H) (hD : va_D A ws) (hS : va_S A s.heap H locs) (ha0 : ws[q0]? = some (a0, .inl (c0, 160, .inl f))) (ha1 : ws[q1]? = some (a, .inl (c1, 160, .inl g))) (ht0 : tys[t0]? = some (c0, .int)) (ht1 : tys[t1]? = some (c1, .int)) (hk : k ≤ 160)
    (hframes : 1 ≤ R.frames) (hlocals : (rest.map fun v => v.category).sum + (nativeFrameWords "java/lang/System" "arraycopy" 5 + 11) ≤ R.locals) (hdg : decode cc pc = .ok (.invokestatic index, 3)) (hw : ws.set q1 (a, .inl (c1, 160, .inl (va_cpy f g 0 0 k))) = w1)
    (kk : ∀ (H1 : Heap) (locs1 : List Loc), va_P D classes w1 H1 → va_D A w1 → va_S A s.heap H1 locs1 → W p l e R s m args below meth c H1 locs1 cells slots Q (F0 m (pc + 3) ls rest)) : W p l e R s m args below meth c H locs cells slots Q (F0 m pc ls (.int (nI k) :: .int (nI 0) :: .ref a :: .int (nI 0) :: .ref a0 :: rest)) := by
  subst hw
  have e0 : (nI 0).toNatClampNeg = 0 := by decide
  have ek : (nI k).toNatClampNeg = k := clp (by omega)
  refine va_copyi hx hb (hml.trans hl.1.symm) hown (ht _ k1) (ht _ k2) (ht _ k3) (ht _ k4) hK hP hD hS q0 q1 t0 t1 ha0 ha1 ht0 ht1 rfl (by decide) (by decide) (nI_pos (by omega)) (by rw [e0, ek]; omega) (by rw [e0, ek]; omega) (fun i _ => rfl) hframes hlocals hdg (fun H1 locs1 h1 h2 h3 => ?_)
  rw [e0, ek] at h1 h2
  exact kk H1 locs1 h1 h2 h3
end CpI
theorem loN_in (m : Nat) : -65536 ≤ loN m ∧ loN m ≤ 65536 ∧ -65536 ≤ hiN m ∧ hiN m ≤ 65536 := by
  unfold loN hiN
  refine ⟨?_, ?_, ?_, ?_⟩ <;> (repeat' split) <;> omega
end
section
set_option maxHeartbeats 4000000 in
set_option maxRecDepth 100000 in
theorem c_As_count (l : Launch) (dC : Nat → ClassId) (dI : Nat → Nat → Nat) (z : zT) (ha : Nat) (qa : Nat) (cb : ClassId) (a0 : abT) : MR l y_As_count b_As_count 1 (some .int) 0 0 (dC, dI) z [.ref ha] [(ha, .inr (0, [.ref qa, .int (nI a0.2)])), (qa, .inl (cb, 160, .inl a0.1))] [(cb, .int)] (.int (nI a0.2)) := by
  refine metR (by decide) (Nat.le_of_ble_eq_true rfl) ?_
  intro p e s m below meth c ls hx hb hr hlocks hml hown ht hl hP hK hSS
  have hl : lv_has ls 1 [(0, .ref ha)] := hl
  have hS : va_S (fun _ => False) s.heap s.heap [] := va_S.rf
  refine lv_aload_n hx hb d_As_count_0 rfl (lv_at hl 0 rfl) ?_
  refine va_get (D := (dC, dI)) (ci := 0) (v := .int (nI a0.2)) (C := R_As) (T := F_As) (N := 2) hx hb ht in_As hown hK hP 0 rfl rfl 1 (by decide) (ht _ k_83) (fun _ h9 => h9) rfl d_As_count_1 ?_
  exact eRi hx hb hr hlocks d_As_count_4 (rfl)

set_option maxHeartbeats 4000000 in
set_option maxRecDepth 100000 in
theorem c_As_addByte (l : Launch) (dC : Nat → ClassId) (dI : Nat → Nat → Nat) (z : zT) (sz : Nat) (ha : Nat) (qa : Nat) (cb : ClassId) (a0 : abT) (x : Int32) (ha0 : a0.2 ≤ 9000) : MU l y_As_addByte b_As_addByte 2 none 0 0 (dC, dI) z [.ref ha, .int x] [(ha, .inr (0, [.ref qa, .int (nI a0.2)])), (qa, .inl (cb, 160, .inl a0.1))] [(cb, .int)] sz none [(ha, .inr (0, [.ref qa, .int (nI ((adB a0 x).2))])), (qa, .inl (cb, 160, .inl ((adB a0 x).1)))] := by
  refine metU (by decide) (Nat.le_of_ble_eq_true rfl) ?_
  intro p e s m below meth c ls A hx hb hr hlocks hml hown ht hl hP hK hSS hD hS hA
  have hl : lv_has ls 2 [(0, .ref ha), (1, .int x)] := hl
  refine lv_aload_n hx hb d_As_addByte_0 rfl (lv_at hl 0 rfl) ?_
  refine va_get (D := (dC, dI)) (ci := 0) (v := .int (nI a0.2)) (C := R_As) (T := F_As) (N := 2) hx hb ht in_As hown hK hP 0 rfl rfl 1 (by decide) (ht _ k_83) (fun _ h9 => h9) rfl d_As_addByte_1 ?_
  refine lv_sipush (v := nI 160) hx hb d_As_addByte_4 (by decide) ?_
  refine z_icmp_ge (tgt := 20) hx hb d_As_addByte_7 (tI_n (by omega)) (tI_n (by omega)) (by decide) (fun g7 => ?_) (fun g7 => ?_)
  · refine lv_aload_n hx hb d_As_addByte_20 rfl (lv_at hl 0 rfl) ?_
    refine lv_dup hx hb d_As_addByte_21 rfl ?_
    refine va_get (D := (dC, dI)) (ci := 0) (v := .int (nI a0.2)) (C := R_As) (T := F_As) (N := 2) hx hb ht in_As hown hK hP 0 rfl rfl 1 (by decide) (ht _ k_83) (fun _ h9 => h9) rfl d_As_addByte_22 ?_
    refine lv_iconst (v := nI 1) hx hb d_As_addByte_25 (by decide) ?_
    refine nAdd hx hb d_As_addByte_26 ?_
    refine va_put (D := (dC, dI)) (ci := 0) (v := .int (nI (a0.2 + 1))) (ty := .int) (C := R_As) (T := F_As) (N := 2) hx hb ht in_As t_As t_As_ok n_As hown hK hP hD hS 0 rfl rfl 1 (by decide) (ht _ k_83) (fun _ h9 => h9) rfl (by decide +kernel) rfl rfl (Nat.le_of_ble_eq_true rfl) d_As_addByte_27 (fun H locs hP hD hS => ?_)
    have hP : va_P (dC, dI) classes [(ha, .inr (0, [.ref qa, .int (nI (a0.2 + 1))])), (qa, .inl (cb, 160, .inl a0.1))] H := hP
    have hD : va_D A [(ha, .inr (0, [.ref qa, .int (nI (a0.2 + 1))])), (qa, .inl (cb, 160, .inl a0.1))] := hD
    rw [adB, if_neg (by omega)]
    exact eUv hx hb hr hlocks hP hD hS [0, 1] rfl rfl (by decide) d_As_addByte_30
  · refine lv_aload_n hx hb d_As_addByte_10 rfl (lv_at hl 0 rfl) ?_
    refine va_get (D := (dC, dI)) (ci := 0) (v := .ref qa) (C := R_As) (T := F_As) (N := 2) hx hb ht in_As hown hK hP 0 rfl rfl 0 (by decide) (ht _ k_82) (fun _ h9 => h9) rfl d_As_addByte_11 ?_
    refine lv_aload_n hx hb d_As_addByte_14 rfl (lv_at hl 0 rfl) ?_
    refine va_get (D := (dC, dI)) (ci := 0) (v := .int (nI a0.2)) (C := R_As) (T := F_As) (N := 2) hx hb ht in_As hown hK hP 0 rfl rfl 1 (by decide) (ht _ k_83) (fun _ h9 => h9) rfl d_As_addByte_15 ?_
    refine lv_iload_n hx hb d_As_addByte_18 rfl (lv_at hl 1 rfl) ?_
    refine stX (q0 := 1) (t0 := 0) (w1 := [(ha, .inr (0, [.ref qa, .int (nI a0.2)])), (qa, .inl (cb, 160, .inl (upd a0.1 a0.2 x)))]) hx hb d_As_addByte_19 hK hP hD hS rfl rfl (by omega) (by decide) rfl (fun H locs hP hD hS => ?_)
    refine lv_aload_n hx hb d_As_addByte_20 rfl (lv_at hl 0 rfl) ?_
    refine lv_dup hx hb d_As_addByte_21 rfl ?_
    refine va_get (D := (dC, dI)) (ci := 0) (v := .int (nI a0.2)) (C := R_As) (T := F_As) (N := 2) hx hb ht in_As hown hK hP 0 rfl rfl 1 (by decide) (ht _ k_83) (fun _ h9 => h9) rfl d_As_addByte_22 ?_
    refine lv_iconst (v := nI 1) hx hb d_As_addByte_25 (by decide) ?_
    refine nAdd hx hb d_As_addByte_26 ?_
    refine va_put (D := (dC, dI)) (ci := 0) (v := .int (nI (a0.2 + 1))) (ty := .int) (C := R_As) (T := F_As) (N := 2) hx hb ht in_As t_As t_As_ok n_As hown hK hP hD hS 0 rfl rfl 1 (by decide) (ht _ k_83) (fun _ h9 => h9) rfl (by decide +kernel) rfl rfl (Nat.le_of_ble_eq_true rfl) d_As_addByte_27 (fun H locs hP hD hS => ?_)
    have hP : va_P (dC, dI) classes [(ha, .inr (0, [.ref qa, .int (nI (a0.2 + 1))])), (qa, .inl (cb, 160, .inl (upd a0.1 a0.2 x)))] H := hP
    have hD : va_D A [(ha, .inr (0, [.ref qa, .int (nI (a0.2 + 1))])), (qa, .inl (cb, 160, .inl (upd a0.1 a0.2 x)))] := hD
    rw [adB, if_pos (by omega)]
    exact eUv hx hb hr hlocks hP hD hS [0, 1] rfl rfl (by decide) d_As_addByte_30

set_option maxHeartbeats 4000000 in
set_option maxRecDepth 100000 in
theorem c_As_addBytes (l : Launch) (dC : Nat → ClassId) (dI : Nat → Nat → Nat) (z : zT) (sz : Nat) (ha : Nat) (qa : Nat) (cb : ClassId) (a0 : abT) (k : Nat) (g : Nat) (v : Int) (ha0 : a0.2 ≤ 8000) (hk : k < 14) (hg : g < 16) : MU l y_As_addBytes b_As_addBytes 4 none 1 21 (dC, dI) z [.ref ha, .int (nI k), .int (nI g), .int (iI v)] [(ha, .inr (0, [.ref qa, .int (nI a0.2)])), (qa, .inl (cb, 160, .inl a0.1))] [(cb, .int)] sz none [(ha, .inr (0, [.ref qa, .int (nI ((adBs k g v a0).2))])), (qa, .inl (cb, 160, .inl ((adBs k g v a0).1)))] := by
  have hkf := kF_lt k
  have hkn := kN_cases k hk
  refine metU (by decide) (Nat.le_of_ble_eq_true rfl) ?_
  intro p e s m below meth c ls A hx hb hr hlocks hml hown ht hl hP hK hSS hD hS hA
  have hl : lv_has ls 4 [(0, .ref ha), (1, .int (nI k)), (2, .int (nI g)), (3, .int (iI v))] := hl
  have cut16 : ∀  (a1 : abT) (ls : Array Slot) (H : Heap) (locs : List Loc), (adBs k g v a0 = ab3 k v (ab2 k v a1)) → (a1.2 ≤ a0.2 + 1) → lv_has ls 4 [(0, .ref ha), (1, .int (nI k)), (2, .int (nI g)), (3, .int (iI v))] → va_P (dC, dI) classes [(ha, .inr (0, [.ref qa, .int (nI a1.2)])), (qa, .inl (cb, 160, .inl a1.1))] H → va_D A [(ha, .inr (0, [.ref qa, .int (nI a1.2)])), (qa, .inl (cb, 160, .inl a1.1))] → va_S A s.heap H locs → W p l e (rmq 1 21) s m [.ref ha, .int (nI k), .int (nI g), .int (iI v)].toArray below meth c H locs 0 0 (MQ below (qcU none (dC, dI) [(ha, .inr (0, [.ref qa, .int (nI ((adBs k g v a0).2))])), (qa, .inl (cb, 160, .inl ((adBs k g v a0).1)))] A) [.ref ha, .int (nI k), .int (nI g), .int (iI v)].toArray s 0 0 A) (F0 m 16 ls []) := by
    intro a1 ls H locs hR1 hl1 hl hP hD hS
    have cut32 : ∀  (a2 : abT) (ls : Array Slot) (H : Heap) (locs : List Loc), (adBs k g v a0 = ab3 k v a2) → (a2.2 ≤ a0.2 + 2) → lv_has ls 4 [(0, .ref ha), (1, .int (nI k)), (2, .int (nI g)), (3, .int (iI v))] → va_P (dC, dI) classes [(ha, .inr (0, [.ref qa, .int (nI a2.2)])), (qa, .inl (cb, 160, .inl a2.1))] H → va_D A [(ha, .inr (0, [.ref qa, .int (nI a2.2)])), (qa, .inl (cb, 160, .inl a2.1))] → va_S A s.heap H locs → W p l e (rmq 1 21) s m [.ref ha, .int (nI k), .int (nI g), .int (iI v)].toArray below meth c H locs 0 0 (MQ below (qcU none (dC, dI) [(ha, .inr (0, [.ref qa, .int (nI ((adBs k g v a0).2))])), (qa, .inl (cb, 160, .inl ((adBs k g v a0).1)))] A) [.ref ha, .int (nI k), .int (nI g), .int (iI v)].toArray s 0 0 A) (F0 m 32 ls []) := by
      intro a2 ls H locs hR2 hl2 hl hP hD hS
      refine lv_iload_n hx hb d_As_addBytes_32 rfl (lv_at hl 1 rfl) ?_
      refine rS (As := [.int (nI k)]) (rest := []) hx hb hml hown ht (c_Ki_number l dC dI z k (by first | assumption | omega)) ys_Ki_number k_436 (Nat.le_of_ble_eq_true rfl) (Nat.le_of_ble_eq_true rfl) hP hK hSS hS [] [] rfl rfl hl rfl rfl (Nat.le_of_ble_eq_true rfl) (Nat.zero_le _) (Nat.zero_le _) d_As_addBytes_33 ?_
      refine z_if_eq (tgt := 48) hx hb d_As_addBytes_36 (tI_n (by omega)) (by decide) (fun g36 => ?_) (fun g36 => ?_)
      · rw [hR2, ab3, if_pos (by omega)]
        exact eUv hx hb hr hlocks hP hD hS [0, 1] rfl rfl (by decide) d_As_addBytes_48
      · refine lv_aload_n hx hb d_As_addBytes_39 rfl (lv_at hl 0 rfl) ?_
        refine lv_iload_n hx hb d_As_addBytes_40 rfl (lv_at hl 3 rfl) ?_
        refine lv_sipush (v := nI 255) hx hb d_As_addBytes_41 (by decide) ?_
        refine lv_iand hx hb d_As_addBytes_44 ?_
        refine eqi (y := iI v &&& 255) (rfl) ?_
        refine uV (As := [.int (iI v &&& 255)]) (rest := []) (wr := []) hx hb hml hown ht (c_As_addByte l dC dI z _ ha qa cb a2 (iI v &&& 255) (by first | assumption | omega)) yv_As_addByte k_461 (Nat.le_of_ble_eq_true rfl) (Nat.le_of_ble_eq_true rfl) hP hK hSS hD hS hA [0, 1] [] [0] rfl rfl (by decide) rfl (by decide) (by decide) rfl 0 0 rfl rfl rfl hl rfl rfl (Nat.le_of_ble_eq_true rfl) (Nat.zero_le _) (Nat.zero_le _) d_As_addBytes_45 (fun H locs hP hD hS => ?_)
        have hP : va_P (dC, dI) classes [(ha, .inr (0, [.ref qa, .int (nI ((adB a2 (iI v &&& 255)).2))])), (qa, .inl (cb, 160, .inl ((adB a2 (iI v &&& 255)).1)))] H := hP
        have hD : va_D A [(ha, .inr (0, [.ref qa, .int (nI ((adB a2 (iI v &&& 255)).2))])), (qa, .inl (cb, 160, .inl ((adB a2 (iI v &&& 255)).1)))] := hD
        refine stk (st2 := []) rfl ?_
        rw [hR2, ab3, if_neg (by omega)]
        exact eUv hx hb hr hlocks hP hD hS [0, 1] rfl rfl (by decide) d_As_addBytes_48
    refine lv_iload_n hx hb d_As_addBytes_16 rfl (lv_at hl 1 rfl) ?_
    refine rS (As := [.int (nI k)]) (rest := []) hx hb hml hown ht (c_Ki_number l dC dI z k (by first | assumption | omega)) ys_Ki_number k_436 (Nat.le_of_ble_eq_true rfl) (Nat.le_of_ble_eq_true rfl) hP hK hSS hS [] [] rfl rfl hl rfl rfl (Nat.le_of_ble_eq_true rfl) (Nat.zero_le _) (Nat.zero_le _) d_As_addBytes_17 ?_
    refine lv_iconst (v := nI 3) hx hb d_As_addBytes_20 (by decide) ?_
    refine z_icmp_ne (tgt := 32) hx hb d_As_addBytes_21 (tI_n (by omega)) (tI_n (by omega)) (by decide) (fun g21 => ?_) (fun g21 => ?_)
    · exact cut32 a1 _ _ _ (by rw [hR1, ab2, if_neg (by omega)]) (by omega) (lv_sub hl [0, 1, 2, 3] rfl) (hP.sub [0, 1] rfl) (hD.sub [0, 1] (by decide) rfl) hS
    · refine lv_aload_n hx hb d_As_addBytes_24 rfl (lv_at hl 0 rfl) ?_
      refine lv_iload_n hx hb d_As_addBytes_25 rfl (lv_at hl 3 rfl) ?_
      refine lv_bipush (v := nI 8) hx hb d_As_addBytes_26 (by decide) ?_
      refine lv_ishr hx hb d_As_addBytes_28 ?_
      refine eqi (y := iI v >>> ((8 : Int32) &&& 31)) (rfl) ?_
      refine uV (As := [.int (iI v >>> ((8 : Int32) &&& 31))]) (rest := []) (wr := []) hx hb hml hown ht (c_As_addByte l dC dI z _ ha qa cb a1 (iI v >>> ((8 : Int32) &&& 31)) (by first | assumption | omega)) yv_As_addByte k_461 (Nat.le_of_ble_eq_true rfl) (Nat.le_of_ble_eq_true rfl) hP hK hSS hD hS hA [0, 1] [] [0] rfl rfl (by decide) rfl (by decide) (by decide) rfl 0 0 rfl rfl rfl hl rfl rfl (Nat.le_of_ble_eq_true rfl) (Nat.zero_le _) (Nat.zero_le _) d_As_addBytes_29 (fun H locs hP hD hS => ?_)
      have hP : va_P (dC, dI) classes [(ha, .inr (0, [.ref qa, .int (nI ((adB a1 (iI v >>> ((8 : Int32) &&& 31))).2))])), (qa, .inl (cb, 160, .inl ((adB a1 (iI v >>> ((8 : Int32) &&& 31))).1)))] H := hP
      have hD : va_D A [(ha, .inr (0, [.ref qa, .int (nI ((adB a1 (iI v >>> ((8 : Int32) &&& 31))).2))])), (qa, .inl (cb, 160, .inl ((adB a1 (iI v >>> ((8 : Int32) &&& 31))).1)))] := hD
      refine stk (st2 := []) rfl ?_
      exact cut32 (adB a1 (iI v >>> ((8 : Int32) &&& 31))) _ _ _ (by rw [hR1, ab2, if_pos (by omega)]) (by show a1.2 + 1 ≤ _; omega) (lv_sub hl [0, 1, 2, 3] rfl) (hP.sub [0, 1] rfl) (hD.sub [0, 1] (by decide) rfl) hS
  refine lv_iload_n hx hb d_As_addBytes_0 rfl (lv_at hl 1 rfl) ?_
  refine lv_bipush (v := nI 13) hx hb d_As_addBytes_1 (by decide) ?_
  refine z_icmp_eq (tgt := 16) hx hb d_As_addBytes_3 (tI_n (by omega)) (tI_n (by omega)) (by decide) (fun g3 => ?_) (fun g3 => ?_)
  · exact cut16 a0 _ _ _ (by rw [adBs_e, ab1, if_pos (by omega)]) (by omega) (lv_sub hl [0, 1, 2, 3] rfl) (hP.sub [0, 1] rfl) (hD.sub [0, 1] (by decide) rfl) hS
  · refine lv_aload_n hx hb d_As_addBytes_6 rfl (lv_at hl 0 rfl) ?_
    refine lv_iload_n hx hb d_As_addBytes_7 rfl (lv_at hl 1 rfl) ?_
    refine rS (As := [.int (nI k)]) (rest := [.ref ha]) hx hb hml hown ht (c_Ki_first l dC dI z k (by first | assumption | omega)) ys_Ki_first k_460 (Nat.le_of_ble_eq_true rfl) (Nat.le_of_ble_eq_true rfl) hP hK hSS hS [] [] rfl rfl hl rfl rfl (Nat.le_of_ble_eq_true rfl) (Nat.zero_le _) (Nat.zero_le _) d_As_addBytes_8 ?_
    refine lv_iload_n hx hb d_As_addBytes_11 rfl (lv_at hl 2 rfl) ?_
    refine nAdd hx hb d_As_addBytes_12 ?_
    refine uV (As := [.int (nI ((kF k) + g))]) (rest := []) (wr := []) hx hb hml hown ht (c_As_addByte l dC dI z _ ha qa cb a0 (nI ((kF k) + g)) (by first | assumption | omega)) yv_As_addByte k_461 (Nat.le_of_ble_eq_true rfl) (Nat.le_of_ble_eq_true rfl) hP hK hSS hD hS hA [0, 1] [] [0] rfl rfl (by decide) rfl (by decide) (by decide) rfl 0 0 rfl rfl rfl hl rfl rfl (Nat.le_of_ble_eq_true rfl) (Nat.zero_le _) (Nat.zero_le _) d_As_addBytes_13 (fun H locs hP hD hS => ?_)
    have hP : va_P (dC, dI) classes [(ha, .inr (0, [.ref qa, .int (nI ((adB a0 (nI ((kF k) + g))).2))])), (qa, .inl (cb, 160, .inl ((adB a0 (nI ((kF k) + g))).1)))] H := hP
    have hD : va_D A [(ha, .inr (0, [.ref qa, .int (nI ((adB a0 (nI ((kF k) + g))).2))])), (qa, .inl (cb, 160, .inl ((adB a0 (nI ((kF k) + g))).1)))] := hD
    refine stk (st2 := []) rfl ?_
    exact cut16 (adB a0 (nI ((kF k) + g))) _ _ _ (by rw [adBs_e, ab1, if_neg (by omega)]) (Nat.le_refl _) (lv_sub hl [0, 1, 2, 3] rfl) (hP.sub [0, 1] rfl) (hD.sub [0, 1] (by decide) rfl) hS

set_option maxHeartbeats 4000000 in
set_option maxRecDepth 100000 in
theorem c_As_readRegisters (l : Launch) (dC : Nat → ClassId) (dI : Nat → Nat → Nat) (z : zT) (sz : Nat) (h : Nat) (q : Nat) (cc : ClassId) (s0 : txT) (r0 : rdT) (k : Nat) (hs : s0.2 ≤ 2400) (hr1 : r0.1 ≤ s0.2) (ht8 : ∀ i, s0.1 i < 256) (hk : k < 14) : MU l y_As_readRegisters b_As_readRegisters 4 (some .int) 3 63 (dC, dI) z [.ref h, .int (nI k)] [(h, .inr (2, [.ref q, .int (nI s0.2), .int (nI r0.1), .int (bI r0.2)])), (q, .inl (cc, 2400, .inl (iN s0.1)))] [(cc, .char)] sz (some (.int (nI ((rdR s0.1 s0.2 k r0).2)))) [(h, .inr (2, [.ref q, .int (nI s0.2), .int (nI ((rdR s0.1 s0.2 k r0).1.1)), .int (bI ((rdR s0.1 s0.2 k r0).1.2))])), (q, .inl (cc, 2400, .inl (iN s0.1)))] := by
  have hkr := kR_le k
  refine metU (by decide) (Nat.le_of_ble_eq_true rfl) ?_
  intro p e s m below meth c ls A hx hb hr hlocks hml hown ht hl hP hK hSS hD hS hA
  have hl : lv_has ls 4 [(0, .ref h), (1, .int (nI k))] := hl
  refine lv_iconst (v := nI 0) hx hb d_As_readRegisters_0 (by decide) ?_
  refine lv_istore_n (lv' := [(2, .int (nI 0)), (0, .ref h), (1, .int (nI k))]) hx hb d_As_readRegisters_1 rfl hl (Nat.le_of_ble_eq_true rfl) rfl (fun ls hl => ?_)
  refine lv_iconst (v := nI 0) hx hb d_As_readRegisters_2 (by decide) ?_
  refine lv_istore_n (lv' := [(3, .int (nI 0)), (2, .int (nI 0)), (0, .ref h), (1, .int (nI k))]) hx hb d_As_readRegisters_3 rfl hl (Nat.le_of_ble_eq_true rfl) rfl (fun ls hl => ?_)
  have loop4 : ∀ (j : Nat) (i : Nat) (r1 : rdT) (g : Nat) (ls : Array Slot) (H : Heap) (locs : List Loc), (i + j = kR k) → (rdR s0.1 s0.2 k r0 = rdRF s0.1 s0.2 j i r1 g) → (r1.1 ≤ s0.2) → (g < 4 ^ i) → lv_has ls 4 [(3, .int (nI i)), (2, .int (nI g)), (0, .ref h), (1, .int (nI k))] → va_P (dC, dI) classes [(h, .inr (2, [.ref q, .int (nI s0.2), .int (nI r1.1), .int (bI r1.2)])), (q, .inl (cc, 2400, .inl (iN s0.1)))] H → va_D A [(h, .inr (2, [.ref q, .int (nI s0.2), .int (nI r1.1), .int (bI r1.2)])), (q, .inl (cc, 2400, .inl (iN s0.1)))] → va_S A s.heap H locs → W p l e (rmq 3 63) s m [.ref h, .int (nI k)].toArray below meth c H locs 0 0 (MQ below (qcU (some (.int (nI ((rdR s0.1 s0.2 k r0).2)))) (dC, dI) [(h, .inr (2, [.ref q, .int (nI s0.2), .int (nI ((rdR s0.1 s0.2 k r0).1.1)), .int (bI ((rdR s0.1 s0.2 k r0).1.2))])), (q, .inl (cc, 2400, .inl (iN s0.1)))] A) [.ref h, .int (nI k)].toArray s 0 0 A) (F0 m 4 ls []) := by
    intro j
    induction j with
    | zero =>
      intro i r1 g ls H locs hi hR hr3 hg hl hP hD hS
      have hRe : rdR s0.1 s0.2 k r0 = (r1, g) := hR
      refine lv_iload_n hx hb d_As_readRegisters_4 rfl (lv_at hl 0 rfl) ?_
      refine lv_iload_n hx hb d_As_readRegisters_5 rfl (lv_at hl 3 rfl) ?_
      refine rS (As := [.int (nI k)]) (rest := [.int (nI i)]) hx hb hml hown ht (c_Ki_registers l dC dI z k (by first | assumption | omega)) ys_Ki_registers k_420 (Nat.le_of_ble_eq_true rfl) (Nat.le_of_ble_eq_true rfl) hP hK hSS hS [] [] rfl rfl hl rfl rfl (Nat.le_of_ble_eq_true rfl) (Nat.zero_le _) (Nat.zero_le _) d_As_readRegisters_6 ?_
      refine z_icmp_ge (tgt := 32) hx hb d_As_readRegisters_9 (tI_n (by omega)) (tI_n (by omega)) (by decide) (fun g9 => ?_) (fun g9 => ?_)
      · refine lv_iload_n hx hb d_As_readRegisters_32 rfl (lv_at hl 1 rfl) ?_
        rw [hRe]
        exact eUi hx hb hr hlocks hP hD hS [0, 1] rfl rfl (by decide) d_As_readRegisters_33 (rfl)
      · exfalso; omega
    | succ j ih =>
      intro i r1 g ls H locs hi hR hr3 hg hl hP hD hS
      have hcc := tkC_le (t := s0.1) (k := i) hr3
      have hrr := tkR_le (t := s0.1) hcc
      have h4 : 4 ^ i ≤ 4 ^ 2 := Nat.pow_le_pow_right (by omega) (by omega)
      refine lv_iload_n hx hb d_As_readRegisters_4 rfl (lv_at hl 0 rfl) ?_
      refine lv_iload_n hx hb d_As_readRegisters_5 rfl (lv_at hl 3 rfl) ?_
      refine rS (As := [.int (nI k)]) (rest := [.int (nI i)]) hx hb hml hown ht (c_Ki_registers l dC dI z k (by first | assumption | omega)) ys_Ki_registers k_420 (Nat.le_of_ble_eq_true rfl) (Nat.le_of_ble_eq_true rfl) hP hK hSS hS [] [] rfl rfl hl rfl rfl (Nat.le_of_ble_eq_true rfl) (Nat.zero_le _) (Nat.zero_le _) d_As_readRegisters_6 ?_
      refine z_icmp_ge (tgt := 32) hx hb d_As_readRegisters_9 (tI_n (by omega)) (tI_n (by omega)) (by decide) (fun g9 => ?_) (fun g9 => ?_)
      · exfalso; omega
      · refine lv_aload_n hx hb d_As_readRegisters_12 rfl (lv_at hl 2 rfl) ?_
        refine lv_iload_n hx hb d_As_readRegisters_13 rfl (lv_at hl 0 rfl) ?_
        refine uV (As := [.int (nI i)]) (rest := []) (wr := []) hx hb hml hown ht (c_Te_takeComma l dC dI z _ h q cc s0 r1 i (by first | assumption | omega) (by first | assumption | omega) (by first | assumption | omega) (by first | assumption | omega)) yv_Te_takeComma k_421 (Nat.le_of_ble_eq_true rfl) (Nat.le_of_ble_eq_true rfl) hP hK hSS hD hS hA [0, 1] [] [0] rfl rfl (by decide) rfl (by decide) (by decide) rfl 0 2 rfl rfl rfl hl rfl rfl (Nat.le_of_ble_eq_true rfl) (Nat.zero_le _) (Nat.zero_le _) d_As_readRegisters_14 (fun H locs hP hD hS => ?_)
        have hP : va_P (dC, dI) classes [(h, .inr (2, [.ref q, .int (nI s0.2), .int (nI ((tkC s0.1 s0.2 i r1).1)), .int (bI ((tkC s0.1 s0.2 i r1).2))])), (q, .inl (cc, 2400, .inl (iN s0.1)))] H := hP
        have hD : va_D A [(h, .inr (2, [.ref q, .int (nI s0.2), .int (nI ((tkC s0.1 s0.2 i r1).1)), .int (bI ((tkC s0.1 s0.2 i r1).2))])), (q, .inl (cc, 2400, .inl (iN s0.1)))] := hD
        refine stk (st2 := []) rfl ?_
        refine lv_iconst (v := nI 4) hx hb d_As_readRegisters_17 (by decide) ?_
        refine lv_iload_n hx hb d_As_readRegisters_18 rfl (lv_at hl 1 rfl) ?_
        refine nMul hx hb d_As_readRegisters_19 ?_
        refine lv_aload_n hx hb d_As_readRegisters_20 rfl (lv_at hl 2 rfl) ?_
        refine uV (As := []) (rest := [.int (nI (4 * g))]) (wr := []) hx hb hml hown ht (c_Te_takeRegister l dC dI z _ h q cc s0 (tkC s0.1 s0.2 i r1) (by first | assumption | omega) (by first | assumption | omega) (by first | assumption | omega)) yv_Te_takeRegister k_429 (Nat.le_of_ble_eq_true rfl) (Nat.le_of_ble_eq_true rfl) hP hK hSS hD hS hA [0, 1] [] [0] rfl rfl (by decide) rfl (by decide) (by decide) rfl 0 2 rfl rfl rfl hl rfl rfl (Nat.le_of_ble_eq_true rfl) (Nat.zero_le _) (Nat.zero_le _) d_As_readRegisters_21 (fun H locs hP hD hS => ?_)
        have hP : va_P (dC, dI) classes [(h, .inr (2, [.ref q, .int (nI s0.2), .int (nI ((tkR2 s0.1 s0.2 (tkC s0.1 s0.2 i r1)).1)), .int (bI ((tkR2 s0.1 s0.2 (tkC s0.1 s0.2 i r1)).2))])), (q, .inl (cc, 2400, .inl (iN s0.1)))] H := hP
        have hD : va_D A [(h, .inr (2, [.ref q, .int (nI s0.2), .int (nI ((tkR2 s0.1 s0.2 (tkC s0.1 s0.2 i r1)).1)), .int (bI ((tkR2 s0.1 s0.2 (tkC s0.1 s0.2 i r1)).2))])), (q, .inl (cc, 2400, .inl (iN s0.1)))] := hD
        refine stk (st2 := [.int (nI (tkR1 s0.1 s0.2 (tkC s0.1 s0.2 i r1))), .int (nI (4 * g))]) rfl ?_
        refine nAdd hx hb d_As_readRegisters_24 ?_
        refine lv_istore_n (lv' := [(2, .int (nI ((4 * g) + (tkR1 s0.1 s0.2 (tkC s0.1 s0.2 i r1))))), (3, .int (nI i)), (0, .ref h), (1, .int (nI k))]) hx hb d_As_readRegisters_25 rfl hl (Nat.le_of_ble_eq_true rfl) rfl (fun ls hl => ?_)
        refine lv_iinc (k := 1) (v := nI (i + 1)) (lv' := [(3, .int (nI (i + 1))), (2, .int (nI ((4 * g) + (tkR1 s0.1 s0.2 (tkC s0.1 s0.2 i r1))))), (0, .ref h), (1, .int (nI k))]) hx hb d_As_readRegisters_26 hl rfl (nI_inc1 _) (Nat.le_of_ble_eq_true rfl) rfl (fun ls hl => ?_)
        refine lv_goto (tgt := 4) hx hb d_As_readRegisters_29 (by decide) ?_
        exact ih (i + 1) (tkR2 s0.1 s0.2 (tkC s0.1 s0.2 i r1)) (4 * g + tkR1 s0.1 s0.2 (tkC s0.1 s0.2 i r1)) _ _ _ (by omega) (by rw [hR, rdRF]) (hrr.1) (by rw [Nat.pow_succ]; omega) (lv_sub hl [0, 1, 2, 3] rfl) (hP.sub [0, 1] rfl) (hD.sub [0, 1] (by decide) rfl) hS
  exact loop4 (kR k) 0 r0 0 _ _ _ (Nat.zero_add _) (rfl) (hr1) (by decide) (lv_sub hl [0, 1, 2, 3] rfl) (hP.sub [0, 1] rfl) (hD.sub [0, 1] (by decide) rfl) hS

set_option maxHeartbeats 4000000 in
set_option maxRecDepth 100000 in
theorem c_As_readNumber (l : Launch) (dC : Nat → ClassId) (dI : Nat → Nat → Nat) (z : zT) (sz : Nat) (h : Nat) (q : Nat) (cc : ClassId) (s0 : txT) (r0 : rdT) (k : Nat) (hs : s0.2 ≤ 2400) (hr1 : r0.1 ≤ s0.2) (ht8 : ∀ i, s0.1 i < 256) (hk : k < 14) : MU l y_As_readNumber b_As_readNumber 3 (some .int) 3 69 (dC, dI) z [.ref h, .int (nI k)] [(h, .inr (2, [.ref q, .int (nI s0.2), .int (nI r0.1), .int (bI r0.2)])), (q, .inl (cc, 2400, .inl (iN s0.1)))] [(cc, .char)] sz (some (.int (iI (rdN1 s0.1 s0.2 k r0)))) [(h, .inr (2, [.ref q, .int (nI s0.2), .int (nI ((rdN2 s0.1 s0.2 k r0).1)), .int (bI ((rdN2 s0.1 s0.2 k r0).2))])), (q, .inl (cc, 2400, .inl (iN s0.1)))] := by
  have hkr := kR_le k
  have hkn := kN_cases k hk
  have hcc := tkC_le (t := s0.1) (k := kR k) hr1
  have hlh := loN_hiN (kN k)
  have hll := loN_in (kN k)
  refine metU (by decide) (Nat.le_of_ble_eq_true rfl) ?_
  intro p e s m below meth c ls A hx hb hr hlocks hml hown ht hl hP hK hSS hD hS hA
  have hl : lv_has ls 3 [(0, .ref h), (1, .int (nI k))] := hl
  refine lv_iload_n hx hb d_As_readNumber_0 rfl (lv_at hl 1 rfl) ?_
  refine rS (As := [.int (nI k)]) (rest := []) hx hb hml hown ht (c_Ki_number l dC dI z k (by first | assumption | omega)) ys_Ki_number k_436 (Nat.le_of_ble_eq_true rfl) (Nat.le_of_ble_eq_true rfl) hP hK hSS hS [] [] rfl rfl hl rfl rfl (Nat.le_of_ble_eq_true rfl) (Nat.zero_le _) (Nat.zero_le _) d_As_readNumber_1 ?_
  refine lv_istore_n (lv' := [(2, .int (nI (kN k))), (0, .ref h), (1, .int (nI k))]) hx hb d_As_readNumber_4 rfl hl (Nat.le_of_ble_eq_true rfl) rfl (fun ls hl => ?_)
  refine lv_iload_n hx hb d_As_readNumber_5 rfl (lv_at hl 0 rfl) ?_
  refine z_if_ne (tgt := 11) hx hb d_As_readNumber_6 (tI_n (by omega)) (by decide) (fun g6 => ?_) (fun g6 => ?_)
  · refine lv_aload_n hx hb d_As_readNumber_11 rfl (lv_at hl 1 rfl) ?_
    refine lv_iload_n hx hb d_As_readNumber_12 rfl (lv_at hl 2 rfl) ?_
    refine rS (As := [.int (nI k)]) (rest := [.ref h]) hx hb hml hown ht (c_Ki_registers l dC dI z k (by first | assumption | omega)) ys_Ki_registers k_420 (Nat.le_of_ble_eq_true rfl) (Nat.le_of_ble_eq_true rfl) hP hK hSS hS [] [] rfl rfl hl rfl rfl (Nat.le_of_ble_eq_true rfl) (Nat.zero_le _) (Nat.zero_le _) d_As_readNumber_13 ?_
    refine uV (As := [.int (nI (kR k))]) (rest := []) (wr := []) hx hb hml hown ht (c_Te_takeComma l dC dI z _ h q cc s0 r0 (kR k) (by first | assumption | omega) (by first | assumption | omega) (by first | assumption | omega) (by first | assumption | omega)) yv_Te_takeComma k_421 (Nat.le_of_ble_eq_true rfl) (Nat.le_of_ble_eq_true rfl) hP hK hSS hD hS hA [0, 1] [] [0] rfl rfl (by decide) rfl (by decide) (by decide) rfl 0 2 rfl rfl rfl hl rfl rfl (Nat.le_of_ble_eq_true rfl) (Nat.zero_le _) (Nat.zero_le _) d_As_readNumber_16 (fun H locs hP hD hS => ?_)
    have hP : va_P (dC, dI) classes [(h, .inr (2, [.ref q, .int (nI s0.2), .int (nI ((tkC s0.1 s0.2 (kR k) r0).1)), .int (bI ((tkC s0.1 s0.2 (kR k) r0).2))])), (q, .inl (cc, 2400, .inl (iN s0.1)))] H := hP
    have hD : va_D A [(h, .inr (2, [.ref q, .int (nI s0.2), .int (nI ((tkC s0.1 s0.2 (kR k) r0).1)), .int (bI ((tkC s0.1 s0.2 (kR k) r0).2))])), (q, .inl (cc, 2400, .inl (iN s0.1)))] := hD
    refine stk (st2 := []) rfl ?_
    refine lv_aload_n hx hb d_As_readNumber_19 rfl (lv_at hl 1 rfl) ?_
    refine lv_iload_n hx hb d_As_readNumber_20 rfl (lv_at hl 0 rfl) ?_
    refine rS (As := [.int (nI (kN k))]) (rest := [.ref h]) hx hb hml hown ht (c_Ki_lowest l dC dI z (kN k) (by first | assumption | omega)) ys_Ki_lowest k_437 (Nat.le_of_ble_eq_true rfl) (Nat.le_of_ble_eq_true rfl) hP hK hSS hS [] [] rfl rfl hl rfl rfl (Nat.le_of_ble_eq_true rfl) (Nat.zero_le _) (Nat.zero_le _) d_As_readNumber_21 ?_
    refine lv_iload_n hx hb d_As_readNumber_24 rfl (lv_at hl 0 rfl) ?_
    refine rS (As := [.int (nI (kN k))]) (rest := [.int (iI (loN (kN k))), .ref h]) hx hb hml hown ht (c_Ki_highest l dC dI z (kN k) (by first | assumption | omega)) ys_Ki_highest k_440 (Nat.le_of_ble_eq_true rfl) (Nat.le_of_ble_eq_true rfl) hP hK hSS hS [] [] rfl rfl hl rfl rfl (Nat.le_of_ble_eq_true rfl) (Nat.zero_le _) (Nat.zero_le _) d_As_readNumber_25 ?_
    refine uV (As := [.int (iI (loN (kN k))), .int (iI (hiN (kN k)))]) (rest := []) (wr := []) hx hb hml hown ht (c_Te_takeNumber l dC dI z _ h q cc s0 (tkC s0.1 s0.2 (kR k) r0) (loN (kN k)) (hiN (kN k)) (by first | assumption | omega) (by first | assumption | omega) (by first | assumption | omega) (by first | assumption | omega) (by first | assumption | omega)) yv_Te_takeNumber k_444 (Nat.le_of_ble_eq_true rfl) (Nat.le_of_ble_eq_true rfl) hP hK hSS hD hS hA [0, 1] [] [0] rfl rfl (by decide) rfl (by decide) (by decide) rfl 0 2 rfl rfl rfl hl rfl rfl (Nat.le_of_ble_eq_true rfl) (Nat.zero_le _) (Nat.zero_le _) d_As_readNumber_28 (fun H locs hP hD hS => ?_)
    have hP : va_P (dC, dI) classes [(h, .inr (2, [.ref q, .int (nI s0.2), .int (nI ((tkN2 s0.1 s0.2 (loN (kN k)) (hiN (kN k)) (tkC s0.1 s0.2 (kR k) r0)).1)), .int (bI ((tkN2 s0.1 s0.2 (loN (kN k)) (hiN (kN k)) (tkC s0.1 s0.2 (kR k) r0)).2))])), (q, .inl (cc, 2400, .inl (iN s0.1)))] H := hP
    have hD : va_D A [(h, .inr (2, [.ref q, .int (nI s0.2), .int (nI ((tkN2 s0.1 s0.2 (loN (kN k)) (hiN (kN k)) (tkC s0.1 s0.2 (kR k) r0)).1)), .int (bI ((tkN2 s0.1 s0.2 (loN (kN k)) (hiN (kN k)) (tkC s0.1 s0.2 (kR k) r0)).2))])), (q, .inl (cc, 2400, .inl (iN s0.1)))] := hD
    refine stk (st2 := [.int (iI (tkN1 s0.1 s0.2 (tkC s0.1 s0.2 (kR k) r0)))]) rfl ?_
    rw [rdN2, if_neg (by omega)]
    exact eUi hx hb hr hlocks hP hD hS [0, 1] rfl rfl (by decide) d_As_readNumber_31 (by rw [rdN1, if_neg (by omega)])
  · refine lv_iconst (v := nI 0) hx hb d_As_readNumber_9 (by decide) ?_
    rw [rdN2, if_pos (by omega)]
    exact eUi hx hb hr hlocks hP hD hS [0, 1] rfl rfl (by decide) d_As_readNumber_10 (by rw [rdN1, if_pos (by omega)]; decide)

set_option maxHeartbeats 4000000 in
set_option maxRecDepth 100000 in
theorem c_As_readLine (l : Launch) (dC : Nat → ClassId) (dI : Nat → Nat → Nat) (z : zT) (sz : Nat) (ha : Nat) (qa : Nat) (cb : ClassId) (a0 : abT) (h : Nat) (q : Nat) (cc : ClassId) (s0 : txT) (r0 : rdT) (ha0 : a0.2 ≤ 8000) (hs : s0.2 ≤ 2400) (hr1 : r0.1 ≤ s0.2) (ht8 : ∀ i, s0.1 i < 256) : MU l y_As_readLine b_As_readLine 5 none 6 129 (dC, dI) z [.ref ha, .ref h] [(ha, .inr (0, [.ref qa, .int (nI a0.2)])), (qa, .inl (cb, 160, .inl a0.1)), (h, .inr (2, [.ref q, .int (nI s0.2), .int (nI r0.1), .int (bI r0.2)])), (q, .inl (cc, 2400, .inl (iN s0.1)))] [(cb, .int), (cc, .char)] sz none [(ha, .inr (0, [.ref qa, .int (nI ((rdLs s0.1 s0.2 r0 a0).2))])), (qa, .inl (cb, 160, .inl ((rdLs s0.1 s0.2 r0 a0).1))), (h, .inr (2, [.ref q, .int (nI s0.2), .int (nI ((rdLr s0.1 s0.2 r0).1)), .int (bI ((rdLr s0.1 s0.2 r0).2))])), (q, .inl (cc, 2400, .inl (iN s0.1)))] := by
  refine metU (by decide) (Nat.le_of_ble_eq_true rfl) ?_
  intro p e s m below meth c ls A hx hb hr hlocks hml hown ht hl hP hK hSS hD hS hA
  have hl : lv_has ls 5 [(0, .ref ha), (1, .ref h)] := hl
  refine lv_aload_n hx hb d_As_readLine_0 rfl (lv_at hl 1 rfl) ?_
  refine uV (As := []) (rest := []) (wr := [(ha, .inr (0, [.ref qa, .int (nI a0.2)])), (qa, .inl (cb, 160, .inl a0.1))]) hx hb hml hown ht (c_Te_takeKind l dC dI z _ h q cc s0 r0 (by first | assumption | omega) (by first | assumption | omega) (by first | assumption | omega)) yv_Te_takeKind k_408 (Nat.le_of_ble_eq_true rfl) (Nat.le_of_ble_eq_true rfl) hP hK hSS hD hS hA [2, 3] [0, 1] [1] rfl rfl (by decide) rfl (by decide) (by decide) rfl 2 2 rfl rfl rfl hl rfl rfl (Nat.le_of_ble_eq_true rfl) (Nat.zero_le _) (Nat.zero_le _) d_As_readLine_1 (fun H locs hP hD hS => ?_)
  have hP : va_P (dC, dI) classes [(ha, .inr (0, [.ref qa, .int (nI a0.2)])), (qa, .inl (cb, 160, .inl a0.1)), (h, .inr (2, [.ref q, .int (nI s0.2), .int (nI ((tkK2 s0.1 s0.2 r0).1)), .int (bI ((tkK2 s0.1 s0.2 r0).2))])), (q, .inl (cc, 2400, .inl (iN s0.1)))] H := hP
  have hD : va_D A [(ha, .inr (0, [.ref qa, .int (nI a0.2)])), (qa, .inl (cb, 160, .inl a0.1)), (h, .inr (2, [.ref q, .int (nI s0.2), .int (nI ((tkK2 s0.1 s0.2 r0).1)), .int (bI ((tkK2 s0.1 s0.2 r0).2))])), (q, .inl (cc, 2400, .inl (iN s0.1)))] := hD
  refine stk (st2 := [.int (oI (tkK1 s0.1 s0.2 r0))]) rfl ?_
  rcases ek : tkK1 s0.1 s0.2 r0 with _ | k
  · obtain ⟨hq1, hq2⟩ := rdL_n (a := a0) ek
    refine eqi (y := iI (-1)) rfl ?_
    refine lv_istore_n (lv' := [(2, .int (iI (-1))), (0, .ref ha), (1, .ref h)]) hx hb d_As_readLine_4 rfl hl (Nat.le_of_ble_eq_true rfl) rfl (fun ls hl => ?_)
    refine lv_iload_n hx hb d_As_readLine_5 rfl (lv_at hl 0 rfl) ?_
    refine lv_iconst (v := iI (-1)) hx hb d_As_readLine_6 (by decide) ?_
    refine z_icmp_ne (tgt := 11) hx hb d_As_readLine_7 (iI_toInt (by omega) (by omega)) (iI_toInt (by omega) (by omega)) (by decide) (fun g7 => ?_) (fun g7 => ?_)
    · exfalso; omega
    · rw [hq1, hq2]
      exact eUv hx hb hr hlocks hP hD hS [0, 1, 2, 3] rfl rfl (by decide) d_As_readLine_10
  · obtain ⟨hq1, hq2⟩ := rdL_y (a := a0) ek
    have hk := tkK_lt ek
    have hr3 := tkK_le (t := s0.1) hr1
    have hr4 := rdR_in (t := s0.1) (k := k) hr3
    have hr5 := rdN_le (t := s0.1) (k := k) hr4.1
    refine eqi (y := nI k) rfl ?_
    refine lv_istore_n (lv' := [(2, .int (nI k)), (0, .ref ha), (1, .ref h)]) hx hb d_As_readLine_4 rfl hl (Nat.le_of_ble_eq_true rfl) rfl (fun ls hl => ?_)
    refine lv_iload_n hx hb d_As_readLine_5 rfl (lv_at hl 0 rfl) ?_
    refine lv_iconst (v := iI (-1)) hx hb d_As_readLine_6 (by decide) ?_
    refine z_icmp_ne (tgt := 11) hx hb d_As_readLine_7 (tI_n (by omega)) (iI_toInt (by omega) (by omega)) (by decide) (fun g7 => ?_) (fun g7 => ?_)
    · refine lv_aload_n hx hb d_As_readLine_11 rfl (lv_at hl 2 rfl) ?_
      refine lv_iload_n hx hb d_As_readLine_12 rfl (lv_at hl 0 rfl) ?_
      refine uS (As := [.ref h, .int (nI k)]) (rest := []) (wr := [(ha, .inr (0, [.ref qa, .int (nI a0.2)])), (qa, .inl (cb, 160, .inl a0.1))]) hx hb hml hown ht (c_As_readRegisters l dC dI z _ h q cc s0 (tkK2 s0.1 s0.2 r0) k (by first | assumption | omega) (hr3) (by first | assumption | omega) (by first | assumption | omega)) ys_As_readRegisters k_417 (Nat.le_of_ble_eq_true rfl) (Nat.le_of_ble_eq_true rfl) hP hK hSS hD hS hA [2, 3] [0, 1] [1] rfl rfl (by decide) rfl (by decide) (by decide) rfl hl rfl rfl (Nat.le_of_ble_eq_true rfl) (Nat.zero_le _) (Nat.zero_le _) d_As_readLine_13 (fun H locs hP hD hS => ?_)
      have hP : va_P (dC, dI) classes [(ha, .inr (0, [.ref qa, .int (nI a0.2)])), (qa, .inl (cb, 160, .inl a0.1)), (h, .inr (2, [.ref q, .int (nI s0.2), .int (nI ((rdR s0.1 s0.2 k (tkK2 s0.1 s0.2 r0)).1.1)), .int (bI ((rdR s0.1 s0.2 k (tkK2 s0.1 s0.2 r0)).1.2))])), (q, .inl (cc, 2400, .inl (iN s0.1)))] H := hP
      have hD : va_D A [(ha, .inr (0, [.ref qa, .int (nI a0.2)])), (qa, .inl (cb, 160, .inl a0.1)), (h, .inr (2, [.ref q, .int (nI s0.2), .int (nI ((rdR s0.1 s0.2 k (tkK2 s0.1 s0.2 r0)).1.1)), .int (bI ((rdR s0.1 s0.2 k (tkK2 s0.1 s0.2 r0)).1.2))])), (q, .inl (cc, 2400, .inl (iN s0.1)))] := hD
      refine stk (st2 := [.int (nI ((rdR s0.1 s0.2 k (tkK2 s0.1 s0.2 r0)).2))]) rfl ?_
      refine lv_istore_n (lv' := [(3, .int (nI ((rdR s0.1 s0.2 k (tkK2 s0.1 s0.2 r0)).2))), (2, .int (nI k)), (0, .ref ha), (1, .ref h)]) hx hb d_As_readLine_16 rfl hl (Nat.le_of_ble_eq_true rfl) rfl (fun ls hl => ?_)
      refine lv_aload_n hx hb d_As_readLine_17 rfl (lv_at hl 3 rfl) ?_
      refine lv_iload_n hx hb d_As_readLine_18 rfl (lv_at hl 1 rfl) ?_
      refine uS (As := [.ref h, .int (nI k)]) (rest := []) (wr := [(ha, .inr (0, [.ref qa, .int (nI a0.2)])), (qa, .inl (cb, 160, .inl a0.1))]) hx hb hml hown ht (c_As_readNumber l dC dI z _ h q cc s0 ((rdR s0.1 s0.2 k (tkK2 s0.1 s0.2 r0)).1) k (by first | assumption | omega) (hr4.1) (by first | assumption | omega) (by first | assumption | omega)) ys_As_readNumber k_433 (Nat.le_of_ble_eq_true rfl) (Nat.le_of_ble_eq_true rfl) hP hK hSS hD hS hA [2, 3] [0, 1] [1] rfl rfl (by decide) rfl (by decide) (by decide) rfl hl rfl rfl (Nat.le_of_ble_eq_true rfl) (Nat.zero_le _) (Nat.zero_le _) d_As_readLine_19 (fun H locs hP hD hS => ?_)
      have hP : va_P (dC, dI) classes [(ha, .inr (0, [.ref qa, .int (nI a0.2)])), (qa, .inl (cb, 160, .inl a0.1)), (h, .inr (2, [.ref q, .int (nI s0.2), .int (nI ((rdN2 s0.1 s0.2 k ((rdR s0.1 s0.2 k (tkK2 s0.1 s0.2 r0)).1)).1)), .int (bI ((rdN2 s0.1 s0.2 k ((rdR s0.1 s0.2 k (tkK2 s0.1 s0.2 r0)).1)).2))])), (q, .inl (cc, 2400, .inl (iN s0.1)))] H := hP
      have hD : va_D A [(ha, .inr (0, [.ref qa, .int (nI a0.2)])), (qa, .inl (cb, 160, .inl a0.1)), (h, .inr (2, [.ref q, .int (nI s0.2), .int (nI ((rdN2 s0.1 s0.2 k ((rdR s0.1 s0.2 k (tkK2 s0.1 s0.2 r0)).1)).1)), .int (bI ((rdN2 s0.1 s0.2 k ((rdR s0.1 s0.2 k (tkK2 s0.1 s0.2 r0)).1)).2))])), (q, .inl (cc, 2400, .inl (iN s0.1)))] := hD
      refine stk (st2 := [.int (iI (rdN1 s0.1 s0.2 k ((rdR s0.1 s0.2 k (tkK2 s0.1 s0.2 r0)).1)))]) rfl ?_
      refine lv_istore (lv' := [(4, .int (iI (rdN1 s0.1 s0.2 k ((rdR s0.1 s0.2 k (tkK2 s0.1 s0.2 r0)).1)))), (3, .int (nI ((rdR s0.1 s0.2 k (tkK2 s0.1 s0.2 r0)).2))), (2, .int (nI k)), (0, .ref ha), (1, .ref h)]) hx hb d_As_readLine_22 hl (Nat.le_of_ble_eq_true rfl) rfl (fun ls hl => ?_)
      refine lv_aload_n hx hb d_As_readLine_24 rfl (lv_at hl 4 rfl) ?_
      refine lv_bipush (v := nI 10) hx hb d_As_readLine_25 (by decide) ?_
      refine uV (As := [.int (nI 10)]) (rest := []) (wr := [(ha, .inr (0, [.ref qa, .int (nI a0.2)])), (qa, .inl (cb, 160, .inl a0.1))]) hx hb hml hown ht (c_Te_take l dC dI z _ h q cc s0 (rdN2 s0.1 s0.2 k ((rdR s0.1 s0.2 k (tkK2 s0.1 s0.2 r0)).1)) 10 (by first | assumption | omega) (hr5) (by first | assumption | omega) (by first | assumption | omega)) yv_Te_take k_455 (Nat.le_of_ble_eq_true rfl) (Nat.le_of_ble_eq_true rfl) hP hK hSS hD hS hA [2, 3] [0, 1] [1] rfl rfl (by decide) rfl (by decide) (by decide) rfl 2 2 rfl rfl rfl hl rfl rfl (Nat.le_of_ble_eq_true rfl) (Nat.zero_le _) (Nat.zero_le _) d_As_readLine_27 (fun H locs hP hD hS => ?_)
      have hP : va_P (dC, dI) classes [(ha, .inr (0, [.ref qa, .int (nI a0.2)])), (qa, .inl (cb, 160, .inl a0.1)), (h, .inr (2, [.ref q, .int (nI s0.2), .int (nI ((tk s0.1 s0.2 10 (rdN2 s0.1 s0.2 k ((rdR s0.1 s0.2 k (tkK2 s0.1 s0.2 r0)).1))).1)), .int (bI ((tk s0.1 s0.2 10 (rdN2 s0.1 s0.2 k ((rdR s0.1 s0.2 k (tkK2 s0.1 s0.2 r0)).1))).2))])), (q, .inl (cc, 2400, .inl (iN s0.1)))] H := hP
      have hD : va_D A [(ha, .inr (0, [.ref qa, .int (nI a0.2)])), (qa, .inl (cb, 160, .inl a0.1)), (h, .inr (2, [.ref q, .int (nI s0.2), .int (nI ((tk s0.1 s0.2 10 (rdN2 s0.1 s0.2 k ((rdR s0.1 s0.2 k (tkK2 s0.1 s0.2 r0)).1))).1)), .int (bI ((tk s0.1 s0.2 10 (rdN2 s0.1 s0.2 k ((rdR s0.1 s0.2 k (tkK2 s0.1 s0.2 r0)).1))).2))])), (q, .inl (cc, 2400, .inl (iN s0.1)))] := hD
      refine stk (st2 := []) rfl ?_
      refine lv_aload_n hx hb d_As_readLine_30 rfl (lv_at hl 3 rfl) ?_
      refine lv_iload_n hx hb d_As_readLine_31 rfl (lv_at hl 2 rfl) ?_
      refine lv_iload_n hx hb d_As_readLine_32 rfl (lv_at hl 1 rfl) ?_
      refine lv_iload hx hb d_As_readLine_33 (lv_at hl 0 rfl) ?_
      refine uV (As := [.int (nI k), .int (nI ((rdR s0.1 s0.2 k (tkK2 s0.1 s0.2 r0)).2)), .int (iI (rdN1 s0.1 s0.2 k ((rdR s0.1 s0.2 k (tkK2 s0.1 s0.2 r0)).1)))]) (rest := []) (wr := [(h, .inr (2, [.ref q, .int (nI s0.2), .int (nI ((tk s0.1 s0.2 10 (rdN2 s0.1 s0.2 k ((rdR s0.1 s0.2 k (tkK2 s0.1 s0.2 r0)).1))).1)), .int (bI ((tk s0.1 s0.2 10 (rdN2 s0.1 s0.2 k ((rdR s0.1 s0.2 k (tkK2 s0.1 s0.2 r0)).1))).2))])), (q, .inl (cc, 2400, .inl (iN s0.1)))]) hx hb hml hown ht (c_As_addBytes l dC dI z _ ha qa cb a0 k ((rdR s0.1 s0.2 k (tkK2 s0.1 s0.2 r0)).2) (rdN1 s0.1 s0.2 k ((rdR s0.1 s0.2 k (tkK2 s0.1 s0.2 r0)).1)) (by first | assumption | omega) (by first | assumption | omega) (hr4.2)) yv_As_addBytes k_456 (Nat.le_of_ble_eq_true rfl) (Nat.le_of_ble_eq_true rfl) hP hK hSS hD hS hA [0, 1] [2, 3] [0] rfl rfl (by decide) rfl (by decide) (by decide) rfl 0 0 rfl rfl rfl hl rfl rfl (Nat.le_of_ble_eq_true rfl) (Nat.zero_le _) (Nat.zero_le _) d_As_readLine_35 (fun H locs hP hD hS => ?_)
      have hP : va_P (dC, dI) classes [(h, .inr (2, [.ref q, .int (nI s0.2), .int (nI ((tk s0.1 s0.2 10 (rdN2 s0.1 s0.2 k ((rdR s0.1 s0.2 k (tkK2 s0.1 s0.2 r0)).1))).1)), .int (bI ((tk s0.1 s0.2 10 (rdN2 s0.1 s0.2 k ((rdR s0.1 s0.2 k (tkK2 s0.1 s0.2 r0)).1))).2))])), (q, .inl (cc, 2400, .inl (iN s0.1))), (ha, .inr (0, [.ref qa, .int (nI ((adBs k ((rdR s0.1 s0.2 k (tkK2 s0.1 s0.2 r0)).2) (rdN1 s0.1 s0.2 k ((rdR s0.1 s0.2 k (tkK2 s0.1 s0.2 r0)).1)) a0).2))])), (qa, .inl (cb, 160, .inl ((adBs k ((rdR s0.1 s0.2 k (tkK2 s0.1 s0.2 r0)).2) (rdN1 s0.1 s0.2 k ((rdR s0.1 s0.2 k (tkK2 s0.1 s0.2 r0)).1)) a0).1)))] H := hP
      have hD : va_D A [(h, .inr (2, [.ref q, .int (nI s0.2), .int (nI ((tk s0.1 s0.2 10 (rdN2 s0.1 s0.2 k ((rdR s0.1 s0.2 k (tkK2 s0.1 s0.2 r0)).1))).1)), .int (bI ((tk s0.1 s0.2 10 (rdN2 s0.1 s0.2 k ((rdR s0.1 s0.2 k (tkK2 s0.1 s0.2 r0)).1))).2))])), (q, .inl (cc, 2400, .inl (iN s0.1))), (ha, .inr (0, [.ref qa, .int (nI ((adBs k ((rdR s0.1 s0.2 k (tkK2 s0.1 s0.2 r0)).2) (rdN1 s0.1 s0.2 k ((rdR s0.1 s0.2 k (tkK2 s0.1 s0.2 r0)).1)) a0).2))])), (qa, .inl (cb, 160, .inl ((adBs k ((rdR s0.1 s0.2 k (tkK2 s0.1 s0.2 r0)).2) (rdN1 s0.1 s0.2 k ((rdR s0.1 s0.2 k (tkK2 s0.1 s0.2 r0)).1)) a0).1)))] := hD
      refine stk (st2 := []) rfl ?_
      rw [hq1, hq2]
      exact eUv hx hb hr hlocks hP hD hS [2, 3, 0, 1] rfl rfl (by decide) d_As_readLine_38
    · exfalso; omega

set_option maxHeartbeats 4000000 in
set_option maxRecDepth 100000 in
theorem c_As_read (l : Launch) (dC : Nat → ClassId) (dI : Nat → Nat → Nat) (z : zT) (sz : Nat) (ha : Nat) (qa : Nat) (cb : ClassId) (x0 : Int32) (f0 : Nat → Int32) (h : Nat) (q : Nat) (cc : ClassId) (s0 : txT) (r0 : rdT) (hs : s0.2 ≤ 2400) (ht8 : ∀ i, s0.1 i < 256) : MU l y_As_read b_As_read 3 (some .boolean) 7 153 (dC, dI) z [.ref ha, .ref h] [(ha, .inr (0, [.ref qa, .int x0])), (qa, .inl (cb, 160, .inl f0)), (h, .inr (2, [.ref q, .int (nI s0.2), .int (nI r0.1), .int (bI r0.2)])), (q, .inl (cc, 2400, .inl (iN s0.1)))] [(cb, .int), (cc, .char)] sz (some (.int (bI ((rd s0.1 s0.2 f0).1.2)))) [(ha, .inr (0, [.ref qa, .int (nI ((rd s0.1 s0.2 f0).2.2))])), (qa, .inl (cb, 160, .inl ((rd s0.1 s0.2 f0).2.1))), (h, .inr (2, [.ref q, .int (nI s0.2), .int (nI ((rd s0.1 s0.2 f0).1.1)), .int (bI ((rd s0.1 s0.2 f0).1.2))])), (q, .inl (cc, 2400, .inl (iN s0.1)))] := by
  refine metU (by decide) (Nat.le_of_ble_eq_true rfl) ?_
  intro p e s m below meth c ls A hx hb hr hlocks hml hown ht hl hP hK hSS hD hS hA
  have hl : lv_has ls 3 [(0, .ref ha), (1, .ref h)] := hl
  refine lv_aload_n hx hb d_As_read_0 rfl (lv_at hl 0 rfl) ?_
  refine lv_iconst (v := nI 0) hx hb d_As_read_1 (by decide) ?_
  refine va_put (D := (dC, dI)) (ci := 0) (v := .int (nI 0)) (ty := .int) (C := R_As) (T := F_As) (N := 2) hx hb ht in_As t_As t_As_ok n_As hown hK hP hD hS 0 rfl rfl 1 (by decide) (ht _ k_83) (fun _ h9 => h9) rfl (by decide +kernel) rfl rfl (Nat.le_of_ble_eq_true rfl) d_As_read_2 (fun H locs hP hD hS => ?_)
  have hP : va_P (dC, dI) classes [(ha, .inr (0, [.ref qa, .int (nI 0)])), (qa, .inl (cb, 160, .inl f0)), (h, .inr (2, [.ref q, .int (nI s0.2), .int (nI r0.1), .int (bI r0.2)])), (q, .inl (cc, 2400, .inl (iN s0.1)))] H := hP
  have hD : va_D A [(ha, .inr (0, [.ref qa, .int (nI 0)])), (qa, .inl (cb, 160, .inl f0)), (h, .inr (2, [.ref q, .int (nI s0.2), .int (nI r0.1), .int (bI r0.2)])), (q, .inl (cc, 2400, .inl (iN s0.1)))] := hD
  refine lv_aload_n hx hb d_As_read_5 rfl (lv_at hl 1 rfl) ?_
  refine uV (As := []) (rest := []) (wr := [(ha, .inr (0, [.ref qa, .int (nI 0)])), (qa, .inl (cb, 160, .inl f0))]) hx hb hml hown ht (c_Te_startReading l dC dI z _ h q cc s0 r0 ) yv_Te_startReading k_396 (Nat.le_of_ble_eq_true rfl) (Nat.le_of_ble_eq_true rfl) hP hK hSS hD hS hA [2, 3] [0, 1] [1] rfl rfl (by decide) rfl (by decide) (by decide) rfl 2 2 rfl rfl rfl hl rfl rfl (Nat.le_of_ble_eq_true rfl) (Nat.zero_le _) (Nat.zero_le _) d_As_read_6 (fun H locs hP hD hS => ?_)
  have hP : va_P (dC, dI) classes [(ha, .inr (0, [.ref qa, .int (nI 0)])), (qa, .inl (cb, 160, .inl f0)), (h, .inr (2, [.ref q, .int (nI s0.2), .int (nI r00.1), .int (bI r00.2)])), (q, .inl (cc, 2400, .inl (iN s0.1)))] H := hP
  have hD : va_D A [(ha, .inr (0, [.ref qa, .int (nI 0)])), (qa, .inl (cb, 160, .inl f0)), (h, .inr (2, [.ref q, .int (nI s0.2), .int (nI r00.1), .int (bI r00.2)])), (q, .inl (cc, 2400, .inl (iN s0.1)))] := hD
  refine stk (st2 := []) rfl ?_
  refine lv_iconst (v := nI 0) hx hb d_As_read_9 (by decide) ?_
  refine lv_istore_n (lv' := [(2, .int (nI 0)), (0, .ref ha), (1, .ref h)]) hx hb d_As_read_10 rfl hl (Nat.le_of_ble_eq_true rfl) rfl (fun ls hl => ?_)
  have loop11 : ∀ (j : Nat) (i : Nat) (r1 : rdT) (a1 : abT) (ls : Array Slot) (H : Heap) (locs : List Loc), (i + j = 2400) → (rd s0.1 s0.2 f0 = rdF s0.1 s0.2 j r1 a1) → (r1.1 ≤ s0.2) → (a1.2 ≤ 3 * i) → lv_has ls 3 [(2, .int (nI i)), (0, .ref ha), (1, .ref h)] → va_P (dC, dI) classes [(ha, .inr (0, [.ref qa, .int (nI a1.2)])), (qa, .inl (cb, 160, .inl a1.1)), (h, .inr (2, [.ref q, .int (nI s0.2), .int (nI r1.1), .int (bI r1.2)])), (q, .inl (cc, 2400, .inl (iN s0.1)))] H → va_D A [(ha, .inr (0, [.ref qa, .int (nI a1.2)])), (qa, .inl (cb, 160, .inl a1.1)), (h, .inr (2, [.ref q, .int (nI s0.2), .int (nI r1.1), .int (bI r1.2)])), (q, .inl (cc, 2400, .inl (iN s0.1)))] → va_S A s.heap H locs → W p l e (rmq 7 153) s m [.ref ha, .ref h].toArray below meth c H locs 0 0 (MQ below (qcU (some (.int (bI ((rd s0.1 s0.2 f0).1.2)))) (dC, dI) [(ha, .inr (0, [.ref qa, .int (nI ((rd s0.1 s0.2 f0).2.2))])), (qa, .inl (cb, 160, .inl ((rd s0.1 s0.2 f0).2.1))), (h, .inr (2, [.ref q, .int (nI s0.2), .int (nI ((rd s0.1 s0.2 f0).1.1)), .int (bI ((rd s0.1 s0.2 f0).1.2))])), (q, .inl (cc, 2400, .inl (iN s0.1)))] A) [.ref ha, .ref h].toArray s 0 0 A) (F0 m 11 ls []) := by
    intro j
    induction j with
    | zero =>
      intro i r1 a1 ls H locs hi hR hr3 hla hl hP hD hS
      have hRe : rd s0.1 s0.2 f0 = (r1, a1) := hR
      refine lv_iload_n hx hb d_As_read_11 rfl (lv_at hl 0 rfl) ?_
      refine lv_sipush (v := nI 2400) hx hb d_As_read_12 (by decide) ?_
      refine z_icmp_ge (tgt := 36) hx hb d_As_read_15 (tI_n (by omega)) (tI_n (by omega)) (by decide) (fun g15 => ?_) (fun g15 => ?_)
      · refine lv_aload_n hx hb d_As_read_36 rfl (lv_at hl 2 rfl) ?_
        refine rV (As := []) (rest := []) hx hb hml hown ht (c_Te_isRight l dC dI z h q cc s0 r1 ) yv_Te_isRight k_465 (Nat.le_of_ble_eq_true rfl) (Nat.le_of_ble_eq_true rfl) hP hK hSS hS [2, 3] [1] rfl rfl 2 2 rfl rfl rfl hl rfl rfl (Nat.le_of_ble_eq_true rfl) (Nat.zero_le _) (Nat.zero_le _) d_As_read_37 ?_
        rw [hRe]
        exact eUz hx hb hr hlocks (bI_narrow _) hP hD hS [0, 1, 2, 3] rfl rfl (by decide) d_As_read_40 (rfl)
      · exfalso; omega
    | succ j ih =>
      intro i r1 a1 ls H locs hi hR hr3 hla hl hP hD hS
      refine lv_iload_n hx hb d_As_read_11 rfl (lv_at hl 0 rfl) ?_
      refine lv_sipush (v := nI 2400) hx hb d_As_read_12 (by decide) ?_
      refine z_icmp_ge (tgt := 36) hx hb d_As_read_15 (tI_n (by omega)) (tI_n (by omega)) (by decide) (fun g15 => ?_) (fun g15 => ?_)
      · exfalso; omega
      · refine lv_aload_n hx hb d_As_read_18 rfl (lv_at hl 2 rfl) ?_
        refine rV (As := []) (rest := []) hx hb hml hown ht (c_Te_hasMore l dC dI z h q cc s0 r1 (by first | assumption | omega) (by first | assumption | omega)) yv_Te_hasMore k_400 (Nat.le_of_ble_eq_true rfl) (Nat.le_of_ble_eq_true rfl) hP hK hSS hS [2, 3] [1] rfl rfl 2 2 rfl rfl rfl hl rfl rfl (Nat.le_of_ble_eq_true rfl) (Nat.zero_le _) (Nat.zero_le _) d_As_read_19 ?_
        refine b_if_eq (tgt := 36) hx hb d_As_read_22 (by decide) (fun g22 => ?_) (fun g22 => ?_)
        · have hRe : rd s0.1 s0.2 f0 = (r1, a1) := by rw [hR, rdF, if_neg (of_decide_eq_false g22)]
          refine lv_aload_n hx hb d_As_read_36 rfl (lv_at hl 2 rfl) ?_
          refine rV (As := []) (rest := []) hx hb hml hown ht (c_Te_isRight l dC dI z h q cc s0 r1 ) yv_Te_isRight k_465 (Nat.le_of_ble_eq_true rfl) (Nat.le_of_ble_eq_true rfl) hP hK hSS hS [2, 3] [1] rfl rfl 2 2 rfl rfl rfl hl rfl rfl (Nat.le_of_ble_eq_true rfl) (Nat.zero_le _) (Nat.zero_le _) d_As_read_37 ?_
          rw [hRe]
          exact eUz hx hb hr hlocks (bI_narrow _) hP hD hS [0, 1, 2, 3] rfl rfl (by decide) d_As_read_40 (rfl)
        · refine lv_aload_n hx hb d_As_read_25 rfl (lv_at hl 1 rfl) ?_
          refine lv_aload_n hx hb d_As_read_26 rfl (lv_at hl 2 rfl) ?_
          refine uV (As := [.ref h]) (rest := []) (wr := []) hx hb hml hown ht (c_As_readLine l dC dI z _ ha qa cb a1 h q cc s0 r1 (by first | assumption | omega) (by first | assumption | omega) (by first | assumption | omega) (by first | assumption | omega)) yv_As_readLine k_404 (Nat.le_of_ble_eq_true rfl) (Nat.le_of_ble_eq_true rfl) hP hK hSS hD hS hA [0, 1, 2, 3] [] [0, 1] rfl rfl (by decide) rfl (by decide) (by decide) rfl 0 0 rfl rfl rfl hl rfl rfl (Nat.le_of_ble_eq_true rfl) (Nat.zero_le _) (Nat.zero_le _) d_As_read_27 (fun H locs hP hD hS => ?_)
          have hP : va_P (dC, dI) classes [(ha, .inr (0, [.ref qa, .int (nI ((rdLs s0.1 s0.2 r1 a1).2))])), (qa, .inl (cb, 160, .inl ((rdLs s0.1 s0.2 r1 a1).1))), (h, .inr (2, [.ref q, .int (nI s0.2), .int (nI ((rdLr s0.1 s0.2 r1).1)), .int (bI ((rdLr s0.1 s0.2 r1).2))])), (q, .inl (cc, 2400, .inl (iN s0.1)))] H := hP
          have hD : va_D A [(ha, .inr (0, [.ref qa, .int (nI ((rdLs s0.1 s0.2 r1 a1).2))])), (qa, .inl (cb, 160, .inl ((rdLs s0.1 s0.2 r1 a1).1))), (h, .inr (2, [.ref q, .int (nI s0.2), .int (nI ((rdLr s0.1 s0.2 r1).1)), .int (bI ((rdLr s0.1 s0.2 r1).2))])), (q, .inl (cc, 2400, .inl (iN s0.1)))] := hD
          refine stk (st2 := []) rfl ?_
          refine lv_iinc (k := 0) (v := nI (i + 1)) (lv' := [(2, .int (nI (i + 1))), (0, .ref ha), (1, .ref h)]) hx hb d_As_read_30 hl rfl (nI_inc1 _) (Nat.le_of_ble_eq_true rfl) rfl (fun ls hl => ?_)
          refine lv_goto (tgt := 11) hx hb d_As_read_33 (by decide) ?_
          exact ih (i + 1) (rdLr s0.1 s0.2 r1) (rdLs s0.1 s0.2 r1 a1) _ _ _ (by omega) (by rw [hR, rdF, if_pos (of_decide_eq_true g22)]) (rdLr_le hr3) (by have := rdLs_le (t := s0.1) (n := s0.2) (r := r1) (a := a1); omega) (lv_sub hl [0, 1, 2] rfl) (hP.sub [0, 1, 2, 3] rfl) (hD.sub [0, 1, 2, 3] (by decide) rfl) hS
  exact loop11 2400 0 r00 (f0, 0) _ _ _ (rfl) (rfl) (Nat.zero_le _) (Nat.le_refl _) (lv_sub hl [0, 1, 2] rfl) (hP.sub [0, 1, 2, 3] rfl) (hD.sub [0, 1, 2, 3] (by decide) rfl) hS

set_option maxHeartbeats 4000000 in
set_option maxRecDepth 100000 in
theorem c_As_copyTo (l : Launch) (dC : Nat → ClassId) (dI : Nat → Nat → Nat) (z : zT) (sz : Nat) (ha : Nat) (qa : Nat) (cb : ClassId) (a0 : abT) (qm : Nat) (cd : ClassId) (md : Nat → Int32) (ha0 : a0.2 ≤ 160) : MU l y_As_copyTo b_As_copyTo 2 none 1 40 (dC, dI) z [.ref ha, .ref qm] [(ha, .inr (0, [.ref qa, .int (nI a0.2)])), (qa, .inl (cb, 160, .inl a0.1)), (qm, .inl (cd, 160, .inl md))] [(cb, .int), (cd, .int)] sz none [(ha, .inr (0, [.ref qa, .int (nI a0.2)])), (qa, .inl (cb, 160, .inl a0.1)), (qm, .inl (cd, 160, .inl (va_cpy a0.1 md 0 0 a0.2)))] := by
  refine metU (by decide) (Nat.le_of_ble_eq_true rfl) ?_
  intro p e s m below meth c ls A hx hb hr hlocks hml hown ht hl hP hK hSS hD hS hA
  have hl : lv_has ls 2 [(0, .ref ha), (1, .ref qm)] := hl
  refine lv_aload_n hx hb d_As_copyTo_0 rfl (lv_at hl 0 rfl) ?_
  refine va_get (D := (dC, dI)) (ci := 0) (v := .ref qa) (C := R_As) (T := F_As) (N := 2) hx hb ht in_As hown hK hP 0 rfl rfl 0 (by decide) (ht _ k_82) (fun _ h9 => h9) rfl d_As_copyTo_1 ?_
  refine lv_iconst (v := nI 0) hx hb d_As_copyTo_4 (by decide) ?_
  refine lv_aload_n hx hb d_As_copyTo_5 rfl (lv_at hl 1 rfl) ?_
  refine lv_iconst (v := nI 0) hx hb d_As_copyTo_6 (by decide) ?_
  refine lv_aload_n hx hb d_As_copyTo_7 rfl (lv_at hl 1 rfl) ?_
  refine va_alen hx hb hK hP 2 1 rfl rfl (v := nI 160) rfl d_As_copyTo_8 ?_
  refine lv_aload_n hx hb d_As_copyTo_9 rfl (lv_at hl 0 rfl) ?_
  refine va_get (D := (dC, dI)) (ci := 0) (v := .int (nI a0.2)) (C := R_As) (T := F_As) (N := 2) hx hb ht in_As hown hK hP 0 rfl rfl 1 (by decide) (ht _ k_83) (fun _ h9 => h9) rfl d_As_copyTo_10 ?_
  refine lv_sipush (v := nI 160) hx hb d_As_copyTo_13 (by decide) ?_
  refine va_mmin hx hb (by rw [hml]; exact hl.1.symm) hown (ht _ k_477) (ht _ k_205) (ht _ k_8) (ht _ k_206) (Nat.le_of_ble_eq_true rfl) (Nat.le_of_ble_eq_true rfl) (Nat.zero_le _) (Nat.zero_le _) d_As_copyTo_16 ?_
  refine eqi (y := nI a0.2) (min_160 ha0) ?_
  refine va_mmin hx hb (by rw [hml]; exact hl.1.symm) hown (ht _ k_477) (ht _ k_205) (ht _ k_8) (ht _ k_206) (Nat.le_of_ble_eq_true rfl) (Nat.le_of_ble_eq_true rfl) (Nat.zero_le _) (Nat.zero_le _) d_As_copyTo_19 ?_
  refine eqi (y := nI a0.2) (min_160b ha0) ?_
  refine cpI (q0 := 1) (q1 := 2) (t0 := 0) (t1 := 1) (w1 := [(ha, .inr (0, [.ref qa, .int (nI a0.2)])), (qa, .inl (cb, 160, .inl a0.1)), (qm, .inl (cd, 160, .inl (va_cpy a0.1 md 0 0 a0.2)))]) hx hb hml hl hown ht k_478 k_480 k_479 k_13 hK hP hD hS rfl rfl rfl rfl (by omega) (Nat.le_of_ble_eq_true rfl) (Nat.le_of_ble_eq_true rfl) d_As_copyTo_22 rfl (fun H locs hP hD hS => ?_)
  exact eUv hx hb hr hlocks hP hD hS [0, 1, 2] rfl rfl (by decide) d_As_copyTo_25
end
section
def byW (w : Int32) (k : Nat) : Nat := ((w.toUInt32 >>> ((nI (24 - 8 * k)).toUInt32 &&& Int32.toUInt32 31)).toInt32 &&& 255).toInt.toNat
theorem byW_e (w : Int32) (k : Nat) : (w.toUInt32 >>> ((nI (24 - 8 * k)).toUInt32 &&& Int32.toUInt32 31)).toInt32 &&& nI 255 = nI (byW w k) := by
  obtain ⟨j, hj, e⟩ := pk_andE (w.toUInt32 >>> ((nI (24 - 8 * k)).toUInt32 &&& Int32.toUInt32 31)).toInt32 (m := 255) 8 (by decide)
  have e2 : byW w k = j := by
    unfold byW
    rw [e, tI_n (by omega)]
    omega
  rw [e2]
  exact e
theorem byW_lt (w : Int32) (k : Nat) : byW w k < 256 := by
  obtain ⟨j, hj, e⟩ := pk_andE (w.toUInt32 >>> ((nI (24 - 8 * k)).toUInt32 &&& Int32.toUInt32 31)).toInt32 (m := 255) 8 (by decide)
  unfold byW
  rw [e, tI_n (by omega)]
  omega
def apF (w : Int32) : Nat → Nat → txT → txT
  | 0, _, s => s
  | j + 1, k, s => apF w j (k + 1) (ap1 s (byW w k))
def apR (n : Nat) (y : Int) : Int := if 1 ≤ y ∧ y ≤ 4 then (if (n : Int) + y ≤ 160 then (n : Int) + y else -2) else -1
def apS (s : txT) (w : Int32) (y : Int) : txT := if (1 ≤ y ∧ y ≤ 4) ∧ (s.2 : Int) + y ≤ 160 then apF w y.toNat 0 s else s
theorem apF_len (w : Int32) : ∀ (j k : Nat) (s : txT), (apF w j k s).2 = s.2 + j := by
  intro j
  induction j with
  | zero => intro k s; rfl
  | succ j ih =>
    intro k s
    simp only [apF]
    rw [ih]
    show s.2 + 1 + j = _
    omega
def isEF (en : Nat → Nat) (y : Int) : Nat → Nat → Bool
  | 0, _ => false
  | j + 1, k => if (en k : Int) = y then true else isEF en y j (k + 1)
def isE (e : txT) (y : Int) : Bool := isEF e.1 y e.2 0
def enB (n : Nat) (e : txT) (y : Int) : Bool := decide ((0 ≤ y ∧ y < (n : Int)) ∧ isE e y = false ∧ e.2 < 16)
def enS (n : Nat) (e : txT) (y : Int) : txT := if (0 ≤ y ∧ y < (n : Int)) ∧ isE e y = false ∧ e.2 < 16 then ap1 e y.toNat else e
def mdZ (md : Nat → Int32) (mc : Nat) (y : Int) : Int32 := if 0 ≤ y ∧ y < (mc : Int) then md y.toNat else iI (-1)
def enF (en : Nat → Nat) (n : Nat) : Nat → Nat → wkT → wkT
  | 0, _, s => s
  | j + 1, k, s => enF en n j (k + 1) (cm n s (en k : Int))
def wkE (i e : txT) (fd : Nat → Nat) : wkT := fol i.1 i.2 i.2 true 160 0 (enF e.1 i.2 e.2 0 (wk0 fd))
def wkB (i : txT) (y : Int) (fd : Nat → Nat) : wkT := fol i.1 i.2 i.2 false 160 0 (cm i.2 (wk0 fd) y)
def tyB (s : txT) (y1 y2 : Int) : Bool := decide ((0 ≤ y1 ∧ y1 ≤ (s.2 : Int) ∧ y1 < 2400) ∧ 0 ≤ y2 ∧ y2 ≤ 255)
def tyS (s : txT) (y1 y2 : Int) : txT := if (0 ≤ y1 ∧ y1 ≤ (s.2 : Int) ∧ y1 < 2400) ∧ 0 ≤ y2 ∧ y2 ≤ 255 then pu s y1.toNat y2.toNat else s
def asR (q : rdT × abT) : Int := if q.1.2 = true then (if 160 < q.2.2 then -2 else (q.2.2 : Int)) else -1
def asM (q : rdT × abT) (md : Nat → Int32) : Nat → Int32 := if q.1.2 = true ∧ q.2.2 ≤ 160 then va_cpy q.2.1 md 0 0 q.2.2 else md
def asC (q : rdT × abT) (mc : Nat) : Nat := if q.1.2 = true ∧ q.2.2 ≤ 160 then q.2.2 else mc
theorem wkE_ok (i e : txT) (fd : Nat → Nat) : True := trivial
theorem max_1 {a : Nat} (h : a < 2147483648) : (if nI 1 < nI a then nI a else nI 1) = nI (max 1 a) := max_n (by decide) h
theorem cln_le3 (b : Nat → Nat) (n : Nat) (y : Int) : cln b n y ≤ 3 := by
  unfold cln
  cases ckd b n y with
  | none => exact Nat.zero_le _
  | some k => exact (kB_pos k).2
theorem lsz_le (b : Nat → Nat) (n : Nat) (m : Nat → Bool) (a : Nat) : 1 ≤ lsz b n m a ∧ lsz b n m a ≤ 3 := by
  unfold lsz
  cases lk b n m a with
  | none => exact ⟨Nat.le_refl 1, by show 1 ≤ 3; omega⟩
  | some k => exact kB_pos k
theorem lk_in {b : Nat → Nat} {n a k : Nat} {m : Nat → Bool} (hb : ∀ i, b i < 256) (ha : a < n) (e : lk b n m a = some k) : k < 13 ∧ a + kB k ≤ n ∧ kF k ≤ b a ∧ b a - kF k < kC k ∧ okL k (b a - kF k) (num b a k) := by
  unfold lk at e
  by_cases hm : m a = true
  · rw [if_pos hm] at e
    obtain ⟨k1, k2⟩ := ckd_kd ha e
    obtain ⟨h1, h2, -, -, -, -, h7, h8⟩ := kd_some (hb a) k1
    have hv := num_in (a := a) (k := k) hb
    refine ⟨h1, k2, h7, by omega, by omega, by omega, fun q => ?_, fun q => ?_⟩
    · unfold num
      rw [if_neg (by omega), if_neg (by omega), if_neg (by omega)]
    · have h3 := hb (a + 1)
      have h4 := hb (a + 2)
      rcases kn_all k h1 with ⟨e1, e2⟩ | ⟨e1, e2, e3⟩ | ⟨e1, e2, e3⟩ | ⟨e1, e2⟩
      · exact absurd e1 q
      · unfold num loN hiN
        rw [e1]
        simp
        omega
      · unfold num loN hiN sx8
        rw [e1]
        simp
        split <;> omega
      · unfold num loN hiN
        rw [e1]
        simp
        omega
  · rw [if_neg hm] at e
    cases e
theorem lsL_len {b : Nat → Nat} {n a : Nat} {m : Nat → Bool} (hb : ∀ i, b i < 256) (ha : a < n) : (lsL b n m a).length ≤ 10 * max 1 (lsz b n m a) := by
  have hl := (lsz_le b n m a).1
  rw [Nat.max_eq_right hl]
  unfold lsL lsz
  cases e : lk b n m a with
  | none =>
    have := hb a
    have h := ln_len (k := 13) (g := 0) (v := (b a : Int)) ⟨by decide, by decide, fun q => absurd q (by decide), fun _ => ⟨by show (0 : Int) ≤ _; omega, by show _ ≤ (255 : Int); omega⟩⟩
    simpa using h
  | some k =>
    obtain ⟨h1, -, -, -, h5⟩ := lk_in hb ha e
    have h := ln_len h5
    rw [if_neg (by omega)] at h
    exact h
theorem rdF_len {t : Nat → Nat} {n : Nat} : ∀ (j : Nat) (r : rdT) (s : abT), (rdF t n j r s).2.2 ≤ s.2 + 3 * j := by
  intro j
  induction j with
  | zero => intro r s; exact Nat.le_refl _
  | succ j ih =>
    intro r s
    simp only [rdF]
    split
    · have h1 := ih (rdLr t n r) (rdLs t n r s)
      have h2 := rdLs_le (t := t) (n := n) (r := r) (a := s)
      omega
    · show s.2 ≤ _
      omega
theorem rd_len (t : Nat → Nat) (n : Nat) (f : Nat → Int32) : (rd t n f).2.2 ≤ 7200 := by
  have := rdF_len (t := t) (n := n) 2400 (0, true) (f, 0)
  exact this
end
section
set_option maxHeartbeats 4000000 in
set_option maxRecDepth 100000 in
theorem c_Co_size (l : Launch) (dC : Nat → ClassId) (dI : Nat → Nat → Nat) (z : zT) (o : Nat) (h : Nat) (qe : Nat) (w : Nat) (h2 : Nat) (h3 : Nat) (qm : Nat) (e0 : txT) (mc : Nat) (q : Nat) (ca : ClassId) (i0 : txT) (hn : i0.2 ≤ 160) : MR l y_Co_size b_Co_size 1 (some .int) 1 20 (dC, dI) z [.ref o] [(o, .inr (4, [.ref h, .ref qe, .int (nI e0.2), .ref w, .ref h2, .ref h3, .ref qm, .int (nI mc)])), (h, .inr (1, [.ref q, .int (nI i0.2)])), (q, .inl (ca, 160, .inl (iN i0.1)))] [(ca, .int)] (.int (nI i0.2)) := by
  refine metR (by decide) (Nat.le_of_ble_eq_true rfl) ?_
  intro p e s m below meth c ls hx hb hr hlocks hml hown ht hl hP hK hSS
  have hl : lv_has ls 1 [(0, .ref o)] := hl
  have hS : va_S (fun _ => False) s.heap s.heap [] := va_S.rf
  refine lv_aload_n hx hb d_Co_size_0 rfl (lv_at hl 0 rfl) ?_
  refine va_get (D := (dC, dI)) (ci := 4) (v := .ref h) (C := R_Co) (T := F_Co) (N := 8) hx hb ht in_Co hown hK hP 0 rfl rfl 0 (by decide) (ht _ k_89) (fun _ h9 => h9) rfl d_Co_size_1 ?_
  refine rV (As := []) (rest := []) hx hb hml hown ht (c_Im_count l dC dI z h q ca i0.1 i0.2 ) yv_Im_count k_118 (Nat.le_of_ble_eq_true rfl) (Nat.le_of_ble_eq_true rfl) hP hK hSS hS [1, 2] [0] rfl rfl 1 1 rfl rfl rfl hl rfl rfl (Nat.le_of_ble_eq_true rfl) (Nat.zero_le _) (Nat.zero_le _) d_Co_size_4 ?_
  exact eRi hx hb hr hlocks d_Co_size_7 (rfl)

set_option maxHeartbeats 4000000 in
set_option maxRecDepth 100000 in
theorem c_Co_byteAt (l : Launch) (dC : Nat → ClassId) (dI : Nat → Nat → Nat) (z : zT) (o : Nat) (h : Nat) (qe : Nat) (w : Nat) (h2 : Nat) (h3 : Nat) (qm : Nat) (e0 : txT) (mc : Nat) (q : Nat) (ca : ClassId) (i0 : txT) (x : Int32) (y : Int) (hn : i0.2 ≤ 160) (hy : x.toInt = y) : MR l y_Co_byteAt b_Co_byteAt 2 (some .int) 2 42 (dC, dI) z [.ref o, .int x] [(o, .inr (4, [.ref h, .ref qe, .int (nI e0.2), .ref w, .ref h2, .ref h3, .ref qm, .int (nI mc)])), (h, .inr (1, [.ref q, .int (nI i0.2)])), (q, .inl (ca, 160, .inl (iN i0.1)))] [(ca, .int)] (.int (iI (atZ i0.1 i0.2 y))) := by
  refine metR (by decide) (Nat.le_of_ble_eq_true rfl) ?_
  intro p e s m below meth c ls hx hb hr hlocks hml hown ht hl hP hK hSS
  have hl : lv_has ls 2 [(0, .ref o), (1, .int x)] := hl
  have hS : va_S (fun _ => False) s.heap s.heap [] := va_S.rf
  refine lv_aload_n hx hb d_Co_byteAt_0 rfl (lv_at hl 0 rfl) ?_
  refine va_get (D := (dC, dI)) (ci := 4) (v := .ref h) (C := R_Co) (T := F_Co) (N := 8) hx hb ht in_Co hown hK hP 0 rfl rfl 0 (by decide) (ht _ k_89) (fun _ h9 => h9) rfl d_Co_byteAt_1 ?_
  refine lv_iload_n hx hb d_Co_byteAt_4 rfl (lv_at hl 1 rfl) ?_
  refine rV (As := [.int x]) (rest := []) hx hb hml hown ht (c_Im_at l dC dI z h q ca i0.1 i0.2 x y (by first | assumption | omega) hy) yv_Im_at k_158 (Nat.le_of_ble_eq_true rfl) (Nat.le_of_ble_eq_true rfl) hP hK hSS hS [1, 2] [0] rfl rfl 1 1 rfl rfl rfl hl rfl rfl (Nat.le_of_ble_eq_true rfl) (Nat.zero_le _) (Nat.zero_le _) d_Co_byteAt_5 ?_
  exact eRi hx hb hr hlocks d_Co_byteAt_8 (rfl)

set_option maxHeartbeats 4000000 in
set_option maxRecDepth 100000 in
theorem c_Co_length (l : Launch) (dC : Nat → ClassId) (dI : Nat → Nat → Nat) (z : zT) (o : Nat) (h : Nat) (qe : Nat) (w : Nat) (h2 : Nat) (h3 : Nat) (qm : Nat) (e0 : txT) (mc : Nat) (q : Nat) (ca : ClassId) (i0 : txT) (x : Int32) (y : Int) (hn : i0.2 ≤ 160) (hb8 : ∀ i, i0.1 i < 256) (hy : x.toInt = y) : MR l y_Co_length b_Co_length 2 (some .int) 4 86 (dC, dI) z [.ref o, .int x] [(o, .inr (4, [.ref h, .ref qe, .int (nI e0.2), .ref w, .ref h2, .ref h3, .ref qm, .int (nI mc)])), (h, .inr (1, [.ref q, .int (nI i0.2)])), (q, .inl (ca, 160, .inl (iN i0.1)))] [(ca, .int)] (.int (nI (cln i0.1 i0.2 y))) := by
  refine metR (by decide) (Nat.le_of_ble_eq_true rfl) ?_
  intro p e s m below meth c ls hx hb hr hlocks hml hown ht hl hP hK hSS
  have hl : lv_has ls 2 [(0, .ref o), (1, .int x)] := hl
  have hS : va_S (fun _ => False) s.heap s.heap [] := va_S.rf
  refine lv_aload_n hx hb d_Co_length_0 rfl (lv_at hl 0 rfl) ?_
  refine va_get (D := (dC, dI)) (ci := 4) (v := .ref h) (C := R_Co) (T := F_Co) (N := 8) hx hb ht in_Co hown hK hP 0 rfl rfl 0 (by decide) (ht _ k_89) (fun _ h9 => h9) rfl d_Co_length_1 ?_
  refine lv_iload_n hx hb d_Co_length_4 rfl (lv_at hl 1 rfl) ?_
  refine rV (As := [.int x]) (rest := []) hx hb hml hown ht (c_Im_codeLength l dC dI z h q ca i0.1 i0.2 x y (by first | assumption | omega) (by first | assumption | omega) hy) yv_Im_codeLength k_171 (Nat.le_of_ble_eq_true rfl) (Nat.le_of_ble_eq_true rfl) hP hK hSS hS [1, 2] [0] rfl rfl 1 1 rfl rfl rfl hl rfl rfl (Nat.le_of_ble_eq_true rfl) (Nat.zero_le _) (Nat.zero_le _) d_Co_length_5 ?_
  exact eRi hx hb hr hlocks d_Co_length_8 (rfl)

set_option maxHeartbeats 4000000 in
set_option maxRecDepth 100000 in
theorem c_Co_textLength (l : Launch) (dC : Nat → ClassId) (dI : Nat → Nat → Nat) (z : zT) (o : Nat) (h : Nat) (qe : Nat) (w : Nat) (h2 : Nat) (h3 : Nat) (qm : Nat) (e0 : txT) (mc : Nat) (q2 : Nat) (c2 : ClassId) (s0 : txT) (r0 : rdT) : MR l y_Co_textLength b_Co_textLength 1 (some .int) 1 20 (dC, dI) z [.ref o] [(o, .inr (4, [.ref h, .ref qe, .int (nI e0.2), .ref w, .ref h2, .ref h3, .ref qm, .int (nI mc)])), (h2, .inr (2, [.ref q2, .int (nI s0.2), .int (nI r0.1), .int (bI r0.2)])), (q2, .inl (c2, 2400, .inl (iN s0.1)))] [(c2, .char)] (.int (nI s0.2)) := by
  refine metR (by decide) (Nat.le_of_ble_eq_true rfl) ?_
  intro p e s m below meth c ls hx hb hr hlocks hml hown ht hl hP hK hSS
  have hl : lv_has ls 1 [(0, .ref o)] := hl
  have hS : va_S (fun _ => False) s.heap s.heap [] := va_S.rf
  refine lv_aload_n hx hb d_Co_textLength_0 rfl (lv_at hl 0 rfl) ?_
  refine va_get (D := (dC, dI)) (ci := 4) (v := .ref h2) (C := R_Co) (T := F_Co) (N := 8) hx hb ht in_Co hown hK hP 0 rfl rfl 4 (by decide) (ht _ k_93) (fun _ h9 => h9) rfl d_Co_textLength_1 ?_
  refine rV (As := []) (rest := []) hx hb hml hown ht (c_Te_count l dC dI z h2 q2 c2 s0 r0 ) yv_Te_count k_366 (Nat.le_of_ble_eq_true rfl) (Nat.le_of_ble_eq_true rfl) hP hK hSS hS [1, 2] [0] rfl rfl 1 2 rfl rfl rfl hl rfl rfl (Nat.le_of_ble_eq_true rfl) (Nat.zero_le _) (Nat.zero_le _) d_Co_textLength_4 ?_
  exact eRi hx hb hr hlocks d_Co_textLength_7 (rfl)

set_option maxHeartbeats 4000000 in
set_option maxRecDepth 100000 in
theorem c_Co_charAt (l : Launch) (dC : Nat → ClassId) (dI : Nat → Nat → Nat) (z : zT) (o : Nat) (h : Nat) (qe : Nat) (w : Nat) (h2 : Nat) (h3 : Nat) (qm : Nat) (e0 : txT) (mc : Nat) (q2 : Nat) (c2 : ClassId) (s0 : txT) (r0 : rdT) (x : Int32) (y : Int) (hs : s0.2 ≤ 2400) (hy : x.toInt = y) : MR l y_Co_charAt b_Co_charAt 2 (some .int) 1 21 (dC, dI) z [.ref o, .int x] [(o, .inr (4, [.ref h, .ref qe, .int (nI e0.2), .ref w, .ref h2, .ref h3, .ref qm, .int (nI mc)])), (h2, .inr (2, [.ref q2, .int (nI s0.2), .int (nI r0.1), .int (bI r0.2)])), (q2, .inl (c2, 2400, .inl (iN s0.1)))] [(c2, .char)] (.int (iI (atZ s0.1 s0.2 y))) := by
  refine metR (by decide) (Nat.le_of_ble_eq_true rfl) ?_
  intro p e s m below meth c ls hx hb hr hlocks hml hown ht hl hP hK hSS
  have hl : lv_has ls 2 [(0, .ref o), (1, .int x)] := hl
  have hS : va_S (fun _ => False) s.heap s.heap [] := va_S.rf
  refine lv_aload_n hx hb d_Co_charAt_0 rfl (lv_at hl 0 rfl) ?_
  refine va_get (D := (dC, dI)) (ci := 4) (v := .ref h2) (C := R_Co) (T := F_Co) (N := 8) hx hb ht in_Co hown hK hP 0 rfl rfl 4 (by decide) (ht _ k_93) (fun _ h9 => h9) rfl d_Co_charAt_1 ?_
  refine lv_iload_n hx hb d_Co_charAt_4 rfl (lv_at hl 1 rfl) ?_
  refine rV (As := [.int x]) (rest := []) hx hb hml hown ht (c_Te_at l dC dI z h2 q2 c2 s0 r0.1 r0.2 x y (by first | assumption | omega) hy) yv_Te_at k_379 (Nat.le_of_ble_eq_true rfl) (Nat.le_of_ble_eq_true rfl) hP hK hSS hS [1, 2] [0] rfl rfl 1 2 rfl rfl rfl hl rfl rfl (Nat.le_of_ble_eq_true rfl) (Nat.zero_le _) (Nat.zero_le _) d_Co_charAt_5 ?_
  exact eRi hx hb hr hlocks d_Co_charAt_8 (rfl)

set_option maxHeartbeats 4000000 in
set_option maxRecDepth 100000 in
theorem c_Co_entry (l : Launch) (dC : Nat → ClassId) (dI : Nat → Nat → Nat) (z : zT) (o : Nat) (h : Nat) (qe : Nat) (w : Nat) (h2 : Nat) (h3 : Nat) (qm : Nat) (e0 : txT) (mc : Nat) (ce : ClassId) (x : Int32) (y : Int) (he : e0.2 ≤ 16) (hy : x.toInt = y) : MR l y_Co_entry b_Co_entry 2 (some .int) 0 0 (dC, dI) z [.ref o, .int x] [(o, .inr (4, [.ref h, .ref qe, .int (nI e0.2), .ref w, .ref h2, .ref h3, .ref qm, .int (nI mc)])), (qe, .inl (ce, 16, .inl (iN e0.1)))] [(ce, .int)] (.int (iI (atZ e0.1 e0.2 y))) := by
  refine metR (by decide) (Nat.le_of_ble_eq_true rfl) ?_
  intro p e s m below meth c ls hx hb hr hlocks hml hown ht hl hP hK hSS
  have hl : lv_has ls 2 [(0, .ref o), (1, .int x)] := hl
  have hS : va_S (fun _ => False) s.heap s.heap [] := va_S.rf
  refine lv_iload_n hx hb d_Co_entry_0 rfl (lv_at hl 1 rfl) ?_
  refine z_if_lt (tgt := 21) hx hb d_Co_entry_1 hy (by decide) (fun g1 => ?_) (fun g1 => ?_)
  · refine lv_iconst (v := iI (-1)) hx hb d_Co_entry_21 (by decide) ?_
    exact eRi hx hb hr hlocks d_Co_entry_22 (by rw [atZ, if_neg (by omega)])
  · refine lv_iload_n hx hb d_Co_entry_4 rfl (lv_at hl 1 rfl) ?_
    refine lv_aload_n hx hb d_Co_entry_5 rfl (lv_at hl 0 rfl) ?_
    refine va_get (D := (dC, dI)) (ci := 4) (v := .int (nI e0.2)) (C := R_Co) (T := F_Co) (N := 8) hx hb ht in_Co hown hK hP 0 rfl rfl 2 (by decide) (ht _ k_91) (fun _ h9 => h9) rfl d_Co_entry_6 ?_
    refine z_icmp_ge (tgt := 21) hx hb d_Co_entry_9 hy (tI_n (by omega)) (by decide) (fun g9 => ?_) (fun g9 => ?_)
    · refine lv_iconst (v := iI (-1)) hx hb d_Co_entry_21 (by decide) ?_
      exact eRi hx hb hr hlocks d_Co_entry_22 (by rw [atZ, if_neg (by omega)])
    · refine lv_aload_n hx hb d_Co_entry_12 rfl (lv_at hl 0 rfl) ?_
      refine va_get (D := (dC, dI)) (ci := 4) (v := .ref qe) (C := R_Co) (T := F_Co) (N := 8) hx hb ht in_Co hown hK hP 0 rfl rfl 1 (by decide) (ht _ k_90) (fun _ h9 => h9) rfl d_Co_entry_13 ?_
      refine lv_iload_n hx hb d_Co_entry_16 rfl (lv_at hl 1 rfl) ?_
      refine eqi (y := nI y.toNat) (x_yN hy (by omega)) ?_
      refine ldI (q0 := 1) (t0 := 0) hx hb d_Co_entry_17 hK hP rfl rfl (by omega) (by decide) ?_
      refine lv_goto (tgt := 22) hx hb d_Co_entry_18 (by decide) ?_
      exact eRi hx hb hr hlocks d_Co_entry_22 (by rw [nI_iI, atZ, if_pos (by omega)])

set_option maxHeartbeats 4000000 in
set_option maxRecDepth 100000 in
theorem c_Co_made (l : Launch) (dC : Nat → ClassId) (dI : Nat → Nat → Nat) (z : zT) (o : Nat) (h : Nat) (qe : Nat) (w : Nat) (h2 : Nat) (h3 : Nat) (qm : Nat) (e0 : txT) (mc : Nat) (cd : ClassId) (md : Nat → Int32) (x : Int32) (y : Int) (hm : mc ≤ 160) (hy : x.toInt = y) : MR l y_Co_made b_Co_made 2 (some .int) 0 0 (dC, dI) z [.ref o, .int x] [(o, .inr (4, [.ref h, .ref qe, .int (nI e0.2), .ref w, .ref h2, .ref h3, .ref qm, .int (nI mc)])), (qm, .inl (cd, 160, .inl md))] [(cd, .int)] (.int (mdZ md mc y)) := by
  refine metR (by decide) (Nat.le_of_ble_eq_true rfl) ?_
  intro p e s m below meth c ls hx hb hr hlocks hml hown ht hl hP hK hSS
  have hl : lv_has ls 2 [(0, .ref o), (1, .int x)] := hl
  have hS : va_S (fun _ => False) s.heap s.heap [] := va_S.rf
  refine lv_iload_n hx hb d_Co_made_0 rfl (lv_at hl 1 rfl) ?_
  refine z_if_lt (tgt := 21) hx hb d_Co_made_1 hy (by decide) (fun g1 => ?_) (fun g1 => ?_)
  · refine lv_iconst (v := iI (-1)) hx hb d_Co_made_21 (by decide) ?_
    exact eRi hx hb hr hlocks d_Co_made_22 (by rw [mdZ, if_neg (by omega)])
  · refine lv_iload_n hx hb d_Co_made_4 rfl (lv_at hl 1 rfl) ?_
    refine lv_aload_n hx hb d_Co_made_5 rfl (lv_at hl 0 rfl) ?_
    refine va_get (D := (dC, dI)) (ci := 4) (v := .int (nI mc)) (C := R_Co) (T := F_Co) (N := 8) hx hb ht in_Co hown hK hP 0 rfl rfl 7 (by decide) (ht _ k_96) (fun _ h9 => h9) rfl d_Co_made_6 ?_
    refine z_icmp_ge (tgt := 21) hx hb d_Co_made_9 hy (tI_n (by omega)) (by decide) (fun g9 => ?_) (fun g9 => ?_)
    · refine lv_iconst (v := iI (-1)) hx hb d_Co_made_21 (by decide) ?_
      exact eRi hx hb hr hlocks d_Co_made_22 (by rw [mdZ, if_neg (by omega)])
    · refine lv_aload_n hx hb d_Co_made_12 rfl (lv_at hl 0 rfl) ?_
      refine va_get (D := (dC, dI)) (ci := 4) (v := .ref qm) (C := R_Co) (T := F_Co) (N := 8) hx hb ht in_Co hown hK hP 0 rfl rfl 6 (by decide) (ht _ k_95) (fun _ h9 => h9) rfl d_Co_made_13 ?_
      refine lv_iload_n hx hb d_Co_made_16 rfl (lv_at hl 1 rfl) ?_
      refine eqi (y := nI y.toNat) (x_yN hy (by omega)) ?_
      refine ldX (q0 := 1) (t0 := 0) hx hb d_Co_made_17 hK hP rfl rfl (by omega) (by decide) ?_
      refine lv_goto (tgt := 22) hx hb d_Co_made_18 (by decide) ?_
      exact eRi hx hb hr hlocks d_Co_made_22 (by rw [mdZ, if_pos (by omega)])

set_option maxHeartbeats 4000000 in
set_option maxRecDepth 100000 in
theorem c_Co_isEntry (l : Launch) (dC : Nat → ClassId) (dI : Nat → Nat → Nat) (z : zT) (o : Nat) (h : Nat) (qe : Nat) (w : Nat) (h2 : Nat) (h3 : Nat) (qm : Nat) (e0 : txT) (mc : Nat) (ce : ClassId) (x : Int32) (y : Int) (he : e0.2 ≤ 16) (hel : ∀ k, k < e0.2 → e0.1 k < 160) (hy : x.toInt = y) : MR l y_Co_isEntry b_Co_isEntry 3 (some .boolean) 0 0 (dC, dI) z [.ref o, .int x] [(o, .inr (4, [.ref h, .ref qe, .int (nI e0.2), .ref w, .ref h2, .ref h3, .ref qm, .int (nI mc)])), (qe, .inl (ce, 16, .inl (iN e0.1)))] [(ce, .int)] (.int (bI (isE e0 y))) := by
  refine metR (by decide) (Nat.le_of_ble_eq_true rfl) ?_
  intro p e s m below meth c ls hx hb hr hlocks hml hown ht hl hP hK hSS
  have hl : lv_has ls 3 [(0, .ref o), (1, .int x)] := hl
  have hS : va_S (fun _ => False) s.heap s.heap [] := va_S.rf
  refine lv_iconst (v := nI 0) hx hb d_Co_isEntry_0 (by decide) ?_
  refine lv_istore_n (lv' := [(2, .int (nI 0)), (0, .ref o), (1, .int x)]) hx hb d_Co_isEntry_1 rfl hl (Nat.le_of_ble_eq_true rfl) rfl (fun ls hl => ?_)
  have loop2 : ∀ (j : Nat) (k : Nat) (ls : Array Slot), (k + j = e0.2) → (isE e0 y = isEF e0.1 y j k) → lv_has ls 3 [(2, .int (nI k)), (0, .ref o), (1, .int x)] → W p l e (rmq 0 0) s m [.ref o, .int x].toArray below meth c s.heap [] 0 0 (MQ below (k2_QcV (.int (bI (isE e0 y)))) [.ref o, .int x].toArray s 0 0 (fun _ => False)) (F0 m 2 ls []) := by
    intro j
    induction j with
    | zero =>
      intro k ls hk hR hl
      refine lv_iload_n hx hb d_Co_isEntry_2 rfl (lv_at hl 0 rfl) ?_
      refine lv_aload_n hx hb d_Co_isEntry_3 rfl (lv_at hl 1 rfl) ?_
      refine va_get (D := (dC, dI)) (ci := 4) (v := .int (nI e0.2)) (C := R_Co) (T := F_Co) (N := 8) hx hb ht in_Co hown hK hP 0 rfl rfl 2 (by decide) (ht _ k_91) (fun _ h9 => h9) rfl d_Co_isEntry_4 ?_
      refine z_icmp_ge (tgt := 28) hx hb d_Co_isEntry_7 (tI_n (by omega)) (tI_n (by omega)) (by decide) (fun g7 => ?_) (fun g7 => ?_)
      · refine lv_iconst (v := nI 0) hx hb d_Co_isEntry_28 (by decide) ?_
        refine eqi (y := bI false) (by decide) ?_
        exact eRz hx hb hr hlocks (bI_narrow _) d_Co_isEntry_29 (by rw [hR]; rfl)
      · exfalso; omega
    | succ j ih =>
      intro k ls hk hR hl
      have hek := hel k (by omega)
      refine lv_iload_n hx hb d_Co_isEntry_2 rfl (lv_at hl 0 rfl) ?_
      refine lv_aload_n hx hb d_Co_isEntry_3 rfl (lv_at hl 1 rfl) ?_
      refine va_get (D := (dC, dI)) (ci := 4) (v := .int (nI e0.2)) (C := R_Co) (T := F_Co) (N := 8) hx hb ht in_Co hown hK hP 0 rfl rfl 2 (by decide) (ht _ k_91) (fun _ h9 => h9) rfl d_Co_isEntry_4 ?_
      refine z_icmp_ge (tgt := 28) hx hb d_Co_isEntry_7 (tI_n (by omega)) (tI_n (by omega)) (by decide) (fun g7 => ?_) (fun g7 => ?_)
      · exfalso; omega
      · refine lv_aload_n hx hb d_Co_isEntry_10 rfl (lv_at hl 1 rfl) ?_
        refine va_get (D := (dC, dI)) (ci := 4) (v := .ref qe) (C := R_Co) (T := F_Co) (N := 8) hx hb ht in_Co hown hK hP 0 rfl rfl 1 (by decide) (ht _ k_90) (fun _ h9 => h9) rfl d_Co_isEntry_11 ?_
        refine lv_iload_n hx hb d_Co_isEntry_14 rfl (lv_at hl 0 rfl) ?_
        refine ldI (q0 := 1) (t0 := 0) hx hb d_Co_isEntry_15 hK hP rfl rfl (by omega) (by decide) ?_
        refine lv_iload_n hx hb d_Co_isEntry_16 rfl (lv_at hl 2 rfl) ?_
        refine z_icmp_ne (tgt := 22) hx hb d_Co_isEntry_17 (tI_n (by omega)) hy (by decide) (fun g17 => ?_) (fun g17 => ?_)
        · refine lv_iinc (k := 0) (v := nI (k + 1)) (lv' := [(2, .int (nI (k + 1))), (0, .ref o), (1, .int x)]) hx hb d_Co_isEntry_22 hl rfl (nI_inc1 _) (Nat.le_of_ble_eq_true rfl) rfl (fun ls hl => ?_)
          refine lv_goto (tgt := 2) hx hb d_Co_isEntry_25 (by decide) ?_
          exact ih (k + 1) _ (by omega) (by rw [hR, isEF, if_neg g17]) (lv_sub hl [0, 1, 2] rfl)
        · refine lv_iconst (v := nI 1) hx hb d_Co_isEntry_20 (by decide) ?_
          refine eqi (y := bI true) (by decide) ?_
          exact eRz hx hb hr hlocks (bI_narrow _) d_Co_isEntry_21 (by rw [hR, isEF, if_pos g17])
  exact loop2 e0.2 0 _ (Nat.zero_add _) (rfl) (lv_sub hl [0, 1, 2] rfl)

set_option maxHeartbeats 4000000 in
set_option maxRecDepth 100000 in
theorem c_Co_append (l : Launch) (dC : Nat → ClassId) (dI : Nat → Nat → Nat) (z : zT) (sz : Nat) (o : Nat) (h : Nat) (qe : Nat) (w : Nat) (h2 : Nat) (h3 : Nat) (qm : Nat) (e0 : txT) (mc : Nat) (q : Nat) (ca : ClassId) (i0 : txT) (w0 : Int32) (x : Int32) (y : Int) (hn : i0.2 ≤ 160) (hy : x.toInt = y) : MU l y_Co_append b_Co_append 4 (some .int) 1 21 (dC, dI) z [.ref o, .int w0, .int x] [(o, .inr (4, [.ref h, .ref qe, .int (nI e0.2), .ref w, .ref h2, .ref h3, .ref qm, .int (nI mc)])), (h, .inr (1, [.ref q, .int (nI i0.2)])), (q, .inl (ca, 160, .inl (iN i0.1)))] [(ca, .int)] sz (some (.int (iI (apR i0.2 y)))) [(o, .inr (4, [.ref h, .ref qe, .int (nI e0.2), .ref w, .ref h2, .ref h3, .ref qm, .int (nI mc)])), (h, .inr (1, [.ref q, .int (nI ((apS i0 w0 y).2))])), (q, .inl (ca, 160, .inl (iN ((apS i0 w0 y).1))))] := by
  refine metU (by decide) (Nat.le_of_ble_eq_true rfl) ?_
  intro p e s m below meth c ls A hx hb hr hlocks hml hown ht hl hP hK hSS hD hS hA
  have hl : lv_has ls 4 [(0, .ref o), (1, .int w0), (2, .int x)] := hl
  refine lv_iload_n hx hb d_Co_append_0 rfl (lv_at hl 2 rfl) ?_
  refine lv_iconst (v := nI 1) hx hb d_Co_append_1 (by decide) ?_
  refine z_icmp_lt (tgt := 10) hx hb d_Co_append_2 hy (tI_n (by omega)) (by decide) (fun g2 => ?_) (fun g2 => ?_)
  · refine lv_iconst (v := iI (-1)) hx hb d_Co_append_10 (by decide) ?_
    rw [apS, if_neg (by omega)]
    exact eUi hx hb hr hlocks hP hD hS [0, 1, 2] rfl rfl (by decide) d_Co_append_11 (by rw [apR, if_neg (by omega)])
  · refine lv_iload_n hx hb d_Co_append_5 rfl (lv_at hl 2 rfl) ?_
    refine lv_iconst (v := nI 4) hx hb d_Co_append_6 (by decide) ?_
    refine z_icmp_le (tgt := 12) hx hb d_Co_append_7 hy (tI_n (by omega)) (by decide) (fun g7 => ?_) (fun g7 => ?_)
    · refine lv_aload_n hx hb d_Co_append_12 rfl (lv_at hl 0 rfl) ?_
      refine va_get (D := (dC, dI)) (ci := 4) (v := .ref h) (C := R_Co) (T := F_Co) (N := 8) hx hb ht in_Co hown hK hP 0 rfl rfl 0 (by decide) (ht _ k_89) (fun _ h9 => h9) rfl d_Co_append_13 ?_
      refine rV (As := []) (rest := []) hx hb hml hown ht (c_Im_count l dC dI z h q ca i0.1 i0.2 ) yv_Im_count k_118 (Nat.le_of_ble_eq_true rfl) (Nat.le_of_ble_eq_true rfl) hP hK hSS hS [1, 2] [0] rfl rfl 1 1 rfl rfl rfl hl rfl rfl (Nat.le_of_ble_eq_true rfl) (Nat.zero_le _) (Nat.zero_le _) d_Co_append_16 ?_
      refine lv_iload_n hx hb d_Co_append_19 rfl (lv_at hl 2 rfl) ?_
      refine zAdd hx hb d_Co_append_20 (nI_iI _) (x_iI hy) ?_
      refine lv_sipush (v := nI 160) hx hb d_Co_append_21 (by decide) ?_
      refine z_icmp_le (tgt := 30) hx hb d_Co_append_24 (iI_toInt (by omega) (by omega)) (tI_n (by omega)) (by decide) (fun g24 => ?_) (fun g24 => ?_)
      · refine lv_iconst (v := nI 0) hx hb d_Co_append_30 (by decide) ?_
        refine lv_istore_n (lv' := [(3, .int (nI 0)), (0, .ref o), (1, .int w0), (2, .int x)]) hx hb d_Co_append_31 rfl hl (Nat.le_of_ble_eq_true rfl) rfl (fun ls hl => ?_)
        have loop32 : ∀ (j : Nat) (k : Nat) (i1 : txT) (ls : Array Slot) (H : Heap) (locs : List Loc), (k + j = y.toNat) → (apS i0 w0 y = apF w0 j k i1) → (i1.2 = i0.2 + k) → lv_has ls 4 [(3, .int (nI k)), (0, .ref o), (1, .int w0), (2, .int x)] → va_P (dC, dI) classes [(o, .inr (4, [.ref h, .ref qe, .int (nI e0.2), .ref w, .ref h2, .ref h3, .ref qm, .int (nI mc)])), (h, .inr (1, [.ref q, .int (nI i1.2)])), (q, .inl (ca, 160, .inl (iN i1.1)))] H → va_D A [(o, .inr (4, [.ref h, .ref qe, .int (nI e0.2), .ref w, .ref h2, .ref h3, .ref qm, .int (nI mc)])), (h, .inr (1, [.ref q, .int (nI i1.2)])), (q, .inl (ca, 160, .inl (iN i1.1)))] → va_S A s.heap H locs → W p l e (rmq 1 21) s m [.ref o, .int w0, .int x].toArray below meth c H locs 0 0 (MQ below (qcU (some (.int (iI (apR i0.2 y)))) (dC, dI) [(o, .inr (4, [.ref h, .ref qe, .int (nI e0.2), .ref w, .ref h2, .ref h3, .ref qm, .int (nI mc)])), (h, .inr (1, [.ref q, .int (nI ((apS i0 w0 y).2))])), (q, .inl (ca, 160, .inl (iN ((apS i0 w0 y).1))))] A) [.ref o, .int w0, .int x].toArray s 0 0 A) (F0 m 32 ls []) := by
          intro j
          induction j with
          | zero =>
            intro k i1 ls H locs hk hR hl1 hl hP hD hS
            have hRe : apS i0 w0 y = i1 := hR
            refine lv_iload_n hx hb d_Co_append_32 rfl (lv_at hl 0 rfl) ?_
            refine lv_iload_n hx hb d_Co_append_33 rfl (lv_at hl 3 rfl) ?_
            refine z_icmp_ge (tgt := 63) hx hb d_Co_append_34 (tI_n (by omega)) hy (by decide) (fun g34 => ?_) (fun g34 => ?_)
            · refine lv_aload_n hx hb d_Co_append_63 rfl (lv_at hl 1 rfl) ?_
              refine va_get (D := (dC, dI)) (ci := 4) (v := .ref h) (C := R_Co) (T := F_Co) (N := 8) hx hb ht in_Co hown hK hP 0 rfl rfl 0 (by decide) (ht _ k_89) (fun _ h9 => h9) rfl d_Co_append_64 ?_
              refine rV (As := []) (rest := []) hx hb hml hown ht (c_Im_count l dC dI z h q ca i1.1 i1.2 ) yv_Im_count k_118 (Nat.le_of_ble_eq_true rfl) (Nat.le_of_ble_eq_true rfl) hP hK hSS hS [1, 2] [0] rfl rfl 1 1 rfl rfl rfl hl rfl rfl (Nat.le_of_ble_eq_true rfl) (Nat.zero_le _) (Nat.zero_le _) d_Co_append_67 ?_
              rw [hRe]
              exact eUi hx hb hr hlocks hP hD hS [0, 1, 2] rfl rfl (by decide) d_Co_append_70 (by rw [nI_iI, apR, if_pos (by omega), if_pos (by omega)]; congr 1; omega)
            · exfalso; omega
          | succ j ih =>
            intro k i1 ls H locs hk hR hl1 hl hP hD hS
            refine lv_iload_n hx hb d_Co_append_32 rfl (lv_at hl 0 rfl) ?_
            refine lv_iload_n hx hb d_Co_append_33 rfl (lv_at hl 3 rfl) ?_
            refine z_icmp_ge (tgt := 63) hx hb d_Co_append_34 (tI_n (by omega)) hy (by decide) (fun g34 => ?_) (fun g34 => ?_)
            · exfalso; omega
            · refine lv_aload_n hx hb d_Co_append_37 rfl (lv_at hl 1 rfl) ?_
              refine va_get (D := (dC, dI)) (ci := 4) (v := .ref h) (C := R_Co) (T := F_Co) (N := 8) hx hb ht in_Co hown hK hP 0 rfl rfl 0 (by decide) (ht _ k_89) (fun _ h9 => h9) rfl d_Co_append_38 ?_
              refine lv_iload_n hx hb d_Co_append_41 rfl (lv_at hl 2 rfl) ?_
              refine lv_bipush (v := nI 24) hx hb d_Co_append_42 (by decide) ?_
              refine lv_bipush (v := nI 8) hx hb d_Co_append_44 (by decide) ?_
              refine lv_iload_n hx hb d_Co_append_46 rfl (lv_at hl 0 rfl) ?_
              refine nMul hx hb d_Co_append_47 ?_
              refine nSub hx hb d_Co_append_48 (by omega) ?_
              refine lv_iushr (v := (w0.toUInt32 >>> ((nI (24 - 8 * k)).toUInt32 &&& Int32.toUInt32 31)).toInt32) hx hb d_Co_append_49 (rfl) ?_
              refine lv_sipush (v := nI 255) hx hb d_Co_append_50 (by decide) ?_
              refine lv_iand hx hb d_Co_append_53 ?_
              refine eqi (y := nI (byW w0 k)) (byW_e w0 k) ?_
              refine uV (As := [.int (nI (byW w0 k))]) (rest := []) (wr := [(o, .inr (4, [.ref h, .ref qe, .int (nI e0.2), .ref w, .ref h2, .ref h3, .ref qm, .int (nI mc)]))]) hx hb hml hown ht (c_Im_add l dC dI z _ h q ca i1.1 i1.2 (byW w0 k) (by first | assumption | omega)) yv_Im_add k_122 (Nat.le_of_ble_eq_true rfl) (Nat.le_of_ble_eq_true rfl) hP hK hSS hD hS hA [1, 2] [0] [0] rfl rfl (by decide) rfl (by decide) (by decide) rfl 1 1 rfl rfl rfl hl rfl rfl (Nat.le_of_ble_eq_true rfl) (Nat.zero_le _) (Nat.zero_le _) d_Co_append_54 (fun H locs hP hD hS => ?_)
              have hP : va_P (dC, dI) classes [(o, .inr (4, [.ref h, .ref qe, .int (nI e0.2), .ref w, .ref h2, .ref h3, .ref qm, .int (nI mc)])), (h, .inr (1, [.ref q, .int (nI (i1.2 + 1))])), (q, .inl (ca, 160, .inl (iN (updN i1.1 i1.2 (byW w0 k)))))] H := hP
              have hD : va_D A [(o, .inr (4, [.ref h, .ref qe, .int (nI e0.2), .ref w, .ref h2, .ref h3, .ref qm, .int (nI mc)])), (h, .inr (1, [.ref q, .int (nI (i1.2 + 1))])), (q, .inl (ca, 160, .inl (iN (updN i1.1 i1.2 (byW w0 k)))))] := hD
              refine stk (st2 := []) rfl ?_
              refine lv_iinc (k := 0) (v := nI (k + 1)) (lv' := [(3, .int (nI (k + 1))), (0, .ref o), (1, .int w0), (2, .int x)]) hx hb d_Co_append_57 hl rfl (nI_inc1 _) (Nat.le_of_ble_eq_true rfl) rfl (fun ls hl => ?_)
              refine lv_goto (tgt := 32) hx hb d_Co_append_60 (by decide) ?_
              exact ih (k + 1) (ap1 i1 (byW w0 k)) _ _ _ (by omega) (by rw [hR, apF]) (by show i1.2 + 1 = _; omega) (lv_sub hl [0, 1, 2, 3] rfl) (hP.sub [0, 1, 2] rfl) (hD.sub [0, 1, 2] (by decide) rfl) hS
        exact loop32 y.toNat 0 i0 _ _ _ (Nat.zero_add _) (by rw [apS, if_pos ⟨by omega, by omega⟩]) (rfl) (lv_sub hl [0, 1, 2, 3] rfl) (hP.sub [0, 1, 2] rfl) (hD.sub [0, 1, 2] (by decide) rfl) hS
      · refine lv_bipush (v := iI (-2)) hx hb d_Co_append_27 (by decide) ?_
        rw [apS, if_neg (by omega)]
        exact eUi hx hb hr hlocks hP hD hS [0, 1, 2] rfl rfl (by decide) d_Co_append_29 (by rw [apR, if_pos (by omega), if_neg (by omega)])
    · refine lv_iconst (v := iI (-1)) hx hb d_Co_append_10 (by decide) ?_
      rw [apS, if_neg (by omega)]
      exact eUi hx hb hr hlocks hP hD hS [0, 1, 2] rfl rfl (by decide) d_Co_append_11 (by rw [apR, if_neg (by omega)])

set_option maxHeartbeats 4000000 in
set_option maxRecDepth 100000 in
theorem c_Co_enter (l : Launch) (dC : Nat → ClassId) (dI : Nat → Nat → Nat) (z : zT) (sz : Nat) (o : Nat) (h : Nat) (qe : Nat) (w : Nat) (h2 : Nat) (h3 : Nat) (qm : Nat) (e0 : txT) (mc : Nat) (q : Nat) (ca : ClassId) (i0 : txT) (ce : ClassId) (x : Int32) (y : Int) (hn : i0.2 ≤ 160) (he : e0.2 ≤ 16) (hen : ∀ k, k < e0.2 → e0.1 k < i0.2) (hy : x.toInt = y) : MU l y_Co_enter b_Co_enter 2 (some .boolean) 1 22 (dC, dI) z [.ref o, .int x] [(o, .inr (4, [.ref h, .ref qe, .int (nI e0.2), .ref w, .ref h2, .ref h3, .ref qm, .int (nI mc)])), (h, .inr (1, [.ref q, .int (nI i0.2)])), (q, .inl (ca, 160, .inl (iN i0.1))), (qe, .inl (ce, 16, .inl (iN e0.1)))] [(ca, .int), (ce, .int)] sz (some (.int (bI (enB i0.2 e0 y)))) [(o, .inr (4, [.ref h, .ref qe, .int (nI ((enS i0.2 e0 y).2)), .ref w, .ref h2, .ref h3, .ref qm, .int (nI mc)])), (h, .inr (1, [.ref q, .int (nI i0.2)])), (q, .inl (ca, 160, .inl (iN i0.1))), (qe, .inl (ce, 16, .inl (iN ((enS i0.2 e0 y).1))))] := by
  refine metU (by decide) (Nat.le_of_ble_eq_true rfl) ?_
  intro p e s m below meth c ls A hx hb hr hlocks hml hown ht hl hP hK hSS hD hS hA
  have hl : lv_has ls 2 [(0, .ref o), (1, .int x)] := hl
  refine lv_aload_n hx hb d_Co_enter_0 rfl (lv_at hl 0 rfl) ?_
  refine va_get (D := (dC, dI)) (ci := 4) (v := .ref h) (C := R_Co) (T := F_Co) (N := 8) hx hb ht in_Co hown hK hP 0 rfl rfl 0 (by decide) (ht _ k_89) (fun _ h9 => h9) rfl d_Co_enter_1 ?_
  refine lv_iload_n hx hb d_Co_enter_4 rfl (lv_at hl 1 rfl) ?_
  refine rV (As := [.int x]) (rest := []) hx hb hml hown ht (c_Im_holds l dC dI z h q ca i0.1 i0.2 x y (by first | assumption | omega) hy) yv_Im_holds k_130 (Nat.le_of_ble_eq_true rfl) (Nat.le_of_ble_eq_true rfl) hP hK hSS hS [1, 2] [0] rfl rfl 1 1 rfl rfl rfl hl rfl rfl (Nat.le_of_ble_eq_true rfl) (Nat.zero_le _) (Nat.zero_le _) d_Co_enter_5 ?_
  refine b_if_eq (tgt := 28) hx hb d_Co_enter_8 (by decide) (fun g8 => ?_) (fun g8 => ?_)
  · refine lv_iconst (v := nI 0) hx hb d_Co_enter_28 (by decide) ?_
    refine eqi (y := bI false) (by decide) ?_
    rw [enS, if_neg (by first | omega | (intro q; exact of_decide_eq_false g8 q.1) | (intro q; rw [g16] at q; exact absurd q.2.1 (by decide)))]
    exact eUz hx hb hr hlocks (bI_narrow _) hP hD hS [0, 1, 2, 3] rfl rfl (by decide) d_Co_enter_29 (bI_zero (by first | omega | (intro q; exact of_decide_eq_false g8 q.1) | (intro q; rw [g16] at q; exact absurd q.2.1 (by decide))))
  · refine lv_aload_n hx hb d_Co_enter_11 rfl (lv_at hl 0 rfl) ?_
    refine lv_iload_n hx hb d_Co_enter_12 rfl (lv_at hl 1 rfl) ?_
    refine rV (As := [.int x]) (rest := []) hx hb hml hown ht (c_Co_isEntry l dC dI z o h qe w h2 h3 qm e0 mc ce x y (by first | assumption | omega) (fun k hk => by have := hen k hk; omega) hy) yv_Co_isEntry k_134 (Nat.le_of_ble_eq_true rfl) (Nat.le_of_ble_eq_true rfl) hP hK hSS hS [0, 3] [1] rfl rfl 0 4 rfl rfl rfl hl rfl rfl (Nat.le_of_ble_eq_true rfl) (Nat.zero_le _) (Nat.zero_le _) d_Co_enter_13 ?_
    refine b_if_ne (tgt := 28) hx hb d_Co_enter_16 (by decide) (fun g16 => ?_) (fun g16 => ?_)
    · refine lv_iconst (v := nI 0) hx hb d_Co_enter_28 (by decide) ?_
      refine eqi (y := bI false) (by decide) ?_
      rw [enS, if_neg (by first | omega | (intro q; exact of_decide_eq_false g8 q.1) | (intro q; rw [g16] at q; exact absurd q.2.1 (by decide)))]
      exact eUz hx hb hr hlocks (bI_narrow _) hP hD hS [0, 1, 2, 3] rfl rfl (by decide) d_Co_enter_29 (bI_zero (by first | omega | (intro q; exact of_decide_eq_false g8 q.1) | (intro q; rw [g16] at q; exact absurd q.2.1 (by decide))))
    · refine lv_aload_n hx hb d_Co_enter_19 rfl (lv_at hl 0 rfl) ?_
      refine va_get (D := (dC, dI)) (ci := 4) (v := .int (nI e0.2)) (C := R_Co) (T := F_Co) (N := 8) hx hb ht in_Co hown hK hP 0 rfl rfl 2 (by decide) (ht _ k_91) (fun _ h9 => h9) rfl d_Co_enter_20 ?_
      refine lv_bipush (v := nI 16) hx hb d_Co_enter_23 (by decide) ?_
      refine z_icmp_lt (tgt := 30) hx hb d_Co_enter_25 (tI_n (by omega)) (tI_n (by omega)) (by decide) (fun g25 => ?_) (fun g25 => ?_)
      · refine lv_aload_n hx hb d_Co_enter_30 rfl (lv_at hl 0 rfl) ?_
        refine va_get (D := (dC, dI)) (ci := 4) (v := .ref qe) (C := R_Co) (T := F_Co) (N := 8) hx hb ht in_Co hown hK hP 0 rfl rfl 1 (by decide) (ht _ k_90) (fun _ h9 => h9) rfl d_Co_enter_31 ?_
        refine lv_aload_n hx hb d_Co_enter_34 rfl (lv_at hl 0 rfl) ?_
        refine va_get (D := (dC, dI)) (ci := 4) (v := .int (nI e0.2)) (C := R_Co) (T := F_Co) (N := 8) hx hb ht in_Co hown hK hP 0 rfl rfl 2 (by decide) (ht _ k_91) (fun _ h9 => h9) rfl d_Co_enter_35 ?_
        refine lv_iload_n hx hb d_Co_enter_38 rfl (lv_at hl 1 rfl) ?_
        refine eqi (y := nI y.toNat) (x_yN hy (of_decide_eq_true g8).1) ?_
        refine stI (q0 := 3) (t0 := 1) (w1 := [(o, .inr (4, [.ref h, .ref qe, .int (nI e0.2), .ref w, .ref h2, .ref h3, .ref qm, .int (nI mc)])), (h, .inr (1, [.ref q, .int (nI i0.2)])), (q, .inl (ca, 160, .inl (iN i0.1))), (qe, .inl (ce, 16, .inl (iN (updN e0.1 e0.2 y.toNat))))]) hx hb d_Co_enter_39 hK hP hD hS rfl rfl (by omega) (by decide) rfl (fun H locs hP hD hS => ?_)
        refine lv_aload_n hx hb d_Co_enter_40 rfl (lv_at hl 0 rfl) ?_
        refine lv_dup hx hb d_Co_enter_41 rfl ?_
        refine va_get (D := (dC, dI)) (ci := 4) (v := .int (nI e0.2)) (C := R_Co) (T := F_Co) (N := 8) hx hb ht in_Co hown hK hP 0 rfl rfl 2 (by decide) (ht _ k_91) (fun _ h9 => h9) rfl d_Co_enter_42 ?_
        refine lv_iconst (v := nI 1) hx hb d_Co_enter_45 (by decide) ?_
        refine nAdd hx hb d_Co_enter_46 ?_
        refine va_put (D := (dC, dI)) (ci := 4) (v := .int (nI (e0.2 + 1))) (ty := .int) (C := R_Co) (T := F_Co) (N := 8) hx hb ht in_Co t_Co t_Co_ok n_Co hown hK hP hD hS 0 rfl rfl 2 (by decide) (ht _ k_91) (fun _ h9 => h9) rfl (by decide +kernel) rfl rfl (Nat.le_of_ble_eq_true rfl) d_Co_enter_47 (fun H locs hP hD hS => ?_)
        have hP : va_P (dC, dI) classes [(o, .inr (4, [.ref h, .ref qe, .int (nI (e0.2 + 1)), .ref w, .ref h2, .ref h3, .ref qm, .int (nI mc)])), (h, .inr (1, [.ref q, .int (nI i0.2)])), (q, .inl (ca, 160, .inl (iN i0.1))), (qe, .inl (ce, 16, .inl (iN (updN e0.1 e0.2 y.toNat))))] H := hP
        have hD : va_D A [(o, .inr (4, [.ref h, .ref qe, .int (nI (e0.2 + 1)), .ref w, .ref h2, .ref h3, .ref qm, .int (nI mc)])), (h, .inr (1, [.ref q, .int (nI i0.2)])), (q, .inl (ca, 160, .inl (iN i0.1))), (qe, .inl (ce, 16, .inl (iN (updN e0.1 e0.2 y.toNat))))] := hD
        refine lv_iconst (v := nI 1) hx hb d_Co_enter_50 (by decide) ?_
        refine eqi (y := bI true) (by decide) ?_
        rw [enS, if_pos ⟨of_decide_eq_true g8, g16, by omega⟩]
        exact eUz hx hb hr hlocks (bI_narrow _) hP hD hS [0, 1, 2, 3] rfl rfl (by decide) d_Co_enter_51 (bI_one ⟨of_decide_eq_true g8, g16, by omega⟩)
      · refine lv_iconst (v := nI 0) hx hb d_Co_enter_28 (by decide) ?_
        refine eqi (y := bI false) (by decide) ?_
        rw [enS, if_neg (by first | omega | (intro q; exact of_decide_eq_false g8 q.1) | (intro q; rw [g16] at q; exact absurd q.2.1 (by decide)))]
        exact eUz hx hb hr hlocks (bI_narrow _) hP hD hS [0, 1, 2, 3] rfl rfl (by decide) d_Co_enter_29 (bI_zero (by first | omega | (intro q; exact of_decide_eq_false g8 q.1) | (intro q; rw [g16] at q; exact absurd q.2.1 (by decide))))

set_option maxHeartbeats 4000000 in
set_option maxRecDepth 100000 in
theorem c_Co_clear (l : Launch) (dC : Nat → ClassId) (dI : Nat → Nat → Nat) (z : zT) (sz : Nat) (o : Nat) (h : Nat) (qe : Nat) (w : Nat) (h2 : Nat) (h3 : Nat) (qm : Nat) (e0 : txT) (mc : Nat) (q : Nat) (ca : ClassId) (i0 : txT) (ce : ClassId) (q2 : Nat) (c2 : ClassId) (s0 : txT) (r0 : rdT) : MU l y_Co_clear b_Co_clear 1 none 1 20 (dC, dI) z [.ref o] [(o, .inr (4, [.ref h, .ref qe, .int (nI e0.2), .ref w, .ref h2, .ref h3, .ref qm, .int (nI mc)])), (h, .inr (1, [.ref q, .int (nI i0.2)])), (q, .inl (ca, 160, .inl (iN i0.1))), (qe, .inl (ce, 16, .inl (iN e0.1))), (h2, .inr (2, [.ref q2, .int (nI s0.2), .int (nI r0.1), .int (bI r0.2)])), (q2, .inl (c2, 2400, .inl (iN s0.1)))] [(ca, .int), (ce, .int), (c2, .char)] sz none [(o, .inr (4, [.ref h, .ref qe, .int (nI ((dr e0).2)), .ref w, .ref h2, .ref h3, .ref qm, .int (nI 0)])), (h, .inr (1, [.ref q, .int (nI ((dr i0).2))])), (q, .inl (ca, 160, .inl (iN ((dr i0).1)))), (qe, .inl (ce, 16, .inl (iN ((dr e0).1)))), (h2, .inr (2, [.ref q2, .int (nI ((dr s0).2)), .int (nI r0.1), .int (bI r0.2)])), (q2, .inl (c2, 2400, .inl (iN ((dr s0).1))))] := by
  refine metU (by decide) (Nat.le_of_ble_eq_true rfl) ?_
  intro p e s m below meth c ls A hx hb hr hlocks hml hown ht hl hP hK hSS hD hS hA
  have hl : lv_has ls 1 [(0, .ref o)] := hl
  refine lv_aload_n hx hb d_Co_clear_0 rfl (lv_at hl 0 rfl) ?_
  refine va_get (D := (dC, dI)) (ci := 4) (v := .ref h) (C := R_Co) (T := F_Co) (N := 8) hx hb ht in_Co hown hK hP 0 rfl rfl 0 (by decide) (ht _ k_89) (fun _ h9 => h9) rfl d_Co_clear_1 ?_
  refine uV (As := []) (rest := []) (wr := [(o, .inr (4, [.ref h, .ref qe, .int (nI e0.2), .ref w, .ref h2, .ref h3, .ref qm, .int (nI mc)])), (qe, .inl (ce, 16, .inl (iN e0.1))), (h2, .inr (2, [.ref q2, .int (nI s0.2), .int (nI r0.1), .int (bI r0.2)])), (q2, .inl (c2, 2400, .inl (iN s0.1)))]) hx hb hml hown ht (c_Im_drop l dC dI z _ h q ca i0.1 i0.2 ) yv_Im_drop k_142 (Nat.le_of_ble_eq_true rfl) (Nat.le_of_ble_eq_true rfl) hP hK hSS hD hS hA [1, 2] [0, 3, 4, 5] [0] rfl rfl (by decide) rfl (by decide) (by decide) rfl 1 1 rfl rfl rfl hl rfl rfl (Nat.le_of_ble_eq_true rfl) (Nat.zero_le _) (Nat.zero_le _) d_Co_clear_4 (fun H locs hP hD hS => ?_)
  have hP : va_P (dC, dI) classes [(o, .inr (4, [.ref h, .ref qe, .int (nI e0.2), .ref w, .ref h2, .ref h3, .ref qm, .int (nI mc)])), (qe, .inl (ce, 16, .inl (iN e0.1))), (h2, .inr (2, [.ref q2, .int (nI s0.2), .int (nI r0.1), .int (bI r0.2)])), (q2, .inl (c2, 2400, .inl (iN s0.1))), (h, .inr (1, [.ref q, .int (nI 0)])), (q, .inl (ca, 160, .inl (iN i0.1)))] H := hP
  have hD : va_D A [(o, .inr (4, [.ref h, .ref qe, .int (nI e0.2), .ref w, .ref h2, .ref h3, .ref qm, .int (nI mc)])), (qe, .inl (ce, 16, .inl (iN e0.1))), (h2, .inr (2, [.ref q2, .int (nI s0.2), .int (nI r0.1), .int (bI r0.2)])), (q2, .inl (c2, 2400, .inl (iN s0.1))), (h, .inr (1, [.ref q, .int (nI 0)])), (q, .inl (ca, 160, .inl (iN i0.1)))] := hD
  refine stk (st2 := []) rfl ?_
  refine lv_aload_n hx hb d_Co_clear_7 rfl (lv_at hl 0 rfl) ?_
  refine lv_iconst (v := nI 0) hx hb d_Co_clear_8 (by decide) ?_
  refine va_put (D := (dC, dI)) (ci := 4) (v := .int (nI 0)) (ty := .int) (C := R_Co) (T := F_Co) (N := 8) hx hb ht in_Co t_Co t_Co_ok n_Co hown hK hP hD hS 0 rfl rfl 2 (by decide) (ht _ k_91) (fun _ h9 => h9) rfl (by decide +kernel) rfl rfl (Nat.le_of_ble_eq_true rfl) d_Co_clear_9 (fun H locs hP hD hS => ?_)
  have hP : va_P (dC, dI) classes [(o, .inr (4, [.ref h, .ref qe, .int (nI 0), .ref w, .ref h2, .ref h3, .ref qm, .int (nI mc)])), (qe, .inl (ce, 16, .inl (iN e0.1))), (h2, .inr (2, [.ref q2, .int (nI s0.2), .int (nI r0.1), .int (bI r0.2)])), (q2, .inl (c2, 2400, .inl (iN s0.1))), (h, .inr (1, [.ref q, .int (nI 0)])), (q, .inl (ca, 160, .inl (iN i0.1)))] H := hP
  have hD : va_D A [(o, .inr (4, [.ref h, .ref qe, .int (nI 0), .ref w, .ref h2, .ref h3, .ref qm, .int (nI mc)])), (qe, .inl (ce, 16, .inl (iN e0.1))), (h2, .inr (2, [.ref q2, .int (nI s0.2), .int (nI r0.1), .int (bI r0.2)])), (q2, .inl (c2, 2400, .inl (iN s0.1))), (h, .inr (1, [.ref q, .int (nI 0)])), (q, .inl (ca, 160, .inl (iN i0.1)))] := hD
  refine lv_aload_n hx hb d_Co_clear_12 rfl (lv_at hl 0 rfl) ?_
  refine va_get (D := (dC, dI)) (ci := 4) (v := .ref h2) (C := R_Co) (T := F_Co) (N := 8) hx hb ht in_Co hown hK hP 0 rfl rfl 4 (by decide) (ht _ k_93) (fun _ h9 => h9) rfl d_Co_clear_13 ?_
  refine uV (As := []) (rest := []) (wr := [(o, .inr (4, [.ref h, .ref qe, .int (nI 0), .ref w, .ref h2, .ref h3, .ref qm, .int (nI mc)])), (qe, .inl (ce, 16, .inl (iN e0.1))), (h, .inr (1, [.ref q, .int (nI 0)])), (q, .inl (ca, 160, .inl (iN i0.1)))]) hx hb hml hown ht (c_Te_drop l dC dI z _ h2 q2 c2 s0 r0 ) yv_Te_drop k_146 (Nat.le_of_ble_eq_true rfl) (Nat.le_of_ble_eq_true rfl) hP hK hSS hD hS hA [2, 3] [0, 1, 4, 5] [2] rfl rfl (by decide) rfl (by decide) (by decide) rfl 2 2 rfl rfl rfl hl rfl rfl (Nat.le_of_ble_eq_true rfl) (Nat.zero_le _) (Nat.zero_le _) d_Co_clear_16 (fun H locs hP hD hS => ?_)
  have hP : va_P (dC, dI) classes [(o, .inr (4, [.ref h, .ref qe, .int (nI 0), .ref w, .ref h2, .ref h3, .ref qm, .int (nI mc)])), (qe, .inl (ce, 16, .inl (iN e0.1))), (h, .inr (1, [.ref q, .int (nI 0)])), (q, .inl (ca, 160, .inl (iN i0.1))), (h2, .inr (2, [.ref q2, .int (nI ((dr s0).2)), .int (nI r0.1), .int (bI r0.2)])), (q2, .inl (c2, 2400, .inl (iN ((dr s0).1))))] H := hP
  have hD : va_D A [(o, .inr (4, [.ref h, .ref qe, .int (nI 0), .ref w, .ref h2, .ref h3, .ref qm, .int (nI mc)])), (qe, .inl (ce, 16, .inl (iN e0.1))), (h, .inr (1, [.ref q, .int (nI 0)])), (q, .inl (ca, 160, .inl (iN i0.1))), (h2, .inr (2, [.ref q2, .int (nI ((dr s0).2)), .int (nI r0.1), .int (bI r0.2)])), (q2, .inl (c2, 2400, .inl (iN ((dr s0).1))))] := hD
  refine stk (st2 := []) rfl ?_
  refine lv_aload_n hx hb d_Co_clear_19 rfl (lv_at hl 0 rfl) ?_
  refine lv_iconst (v := nI 0) hx hb d_Co_clear_20 (by decide) ?_
  refine va_put (D := (dC, dI)) (ci := 4) (v := .int (nI 0)) (ty := .int) (C := R_Co) (T := F_Co) (N := 8) hx hb ht in_Co t_Co t_Co_ok n_Co hown hK hP hD hS 0 rfl rfl 7 (by decide) (ht _ k_96) (fun _ h9 => h9) rfl (by decide +kernel) rfl rfl (Nat.le_of_ble_eq_true rfl) d_Co_clear_21 (fun H locs hP hD hS => ?_)
  have hP : va_P (dC, dI) classes [(o, .inr (4, [.ref h, .ref qe, .int (nI 0), .ref w, .ref h2, .ref h3, .ref qm, .int (nI 0)])), (qe, .inl (ce, 16, .inl (iN e0.1))), (h, .inr (1, [.ref q, .int (nI 0)])), (q, .inl (ca, 160, .inl (iN i0.1))), (h2, .inr (2, [.ref q2, .int (nI ((dr s0).2)), .int (nI r0.1), .int (bI r0.2)])), (q2, .inl (c2, 2400, .inl (iN ((dr s0).1))))] H := hP
  have hD : va_D A [(o, .inr (4, [.ref h, .ref qe, .int (nI 0), .ref w, .ref h2, .ref h3, .ref qm, .int (nI 0)])), (qe, .inl (ce, 16, .inl (iN e0.1))), (h, .inr (1, [.ref q, .int (nI 0)])), (q, .inl (ca, 160, .inl (iN i0.1))), (h2, .inr (2, [.ref q2, .int (nI ((dr s0).2)), .int (nI r0.1), .int (bI r0.2)])), (q2, .inl (c2, 2400, .inl (iN ((dr s0).1))))] := hD
  exact eUv hx hb hr hlocks hP hD hS [0, 2, 3, 1, 4, 5] rfl rfl (by decide) d_Co_clear_24

set_option maxHeartbeats 4000000 in
set_option maxRecDepth 100000 in
theorem c_Co_type (l : Launch) (dC : Nat → ClassId) (dI : Nat → Nat → Nat) (z : zT) (sz : Nat) (o : Nat) (h : Nat) (qe : Nat) (w : Nat) (h2 : Nat) (h3 : Nat) (qm : Nat) (e0 : txT) (mc : Nat) (q2 : Nat) (c2 : ClassId) (s0 : txT) (r0 : rdT) (x : Int32) (y : Int) (v : Int32) (hs : s0.2 ≤ 2400) (hy : x.toInt = y) : MU l y_Co_type b_Co_type 3 (some .boolean) 2 43 (dC, dI) z [.ref o, .int x, .int v] [(o, .inr (4, [.ref h, .ref qe, .int (nI e0.2), .ref w, .ref h2, .ref h3, .ref qm, .int (nI mc)])), (h2, .inr (2, [.ref q2, .int (nI s0.2), .int (nI r0.1), .int (bI r0.2)])), (q2, .inl (c2, 2400, .inl (iN s0.1)))] [(c2, .char)] sz (some (.int (bI (tyB s0 y v.toInt)))) [(o, .inr (4, [.ref h, .ref qe, .int (nI e0.2), .ref w, .ref h2, .ref h3, .ref qm, .int (nI mc)])), (h2, .inr (2, [.ref q2, .int (nI ((tyS s0 y v.toInt).2)), .int (nI r0.1), .int (bI r0.2)])), (q2, .inl (c2, 2400, .inl (iN ((tyS s0 y v.toInt).1))))] := by
  refine metU (by decide) (Nat.le_of_ble_eq_true rfl) ?_
  intro p e s m below meth c ls A hx hb hr hlocks hml hown ht hl hP hK hSS hD hS hA
  have hl : lv_has ls 3 [(0, .ref o), (1, .int x), (2, .int v)] := hl
  refine lv_iload_n hx hb d_Co_type_0 rfl (lv_at hl 1 rfl) ?_
  refine z_if_lt (tgt := 33) hx hb d_Co_type_1 hy (by decide) (fun g1 => ?_) (fun g1 => ?_)
  · refine lv_iconst (v := nI 0) hx hb d_Co_type_33 (by decide) ?_
    refine eqi (y := bI false) (by decide) ?_
    rw [tyS, if_neg (by omega)]
    exact eUz hx hb hr hlocks (bI_narrow _) hP hD hS [0, 1, 2] rfl rfl (by decide) d_Co_type_34 (bI_zero (by omega))
  · refine lv_iload_n hx hb d_Co_type_4 rfl (lv_at hl 1 rfl) ?_
    refine lv_aload_n hx hb d_Co_type_5 rfl (lv_at hl 0 rfl) ?_
    refine va_get (D := (dC, dI)) (ci := 4) (v := .ref h2) (C := R_Co) (T := F_Co) (N := 8) hx hb ht in_Co hown hK hP 0 rfl rfl 4 (by decide) (ht _ k_93) (fun _ h9 => h9) rfl d_Co_type_6 ?_
    refine rV (As := []) (rest := [.int x]) hx hb hml hown ht (c_Te_count l dC dI z h2 q2 c2 s0 r0 ) yv_Te_count k_366 (Nat.le_of_ble_eq_true rfl) (Nat.le_of_ble_eq_true rfl) hP hK hSS hS [1, 2] [0] rfl rfl 1 2 rfl rfl rfl hl rfl rfl (Nat.le_of_ble_eq_true rfl) (Nat.zero_le _) (Nat.zero_le _) d_Co_type_9 ?_
    refine z_icmp_gt (tgt := 33) hx hb d_Co_type_12 hy (tI_n (by omega)) (by decide) (fun g12 => ?_) (fun g12 => ?_)
    · refine lv_iconst (v := nI 0) hx hb d_Co_type_33 (by decide) ?_
      refine eqi (y := bI false) (by decide) ?_
      rw [tyS, if_neg (by omega)]
      exact eUz hx hb hr hlocks (bI_narrow _) hP hD hS [0, 1, 2] rfl rfl (by decide) d_Co_type_34 (bI_zero (by omega))
    · refine lv_iload_n hx hb d_Co_type_15 rfl (lv_at hl 1 rfl) ?_
      refine lv_sipush (v := nI 2400) hx hb d_Co_type_16 (by decide) ?_
      refine z_icmp_ge (tgt := 33) hx hb d_Co_type_19 hy (tI_n (by omega)) (by decide) (fun g19 => ?_) (fun g19 => ?_)
      · refine lv_iconst (v := nI 0) hx hb d_Co_type_33 (by decide) ?_
        refine eqi (y := bI false) (by decide) ?_
        rw [tyS, if_neg (by omega)]
        exact eUz hx hb hr hlocks (bI_narrow _) hP hD hS [0, 1, 2] rfl rfl (by decide) d_Co_type_34 (bI_zero (by omega))
      · refine lv_iload_n hx hb d_Co_type_22 rfl (lv_at hl 2 rfl) ?_
        refine z_if_lt (tgt := 33) hx hb d_Co_type_23 rfl (by decide) (fun g23 => ?_) (fun g23 => ?_)
        · refine lv_iconst (v := nI 0) hx hb d_Co_type_33 (by decide) ?_
          refine eqi (y := bI false) (by decide) ?_
          rw [tyS, if_neg (by omega)]
          exact eUz hx hb hr hlocks (bI_narrow _) hP hD hS [0, 1, 2] rfl rfl (by decide) d_Co_type_34 (bI_zero (by omega))
        · refine lv_iload_n hx hb d_Co_type_26 rfl (lv_at hl 2 rfl) ?_
          refine lv_sipush (v := nI 255) hx hb d_Co_type_27 (by decide) ?_
          refine z_icmp_le (tgt := 35) hx hb d_Co_type_30 rfl (tI_n (by omega)) (by decide) (fun g30 => ?_) (fun g30 => ?_)
          · refine lv_aload_n hx hb d_Co_type_35 rfl (lv_at hl 0 rfl) ?_
            refine va_get (D := (dC, dI)) (ci := 4) (v := .ref h2) (C := R_Co) (T := F_Co) (N := 8) hx hb ht in_Co hown hK hP 0 rfl rfl 4 (by decide) (ht _ k_93) (fun _ h9 => h9) rfl d_Co_type_36 ?_
            refine lv_iload_n hx hb d_Co_type_39 rfl (lv_at hl 1 rfl) ?_
            refine eqi (y := nI y.toNat) (x_yN hy (by omega)) ?_
            refine lv_iload_n hx hb d_Co_type_40 rfl (lv_at hl 2 rfl) ?_
            refine eqi (y := nI v.toInt.toNat) (x_nI (by omega)) ?_
            refine lv_i2c (v := nI v.toInt.toNat) hx hb d_Co_type_41 (i2c_n (by omega)) ?_
            refine uV (As := [.int (nI y.toNat), .int (nI v.toInt.toNat)]) (rest := []) (wr := [(o, .inr (4, [.ref h, .ref qe, .int (nI e0.2), .ref w, .ref h2, .ref h3, .ref qm, .int (nI mc)]))]) hx hb hml hown ht (c_Te_put l dC dI z _ h2 q2 c2 s0 r0 y.toNat v.toInt.toNat (by first | assumption | omega) (by first | assumption | omega) (by first | assumption | omega) (by first | assumption | omega)) yv_Te_put k_387 (Nat.le_of_ble_eq_true rfl) (Nat.le_of_ble_eq_true rfl) hP hK hSS hD hS hA [1, 2] [0] [0] rfl rfl (by decide) rfl (by decide) (by decide) rfl 1 2 rfl rfl rfl hl rfl rfl (Nat.le_of_ble_eq_true rfl) (Nat.zero_le _) (Nat.zero_le _) d_Co_type_42 (fun H locs hP hD hS => ?_)
            have hP : va_P (dC, dI) classes [(o, .inr (4, [.ref h, .ref qe, .int (nI e0.2), .ref w, .ref h2, .ref h3, .ref qm, .int (nI mc)])), (h2, .inr (2, [.ref q2, .int (nI ((pu s0 y.toNat v.toInt.toNat).2)), .int (nI r0.1), .int (bI r0.2)])), (q2, .inl (c2, 2400, .inl (iN ((pu s0 y.toNat v.toInt.toNat).1))))] H := hP
            have hD : va_D A [(o, .inr (4, [.ref h, .ref qe, .int (nI e0.2), .ref w, .ref h2, .ref h3, .ref qm, .int (nI mc)])), (h2, .inr (2, [.ref q2, .int (nI ((pu s0 y.toNat v.toInt.toNat).2)), .int (nI r0.1), .int (bI r0.2)])), (q2, .inl (c2, 2400, .inl (iN ((pu s0 y.toNat v.toInt.toNat).1))))] := hD
            refine stk (st2 := []) rfl ?_
            refine lv_iconst (v := nI 1) hx hb d_Co_type_45 (by decide) ?_
            refine eqi (y := bI true) (by decide) ?_
            rw [tyS, if_pos ⟨by omega, by omega⟩]
            exact eUz hx hb hr hlocks (bI_narrow _) hP hD hS [0, 1, 2] rfl rfl (by decide) d_Co_type_46 (bI_one ⟨by omega, by omega⟩)
          · refine lv_iconst (v := nI 0) hx hb d_Co_type_33 (by decide) ?_
            refine eqi (y := bI false) (by decide) ?_
            rw [tyS, if_neg (by omega)]
            exact eUz hx hb hr hlocks (bI_narrow _) hP hD hS [0, 1, 2] rfl rfl (by decide) d_Co_type_34 (bI_zero (by omega))

set_option maxHeartbeats 4000000 in
set_option maxRecDepth 100000 in
theorem c_Co_sweep (l : Launch) (dC : Nat → ClassId) (dI : Nat → Nat → Nat) (z : zT) (o : Nat) (h : Nat) (qe : Nat) (w : Nat) (h2 : Nat) (h3 : Nat) (qm : Nat) (e0 : txT) (mc : Nat) (q : Nat) (ca : ClassId) (i0 : txT) (hn : i0.2 ≤ 160) (hb8 : ∀ i, i0.1 i < 256) : MR l y_Co_sweep b_Co_sweep 4 (some .int) 4 86 (dC, dI) z [.ref o] [(o, .inr (4, [.ref h, .ref qe, .int (nI e0.2), .ref w, .ref h2, .ref h3, .ref qm, .int (nI mc)])), (h, .inr (1, [.ref q, .int (nI i0.2)])), (q, .inl (ca, 160, .inl (iN i0.1)))] [(ca, .int)] (.int (nI (swF i0.1 i0.2 (i0.2 + 1) 0 0))) := by
  refine metR (by decide) (Nat.le_of_ble_eq_true rfl) ?_
  intro p e s m below meth c ls hx hb hr hlocks hml hown ht hl hP hK hSS
  have hl : lv_has ls 4 [(0, .ref o)] := hl
  have hS : va_S (fun _ => False) s.heap s.heap [] := va_S.rf
  refine lv_iconst (v := nI 0) hx hb d_Co_sweep_0 (by decide) ?_
  refine lv_istore_n (lv' := [(1, .int (nI 0)), (0, .ref o)]) hx hb d_Co_sweep_1 rfl hl (Nat.le_of_ble_eq_true rfl) rfl (fun ls hl => ?_)
  refine lv_iconst (v := nI 0) hx hb d_Co_sweep_2 (by decide) ?_
  refine lv_istore_n (lv' := [(2, .int (nI 0)), (1, .int (nI 0)), (0, .ref o)]) hx hb d_Co_sweep_3 rfl hl (Nat.le_of_ble_eq_true rfl) rfl (fun ls hl => ?_)
  have loop4 : ∀ (j : Nat) (a : Nat) (k : Nat) (ls : Array Slot), (i0.2 < j + a) → (swF i0.1 i0.2 (i0.2 + 1) 0 0 = swF i0.1 i0.2 j a k) → (k ≤ a) → (a ≤ i0.2 + 2) → lv_has ls 4 [(2, .int (nI a)), (1, .int (nI k)), (0, .ref o)] → W p l e (rmq 4 86) s m [.ref o].toArray below meth c s.heap [] 0 0 (MQ below (k2_QcV (.int (nI (swF i0.1 i0.2 (i0.2 + 1) 0 0)))) [.ref o].toArray s 0 0 (fun _ => False)) (F0 m 4 ls []) := by
    intro j
    induction j with
    | zero =>
      intro a k ls hfu hR hka han hl
      refine lv_iload_n hx hb d_Co_sweep_4 rfl (lv_at hl 0 rfl) ?_
      refine lv_aload_n hx hb d_Co_sweep_5 rfl (lv_at hl 2 rfl) ?_
      refine va_get (D := (dC, dI)) (ci := 4) (v := .ref h) (C := R_Co) (T := F_Co) (N := 8) hx hb ht in_Co hown hK hP 0 rfl rfl 0 (by decide) (ht _ k_89) (fun _ h9 => h9) rfl d_Co_sweep_6 ?_
      refine rV (As := []) (rest := [.int (nI a)]) hx hb hml hown ht (c_Im_count l dC dI z h q ca i0.1 i0.2 ) yv_Im_count k_118 (Nat.le_of_ble_eq_true rfl) (Nat.le_of_ble_eq_true rfl) hP hK hSS hS [1, 2] [0] rfl rfl 1 1 rfl rfl rfl hl rfl rfl (Nat.le_of_ble_eq_true rfl) (Nat.zero_le _) (Nat.zero_le _) d_Co_sweep_9 ?_
      refine z_icmp_ge (tgt := 42) hx hb d_Co_sweep_12 (tI_n (by omega)) (tI_n (by omega)) (by decide) (fun g12 => ?_) (fun g12 => ?_)
      · refine lv_iload_n hx hb d_Co_sweep_42 rfl (lv_at hl 1 rfl) ?_
        exact eRi hx hb hr hlocks d_Co_sweep_43 (by rw [hR]; rfl)
      · exfalso; omega
    | succ j ih =>
      intro a k ls hfu hR hka han hl
      have hc3 := cln_le3 i0.1 i0.2 (a : Int)
      refine lv_iload_n hx hb d_Co_sweep_4 rfl (lv_at hl 0 rfl) ?_
      refine lv_aload_n hx hb d_Co_sweep_5 rfl (lv_at hl 2 rfl) ?_
      refine va_get (D := (dC, dI)) (ci := 4) (v := .ref h) (C := R_Co) (T := F_Co) (N := 8) hx hb ht in_Co hown hK hP 0 rfl rfl 0 (by decide) (ht _ k_89) (fun _ h9 => h9) rfl d_Co_sweep_6 ?_
      refine rV (As := []) (rest := [.int (nI a)]) hx hb hml hown ht (c_Im_count l dC dI z h q ca i0.1 i0.2 ) yv_Im_count k_118 (Nat.le_of_ble_eq_true rfl) (Nat.le_of_ble_eq_true rfl) hP hK hSS hS [1, 2] [0] rfl rfl 1 1 rfl rfl rfl hl rfl rfl (Nat.le_of_ble_eq_true rfl) (Nat.zero_le _) (Nat.zero_le _) d_Co_sweep_9 ?_
      refine z_icmp_ge (tgt := 42) hx hb d_Co_sweep_12 (tI_n (by omega)) (tI_n (by omega)) (by decide) (fun g12 => ?_) (fun g12 => ?_)
      · refine lv_iload_n hx hb d_Co_sweep_42 rfl (lv_at hl 1 rfl) ?_
        exact eRi hx hb hr hlocks d_Co_sweep_43 (by rw [hR, swF, if_neg (by omega)])
      · refine lv_aload_n hx hb d_Co_sweep_15 rfl (lv_at hl 2 rfl) ?_
        refine va_get (D := (dC, dI)) (ci := 4) (v := .ref h) (C := R_Co) (T := F_Co) (N := 8) hx hb ht in_Co hown hK hP 0 rfl rfl 0 (by decide) (ht _ k_89) (fun _ h9 => h9) rfl d_Co_sweep_16 ?_
        refine lv_iload_n hx hb d_Co_sweep_19 rfl (lv_at hl 0 rfl) ?_
        refine rV (As := [.int (nI a)]) (rest := []) hx hb hml hown ht (c_Im_codeLength l dC dI z h q ca i0.1 i0.2 (nI a) ((a : Nat) : Int) (by first | assumption | omega) (by first | assumption | omega) (tI_n (by omega))) yv_Im_codeLength k_171 (Nat.le_of_ble_eq_true rfl) (Nat.le_of_ble_eq_true rfl) hP hK hSS hS [1, 2] [0] rfl rfl 1 1 rfl rfl rfl hl rfl rfl (Nat.le_of_ble_eq_true rfl) (Nat.zero_le _) (Nat.zero_le _) d_Co_sweep_20 ?_
        refine lv_istore_n (lv' := [(3, .int (nI (cln i0.1 i0.2 ((a : Nat) : Int)))), (2, .int (nI a)), (1, .int (nI k)), (0, .ref o)]) hx hb d_Co_sweep_23 rfl hl (Nat.le_of_ble_eq_true rfl) rfl (fun ls hl => ?_)
        refine lv_iload_n hx hb d_Co_sweep_24 rfl (lv_at hl 0 rfl) ?_
        refine z_if_le (tgt := 31) hx hb d_Co_sweep_25 (tI_n (by omega)) (by decide) (fun g25 => ?_) (fun g25 => ?_)
        · refine lv_iload_n hx hb d_Co_sweep_31 rfl (lv_at hl 1 rfl) ?_
          refine lv_iconst (v := nI 1) hx hb d_Co_sweep_32 (by decide) ?_
          refine lv_iload_n hx hb d_Co_sweep_33 rfl (lv_at hl 0 rfl) ?_
          refine va_mmax hx hb (by rw [hml]; exact hl.1.symm) hown (ht _ k_252) (ht _ k_253) (ht _ k_8) (ht _ k_254) (Nat.le_of_ble_eq_true rfl) (Nat.le_of_ble_eq_true rfl) (Nat.zero_le _) (Nat.zero_le _) d_Co_sweep_34 ?_
          refine eqi (y := nI (max 1 (cln i0.1 i0.2 (a : Int)))) (max_1 (by omega)) ?_
          refine nAdd hx hb d_Co_sweep_37 ?_
          refine lv_istore_n (lv' := [(2, .int (nI (a + (max 1 (cln i0.1 i0.2 (a : Int)))))), (3, .int (nI (cln i0.1 i0.2 ((a : Nat) : Int)))), (1, .int (nI k)), (0, .ref o)]) hx hb d_Co_sweep_38 rfl hl (Nat.le_of_ble_eq_true rfl) rfl (fun ls hl => ?_)
          refine lv_goto (tgt := 4) hx hb d_Co_sweep_39 (by decide) ?_
          exact ih (a + max 1 (cln i0.1 i0.2 (a : Int))) k _ (by omega) (by rw [hR, swF, if_pos (by omega), if_neg (by omega)]) (by omega) (by omega) (lv_sub hl [0, 2, 3] rfl)
        · refine lv_iinc (k := 2) (v := nI (k + 1)) (lv' := [(1, .int (nI (k + 1))), (3, .int (nI (cln i0.1 i0.2 ((a : Nat) : Int)))), (2, .int (nI a)), (0, .ref o)]) hx hb d_Co_sweep_28 hl rfl (nI_inc1 _) (Nat.le_of_ble_eq_true rfl) rfl (fun ls hl => ?_)
          refine lv_iload_n hx hb d_Co_sweep_31 rfl (lv_at hl 2 rfl) ?_
          refine lv_iconst (v := nI 1) hx hb d_Co_sweep_32 (by decide) ?_
          refine lv_iload_n hx hb d_Co_sweep_33 rfl (lv_at hl 1 rfl) ?_
          refine va_mmax hx hb (by rw [hml]; exact hl.1.symm) hown (ht _ k_252) (ht _ k_253) (ht _ k_8) (ht _ k_254) (Nat.le_of_ble_eq_true rfl) (Nat.le_of_ble_eq_true rfl) (Nat.zero_le _) (Nat.zero_le _) d_Co_sweep_34 ?_
          refine eqi (y := nI (max 1 (cln i0.1 i0.2 (a : Int)))) (max_1 (by omega)) ?_
          refine nAdd hx hb d_Co_sweep_37 ?_
          refine lv_istore_n (lv' := [(2, .int (nI (a + (max 1 (cln i0.1 i0.2 (a : Int)))))), (1, .int (nI (k + 1))), (3, .int (nI (cln i0.1 i0.2 ((a : Nat) : Int)))), (0, .ref o)]) hx hb d_Co_sweep_38 rfl hl (Nat.le_of_ble_eq_true rfl) rfl (fun ls hl => ?_)
          refine lv_goto (tgt := 4) hx hb d_Co_sweep_39 (by decide) ?_
          exact ih (a + max 1 (cln i0.1 i0.2 (a : Int))) (k + 1) _ (by omega) (by rw [hR, swF, if_pos (by omega), if_pos (by omega)]) (by omega) (by omega) (lv_sub hl [0, 1, 3] rfl)
  exact loop4 (i0.2 + 1) 0 0 _ (by omega) (rfl) (Nat.le_refl _) (by omega) (lv_sub hl [0, 1, 2] rfl)
end
section
set_option maxHeartbeats 4000000 in
set_option maxRecDepth 100000 in
theorem c_Co_walkFromEntries (l : Launch) (dC : Nat → ClassId) (dI : Nat → Nat → Nat) (z : zT) (sz : Nat) (o : Nat) (h : Nat) (qe : Nat) (w : Nat) (h2 : Nat) (h3 : Nat) (qm : Nat) (e0 : txT) (mc : Nat) (q : Nat) (ca : ClassId) (i0 : txT) (ce : ClassId) (qf : Nat) (qi : Nat) (cf : ClassId) (cz : ClassId) (x1 : Int32) (x2 : Int32) (fd : Nat → Nat) (m0 : Nat → Bool) (hn : i0.2 ≤ 160) (hb8 : ∀ i, i0.1 i < 256) (he : e0.2 ≤ 16) (hen : ∀ k, k < e0.2 → e0.1 k < i0.2) : MU l y_Co_walkFromEntries b_Co_walkFromEntries 2 none 5 112 (dC, dI) z [.ref o] [(o, .inr (4, [.ref h, .ref qe, .int (nI e0.2), .ref w, .ref h2, .ref h3, .ref qm, .int (nI mc)])), (h, .inr (1, [.ref q, .int (nI i0.2)])), (q, .inl (ca, 160, .inl (iN i0.1))), (qe, .inl (ce, 16, .inl (iN e0.1))), (w, .inr (3, [.ref qf, .ref qi, .int x1, .int x2])), (qf, .inl (cf, 160, .inl (iN fd))), (qi, .inl (cz, 160, .inl (zN m0)))] [(ca, .int), (ce, .int), (cf, .int), (cz, .boolean)] sz none [(o, .inr (4, [.ref h, .ref qe, .int (nI e0.2), .ref w, .ref h2, .ref h3, .ref qm, .int (nI mc)])), (h, .inr (1, [.ref q, .int (nI i0.2)])), (q, .inl (ca, 160, .inl (iN i0.1))), (qe, .inl (ce, 16, .inl (iN e0.1))), (w, .inr (3, [.ref qf, .ref qi, .int (nI i0.2), .int (nI ((wkE i0 e0 fd).2.2))])), (qf, .inl (cf, 160, .inl (iN ((wkE i0 e0 fd).1)))), (qi, .inl (cz, 160, .inl (zN ((wkE i0 e0 fd).2.1))))] := by
  refine metU (by decide) (Nat.le_of_ble_eq_true rfl) ?_
  intro p e s m below meth c ls A hx hb hr hlocks hml hown ht hl hP hK hSS hD hS hA
  have hl : lv_has ls 2 [(0, .ref o)] := hl
  refine lv_aload_n hx hb d_Co_walkFromEntries_0 rfl (lv_at hl 0 rfl) ?_
  refine va_get (D := (dC, dI)) (ci := 4) (v := .ref w) (C := R_Co) (T := F_Co) (N := 8) hx hb ht in_Co hown hK hP 0 rfl rfl 3 (by decide) (ht _ k_92) (fun _ h9 => h9) rfl d_Co_walkFromEntries_1 ?_
  refine lv_aload_n hx hb d_Co_walkFromEntries_4 rfl (lv_at hl 0 rfl) ?_
  refine va_get (D := (dC, dI)) (ci := 4) (v := .ref h) (C := R_Co) (T := F_Co) (N := 8) hx hb ht in_Co hown hK hP 0 rfl rfl 0 (by decide) (ht _ k_89) (fun _ h9 => h9) rfl d_Co_walkFromEntries_5 ?_
  refine rV (As := []) (rest := [.ref w]) hx hb hml hown ht (c_Im_count l dC dI z h q ca i0.1 i0.2 ) yv_Im_count k_118 (Nat.le_of_ble_eq_true rfl) (Nat.le_of_ble_eq_true rfl) hP hK hSS hS [1, 2] [0] rfl rfl 1 1 rfl rfl rfl hl rfl rfl (Nat.le_of_ble_eq_true rfl) (Nat.zero_le _) (Nat.zero_le _) d_Co_walkFromEntries_8 ?_
  refine uV (As := [.int (nI i0.2)]) (rest := []) (wr := [(o, .inr (4, [.ref h, .ref qe, .int (nI e0.2), .ref w, .ref h2, .ref h3, .ref qm, .int (nI mc)])), (h, .inr (1, [.ref q, .int (nI i0.2)])), (q, .inl (ca, 160, .inl (iN i0.1))), (qe, .inl (ce, 16, .inl (iN e0.1)))]) hx hb hml hown ht (c_Wa_start l dC dI z _ w qf qi cf cz x1 x2 fd m0 i0.2 (by first | assumption | omega)) yv_Wa_start k_200 (Nat.le_of_ble_eq_true rfl) (Nat.le_of_ble_eq_true rfl) hP hK hSS hD hS hA [4, 5, 6] [0, 1, 2, 3] [2, 3] rfl rfl (by decide) rfl (by decide) (by decide) rfl 4 3 rfl rfl rfl hl rfl rfl (Nat.le_of_ble_eq_true rfl) (Nat.zero_le _) (Nat.zero_le _) d_Co_walkFromEntries_11 (fun H locs hP hD hS => ?_)
  have hP : va_P (dC, dI) classes [(o, .inr (4, [.ref h, .ref qe, .int (nI e0.2), .ref w, .ref h2, .ref h3, .ref qm, .int (nI mc)])), (h, .inr (1, [.ref q, .int (nI i0.2)])), (q, .inl (ca, 160, .inl (iN i0.1))), (qe, .inl (ce, 16, .inl (iN e0.1))), (w, .inr (3, [.ref qf, .ref qi, .int (nI i0.2), .int (nI ((wk0 fd).2.2))])), (qf, .inl (cf, 160, .inl (iN ((wk0 fd).1)))), (qi, .inl (cz, 160, .inl (zN ((wk0 fd).2.1))))] H := hP
  have hD : va_D A [(o, .inr (4, [.ref h, .ref qe, .int (nI e0.2), .ref w, .ref h2, .ref h3, .ref qm, .int (nI mc)])), (h, .inr (1, [.ref q, .int (nI i0.2)])), (q, .inl (ca, 160, .inl (iN i0.1))), (qe, .inl (ce, 16, .inl (iN e0.1))), (w, .inr (3, [.ref qf, .ref qi, .int (nI i0.2), .int (nI ((wk0 fd).2.2))])), (qf, .inl (cf, 160, .inl (iN ((wk0 fd).1)))), (qi, .inl (cz, 160, .inl (zN ((wk0 fd).2.1))))] := hD
  refine stk (st2 := []) rfl ?_
  refine lv_iconst (v := nI 0) hx hb d_Co_walkFromEntries_14 (by decide) ?_
  refine lv_istore_n (lv' := [(1, .int (nI 0)), (0, .ref o)]) hx hb d_Co_walkFromEntries_15 rfl hl (Nat.le_of_ble_eq_true rfl) rfl (fun ls hl => ?_)
  have loop16 : ∀ (j : Nat) (k : Nat) (s1 : wkT) (ls : Array Slot) (H : Heap) (locs : List Loc), (k + j = e0.2) → (wok s1) → (enF e0.1 i0.2 e0.2 0 (wk0 fd) = enF e0.1 i0.2 j k s1) → lv_has ls 2 [(1, .int (nI k)), (0, .ref o)] → va_P (dC, dI) classes [(o, .inr (4, [.ref h, .ref qe, .int (nI e0.2), .ref w, .ref h2, .ref h3, .ref qm, .int (nI mc)])), (h, .inr (1, [.ref q, .int (nI i0.2)])), (q, .inl (ca, 160, .inl (iN i0.1))), (qe, .inl (ce, 16, .inl (iN e0.1))), (w, .inr (3, [.ref qf, .ref qi, .int (nI i0.2), .int (nI s1.2.2)])), (qf, .inl (cf, 160, .inl (iN s1.1))), (qi, .inl (cz, 160, .inl (zN s1.2.1)))] H → va_D A [(o, .inr (4, [.ref h, .ref qe, .int (nI e0.2), .ref w, .ref h2, .ref h3, .ref qm, .int (nI mc)])), (h, .inr (1, [.ref q, .int (nI i0.2)])), (q, .inl (ca, 160, .inl (iN i0.1))), (qe, .inl (ce, 16, .inl (iN e0.1))), (w, .inr (3, [.ref qf, .ref qi, .int (nI i0.2), .int (nI s1.2.2)])), (qf, .inl (cf, 160, .inl (iN s1.1))), (qi, .inl (cz, 160, .inl (zN s1.2.1)))] → va_S A s.heap H locs → W p l e (rmq 5 112) s m [.ref o].toArray below meth c H locs 0 0 (MQ below (qcU none (dC, dI) [(o, .inr (4, [.ref h, .ref qe, .int (nI e0.2), .ref w, .ref h2, .ref h3, .ref qm, .int (nI mc)])), (h, .inr (1, [.ref q, .int (nI i0.2)])), (q, .inl (ca, 160, .inl (iN i0.1))), (qe, .inl (ce, 16, .inl (iN e0.1))), (w, .inr (3, [.ref qf, .ref qi, .int (nI i0.2), .int (nI ((wkE i0 e0 fd).2.2))])), (qf, .inl (cf, 160, .inl (iN ((wkE i0 e0 fd).1)))), (qi, .inl (cz, 160, .inl (zN ((wkE i0 e0 fd).2.1))))] A) [.ref o].toArray s 0 0 A) (F0 m 16 ls []) := by
    intro j
    induction j with
    | zero =>
      intro k s1 ls H locs hk hw hR hl hP hD hS
      have hRe : enF e0.1 i0.2 e0.2 0 (wk0 fd) = s1 := hR
      refine lv_iload_n hx hb d_Co_walkFromEntries_16 rfl (lv_at hl 0 rfl) ?_
      refine lv_aload_n hx hb d_Co_walkFromEntries_17 rfl (lv_at hl 1 rfl) ?_
      refine va_get (D := (dC, dI)) (ci := 4) (v := .int (nI e0.2)) (C := R_Co) (T := F_Co) (N := 8) hx hb ht in_Co hown hK hP 0 rfl rfl 2 (by decide) (ht _ k_91) (fun _ h9 => h9) rfl d_Co_walkFromEntries_18 ?_
      refine z_icmp_ge (tgt := 43) hx hb d_Co_walkFromEntries_21 (tI_n (by omega)) (tI_n (by omega)) (by decide) (fun g21 => ?_) (fun g21 => ?_)
      · refine lv_aload_n hx hb d_Co_walkFromEntries_43 rfl (lv_at hl 1 rfl) ?_
        refine va_get (D := (dC, dI)) (ci := 4) (v := .ref w) (C := R_Co) (T := F_Co) (N := 8) hx hb ht in_Co hown hK hP 0 rfl rfl 3 (by decide) (ht _ k_92) (fun _ h9 => h9) rfl d_Co_walkFromEntries_44 ?_
        refine lv_aload_n hx hb d_Co_walkFromEntries_47 rfl (lv_at hl 1 rfl) ?_
        refine va_get (D := (dC, dI)) (ci := 4) (v := .ref h) (C := R_Co) (T := F_Co) (N := 8) hx hb ht in_Co hown hK hP 0 rfl rfl 0 (by decide) (ht _ k_89) (fun _ h9 => h9) rfl d_Co_walkFromEntries_48 ?_
        refine lv_iconst (v := nI 1) hx hb d_Co_walkFromEntries_51 (by decide) ?_
        refine eqi (y := bI true) (by decide) ?_
        refine uV (As := [.ref h, .int (bI true)]) (rest := []) (wr := [(o, .inr (4, [.ref h, .ref qe, .int (nI e0.2), .ref w, .ref h2, .ref h3, .ref qm, .int (nI mc)])), (qe, .inl (ce, 16, .inl (iN e0.1)))]) hx hb hml hown ht (c_Wa_follow l dC dI z _ w qf qi cf cz i0.2 s1 h q ca i0.1 i0.2 true (by first | assumption | omega) (by first | assumption | omega) (by first | assumption | omega) (by first | assumption | omega)) yv_Wa_follow k_211 (Nat.le_of_ble_eq_true rfl) (Nat.le_of_ble_eq_true rfl) hP hK hSS hD hS hA [4, 5, 6, 1, 2] [0, 3] [2, 3, 0] rfl rfl (by decide) rfl (by decide) (by decide) rfl 4 3 rfl rfl rfl hl rfl rfl (Nat.le_of_ble_eq_true rfl) (Nat.zero_le _) (Nat.zero_le _) d_Co_walkFromEntries_52 (fun H locs hP hD hS => ?_)
        have hP : va_P (dC, dI) classes [(o, .inr (4, [.ref h, .ref qe, .int (nI e0.2), .ref w, .ref h2, .ref h3, .ref qm, .int (nI mc)])), (qe, .inl (ce, 16, .inl (iN e0.1))), (w, .inr (3, [.ref qf, .ref qi, .int (nI i0.2), .int (nI ((fol i0.1 i0.2 i0.2 true 160 0 s1).2.2))])), (qf, .inl (cf, 160, .inl (iN ((fol i0.1 i0.2 i0.2 true 160 0 s1).1)))), (qi, .inl (cz, 160, .inl (zN ((fol i0.1 i0.2 i0.2 true 160 0 s1).2.1)))), (h, .inr (1, [.ref q, .int (nI i0.2)])), (q, .inl (ca, 160, .inl (iN i0.1)))] H := hP
        have hD : va_D A [(o, .inr (4, [.ref h, .ref qe, .int (nI e0.2), .ref w, .ref h2, .ref h3, .ref qm, .int (nI mc)])), (qe, .inl (ce, 16, .inl (iN e0.1))), (w, .inr (3, [.ref qf, .ref qi, .int (nI i0.2), .int (nI ((fol i0.1 i0.2 i0.2 true 160 0 s1).2.2))])), (qf, .inl (cf, 160, .inl (iN ((fol i0.1 i0.2 i0.2 true 160 0 s1).1)))), (qi, .inl (cz, 160, .inl (zN ((fol i0.1 i0.2 i0.2 true 160 0 s1).2.1)))), (h, .inr (1, [.ref q, .int (nI i0.2)])), (q, .inl (ca, 160, .inl (iN i0.1)))] := hD
        refine stk (st2 := []) rfl ?_
        rw [wkE, hRe]
        exact eUv hx hb hr hlocks hP hD hS [0, 5, 6, 1, 2, 3, 4] rfl rfl (by decide) d_Co_walkFromEntries_55
      · exfalso; omega
    | succ j ih =>
      intro k s1 ls H locs hk hw hR hl hP hD hS
      have hek := hen k (by omega)
      refine lv_iload_n hx hb d_Co_walkFromEntries_16 rfl (lv_at hl 0 rfl) ?_
      refine lv_aload_n hx hb d_Co_walkFromEntries_17 rfl (lv_at hl 1 rfl) ?_
      refine va_get (D := (dC, dI)) (ci := 4) (v := .int (nI e0.2)) (C := R_Co) (T := F_Co) (N := 8) hx hb ht in_Co hown hK hP 0 rfl rfl 2 (by decide) (ht _ k_91) (fun _ h9 => h9) rfl d_Co_walkFromEntries_18 ?_
      refine z_icmp_ge (tgt := 43) hx hb d_Co_walkFromEntries_21 (tI_n (by omega)) (tI_n (by omega)) (by decide) (fun g21 => ?_) (fun g21 => ?_)
      · exfalso; omega
      · refine lv_aload_n hx hb d_Co_walkFromEntries_24 rfl (lv_at hl 1 rfl) ?_
        refine va_get (D := (dC, dI)) (ci := 4) (v := .ref w) (C := R_Co) (T := F_Co) (N := 8) hx hb ht in_Co hown hK hP 0 rfl rfl 3 (by decide) (ht _ k_92) (fun _ h9 => h9) rfl d_Co_walkFromEntries_25 ?_
        refine lv_aload_n hx hb d_Co_walkFromEntries_28 rfl (lv_at hl 1 rfl) ?_
        refine va_get (D := (dC, dI)) (ci := 4) (v := .ref qe) (C := R_Co) (T := F_Co) (N := 8) hx hb ht in_Co hown hK hP 0 rfl rfl 1 (by decide) (ht _ k_90) (fun _ h9 => h9) rfl d_Co_walkFromEntries_29 ?_
        refine lv_iload_n hx hb d_Co_walkFromEntries_32 rfl (lv_at hl 0 rfl) ?_
        refine ldI (q0 := 3) (t0 := 1) hx hb d_Co_walkFromEntries_33 hK hP rfl rfl (by omega) (by decide) ?_
        refine uV (As := [.int (nI (e0.1 k))]) (rest := []) (wr := [(o, .inr (4, [.ref h, .ref qe, .int (nI e0.2), .ref w, .ref h2, .ref h3, .ref qm, .int (nI mc)])), (h, .inr (1, [.ref q, .int (nI i0.2)])), (q, .inl (ca, 160, .inl (iN i0.1))), (qe, .inl (ce, 16, .inl (iN e0.1)))]) hx hb hml hown ht (c_Wa_comeTo l dC dI z _ w qf qi cf cz i0.2 s1 (nI (e0.1 k)) ((e0.1 k : Nat) : Int) (by first | assumption | omega) (by first | assumption | omega) (tI_n (by omega))) yv_Wa_comeTo k_207 (Nat.le_of_ble_eq_true rfl) (Nat.le_of_ble_eq_true rfl) hP hK hSS hD hS hA [4, 5, 6] [0, 1, 2, 3] [2, 3] rfl rfl (by decide) rfl (by decide) (by decide) rfl 4 3 rfl rfl rfl hl rfl rfl (Nat.le_of_ble_eq_true rfl) (Nat.zero_le _) (Nat.zero_le _) d_Co_walkFromEntries_34 (fun H locs hP hD hS => ?_)
        have hP : va_P (dC, dI) classes [(o, .inr (4, [.ref h, .ref qe, .int (nI e0.2), .ref w, .ref h2, .ref h3, .ref qm, .int (nI mc)])), (h, .inr (1, [.ref q, .int (nI i0.2)])), (q, .inl (ca, 160, .inl (iN i0.1))), (qe, .inl (ce, 16, .inl (iN e0.1))), (w, .inr (3, [.ref qf, .ref qi, .int (nI i0.2), .int (nI ((cm i0.2 s1 ((e0.1 k : Nat) : Int)).2.2))])), (qf, .inl (cf, 160, .inl (iN ((cm i0.2 s1 ((e0.1 k : Nat) : Int)).1)))), (qi, .inl (cz, 160, .inl (zN ((cm i0.2 s1 ((e0.1 k : Nat) : Int)).2.1))))] H := hP
        have hD : va_D A [(o, .inr (4, [.ref h, .ref qe, .int (nI e0.2), .ref w, .ref h2, .ref h3, .ref qm, .int (nI mc)])), (h, .inr (1, [.ref q, .int (nI i0.2)])), (q, .inl (ca, 160, .inl (iN i0.1))), (qe, .inl (ce, 16, .inl (iN e0.1))), (w, .inr (3, [.ref qf, .ref qi, .int (nI i0.2), .int (nI ((cm i0.2 s1 ((e0.1 k : Nat) : Int)).2.2))])), (qf, .inl (cf, 160, .inl (iN ((cm i0.2 s1 ((e0.1 k : Nat) : Int)).1)))), (qi, .inl (cz, 160, .inl (zN ((cm i0.2 s1 ((e0.1 k : Nat) : Int)).2.1))))] := hD
        refine stk (st2 := []) rfl ?_
        refine lv_iinc (k := 0) (v := nI (k + 1)) (lv' := [(1, .int (nI (k + 1))), (0, .ref o)]) hx hb d_Co_walkFromEntries_37 hl rfl (nI_inc1 _) (Nat.le_of_ble_eq_true rfl) rfl (fun ls hl => ?_)
        refine lv_goto (tgt := 16) hx hb d_Co_walkFromEntries_40 (by decide) ?_
        exact ih (k + 1) (cm i0.2 s1 ((e0.1 k : Nat) : Int)) _ _ _ (by omega) (cm_ok hn hw) (by rw [hR, enF]) (lv_sub hl [0, 1] rfl) (hP.sub [0, 1, 2, 3, 4, 5, 6] rfl) (hD.sub [0, 1, 2, 3, 4, 5, 6] (by decide) rfl) hS
  exact loop16 e0.2 0 (wk0 fd) _ _ _ (Nat.zero_add _) (wk0_ok fd) (rfl) (lv_sub hl [0, 1] rfl) (hP.sub [0, 1, 2, 3, 4, 5, 6] rfl) (hD.sub [0, 1, 2, 3, 4, 5, 6] (by decide) rfl) hS

set_option maxHeartbeats 4000000 in
set_option maxRecDepth 100000 in
theorem c_Co_reach (l : Launch) (dC : Nat → ClassId) (dI : Nat → Nat → Nat) (z : zT) (sz : Nat) (o : Nat) (h : Nat) (qe : Nat) (w : Nat) (h2 : Nat) (h3 : Nat) (qm : Nat) (e0 : txT) (mc : Nat) (q : Nat) (ca : ClassId) (i0 : txT) (ce : ClassId) (qf : Nat) (qi : Nat) (cf : ClassId) (cz : ClassId) (x1 : Int32) (x2 : Int32) (fd : Nat → Nat) (m0 : Nat → Bool) (hn : i0.2 ≤ 160) (hb8 : ∀ i, i0.1 i < 256) (he : e0.2 ≤ 16) (hen : ∀ k, k < e0.2 → e0.1 k < i0.2) : MU l y_Co_reach b_Co_reach 1 (some .int) 6 133 (dC, dI) z [.ref o] [(o, .inr (4, [.ref h, .ref qe, .int (nI e0.2), .ref w, .ref h2, .ref h3, .ref qm, .int (nI mc)])), (h, .inr (1, [.ref q, .int (nI i0.2)])), (q, .inl (ca, 160, .inl (iN i0.1))), (qe, .inl (ce, 16, .inl (iN e0.1))), (w, .inr (3, [.ref qf, .ref qi, .int x1, .int x2])), (qf, .inl (cf, 160, .inl (iN fd))), (qi, .inl (cz, 160, .inl (zN m0)))] [(ca, .int), (ce, .int), (cf, .int), (cz, .boolean)] sz (some (.int (nI ((wkE i0 e0 fd).2.2)))) [(o, .inr (4, [.ref h, .ref qe, .int (nI e0.2), .ref w, .ref h2, .ref h3, .ref qm, .int (nI mc)])), (h, .inr (1, [.ref q, .int (nI i0.2)])), (q, .inl (ca, 160, .inl (iN i0.1))), (qe, .inl (ce, 16, .inl (iN e0.1))), (w, .inr (3, [.ref qf, .ref qi, .int (nI i0.2), .int (nI ((wkE i0 e0 fd).2.2))])), (qf, .inl (cf, 160, .inl (iN ((wkE i0 e0 fd).1)))), (qi, .inl (cz, 160, .inl (zN ((wkE i0 e0 fd).2.1))))] := by
  refine metU (by decide) (Nat.le_of_ble_eq_true rfl) ?_
  intro p e s m below meth c ls A hx hb hr hlocks hml hown ht hl hP hK hSS hD hS hA
  have hl : lv_has ls 1 [(0, .ref o)] := hl
  refine lv_aload_n hx hb d_Co_reach_0 rfl (lv_at hl 0 rfl) ?_
  refine uV (As := []) (rest := []) (wr := []) hx hb hml hown ht (c_Co_walkFromEntries l dC dI z _ o h qe w h2 h3 qm e0 mc q ca i0 ce qf qi cf cz x1 x2 fd m0 (by first | assumption | omega) (by first | assumption | omega) (by first | assumption | omega) (by first | assumption | omega)) yv_Co_walkFromEntries k_196 (Nat.le_of_ble_eq_true rfl) (Nat.le_of_ble_eq_true rfl) hP hK hSS hD hS hA [0, 1, 2, 3, 4, 5, 6] [] [0, 1, 2, 3] rfl rfl (by decide) rfl (by decide) (by decide) rfl 0 4 rfl rfl rfl hl rfl rfl (Nat.le_of_ble_eq_true rfl) (Nat.zero_le _) (Nat.zero_le _) d_Co_reach_1 (fun H locs hP hD hS => ?_)
  have hP : va_P (dC, dI) classes [(o, .inr (4, [.ref h, .ref qe, .int (nI e0.2), .ref w, .ref h2, .ref h3, .ref qm, .int (nI mc)])), (h, .inr (1, [.ref q, .int (nI i0.2)])), (q, .inl (ca, 160, .inl (iN i0.1))), (qe, .inl (ce, 16, .inl (iN e0.1))), (w, .inr (3, [.ref qf, .ref qi, .int (nI i0.2), .int (nI ((wkE i0 e0 fd).2.2))])), (qf, .inl (cf, 160, .inl (iN ((wkE i0 e0 fd).1)))), (qi, .inl (cz, 160, .inl (zN ((wkE i0 e0 fd).2.1))))] H := hP
  have hD : va_D A [(o, .inr (4, [.ref h, .ref qe, .int (nI e0.2), .ref w, .ref h2, .ref h3, .ref qm, .int (nI mc)])), (h, .inr (1, [.ref q, .int (nI i0.2)])), (q, .inl (ca, 160, .inl (iN i0.1))), (qe, .inl (ce, 16, .inl (iN e0.1))), (w, .inr (3, [.ref qf, .ref qi, .int (nI i0.2), .int (nI ((wkE i0 e0 fd).2.2))])), (qf, .inl (cf, 160, .inl (iN ((wkE i0 e0 fd).1)))), (qi, .inl (cz, 160, .inl (zN ((wkE i0 e0 fd).2.1))))] := hD
  refine stk (st2 := []) rfl ?_
  refine lv_aload_n hx hb d_Co_reach_4 rfl (lv_at hl 0 rfl) ?_
  refine va_get (D := (dC, dI)) (ci := 4) (v := .ref w) (C := R_Co) (T := F_Co) (N := 8) hx hb ht in_Co hown hK hP 0 rfl rfl 3 (by decide) (ht _ k_92) (fun _ h9 => h9) rfl d_Co_reach_5 ?_
  refine rV (As := []) (rest := []) hx hb hml hown ht (c_Wa_count l dC dI z w qf qi cf cz i0.2 (wkE i0 e0 fd) ) yv_Wa_count k_232 (Nat.le_of_ble_eq_true rfl) (Nat.le_of_ble_eq_true rfl) hP hK hSS hS [4, 5, 6] [2, 3] rfl rfl 4 3 rfl rfl rfl hl rfl rfl (Nat.le_of_ble_eq_true rfl) (Nat.zero_le _) (Nat.zero_le _) d_Co_reach_8 ?_
  exact eUi hx hb hr hlocks hP hD hS [0, 1, 2, 3, 4, 5, 6] rfl rfl (by decide) d_Co_reach_11 (rfl)

set_option maxHeartbeats 4000000 in
set_option maxRecDepth 100000 in
theorem c_Co_reached (l : Launch) (dC : Nat → ClassId) (dI : Nat → Nat → Nat) (z : zT) (sz : Nat) (o : Nat) (h : Nat) (qe : Nat) (w : Nat) (h2 : Nat) (h3 : Nat) (qm : Nat) (e0 : txT) (mc : Nat) (q : Nat) (ca : ClassId) (i0 : txT) (ce : ClassId) (qf : Nat) (qi : Nat) (cf : ClassId) (cz : ClassId) (x1 : Int32) (x2 : Int32) (fd : Nat → Nat) (m0 : Nat → Bool) (x : Int32) (y : Int) (hn : i0.2 ≤ 160) (hb8 : ∀ i, i0.1 i < 256) (he : e0.2 ≤ 16) (hen : ∀ k, k < e0.2 → e0.1 k < i0.2) (hy : x.toInt = y) : MU l y_Co_reached b_Co_reached 2 (some .boolean) 6 133 (dC, dI) z [.ref o, .int x] [(o, .inr (4, [.ref h, .ref qe, .int (nI e0.2), .ref w, .ref h2, .ref h3, .ref qm, .int (nI mc)])), (h, .inr (1, [.ref q, .int (nI i0.2)])), (q, .inl (ca, 160, .inl (iN i0.1))), (qe, .inl (ce, 16, .inl (iN e0.1))), (w, .inr (3, [.ref qf, .ref qi, .int x1, .int x2])), (qf, .inl (cf, 160, .inl (iN fd))), (qi, .inl (cz, 160, .inl (zN m0)))] [(ca, .int), (ce, .int), (cf, .int), (cz, .boolean)] sz (some (.int (bI (decide (0 ≤ y ∧ y < (i0.2 : Int) ∧ (wkE i0 e0 fd).2.1 y.toNat = true))))) [(o, .inr (4, [.ref h, .ref qe, .int (nI e0.2), .ref w, .ref h2, .ref h3, .ref qm, .int (nI mc)])), (h, .inr (1, [.ref q, .int (nI i0.2)])), (q, .inl (ca, 160, .inl (iN i0.1))), (qe, .inl (ce, 16, .inl (iN e0.1))), (w, .inr (3, [.ref qf, .ref qi, .int (nI i0.2), .int (nI ((wkE i0 e0 fd).2.2))])), (qf, .inl (cf, 160, .inl (iN ((wkE i0 e0 fd).1)))), (qi, .inl (cz, 160, .inl (zN ((wkE i0 e0 fd).2.1))))] := by
  refine metU (by decide) (Nat.le_of_ble_eq_true rfl) ?_
  intro p e s m below meth c ls A hx hb hr hlocks hml hown ht hl hP hK hSS hD hS hA
  have hl : lv_has ls 2 [(0, .ref o), (1, .int x)] := hl
  refine lv_aload_n hx hb d_Co_reached_0 rfl (lv_at hl 0 rfl) ?_
  refine uV (As := []) (rest := []) (wr := []) hx hb hml hown ht (c_Co_walkFromEntries l dC dI z _ o h qe w h2 h3 qm e0 mc q ca i0 ce qf qi cf cz x1 x2 fd m0 (by first | assumption | omega) (by first | assumption | omega) (by first | assumption | omega) (by first | assumption | omega)) yv_Co_walkFromEntries k_196 (Nat.le_of_ble_eq_true rfl) (Nat.le_of_ble_eq_true rfl) hP hK hSS hD hS hA [0, 1, 2, 3, 4, 5, 6] [] [0, 1, 2, 3] rfl rfl (by decide) rfl (by decide) (by decide) rfl 0 4 rfl rfl rfl hl rfl rfl (Nat.le_of_ble_eq_true rfl) (Nat.zero_le _) (Nat.zero_le _) d_Co_reached_1 (fun H locs hP hD hS => ?_)
  have hP : va_P (dC, dI) classes [(o, .inr (4, [.ref h, .ref qe, .int (nI e0.2), .ref w, .ref h2, .ref h3, .ref qm, .int (nI mc)])), (h, .inr (1, [.ref q, .int (nI i0.2)])), (q, .inl (ca, 160, .inl (iN i0.1))), (qe, .inl (ce, 16, .inl (iN e0.1))), (w, .inr (3, [.ref qf, .ref qi, .int (nI i0.2), .int (nI ((wkE i0 e0 fd).2.2))])), (qf, .inl (cf, 160, .inl (iN ((wkE i0 e0 fd).1)))), (qi, .inl (cz, 160, .inl (zN ((wkE i0 e0 fd).2.1))))] H := hP
  have hD : va_D A [(o, .inr (4, [.ref h, .ref qe, .int (nI e0.2), .ref w, .ref h2, .ref h3, .ref qm, .int (nI mc)])), (h, .inr (1, [.ref q, .int (nI i0.2)])), (q, .inl (ca, 160, .inl (iN i0.1))), (qe, .inl (ce, 16, .inl (iN e0.1))), (w, .inr (3, [.ref qf, .ref qi, .int (nI i0.2), .int (nI ((wkE i0 e0 fd).2.2))])), (qf, .inl (cf, 160, .inl (iN ((wkE i0 e0 fd).1)))), (qi, .inl (cz, 160, .inl (zN ((wkE i0 e0 fd).2.1))))] := hD
  refine stk (st2 := []) rfl ?_
  refine lv_aload_n hx hb d_Co_reached_4 rfl (lv_at hl 0 rfl) ?_
  refine va_get (D := (dC, dI)) (ci := 4) (v := .ref w) (C := R_Co) (T := F_Co) (N := 8) hx hb ht in_Co hown hK hP 0 rfl rfl 3 (by decide) (ht _ k_92) (fun _ h9 => h9) rfl d_Co_reached_5 ?_
  refine lv_iload_n hx hb d_Co_reached_8 rfl (lv_at hl 1 rfl) ?_
  refine rV (As := [.int x]) (rest := []) hx hb hml hown ht (c_Wa_cameTo l dC dI z w qf qi cf cz i0.2 (wkE i0 e0 fd) x y (by first | assumption | omega) hy) yv_Wa_cameTo k_240 (Nat.le_of_ble_eq_true rfl) (Nat.le_of_ble_eq_true rfl) hP hK hSS hS [4, 5, 6] [2, 3] rfl rfl 4 3 rfl rfl rfl hl rfl rfl (Nat.le_of_ble_eq_true rfl) (Nat.zero_le _) (Nat.zero_le _) d_Co_reached_9 ?_
  exact eUz hx hb hr hlocks (bI_narrow _) hP hD hS [0, 1, 2, 3, 4, 5, 6] rfl rfl (by decide) d_Co_reached_12 (rfl)

set_option maxHeartbeats 4000000 in
set_option maxRecDepth 100000 in
theorem c_Co_body (l : Launch) (dC : Nat → ClassId) (dI : Nat → Nat → Nat) (z : zT) (sz : Nat) (o : Nat) (h : Nat) (qe : Nat) (w : Nat) (h2 : Nat) (h3 : Nat) (qm : Nat) (e0 : txT) (mc : Nat) (q : Nat) (ca : ClassId) (i0 : txT) (qf : Nat) (qi : Nat) (cf : ClassId) (cz : ClassId) (x1 : Int32) (x2 : Int32) (fd : Nat → Nat) (m0 : Nat → Bool) (x : Int32) (y : Int) (hn : i0.2 ≤ 160) (hb8 : ∀ i, i0.1 i < 256) (hy : x.toInt = y) : MU l y_Co_body b_Co_body 2 (some .int) 5 112 (dC, dI) z [.ref o, .int x] [(o, .inr (4, [.ref h, .ref qe, .int (nI e0.2), .ref w, .ref h2, .ref h3, .ref qm, .int (nI mc)])), (h, .inr (1, [.ref q, .int (nI i0.2)])), (q, .inl (ca, 160, .inl (iN i0.1))), (w, .inr (3, [.ref qf, .ref qi, .int x1, .int x2])), (qf, .inl (cf, 160, .inl (iN fd))), (qi, .inl (cz, 160, .inl (zN m0)))] [(ca, .int), (cf, .int), (cz, .boolean)] sz (some (.int (nI ((wkB i0 y fd).2.2)))) [(o, .inr (4, [.ref h, .ref qe, .int (nI e0.2), .ref w, .ref h2, .ref h3, .ref qm, .int (nI mc)])), (h, .inr (1, [.ref q, .int (nI i0.2)])), (q, .inl (ca, 160, .inl (iN i0.1))), (w, .inr (3, [.ref qf, .ref qi, .int (nI i0.2), .int (nI ((wkB i0 y fd).2.2))])), (qf, .inl (cf, 160, .inl (iN ((wkB i0 y fd).1)))), (qi, .inl (cz, 160, .inl (zN ((wkB i0 y fd).2.1))))] := by
  refine metU (by decide) (Nat.le_of_ble_eq_true rfl) ?_
  intro p e s m below meth c ls A hx hb hr hlocks hml hown ht hl hP hK hSS hD hS hA
  have hl : lv_has ls 2 [(0, .ref o), (1, .int x)] := hl
  refine lv_aload_n hx hb d_Co_body_0 rfl (lv_at hl 0 rfl) ?_
  refine va_get (D := (dC, dI)) (ci := 4) (v := .ref w) (C := R_Co) (T := F_Co) (N := 8) hx hb ht in_Co hown hK hP 0 rfl rfl 3 (by decide) (ht _ k_92) (fun _ h9 => h9) rfl d_Co_body_1 ?_
  refine lv_aload_n hx hb d_Co_body_4 rfl (lv_at hl 0 rfl) ?_
  refine va_get (D := (dC, dI)) (ci := 4) (v := .ref h) (C := R_Co) (T := F_Co) (N := 8) hx hb ht in_Co hown hK hP 0 rfl rfl 0 (by decide) (ht _ k_89) (fun _ h9 => h9) rfl d_Co_body_5 ?_
  refine rV (As := []) (rest := [.ref w]) hx hb hml hown ht (c_Im_count l dC dI z h q ca i0.1 i0.2 ) yv_Im_count k_118 (Nat.le_of_ble_eq_true rfl) (Nat.le_of_ble_eq_true rfl) hP hK hSS hS [1, 2] [0] rfl rfl 1 1 rfl rfl rfl hl rfl rfl (Nat.le_of_ble_eq_true rfl) (Nat.zero_le _) (Nat.zero_le _) d_Co_body_8 ?_
  refine uV (As := [.int (nI i0.2)]) (rest := []) (wr := [(o, .inr (4, [.ref h, .ref qe, .int (nI e0.2), .ref w, .ref h2, .ref h3, .ref qm, .int (nI mc)])), (h, .inr (1, [.ref q, .int (nI i0.2)])), (q, .inl (ca, 160, .inl (iN i0.1)))]) hx hb hml hown ht (c_Wa_start l dC dI z _ w qf qi cf cz x1 x2 fd m0 i0.2 (by first | assumption | omega)) yv_Wa_start k_200 (Nat.le_of_ble_eq_true rfl) (Nat.le_of_ble_eq_true rfl) hP hK hSS hD hS hA [3, 4, 5] [0, 1, 2] [1, 2] rfl rfl (by decide) rfl (by decide) (by decide) rfl 3 3 rfl rfl rfl hl rfl rfl (Nat.le_of_ble_eq_true rfl) (Nat.zero_le _) (Nat.zero_le _) d_Co_body_11 (fun H locs hP hD hS => ?_)
  have hP : va_P (dC, dI) classes [(o, .inr (4, [.ref h, .ref qe, .int (nI e0.2), .ref w, .ref h2, .ref h3, .ref qm, .int (nI mc)])), (h, .inr (1, [.ref q, .int (nI i0.2)])), (q, .inl (ca, 160, .inl (iN i0.1))), (w, .inr (3, [.ref qf, .ref qi, .int (nI i0.2), .int (nI ((wk0 fd).2.2))])), (qf, .inl (cf, 160, .inl (iN ((wk0 fd).1)))), (qi, .inl (cz, 160, .inl (zN ((wk0 fd).2.1))))] H := hP
  have hD : va_D A [(o, .inr (4, [.ref h, .ref qe, .int (nI e0.2), .ref w, .ref h2, .ref h3, .ref qm, .int (nI mc)])), (h, .inr (1, [.ref q, .int (nI i0.2)])), (q, .inl (ca, 160, .inl (iN i0.1))), (w, .inr (3, [.ref qf, .ref qi, .int (nI i0.2), .int (nI ((wk0 fd).2.2))])), (qf, .inl (cf, 160, .inl (iN ((wk0 fd).1)))), (qi, .inl (cz, 160, .inl (zN ((wk0 fd).2.1))))] := hD
  refine stk (st2 := []) rfl ?_
  refine lv_aload_n hx hb d_Co_body_14 rfl (lv_at hl 0 rfl) ?_
  refine va_get (D := (dC, dI)) (ci := 4) (v := .ref w) (C := R_Co) (T := F_Co) (N := 8) hx hb ht in_Co hown hK hP 0 rfl rfl 3 (by decide) (ht _ k_92) (fun _ h9 => h9) rfl d_Co_body_15 ?_
  refine lv_iload_n hx hb d_Co_body_18 rfl (lv_at hl 1 rfl) ?_
  refine uV (As := [.int x]) (rest := []) (wr := [(o, .inr (4, [.ref h, .ref qe, .int (nI e0.2), .ref w, .ref h2, .ref h3, .ref qm, .int (nI mc)])), (h, .inr (1, [.ref q, .int (nI i0.2)])), (q, .inl (ca, 160, .inl (iN i0.1)))]) hx hb hml hown ht (c_Wa_comeTo l dC dI z _ w qf qi cf cz i0.2 (wk0 fd) x y (by first | assumption | omega) (wk0_ok fd) hy) yv_Wa_comeTo k_207 (Nat.le_of_ble_eq_true rfl) (Nat.le_of_ble_eq_true rfl) hP hK hSS hD hS hA [3, 4, 5] [0, 1, 2] [1, 2] rfl rfl (by decide) rfl (by decide) (by decide) rfl 3 3 rfl rfl rfl hl rfl rfl (Nat.le_of_ble_eq_true rfl) (Nat.zero_le _) (Nat.zero_le _) d_Co_body_19 (fun H locs hP hD hS => ?_)
  have hP : va_P (dC, dI) classes [(o, .inr (4, [.ref h, .ref qe, .int (nI e0.2), .ref w, .ref h2, .ref h3, .ref qm, .int (nI mc)])), (h, .inr (1, [.ref q, .int (nI i0.2)])), (q, .inl (ca, 160, .inl (iN i0.1))), (w, .inr (3, [.ref qf, .ref qi, .int (nI i0.2), .int (nI ((cm i0.2 (wk0 fd) y).2.2))])), (qf, .inl (cf, 160, .inl (iN ((cm i0.2 (wk0 fd) y).1)))), (qi, .inl (cz, 160, .inl (zN ((cm i0.2 (wk0 fd) y).2.1))))] H := hP
  have hD : va_D A [(o, .inr (4, [.ref h, .ref qe, .int (nI e0.2), .ref w, .ref h2, .ref h3, .ref qm, .int (nI mc)])), (h, .inr (1, [.ref q, .int (nI i0.2)])), (q, .inl (ca, 160, .inl (iN i0.1))), (w, .inr (3, [.ref qf, .ref qi, .int (nI i0.2), .int (nI ((cm i0.2 (wk0 fd) y).2.2))])), (qf, .inl (cf, 160, .inl (iN ((cm i0.2 (wk0 fd) y).1)))), (qi, .inl (cz, 160, .inl (zN ((cm i0.2 (wk0 fd) y).2.1))))] := hD
  refine stk (st2 := []) rfl ?_
  refine lv_aload_n hx hb d_Co_body_22 rfl (lv_at hl 0 rfl) ?_
  refine va_get (D := (dC, dI)) (ci := 4) (v := .ref w) (C := R_Co) (T := F_Co) (N := 8) hx hb ht in_Co hown hK hP 0 rfl rfl 3 (by decide) (ht _ k_92) (fun _ h9 => h9) rfl d_Co_body_23 ?_
  refine lv_aload_n hx hb d_Co_body_26 rfl (lv_at hl 0 rfl) ?_
  refine va_get (D := (dC, dI)) (ci := 4) (v := .ref h) (C := R_Co) (T := F_Co) (N := 8) hx hb ht in_Co hown hK hP 0 rfl rfl 0 (by decide) (ht _ k_89) (fun _ h9 => h9) rfl d_Co_body_27 ?_
  refine lv_iconst (v := nI 0) hx hb d_Co_body_30 (by decide) ?_
  refine eqi (y := bI false) (by decide) ?_
  refine uV (As := [.ref h, .int (bI false)]) (rest := []) (wr := [(o, .inr (4, [.ref h, .ref qe, .int (nI e0.2), .ref w, .ref h2, .ref h3, .ref qm, .int (nI mc)]))]) hx hb hml hown ht (c_Wa_follow l dC dI z _ w qf qi cf cz i0.2 (cm i0.2 (wk0 fd) y) h q ca i0.1 i0.2 false (by first | assumption | omega) (cm_ok hn (wk0_ok fd)) (by first | assumption | omega) (by first | assumption | omega)) yv_Wa_follow k_211 (Nat.le_of_ble_eq_true rfl) (Nat.le_of_ble_eq_true rfl) hP hK hSS hD hS hA [3, 4, 5, 1, 2] [0] [1, 2, 0] rfl rfl (by decide) rfl (by decide) (by decide) rfl 3 3 rfl rfl rfl hl rfl rfl (Nat.le_of_ble_eq_true rfl) (Nat.zero_le _) (Nat.zero_le _) d_Co_body_31 (fun H locs hP hD hS => ?_)
  have hP : va_P (dC, dI) classes [(o, .inr (4, [.ref h, .ref qe, .int (nI e0.2), .ref w, .ref h2, .ref h3, .ref qm, .int (nI mc)])), (w, .inr (3, [.ref qf, .ref qi, .int (nI i0.2), .int (nI ((fol i0.1 i0.2 i0.2 false 160 0 (cm i0.2 (wk0 fd) y)).2.2))])), (qf, .inl (cf, 160, .inl (iN ((fol i0.1 i0.2 i0.2 false 160 0 (cm i0.2 (wk0 fd) y)).1)))), (qi, .inl (cz, 160, .inl (zN ((fol i0.1 i0.2 i0.2 false 160 0 (cm i0.2 (wk0 fd) y)).2.1)))), (h, .inr (1, [.ref q, .int (nI i0.2)])), (q, .inl (ca, 160, .inl (iN i0.1)))] H := hP
  have hD : va_D A [(o, .inr (4, [.ref h, .ref qe, .int (nI e0.2), .ref w, .ref h2, .ref h3, .ref qm, .int (nI mc)])), (w, .inr (3, [.ref qf, .ref qi, .int (nI i0.2), .int (nI ((fol i0.1 i0.2 i0.2 false 160 0 (cm i0.2 (wk0 fd) y)).2.2))])), (qf, .inl (cf, 160, .inl (iN ((fol i0.1 i0.2 i0.2 false 160 0 (cm i0.2 (wk0 fd) y)).1)))), (qi, .inl (cz, 160, .inl (zN ((fol i0.1 i0.2 i0.2 false 160 0 (cm i0.2 (wk0 fd) y)).2.1)))), (h, .inr (1, [.ref q, .int (nI i0.2)])), (q, .inl (ca, 160, .inl (iN i0.1)))] := hD
  refine stk (st2 := []) rfl ?_
  refine lv_aload_n hx hb d_Co_body_34 rfl (lv_at hl 0 rfl) ?_
  refine va_get (D := (dC, dI)) (ci := 4) (v := .ref w) (C := R_Co) (T := F_Co) (N := 8) hx hb ht in_Co hown hK hP 0 rfl rfl 3 (by decide) (ht _ k_92) (fun _ h9 => h9) rfl d_Co_body_35 ?_
  refine rV (As := []) (rest := []) hx hb hml hown ht (c_Wa_count l dC dI z w qf qi cf cz i0.2 (fol i0.1 i0.2 i0.2 false 160 0 (cm i0.2 (wk0 fd) y)) ) yv_Wa_count k_232 (Nat.le_of_ble_eq_true rfl) (Nat.le_of_ble_eq_true rfl) hP hK hSS hS [1, 2, 3] [1, 2] rfl rfl 1 3 rfl rfl rfl hl rfl rfl (Nat.le_of_ble_eq_true rfl) (Nat.zero_le _) (Nat.zero_le _) d_Co_body_38 ?_
  rw [wkB]
  exact eUi hx hb hr hlocks hP hD hS [0, 4, 5, 1, 2, 3] rfl rfl (by decide) d_Co_body_41 (rfl)

set_option maxHeartbeats 4000000 in
set_option maxRecDepth 100000 in
theorem c_Co_listLine (l : Launch) (dC : Nat → ClassId) (dI : Nat → Nat → Nat) (z : zT) (sz : Nat) (o : Nat) (h : Nat) (qe : Nat) (w : Nat) (h2 : Nat) (h3 : Nat) (qm : Nat) (e0 : txT) (mc : Nat) (q : Nat) (ca : ClassId) (i0 : txT) (qf : Nat) (qi : Nat) (cf : ClassId) (cz : ClassId) (s1 : wkT) (q2 : Nat) (c2 : ClassId) (s0 : txT) (r0 : rdT) (a : Nat) (hn : i0.2 ≤ 160) (hb8 : ∀ i, i0.1 i < 256) (ha : a < i0.2) (hs : s0.2 + 20 ≤ 2400) : MU l y_Co_listLine b_Co_listLine 3 (some .int) 6 134 (dC, dI) z [.ref o, .int (nI a)] [(o, .inr (4, [.ref h, .ref qe, .int (nI e0.2), .ref w, .ref h2, .ref h3, .ref qm, .int (nI mc)])), (h, .inr (1, [.ref q, .int (nI i0.2)])), (q, .inl (ca, 160, .inl (iN i0.1))), (w, .inr (3, [.ref qf, .ref qi, .int (nI i0.2), .int (nI s1.2.2)])), (qf, .inl (cf, 160, .inl (iN s1.1))), (qi, .inl (cz, 160, .inl (zN s1.2.1))), (h2, .inr (2, [.ref q2, .int (nI s0.2), .int (nI r0.1), .int (bI r0.2)])), (q2, .inl (c2, 2400, .inl (iN s0.1)))] [(ca, .int), (cf, .int), (cz, .boolean), (c2, .char)] sz (some (.int (nI (lsz i0.1 i0.2 s1.2.1 a)))) [(o, .inr (4, [.ref h, .ref qe, .int (nI e0.2), .ref w, .ref h2, .ref h3, .ref qm, .int (nI mc)])), (h, .inr (1, [.ref q, .int (nI i0.2)])), (q, .inl (ca, 160, .inl (iN i0.1))), (w, .inr (3, [.ref qf, .ref qi, .int (nI i0.2), .int (nI s1.2.2)])), (qf, .inl (cf, 160, .inl (iN s1.1))), (qi, .inl (cz, 160, .inl (zN s1.2.1))), (h2, .inr (2, [.ref q2, .int (nI ((ap s0 (lsL i0.1 i0.2 s1.2.1 a)).2)), .int (nI r0.1), .int (bI r0.2)])), (q2, .inl (c2, 2400, .inl (iN ((ap s0 (lsL i0.1 i0.2 s1.2.1 a)).1))))] := by
  have hba := hb8 a
  have hkF := kF_lt
  refine metU (by decide) (Nat.le_of_ble_eq_true rfl) ?_
  intro p e s m below meth c ls A hx hb hr hlocks hml hown ht hl hP hK hSS hD hS hA
  have hl : lv_has ls 3 [(0, .ref o), (1, .int (nI a))] := hl
  refine lv_aload_n hx hb d_Co_listLine_0 rfl (lv_at hl 0 rfl) ?_
  refine va_get (D := (dC, dI)) (ci := 4) (v := .ref w) (C := R_Co) (T := F_Co) (N := 8) hx hb ht in_Co hown hK hP 0 rfl rfl 3 (by decide) (ht _ k_92) (fun _ h9 => h9) rfl d_Co_listLine_1 ?_
  refine lv_iload_n hx hb d_Co_listLine_4 rfl (lv_at hl 1 rfl) ?_
  refine rV (As := [.int (nI a)]) (rest := []) hx hb hml hown ht (c_Wa_cameTo l dC dI z w qf qi cf cz i0.2 s1 (nI a) ((a : Nat) : Int) (by first | assumption | omega) (tI_n (by omega))) yv_Wa_cameTo k_240 (Nat.le_of_ble_eq_true rfl) (Nat.le_of_ble_eq_true rfl) hP hK hSS hS [3, 4, 5] [1, 2] rfl rfl 3 3 rfl rfl rfl hl rfl rfl (Nat.le_of_ble_eq_true rfl) (Nat.zero_le _) (Nat.zero_le _) d_Co_listLine_5 ?_
  have cut23 : ∀  (ls : Array Slot) (H : Heap) (locs : List Loc), lv_has ls 3 [(0, .ref o), (1, .int (nI a))] → va_P (dC, dI) classes [(o, .inr (4, [.ref h, .ref qe, .int (nI e0.2), .ref w, .ref h2, .ref h3, .ref qm, .int (nI mc)])), (h, .inr (1, [.ref q, .int (nI i0.2)])), (q, .inl (ca, 160, .inl (iN i0.1))), (w, .inr (3, [.ref qf, .ref qi, .int (nI i0.2), .int (nI s1.2.2)])), (qf, .inl (cf, 160, .inl (iN s1.1))), (qi, .inl (cz, 160, .inl (zN s1.2.1))), (h2, .inr (2, [.ref q2, .int (nI s0.2), .int (nI r0.1), .int (bI r0.2)])), (q2, .inl (c2, 2400, .inl (iN s0.1)))] H → va_D A [(o, .inr (4, [.ref h, .ref qe, .int (nI e0.2), .ref w, .ref h2, .ref h3, .ref qm, .int (nI mc)])), (h, .inr (1, [.ref q, .int (nI i0.2)])), (q, .inl (ca, 160, .inl (iN i0.1))), (w, .inr (3, [.ref qf, .ref qi, .int (nI i0.2), .int (nI s1.2.2)])), (qf, .inl (cf, 160, .inl (iN s1.1))), (qi, .inl (cz, 160, .inl (zN s1.2.1))), (h2, .inr (2, [.ref q2, .int (nI s0.2), .int (nI r0.1), .int (bI r0.2)])), (q2, .inl (c2, 2400, .inl (iN s0.1)))] → va_S A s.heap H locs → W p l e (rmq 6 134) s m [.ref o, .int (nI a)].toArray below meth c H locs 0 0 (MQ below (qcU (some (.int (nI (lsz i0.1 i0.2 s1.2.1 a)))) (dC, dI) [(o, .inr (4, [.ref h, .ref qe, .int (nI e0.2), .ref w, .ref h2, .ref h3, .ref qm, .int (nI mc)])), (h, .inr (1, [.ref q, .int (nI i0.2)])), (q, .inl (ca, 160, .inl (iN i0.1))), (w, .inr (3, [.ref qf, .ref qi, .int (nI i0.2), .int (nI s1.2.2)])), (qf, .inl (cf, 160, .inl (iN s1.1))), (qi, .inl (cz, 160, .inl (zN s1.2.1))), (h2, .inr (2, [.ref q2, .int (nI ((ap s0 (lsL i0.1 i0.2 s1.2.1 a)).2)), .int (nI r0.1), .int (bI r0.2)])), (q2, .inl (c2, 2400, .inl (iN ((ap s0 (lsL i0.1 i0.2 s1.2.1 a)).1))))] A) [.ref o, .int (nI a)].toArray s 0 0 A) (F0 m 23 ls [.int (oI (lk i0.1 i0.2 s1.2.1 a))]) := by
    intro  ls H locs  hl hP hD hS
    rcases ek : lk i0.1 i0.2 s1.2.1 a with _ | k
    · have hq1 : lsz i0.1 i0.2 s1.2.1 a = 1 := by unfold lsz; rw [ek]
      have hq2 : lsL i0.1 i0.2 s1.2.1 a = lnL 13 0 (i0.1 a : Int) := by unfold lsL; rw [ek]
      refine eqi (y := iI (-1)) rfl ?_
      refine lv_istore_n (lv' := [(2, .int (iI (-1))), (0, .ref o), (1, .int (nI a))]) hx hb d_Co_listLine_23 rfl hl (Nat.le_of_ble_eq_true rfl) rfl (fun ls hl => ?_)
      refine lv_iload_n hx hb d_Co_listLine_24 rfl (lv_at hl 0 rfl) ?_
      refine lv_iconst (v := iI (-1)) hx hb d_Co_listLine_25 (by decide) ?_
      refine z_icmp_ne (tgt := 49) hx hb d_Co_listLine_26 (iI_toInt (by omega) (by omega)) (iI_toInt (by omega) (by omega)) (by decide) (fun g26 => ?_) (fun g26 => ?_)
      · exfalso; omega
      · refine lv_aload_n hx hb d_Co_listLine_29 rfl (lv_at hl 1 rfl) ?_
        refine va_get (D := (dC, dI)) (ci := 4) (v := .ref h2) (C := R_Co) (T := F_Co) (N := 8) hx hb ht in_Co hown hK hP 0 rfl rfl 4 (by decide) (ht _ k_93) (fun _ h9 => h9) rfl d_Co_listLine_30 ?_
        refine lv_bipush (v := nI 13) hx hb d_Co_listLine_33 (by decide) ?_
        refine lv_iconst (v := nI 0) hx hb d_Co_listLine_35 (by decide) ?_
        refine lv_aload_n hx hb d_Co_listLine_36 rfl (lv_at hl 1 rfl) ?_
        refine va_get (D := (dC, dI)) (ci := 4) (v := .ref h) (C := R_Co) (T := F_Co) (N := 8) hx hb ht in_Co hown hK hP 0 rfl rfl 0 (by decide) (ht _ k_89) (fun _ h9 => h9) rfl d_Co_listLine_37 ?_
        refine lv_iload_n hx hb d_Co_listLine_40 rfl (lv_at hl 2 rfl) ?_
        refine rV (As := [.int (nI a)]) (rest := [.int (nI 0), .int (nI 13), .ref h2]) hx hb hml hown ht (c_Im_at l dC dI z h q ca i0.1 i0.2 (nI a) ((a : Nat) : Int) (by first | assumption | omega) (tI_n (by omega))) yv_Im_at k_158 (Nat.le_of_ble_eq_true rfl) (Nat.le_of_ble_eq_true rfl) hP hK hSS hS [1, 2] [0] rfl rfl 1 1 rfl rfl rfl hl rfl rfl (Nat.le_of_ble_eq_true rfl) (Nat.zero_le _) (Nat.zero_le _) d_Co_listLine_41 ?_
        refine eqi (y := iI (i0.1 a : Int)) (by rw [atZ_n ha]) ?_
        refine uV (As := [.int (nI 13), .int (nI 0), .int (iI (i0.1 a : Int))]) (rest := []) (wr := [(o, .inr (4, [.ref h, .ref qe, .int (nI e0.2), .ref w, .ref h2, .ref h3, .ref qm, .int (nI mc)])), (h, .inr (1, [.ref q, .int (nI i0.2)])), (q, .inl (ca, 160, .inl (iN i0.1))), (w, .inr (3, [.ref qf, .ref qi, .int (nI i0.2), .int (nI s1.2.2)])), (qf, .inl (cf, 160, .inl (iN s1.1))), (qi, .inl (cz, 160, .inl (zN s1.2.1)))]) hx hb hml hown ht (c_Te_addLine l dC dI z _ h2 q2 c2 s0 r0 13 0 (i0.1 a : Int) (by first | assumption | omega) (by first | assumption | omega) (by first | assumption | omega) (by first | assumption | omega) (by first | assumption | omega)) yv_Te_addLine k_264 (Nat.le_of_ble_eq_true rfl) (Nat.le_of_ble_eq_true rfl) hP hK hSS hD hS hA [6, 7] [0, 1, 2, 3, 4, 5] [3] rfl rfl (by decide) rfl (by decide) (by decide) rfl 6 2 rfl rfl rfl hl rfl rfl (Nat.le_of_ble_eq_true rfl) (Nat.zero_le _) (Nat.zero_le _) d_Co_listLine_44 (fun H locs hP hD hS => ?_)
        have hP : va_P (dC, dI) classes [(o, .inr (4, [.ref h, .ref qe, .int (nI e0.2), .ref w, .ref h2, .ref h3, .ref qm, .int (nI mc)])), (h, .inr (1, [.ref q, .int (nI i0.2)])), (q, .inl (ca, 160, .inl (iN i0.1))), (w, .inr (3, [.ref qf, .ref qi, .int (nI i0.2), .int (nI s1.2.2)])), (qf, .inl (cf, 160, .inl (iN s1.1))), (qi, .inl (cz, 160, .inl (zN s1.2.1))), (h2, .inr (2, [.ref q2, .int (nI ((ap s0 (lnL 13 0 (i0.1 a : Int))).2)), .int (nI r0.1), .int (bI r0.2)])), (q2, .inl (c2, 2400, .inl (iN ((ap s0 (lnL 13 0 (i0.1 a : Int))).1))))] H := hP
        have hD : va_D A [(o, .inr (4, [.ref h, .ref qe, .int (nI e0.2), .ref w, .ref h2, .ref h3, .ref qm, .int (nI mc)])), (h, .inr (1, [.ref q, .int (nI i0.2)])), (q, .inl (ca, 160, .inl (iN i0.1))), (w, .inr (3, [.ref qf, .ref qi, .int (nI i0.2), .int (nI s1.2.2)])), (qf, .inl (cf, 160, .inl (iN s1.1))), (qi, .inl (cz, 160, .inl (zN s1.2.1))), (h2, .inr (2, [.ref q2, .int (nI ((ap s0 (lnL 13 0 (i0.1 a : Int))).2)), .int (nI r0.1), .int (bI r0.2)])), (q2, .inl (c2, 2400, .inl (iN ((ap s0 (lnL 13 0 (i0.1 a : Int))).1))))] := hD
        refine stk (st2 := []) rfl ?_
        refine lv_iconst (v := nI 1) hx hb d_Co_listLine_47 (by decide) ?_
        rw [hq2]
        exact eUi hx hb hr hlocks hP hD hS [0, 1, 2, 3, 4, 5, 6, 7] rfl rfl (by decide) d_Co_listLine_48 (by rw [hq1])
    · obtain ⟨hk, hkn, hf1, hf2, hok⟩ := lk_in hb8 ha ek
      have hq1 : lsz i0.1 i0.2 s1.2.1 a = kB k := by unfold lsz; rw [ek]
      have hq2 : lsL i0.1 i0.2 s1.2.1 a = lnL k (i0.1 a - kF k) (num i0.1 a k) := by unfold lsL; rw [ek]
      have hC := kC_lt k
      have hnum := num_in (a := a) (k := k) hb8
      refine eqi (y := nI k) rfl ?_
      refine lv_istore_n (lv' := [(2, .int (nI k)), (0, .ref o), (1, .int (nI a))]) hx hb d_Co_listLine_23 rfl hl (Nat.le_of_ble_eq_true rfl) rfl (fun ls hl => ?_)
      refine lv_iload_n hx hb d_Co_listLine_24 rfl (lv_at hl 0 rfl) ?_
      refine lv_iconst (v := iI (-1)) hx hb d_Co_listLine_25 (by decide) ?_
      refine z_icmp_ne (tgt := 49) hx hb d_Co_listLine_26 (tI_n (by omega)) (iI_toInt (by omega) (by omega)) (by decide) (fun g26 => ?_) (fun g26 => ?_)
      · refine lv_aload_n hx hb d_Co_listLine_49 rfl (lv_at hl 1 rfl) ?_
        refine va_get (D := (dC, dI)) (ci := 4) (v := .ref h2) (C := R_Co) (T := F_Co) (N := 8) hx hb ht in_Co hown hK hP 0 rfl rfl 4 (by decide) (ht _ k_93) (fun _ h9 => h9) rfl d_Co_listLine_50 ?_
        refine lv_iload_n hx hb d_Co_listLine_53 rfl (lv_at hl 0 rfl) ?_
        refine lv_aload_n hx hb d_Co_listLine_54 rfl (lv_at hl 1 rfl) ?_
        refine va_get (D := (dC, dI)) (ci := 4) (v := .ref h) (C := R_Co) (T := F_Co) (N := 8) hx hb ht in_Co hown hK hP 0 rfl rfl 0 (by decide) (ht _ k_89) (fun _ h9 => h9) rfl d_Co_listLine_55 ?_
        refine lv_iload_n hx hb d_Co_listLine_58 rfl (lv_at hl 2 rfl) ?_
        refine rV (As := [.int (nI a)]) (rest := [.int (nI k), .ref h2]) hx hb hml hown ht (c_Im_at l dC dI z h q ca i0.1 i0.2 (nI a) ((a : Nat) : Int) (by first | assumption | omega) (tI_n (by omega))) yv_Im_at k_158 (Nat.le_of_ble_eq_true rfl) (Nat.le_of_ble_eq_true rfl) hP hK hSS hS [1, 2] [0] rfl rfl 1 1 rfl rfl rfl hl rfl rfl (Nat.le_of_ble_eq_true rfl) (Nat.zero_le _) (Nat.zero_le _) d_Co_listLine_59 ?_
        refine eqi (y := nI (i0.1 a)) (by rw [atZ_n ha, nI_iI]) ?_
        refine lv_iload_n hx hb d_Co_listLine_62 rfl (lv_at hl 0 rfl) ?_
        refine rS (As := [.int (nI k)]) (rest := [.int (nI (i0.1 a)), .int (nI k), .ref h2]) hx hb hml hown ht (c_Ki_first l dC dI z k (by first | assumption | omega)) ys_Ki_first k_361 (Nat.le_of_ble_eq_true rfl) (Nat.le_of_ble_eq_true rfl) hP hK hSS hS [] [] rfl rfl hl rfl rfl (Nat.le_of_ble_eq_true rfl) (Nat.zero_le _) (Nat.zero_le _) d_Co_listLine_63 ?_
        refine nSub hx hb d_Co_listLine_66 (by omega) ?_
        refine lv_aload_n hx hb d_Co_listLine_67 rfl (lv_at hl 1 rfl) ?_
        refine va_get (D := (dC, dI)) (ci := 4) (v := .ref h) (C := R_Co) (T := F_Co) (N := 8) hx hb ht in_Co hown hK hP 0 rfl rfl 0 (by decide) (ht _ k_89) (fun _ h9 => h9) rfl d_Co_listLine_68 ?_
        refine lv_iload_n hx hb d_Co_listLine_71 rfl (lv_at hl 2 rfl) ?_
        refine lv_iload_n hx hb d_Co_listLine_72 rfl (lv_at hl 0 rfl) ?_
        refine rV (As := [.int (nI a), .int (nI k)]) (rest := [.int (nI ((i0.1 a) - (kF k))), .int (nI k), .ref h2]) hx hb hml hown ht (c_Im_number l dC dI z h q ca i0.1 i0.2 a k (by first | assumption | omega) (by first | assumption | omega) (by first | assumption | omega) (by first | assumption | omega)) yv_Im_number k_364 (Nat.le_of_ble_eq_true rfl) (Nat.le_of_ble_eq_true rfl) hP hK hSS hS [1, 2] [0] rfl rfl 1 1 rfl rfl rfl hl rfl rfl (Nat.le_of_ble_eq_true rfl) (Nat.zero_le _) (Nat.zero_le _) d_Co_listLine_73 ?_
        refine uV (As := [.int (nI k), .int (nI ((i0.1 a) - (kF k))), .int (iI (num i0.1 a k))]) (rest := []) (wr := [(o, .inr (4, [.ref h, .ref qe, .int (nI e0.2), .ref w, .ref h2, .ref h3, .ref qm, .int (nI mc)])), (h, .inr (1, [.ref q, .int (nI i0.2)])), (q, .inl (ca, 160, .inl (iN i0.1))), (w, .inr (3, [.ref qf, .ref qi, .int (nI i0.2), .int (nI s1.2.2)])), (qf, .inl (cf, 160, .inl (iN s1.1))), (qi, .inl (cz, 160, .inl (zN s1.2.1)))]) hx hb hml hown ht (c_Te_addLine l dC dI z _ h2 q2 c2 s0 r0 k ((i0.1 a) - (kF k)) (num i0.1 a k) (by first | assumption | omega) (by first | assumption | omega) (by first | assumption | omega) (by first | assumption | omega) (by first | assumption | omega)) yv_Te_addLine k_264 (Nat.le_of_ble_eq_true rfl) (Nat.le_of_ble_eq_true rfl) hP hK hSS hD hS hA [6, 7] [0, 1, 2, 3, 4, 5] [3] rfl rfl (by decide) rfl (by decide) (by decide) rfl 6 2 rfl rfl rfl hl rfl rfl (Nat.le_of_ble_eq_true rfl) (Nat.zero_le _) (Nat.zero_le _) d_Co_listLine_76 (fun H locs hP hD hS => ?_)
        have hP : va_P (dC, dI) classes [(o, .inr (4, [.ref h, .ref qe, .int (nI e0.2), .ref w, .ref h2, .ref h3, .ref qm, .int (nI mc)])), (h, .inr (1, [.ref q, .int (nI i0.2)])), (q, .inl (ca, 160, .inl (iN i0.1))), (w, .inr (3, [.ref qf, .ref qi, .int (nI i0.2), .int (nI s1.2.2)])), (qf, .inl (cf, 160, .inl (iN s1.1))), (qi, .inl (cz, 160, .inl (zN s1.2.1))), (h2, .inr (2, [.ref q2, .int (nI ((ap s0 (lnL k ((i0.1 a) - (kF k)) (num i0.1 a k))).2)), .int (nI r0.1), .int (bI r0.2)])), (q2, .inl (c2, 2400, .inl (iN ((ap s0 (lnL k ((i0.1 a) - (kF k)) (num i0.1 a k))).1))))] H := hP
        have hD : va_D A [(o, .inr (4, [.ref h, .ref qe, .int (nI e0.2), .ref w, .ref h2, .ref h3, .ref qm, .int (nI mc)])), (h, .inr (1, [.ref q, .int (nI i0.2)])), (q, .inl (ca, 160, .inl (iN i0.1))), (w, .inr (3, [.ref qf, .ref qi, .int (nI i0.2), .int (nI s1.2.2)])), (qf, .inl (cf, 160, .inl (iN s1.1))), (qi, .inl (cz, 160, .inl (zN s1.2.1))), (h2, .inr (2, [.ref q2, .int (nI ((ap s0 (lnL k ((i0.1 a) - (kF k)) (num i0.1 a k))).2)), .int (nI r0.1), .int (bI r0.2)])), (q2, .inl (c2, 2400, .inl (iN ((ap s0 (lnL k ((i0.1 a) - (kF k)) (num i0.1 a k))).1))))] := hD
        refine stk (st2 := []) rfl ?_
        refine lv_iload_n hx hb d_Co_listLine_79 rfl (lv_at hl 0 rfl) ?_
        refine rS (As := [.int (nI k)]) (rest := []) hx hb hml hown ht (c_Ki_bytes l dC dI z k (by first | assumption | omega)) ys_Ki_bytes k_365 (Nat.le_of_ble_eq_true rfl) (Nat.le_of_ble_eq_true rfl) hP hK hSS hS [] [] rfl rfl hl rfl rfl (Nat.le_of_ble_eq_true rfl) (Nat.zero_le _) (Nat.zero_le _) d_Co_listLine_80 ?_
        rw [hq2]
        exact eUi hx hb hr hlocks hP hD hS [0, 1, 2, 3, 4, 5, 6, 7] rfl rfl (by decide) d_Co_listLine_83 (by rw [hq1])
      · exfalso; omega
  refine b_if_eq (tgt := 22) hx hb d_Co_listLine_8 (by decide) (fun g8 => ?_) (fun g8 => ?_)
  · refine lv_iconst (v := iI (-1)) hx hb d_Co_listLine_22 (by decide) ?_
    refine eqi (y := oI (lk i0.1 i0.2 s1.2.1 a)) (by rw [lk, if_neg (by have := of_decide_eq_false g8; intro q; exact this ⟨by omega, by omega, by simpa using q⟩)]; rfl) ?_
    exact cut23  _ _ _  (lv_sub hl [0, 1] rfl) (hP.sub [0, 1, 2, 3, 4, 5, 6, 7] rfl) (hD.sub [0, 1, 2, 3, 4, 5, 6, 7] (by decide) rfl) hS
  · refine lv_aload_n hx hb d_Co_listLine_11 rfl (lv_at hl 0 rfl) ?_
    refine va_get (D := (dC, dI)) (ci := 4) (v := .ref h) (C := R_Co) (T := F_Co) (N := 8) hx hb ht in_Co hown hK hP 0 rfl rfl 0 (by decide) (ht _ k_89) (fun _ h9 => h9) rfl d_Co_listLine_12 ?_
    refine lv_iload_n hx hb d_Co_listLine_15 rfl (lv_at hl 1 rfl) ?_
    refine rV (As := [.int (nI a)]) (rest := []) hx hb hml hown ht (c_Im_codeKind l dC dI z h q ca i0.1 i0.2 (nI a) ((a : Nat) : Int) (by first | assumption | omega) (by first | assumption | omega) (tI_n (by omega))) yv_Im_codeKind k_263 (Nat.le_of_ble_eq_true rfl) (Nat.le_of_ble_eq_true rfl) hP hK hSS hS [1, 2] [0] rfl rfl 1 1 rfl rfl rfl hl rfl rfl (Nat.le_of_ble_eq_true rfl) (Nat.zero_le _) (Nat.zero_le _) d_Co_listLine_16 ?_
    refine eqi (y := oI (lk i0.1 i0.2 s1.2.1 a)) (by rw [lk, if_pos (by have := (of_decide_eq_true g8).2.2; simpa using this)]) ?_
    refine lv_goto (tgt := 23) hx hb d_Co_listLine_19 (by decide) ?_
    exact cut23  _ _ _  (lv_sub hl [0, 1] rfl) (hP.sub [0, 1, 2, 3, 4, 5, 6, 7] rfl) (hD.sub [0, 1, 2, 3, 4, 5, 6, 7] (by decide) rfl) hS

set_option maxHeartbeats 4000000 in
set_option maxRecDepth 100000 in
theorem c_Co_list (l : Launch) (dC : Nat → ClassId) (dI : Nat → Nat → Nat) (z : zT) (sz : Nat) (o : Nat) (h : Nat) (qe : Nat) (w : Nat) (h2 : Nat) (h3 : Nat) (qm : Nat) (e0 : txT) (mc : Nat) (q : Nat) (ca : ClassId) (i0 : txT) (ce : ClassId) (qf : Nat) (qi : Nat) (cf : ClassId) (cz : ClassId) (x1 : Int32) (x2 : Int32) (fd : Nat → Nat) (m0 : Nat → Bool) (q2 : Nat) (c2 : ClassId) (s0 : txT) (r0 : rdT) (hn : i0.2 ≤ 160) (hb8 : ∀ i, i0.1 i < 256) (he : e0.2 ≤ 16) (hen : ∀ k, k < e0.2 → e0.1 k < i0.2) : MU l y_Co_list b_Co_list 2 (some .int) 7 156 (dC, dI) z [.ref o] [(o, .inr (4, [.ref h, .ref qe, .int (nI e0.2), .ref w, .ref h2, .ref h3, .ref qm, .int (nI mc)])), (h, .inr (1, [.ref q, .int (nI i0.2)])), (q, .inl (ca, 160, .inl (iN i0.1))), (qe, .inl (ce, 16, .inl (iN e0.1))), (w, .inr (3, [.ref qf, .ref qi, .int x1, .int x2])), (qf, .inl (cf, 160, .inl (iN fd))), (qi, .inl (cz, 160, .inl (zN m0))), (h2, .inr (2, [.ref q2, .int (nI s0.2), .int (nI r0.1), .int (bI r0.2)])), (q2, .inl (c2, 2400, .inl (iN s0.1)))] [(ca, .int), (ce, .int), (cf, .int), (cz, .boolean), (c2, .char)] sz (some (.int (nI ((liF i0.1 i0.2 (wkE i0 e0 fd).2.1 (i0.2 + 1) 0 (dr s0)).2)))) [(o, .inr (4, [.ref h, .ref qe, .int (nI e0.2), .ref w, .ref h2, .ref h3, .ref qm, .int (nI mc)])), (h, .inr (1, [.ref q, .int (nI i0.2)])), (q, .inl (ca, 160, .inl (iN i0.1))), (qe, .inl (ce, 16, .inl (iN e0.1))), (w, .inr (3, [.ref qf, .ref qi, .int (nI i0.2), .int (nI ((wkE i0 e0 fd).2.2))])), (qf, .inl (cf, 160, .inl (iN ((wkE i0 e0 fd).1)))), (qi, .inl (cz, 160, .inl (zN ((wkE i0 e0 fd).2.1)))), (h2, .inr (2, [.ref q2, .int (nI ((liF i0.1 i0.2 (wkE i0 e0 fd).2.1 (i0.2 + 1) 0 (dr s0)).2)), .int (nI r0.1), .int (bI r0.2)])), (q2, .inl (c2, 2400, .inl (iN ((liF i0.1 i0.2 (wkE i0 e0 fd).2.1 (i0.2 + 1) 0 (dr s0)).1))))] := by
  refine metU (by decide) (Nat.le_of_ble_eq_true rfl) ?_
  intro p e s m below meth c ls A hx hb hr hlocks hml hown ht hl hP hK hSS hD hS hA
  have hl : lv_has ls 2 [(0, .ref o)] := hl
  refine lv_aload_n hx hb d_Co_list_0 rfl (lv_at hl 0 rfl) ?_
  refine uV (As := []) (rest := []) (wr := [(h2, .inr (2, [.ref q2, .int (nI s0.2), .int (nI r0.1), .int (bI r0.2)])), (q2, .inl (c2, 2400, .inl (iN s0.1)))]) hx hb hml hown ht (c_Co_walkFromEntries l dC dI z _ o h qe w h2 h3 qm e0 mc q ca i0 ce qf qi cf cz x1 x2 fd m0 (by first | assumption | omega) (by first | assumption | omega) (by first | assumption | omega) (by first | assumption | omega)) yv_Co_walkFromEntries k_196 (Nat.le_of_ble_eq_true rfl) (Nat.le_of_ble_eq_true rfl) hP hK hSS hD hS hA [0, 1, 2, 3, 4, 5, 6] [7, 8] [0, 1, 2, 3] rfl rfl (by decide) rfl (by decide) (by decide) rfl 0 4 rfl rfl rfl hl rfl rfl (Nat.le_of_ble_eq_true rfl) (Nat.zero_le _) (Nat.zero_le _) d_Co_list_1 (fun H locs hP hD hS => ?_)
  have hP : va_P (dC, dI) classes [(h2, .inr (2, [.ref q2, .int (nI s0.2), .int (nI r0.1), .int (bI r0.2)])), (q2, .inl (c2, 2400, .inl (iN s0.1))), (o, .inr (4, [.ref h, .ref qe, .int (nI e0.2), .ref w, .ref h2, .ref h3, .ref qm, .int (nI mc)])), (h, .inr (1, [.ref q, .int (nI i0.2)])), (q, .inl (ca, 160, .inl (iN i0.1))), (qe, .inl (ce, 16, .inl (iN e0.1))), (w, .inr (3, [.ref qf, .ref qi, .int (nI i0.2), .int (nI ((wkE i0 e0 fd).2.2))])), (qf, .inl (cf, 160, .inl (iN ((wkE i0 e0 fd).1)))), (qi, .inl (cz, 160, .inl (zN ((wkE i0 e0 fd).2.1))))] H := hP
  have hD : va_D A [(h2, .inr (2, [.ref q2, .int (nI s0.2), .int (nI r0.1), .int (bI r0.2)])), (q2, .inl (c2, 2400, .inl (iN s0.1))), (o, .inr (4, [.ref h, .ref qe, .int (nI e0.2), .ref w, .ref h2, .ref h3, .ref qm, .int (nI mc)])), (h, .inr (1, [.ref q, .int (nI i0.2)])), (q, .inl (ca, 160, .inl (iN i0.1))), (qe, .inl (ce, 16, .inl (iN e0.1))), (w, .inr (3, [.ref qf, .ref qi, .int (nI i0.2), .int (nI ((wkE i0 e0 fd).2.2))])), (qf, .inl (cf, 160, .inl (iN ((wkE i0 e0 fd).1)))), (qi, .inl (cz, 160, .inl (zN ((wkE i0 e0 fd).2.1))))] := hD
  refine stk (st2 := []) rfl ?_
  refine lv_aload_n hx hb d_Co_list_4 rfl (lv_at hl 0 rfl) ?_
  refine va_get (D := (dC, dI)) (ci := 4) (v := .ref h2) (C := R_Co) (T := F_Co) (N := 8) hx hb ht in_Co hown hK hP 2 rfl rfl 4 (by decide) (ht _ k_93) (fun _ h9 => h9) rfl d_Co_list_5 ?_
  refine uV (As := []) (rest := []) (wr := [(o, .inr (4, [.ref h, .ref qe, .int (nI e0.2), .ref w, .ref h2, .ref h3, .ref qm, .int (nI mc)])), (h, .inr (1, [.ref q, .int (nI i0.2)])), (q, .inl (ca, 160, .inl (iN i0.1))), (qe, .inl (ce, 16, .inl (iN e0.1))), (w, .inr (3, [.ref qf, .ref qi, .int (nI i0.2), .int (nI ((wkE i0 e0 fd).2.2))])), (qf, .inl (cf, 160, .inl (iN ((wkE i0 e0 fd).1)))), (qi, .inl (cz, 160, .inl (zN ((wkE i0 e0 fd).2.1))))]) hx hb hml hown ht (c_Te_drop l dC dI z _ h2 q2 c2 s0 r0 ) yv_Te_drop k_146 (Nat.le_of_ble_eq_true rfl) (Nat.le_of_ble_eq_true rfl) hP hK hSS hD hS hA [0, 1] [2, 3, 4, 5, 6, 7, 8] [4] rfl rfl (by decide) rfl (by decide) (by decide) rfl 0 2 rfl rfl rfl hl rfl rfl (Nat.le_of_ble_eq_true rfl) (Nat.zero_le _) (Nat.zero_le _) d_Co_list_8 (fun H locs hP hD hS => ?_)
  have hP : va_P (dC, dI) classes [(o, .inr (4, [.ref h, .ref qe, .int (nI e0.2), .ref w, .ref h2, .ref h3, .ref qm, .int (nI mc)])), (h, .inr (1, [.ref q, .int (nI i0.2)])), (q, .inl (ca, 160, .inl (iN i0.1))), (qe, .inl (ce, 16, .inl (iN e0.1))), (w, .inr (3, [.ref qf, .ref qi, .int (nI i0.2), .int (nI ((wkE i0 e0 fd).2.2))])), (qf, .inl (cf, 160, .inl (iN ((wkE i0 e0 fd).1)))), (qi, .inl (cz, 160, .inl (zN ((wkE i0 e0 fd).2.1)))), (h2, .inr (2, [.ref q2, .int (nI ((dr s0).2)), .int (nI r0.1), .int (bI r0.2)])), (q2, .inl (c2, 2400, .inl (iN ((dr s0).1))))] H := hP
  have hD : va_D A [(o, .inr (4, [.ref h, .ref qe, .int (nI e0.2), .ref w, .ref h2, .ref h3, .ref qm, .int (nI mc)])), (h, .inr (1, [.ref q, .int (nI i0.2)])), (q, .inl (ca, 160, .inl (iN i0.1))), (qe, .inl (ce, 16, .inl (iN e0.1))), (w, .inr (3, [.ref qf, .ref qi, .int (nI i0.2), .int (nI ((wkE i0 e0 fd).2.2))])), (qf, .inl (cf, 160, .inl (iN ((wkE i0 e0 fd).1)))), (qi, .inl (cz, 160, .inl (zN ((wkE i0 e0 fd).2.1)))), (h2, .inr (2, [.ref q2, .int (nI ((dr s0).2)), .int (nI r0.1), .int (bI r0.2)])), (q2, .inl (c2, 2400, .inl (iN ((dr s0).1))))] := hD
  refine stk (st2 := []) rfl ?_
  refine lv_iconst (v := nI 0) hx hb d_Co_list_11 (by decide) ?_
  refine lv_istore_n (lv' := [(1, .int (nI 0)), (0, .ref o)]) hx hb d_Co_list_12 rfl hl (Nat.le_of_ble_eq_true rfl) rfl (fun ls hl => ?_)
  have loop13 : ∀ (j : Nat) (a : Nat) (s2 : txT) (ls : Array Slot) (H : Heap) (locs : List Loc), (i0.2 < j + a) → (liF i0.1 i0.2 (wkE i0 e0 fd).2.1 (i0.2 + 1) 0 (dr s0) = liF i0.1 i0.2 (wkE i0 e0 fd).2.1 j a s2) → (s2.2 ≤ 10 * a) → (a ≤ i0.2 + 2) → lv_has ls 2 [(1, .int (nI a)), (0, .ref o)] → va_P (dC, dI) classes [(o, .inr (4, [.ref h, .ref qe, .int (nI e0.2), .ref w, .ref h2, .ref h3, .ref qm, .int (nI mc)])), (h, .inr (1, [.ref q, .int (nI i0.2)])), (q, .inl (ca, 160, .inl (iN i0.1))), (qe, .inl (ce, 16, .inl (iN e0.1))), (w, .inr (3, [.ref qf, .ref qi, .int (nI i0.2), .int (nI ((wkE i0 e0 fd).2.2))])), (qf, .inl (cf, 160, .inl (iN ((wkE i0 e0 fd).1)))), (qi, .inl (cz, 160, .inl (zN ((wkE i0 e0 fd).2.1)))), (h2, .inr (2, [.ref q2, .int (nI s2.2), .int (nI r0.1), .int (bI r0.2)])), (q2, .inl (c2, 2400, .inl (iN s2.1)))] H → va_D A [(o, .inr (4, [.ref h, .ref qe, .int (nI e0.2), .ref w, .ref h2, .ref h3, .ref qm, .int (nI mc)])), (h, .inr (1, [.ref q, .int (nI i0.2)])), (q, .inl (ca, 160, .inl (iN i0.1))), (qe, .inl (ce, 16, .inl (iN e0.1))), (w, .inr (3, [.ref qf, .ref qi, .int (nI i0.2), .int (nI ((wkE i0 e0 fd).2.2))])), (qf, .inl (cf, 160, .inl (iN ((wkE i0 e0 fd).1)))), (qi, .inl (cz, 160, .inl (zN ((wkE i0 e0 fd).2.1)))), (h2, .inr (2, [.ref q2, .int (nI s2.2), .int (nI r0.1), .int (bI r0.2)])), (q2, .inl (c2, 2400, .inl (iN s2.1)))] → va_S A s.heap H locs → W p l e (rmq 7 156) s m [.ref o].toArray below meth c H locs 0 0 (MQ below (qcU (some (.int (nI ((liF i0.1 i0.2 (wkE i0 e0 fd).2.1 (i0.2 + 1) 0 (dr s0)).2)))) (dC, dI) [(o, .inr (4, [.ref h, .ref qe, .int (nI e0.2), .ref w, .ref h2, .ref h3, .ref qm, .int (nI mc)])), (h, .inr (1, [.ref q, .int (nI i0.2)])), (q, .inl (ca, 160, .inl (iN i0.1))), (qe, .inl (ce, 16, .inl (iN e0.1))), (w, .inr (3, [.ref qf, .ref qi, .int (nI i0.2), .int (nI ((wkE i0 e0 fd).2.2))])), (qf, .inl (cf, 160, .inl (iN ((wkE i0 e0 fd).1)))), (qi, .inl (cz, 160, .inl (zN ((wkE i0 e0 fd).2.1)))), (h2, .inr (2, [.ref q2, .int (nI ((liF i0.1 i0.2 (wkE i0 e0 fd).2.1 (i0.2 + 1) 0 (dr s0)).2)), .int (nI r0.1), .int (bI r0.2)])), (q2, .inl (c2, 2400, .inl (iN ((liF i0.1 i0.2 (wkE i0 e0 fd).2.1 (i0.2 + 1) 0 (dr s0)).1))))] A) [.ref o].toArray s 0 0 A) (F0 m 13 ls []) := by
    intro j
    induction j with
    | zero =>
      intro a s2 ls H locs hfu hR hlen han hl hP hD hS
      have hRe : liF i0.1 i0.2 (wkE i0 e0 fd).2.1 (i0.2 + 1) 0 (dr s0) = s2 := hR
      refine lv_iload_n hx hb d_Co_list_13 rfl (lv_at hl 0 rfl) ?_
      refine lv_aload_n hx hb d_Co_list_14 rfl (lv_at hl 1 rfl) ?_
      refine va_get (D := (dC, dI)) (ci := 4) (v := .ref h) (C := R_Co) (T := F_Co) (N := 8) hx hb ht in_Co hown hK hP 0 rfl rfl 0 (by decide) (ht _ k_89) (fun _ h9 => h9) rfl d_Co_list_15 ?_
      refine rV (As := []) (rest := [.int (nI a)]) hx hb hml hown ht (c_Im_count l dC dI z h q ca i0.1 i0.2 ) yv_Im_count k_118 (Nat.le_of_ble_eq_true rfl) (Nat.le_of_ble_eq_true rfl) hP hK hSS hS [1, 2] [0] rfl rfl 1 1 rfl rfl rfl hl rfl rfl (Nat.le_of_ble_eq_true rfl) (Nat.zero_le _) (Nat.zero_le _) d_Co_list_18 ?_
      refine z_icmp_ge (tgt := 39) hx hb d_Co_list_21 (tI_n (by omega)) (tI_n (by omega)) (by decide) (fun g21 => ?_) (fun g21 => ?_)
      · have hRe : liF i0.1 i0.2 (wkE i0 e0 fd).2.1 (i0.2 + 1) 0 (dr s0) = s2 := by first | exact hR | (rw [hR, liF, if_neg (by omega)])
        refine lv_aload_n hx hb d_Co_list_39 rfl (lv_at hl 1 rfl) ?_
        refine va_get (D := (dC, dI)) (ci := 4) (v := .ref h2) (C := R_Co) (T := F_Co) (N := 8) hx hb ht in_Co hown hK hP 0 rfl rfl 4 (by decide) (ht _ k_93) (fun _ h9 => h9) rfl d_Co_list_40 ?_
        refine rV (As := []) (rest := []) hx hb hml hown ht (c_Te_count l dC dI z h2 q2 c2 s2 r0 ) yv_Te_count k_366 (Nat.le_of_ble_eq_true rfl) (Nat.le_of_ble_eq_true rfl) hP hK hSS hS [7, 8] [4] rfl rfl 7 2 rfl rfl rfl hl rfl rfl (Nat.le_of_ble_eq_true rfl) (Nat.zero_le _) (Nat.zero_le _) d_Co_list_43 ?_
        rw [hRe]
        exact eUi hx hb hr hlocks hP hD hS [0, 1, 2, 3, 4, 5, 6, 7, 8] rfl rfl (by decide) d_Co_list_46 (rfl)
      · exfalso; omega
    | succ j ih =>
      intro a s2 ls H locs hfu hR hlen han hl hP hD hS
      have hz3 := lsz_le i0.1 i0.2 (wkE i0 e0 fd).2.1 a
      refine lv_iload_n hx hb d_Co_list_13 rfl (lv_at hl 0 rfl) ?_
      refine lv_aload_n hx hb d_Co_list_14 rfl (lv_at hl 1 rfl) ?_
      refine va_get (D := (dC, dI)) (ci := 4) (v := .ref h) (C := R_Co) (T := F_Co) (N := 8) hx hb ht in_Co hown hK hP 0 rfl rfl 0 (by decide) (ht _ k_89) (fun _ h9 => h9) rfl d_Co_list_15 ?_
      refine rV (As := []) (rest := [.int (nI a)]) hx hb hml hown ht (c_Im_count l dC dI z h q ca i0.1 i0.2 ) yv_Im_count k_118 (Nat.le_of_ble_eq_true rfl) (Nat.le_of_ble_eq_true rfl) hP hK hSS hS [1, 2] [0] rfl rfl 1 1 rfl rfl rfl hl rfl rfl (Nat.le_of_ble_eq_true rfl) (Nat.zero_le _) (Nat.zero_le _) d_Co_list_18 ?_
      refine z_icmp_ge (tgt := 39) hx hb d_Co_list_21 (tI_n (by omega)) (tI_n (by omega)) (by decide) (fun g21 => ?_) (fun g21 => ?_)
      · have hRe : liF i0.1 i0.2 (wkE i0 e0 fd).2.1 (i0.2 + 1) 0 (dr s0) = s2 := by first | exact hR | (rw [hR, liF, if_neg (by omega)])
        refine lv_aload_n hx hb d_Co_list_39 rfl (lv_at hl 1 rfl) ?_
        refine va_get (D := (dC, dI)) (ci := 4) (v := .ref h2) (C := R_Co) (T := F_Co) (N := 8) hx hb ht in_Co hown hK hP 0 rfl rfl 4 (by decide) (ht _ k_93) (fun _ h9 => h9) rfl d_Co_list_40 ?_
        refine rV (As := []) (rest := []) hx hb hml hown ht (c_Te_count l dC dI z h2 q2 c2 s2 r0 ) yv_Te_count k_366 (Nat.le_of_ble_eq_true rfl) (Nat.le_of_ble_eq_true rfl) hP hK hSS hS [7, 8] [4] rfl rfl 7 2 rfl rfl rfl hl rfl rfl (Nat.le_of_ble_eq_true rfl) (Nat.zero_le _) (Nat.zero_le _) d_Co_list_43 ?_
        rw [hRe]
        exact eUi hx hb hr hlocks hP hD hS [0, 1, 2, 3, 4, 5, 6, 7, 8] rfl rfl (by decide) d_Co_list_46 (rfl)
      · refine lv_iload_n hx hb d_Co_list_24 rfl (lv_at hl 0 rfl) ?_
        refine lv_iconst (v := nI 1) hx hb d_Co_list_25 (by decide) ?_
        refine lv_aload_n hx hb d_Co_list_26 rfl (lv_at hl 1 rfl) ?_
        refine lv_iload_n hx hb d_Co_list_27 rfl (lv_at hl 0 rfl) ?_
        refine uV (As := [.int (nI a)]) (rest := [.int (nI 1), .int (nI a)]) (wr := [(qe, .inl (ce, 16, .inl (iN e0.1)))]) hx hb hml hown ht (c_Co_listLine l dC dI z _ o h qe w h2 h3 qm e0 mc q ca i0 qf qi cf cz (wkE i0 e0 fd) q2 c2 s2 r0 a (by first | assumption | omega) (by first | assumption | omega) (by first | assumption | omega) (by first | assumption | omega)) yv_Co_listLine k_259 (Nat.le_of_ble_eq_true rfl) (Nat.le_of_ble_eq_true rfl) hP hK hSS hD hS hA [0, 1, 2, 4, 5, 6, 7, 8] [3] [0, 2, 3, 4] rfl rfl (by decide) rfl (by decide) (by decide) rfl 0 4 rfl rfl rfl hl rfl rfl (Nat.le_of_ble_eq_true rfl) (Nat.zero_le _) (Nat.zero_le _) d_Co_list_28 (fun H locs hP hD hS => ?_)
        have hP : va_P (dC, dI) classes [(qe, .inl (ce, 16, .inl (iN e0.1))), (o, .inr (4, [.ref h, .ref qe, .int (nI e0.2), .ref w, .ref h2, .ref h3, .ref qm, .int (nI mc)])), (h, .inr (1, [.ref q, .int (nI i0.2)])), (q, .inl (ca, 160, .inl (iN i0.1))), (w, .inr (3, [.ref qf, .ref qi, .int (nI i0.2), .int (nI ((wkE i0 e0 fd).2.2))])), (qf, .inl (cf, 160, .inl (iN ((wkE i0 e0 fd).1)))), (qi, .inl (cz, 160, .inl (zN ((wkE i0 e0 fd).2.1)))), (h2, .inr (2, [.ref q2, .int (nI ((ap s2 (lsL i0.1 i0.2 (wkE i0 e0 fd).2.1 a)).2)), .int (nI r0.1), .int (bI r0.2)])), (q2, .inl (c2, 2400, .inl (iN ((ap s2 (lsL i0.1 i0.2 (wkE i0 e0 fd).2.1 a)).1))))] H := hP
        have hD : va_D A [(qe, .inl (ce, 16, .inl (iN e0.1))), (o, .inr (4, [.ref h, .ref qe, .int (nI e0.2), .ref w, .ref h2, .ref h3, .ref qm, .int (nI mc)])), (h, .inr (1, [.ref q, .int (nI i0.2)])), (q, .inl (ca, 160, .inl (iN i0.1))), (w, .inr (3, [.ref qf, .ref qi, .int (nI i0.2), .int (nI ((wkE i0 e0 fd).2.2))])), (qf, .inl (cf, 160, .inl (iN ((wkE i0 e0 fd).1)))), (qi, .inl (cz, 160, .inl (zN ((wkE i0 e0 fd).2.1)))), (h2, .inr (2, [.ref q2, .int (nI ((ap s2 (lsL i0.1 i0.2 (wkE i0 e0 fd).2.1 a)).2)), .int (nI r0.1), .int (bI r0.2)])), (q2, .inl (c2, 2400, .inl (iN ((ap s2 (lsL i0.1 i0.2 (wkE i0 e0 fd).2.1 a)).1))))] := hD
        refine stk (st2 := [.int (nI (lsz i0.1 i0.2 (wkE i0 e0 fd).2.1 a)), .int (nI 1), .int (nI a)]) rfl ?_
        refine va_mmax hx hb (by rw [hml]; exact hl.1.symm) hown (ht _ k_252) (ht _ k_253) (ht _ k_8) (ht _ k_254) (Nat.le_of_ble_eq_true rfl) (Nat.le_of_ble_eq_true rfl) (Nat.zero_le _) (Nat.zero_le _) d_Co_list_31 ?_
        refine eqi (y := nI (max 1 (lsz i0.1 i0.2 (wkE i0 e0 fd).2.1 a))) (max_1 (by omega)) ?_
        refine nAdd hx hb d_Co_list_34 ?_
        refine lv_istore_n (lv' := [(1, .int (nI (a + (max 1 (lsz i0.1 i0.2 (wkE i0 e0 fd).2.1 a))))), (0, .ref o)]) hx hb d_Co_list_35 rfl hl (Nat.le_of_ble_eq_true rfl) rfl (fun ls hl => ?_)
        refine lv_goto (tgt := 13) hx hb d_Co_list_36 (by decide) ?_
        exact ih (a + max 1 (lsz i0.1 i0.2 (wkE i0 e0 fd).2.1 a)) (ap s2 (lsL i0.1 i0.2 (wkE i0 e0 fd).2.1 a)) _ _ _ (by omega) (by rw [hR, liF, if_pos (by omega)]) (by rw [ap_len]; have := lsL_len (m := (wkE i0 e0 fd).2.1) hb8 (show a < i0.2 by omega); omega) (by omega) (lv_sub hl [0, 1] rfl) (hP.sub [1, 2, 3, 0, 4, 5, 6, 7, 8] rfl) (hD.sub [1, 2, 3, 0, 4, 5, 6, 7, 8] (by decide) rfl) hS
  exact loop13 (i0.2 + 1) 0 (dr s0) _ _ _ (by omega) (rfl) (Nat.le_refl _) (by omega) (lv_sub hl [0, 1] rfl) (hP.sub [0, 1, 2, 3, 4, 5, 6, 7, 8] rfl) (hD.sub [0, 1, 2, 3, 4, 5, 6, 7, 8] (by decide) rfl) hS

set_option maxHeartbeats 4000000 in
set_option maxRecDepth 100000 in
theorem c_Co_assemble (l : Launch) (dC : Nat → ClassId) (dI : Nat → Nat → Nat) (z : zT) (sz : Nat) (o : Nat) (h : Nat) (qe : Nat) (w : Nat) (h2 : Nat) (h3 : Nat) (qm : Nat) (e0 : txT) (mc : Nat) (q3 : Nat) (c3 : ClassId) (x3 : Int32) (f0 : Nat → Int32) (q2 : Nat) (c2 : ClassId) (s0 : txT) (r0 : rdT) (cd : ClassId) (md : Nat → Int32) (hs : s0.2 ≤ 2400) (ht8 : ∀ i, s0.1 i < 256) (hm : mc ≤ 160) : MU l y_Co_assemble b_Co_assemble 1 (some .int) 8 175 (dC, dI) z [.ref o] [(o, .inr (4, [.ref h, .ref qe, .int (nI e0.2), .ref w, .ref h2, .ref h3, .ref qm, .int (nI mc)])), (h3, .inr (0, [.ref q3, .int x3])), (q3, .inl (c3, 160, .inl f0)), (h2, .inr (2, [.ref q2, .int (nI s0.2), .int (nI r0.1), .int (bI r0.2)])), (q2, .inl (c2, 2400, .inl (iN s0.1))), (qm, .inl (cd, 160, .inl md))] [(c3, .int), (c2, .char), (cd, .int)] sz (some (.int (iI (asR (rd s0.1 s0.2 f0))))) [(o, .inr (4, [.ref h, .ref qe, .int (nI e0.2), .ref w, .ref h2, .ref h3, .ref qm, .int (nI (asC (rd s0.1 s0.2 f0) mc))])), (h3, .inr (0, [.ref q3, .int (nI ((rd s0.1 s0.2 f0).2.2))])), (q3, .inl (c3, 160, .inl ((rd s0.1 s0.2 f0).2.1))), (h2, .inr (2, [.ref q2, .int (nI s0.2), .int (nI ((rd s0.1 s0.2 f0).1.1)), .int (bI ((rd s0.1 s0.2 f0).1.2))])), (q2, .inl (c2, 2400, .inl (iN s0.1))), (qm, .inl (cd, 160, .inl (asM (rd s0.1 s0.2 f0) md)))] := by
  have hcnt := rd_len s0.1 s0.2 f0
  refine metU (by decide) (Nat.le_of_ble_eq_true rfl) ?_
  intro p e s m below meth c ls A hx hb hr hlocks hml hown ht hl hP hK hSS hD hS hA
  have hl : lv_has ls 1 [(0, .ref o)] := hl
  refine lv_aload_n hx hb d_Co_assemble_0 rfl (lv_at hl 0 rfl) ?_
  refine va_get (D := (dC, dI)) (ci := 4) (v := .ref h3) (C := R_Co) (T := F_Co) (N := 8) hx hb ht in_Co hown hK hP 0 rfl rfl 5 (by decide) (ht _ k_94) (fun _ h9 => h9) rfl d_Co_assemble_1 ?_
  refine lv_aload_n hx hb d_Co_assemble_4 rfl (lv_at hl 0 rfl) ?_
  refine va_get (D := (dC, dI)) (ci := 4) (v := .ref h2) (C := R_Co) (T := F_Co) (N := 8) hx hb ht in_Co hown hK hP 0 rfl rfl 4 (by decide) (ht _ k_93) (fun _ h9 => h9) rfl d_Co_assemble_5 ?_
  refine uV (As := [.ref h2]) (rest := []) (wr := [(o, .inr (4, [.ref h, .ref qe, .int (nI e0.2), .ref w, .ref h2, .ref h3, .ref qm, .int (nI mc)])), (qm, .inl (cd, 160, .inl md))]) hx hb hml hown ht (c_As_read l dC dI z _ h3 q3 c3 x3 f0 h2 q2 c2 s0 r0 (by first | assumption | omega) (by first | assumption | omega)) yv_As_read k_392 (Nat.le_of_ble_eq_true rfl) (Nat.le_of_ble_eq_true rfl) hP hK hSS hD hS hA [1, 2, 3, 4] [0, 5] [0, 1] rfl rfl (by decide) rfl (by decide) (by decide) rfl 1 0 rfl rfl rfl hl rfl rfl (Nat.le_of_ble_eq_true rfl) (Nat.zero_le _) (Nat.zero_le _) d_Co_assemble_8 (fun H locs hP hD hS => ?_)
  have hP : va_P (dC, dI) classes [(o, .inr (4, [.ref h, .ref qe, .int (nI e0.2), .ref w, .ref h2, .ref h3, .ref qm, .int (nI mc)])), (qm, .inl (cd, 160, .inl md)), (h3, .inr (0, [.ref q3, .int (nI ((rd s0.1 s0.2 f0).2.2))])), (q3, .inl (c3, 160, .inl ((rd s0.1 s0.2 f0).2.1))), (h2, .inr (2, [.ref q2, .int (nI s0.2), .int (nI ((rd s0.1 s0.2 f0).1.1)), .int (bI ((rd s0.1 s0.2 f0).1.2))])), (q2, .inl (c2, 2400, .inl (iN s0.1)))] H := hP
  have hD : va_D A [(o, .inr (4, [.ref h, .ref qe, .int (nI e0.2), .ref w, .ref h2, .ref h3, .ref qm, .int (nI mc)])), (qm, .inl (cd, 160, .inl md)), (h3, .inr (0, [.ref q3, .int (nI ((rd s0.1 s0.2 f0).2.2))])), (q3, .inl (c3, 160, .inl ((rd s0.1 s0.2 f0).2.1))), (h2, .inr (2, [.ref q2, .int (nI s0.2), .int (nI ((rd s0.1 s0.2 f0).1.1)), .int (bI ((rd s0.1 s0.2 f0).1.2))])), (q2, .inl (c2, 2400, .inl (iN s0.1)))] := hD
  refine stk (st2 := [.int (bI ((rd s0.1 s0.2 f0).1.2))]) rfl ?_
  refine b_if_ne (tgt := 16) hx hb d_Co_assemble_11 (by decide) (fun g11 => ?_) (fun g11 => ?_)
  · refine lv_aload_n hx hb d_Co_assemble_16 rfl (lv_at hl 0 rfl) ?_
    refine va_get (D := (dC, dI)) (ci := 4) (v := .ref h3) (C := R_Co) (T := F_Co) (N := 8) hx hb ht in_Co hown hK hP 0 rfl rfl 5 (by decide) (ht _ k_94) (fun _ h9 => h9) rfl d_Co_assemble_17 ?_
    refine rV (As := []) (rest := []) hx hb hml hown ht (c_As_count l dC dI z h3 q3 c3 ((rd s0.1 s0.2 f0).2) ) yv_As_count k_469 (Nat.le_of_ble_eq_true rfl) (Nat.le_of_ble_eq_true rfl) hP hK hSS hS [2, 3] [0] rfl rfl 2 0 rfl rfl rfl hl rfl rfl (Nat.le_of_ble_eq_true rfl) (Nat.zero_le _) (Nat.zero_le _) d_Co_assemble_20 ?_
    refine lv_sipush (v := nI 160) hx hb d_Co_assemble_23 (by decide) ?_
    refine z_icmp_le (tgt := 32) hx hb d_Co_assemble_26 (tI_n (by omega)) (tI_n (by omega)) (by decide) (fun g26 => ?_) (fun g26 => ?_)
    · refine lv_aload_n hx hb d_Co_assemble_32 rfl (lv_at hl 0 rfl) ?_
      refine lv_aload_n hx hb d_Co_assemble_33 rfl (lv_at hl 0 rfl) ?_
      refine va_get (D := (dC, dI)) (ci := 4) (v := .ref h3) (C := R_Co) (T := F_Co) (N := 8) hx hb ht in_Co hown hK hP 0 rfl rfl 5 (by decide) (ht _ k_94) (fun _ h9 => h9) rfl d_Co_assemble_34 ?_
      refine rV (As := []) (rest := [.ref o]) hx hb hml hown ht (c_As_count l dC dI z h3 q3 c3 ((rd s0.1 s0.2 f0).2) ) yv_As_count k_469 (Nat.le_of_ble_eq_true rfl) (Nat.le_of_ble_eq_true rfl) hP hK hSS hS [2, 3] [0] rfl rfl 2 0 rfl rfl rfl hl rfl rfl (Nat.le_of_ble_eq_true rfl) (Nat.zero_le _) (Nat.zero_le _) d_Co_assemble_37 ?_
      refine va_put (D := (dC, dI)) (ci := 4) (v := .int (nI (((rd s0.1 s0.2 f0).2).2))) (ty := .int) (C := R_Co) (T := F_Co) (N := 8) hx hb ht in_Co t_Co t_Co_ok n_Co hown hK hP hD hS 0 rfl rfl 7 (by decide) (ht _ k_96) (fun _ h9 => h9) rfl (by decide +kernel) rfl rfl (Nat.le_of_ble_eq_true rfl) d_Co_assemble_40 (fun H locs hP hD hS => ?_)
      have hP : va_P (dC, dI) classes [(o, .inr (4, [.ref h, .ref qe, .int (nI e0.2), .ref w, .ref h2, .ref h3, .ref qm, .int (nI (((rd s0.1 s0.2 f0).2).2))])), (qm, .inl (cd, 160, .inl md)), (h3, .inr (0, [.ref q3, .int (nI ((rd s0.1 s0.2 f0).2.2))])), (q3, .inl (c3, 160, .inl ((rd s0.1 s0.2 f0).2.1))), (h2, .inr (2, [.ref q2, .int (nI s0.2), .int (nI ((rd s0.1 s0.2 f0).1.1)), .int (bI ((rd s0.1 s0.2 f0).1.2))])), (q2, .inl (c2, 2400, .inl (iN s0.1)))] H := hP
      have hD : va_D A [(o, .inr (4, [.ref h, .ref qe, .int (nI e0.2), .ref w, .ref h2, .ref h3, .ref qm, .int (nI (((rd s0.1 s0.2 f0).2).2))])), (qm, .inl (cd, 160, .inl md)), (h3, .inr (0, [.ref q3, .int (nI ((rd s0.1 s0.2 f0).2.2))])), (q3, .inl (c3, 160, .inl ((rd s0.1 s0.2 f0).2.1))), (h2, .inr (2, [.ref q2, .int (nI s0.2), .int (nI ((rd s0.1 s0.2 f0).1.1)), .int (bI ((rd s0.1 s0.2 f0).1.2))])), (q2, .inl (c2, 2400, .inl (iN s0.1)))] := hD
      refine lv_aload_n hx hb d_Co_assemble_43 rfl (lv_at hl 0 rfl) ?_
      refine va_get (D := (dC, dI)) (ci := 4) (v := .ref h3) (C := R_Co) (T := F_Co) (N := 8) hx hb ht in_Co hown hK hP 0 rfl rfl 5 (by decide) (ht _ k_94) (fun _ h9 => h9) rfl d_Co_assemble_44 ?_
      refine lv_aload_n hx hb d_Co_assemble_47 rfl (lv_at hl 0 rfl) ?_
      refine va_get (D := (dC, dI)) (ci := 4) (v := .ref qm) (C := R_Co) (T := F_Co) (N := 8) hx hb ht in_Co hown hK hP 0 rfl rfl 6 (by decide) (ht _ k_95) (fun _ h9 => h9) rfl d_Co_assemble_48 ?_
      refine uV (As := [.ref qm]) (rest := []) (wr := [(o, .inr (4, [.ref h, .ref qe, .int (nI e0.2), .ref w, .ref h2, .ref h3, .ref qm, .int (nI (((rd s0.1 s0.2 f0).2).2))])), (h2, .inr (2, [.ref q2, .int (nI s0.2), .int (nI ((rd s0.1 s0.2 f0).1.1)), .int (bI ((rd s0.1 s0.2 f0).1.2))])), (q2, .inl (c2, 2400, .inl (iN s0.1)))]) hx hb hml hown ht (c_As_copyTo l dC dI z _ h3 q3 c3 ((rd s0.1 s0.2 f0).2) qm cd md (by first | assumption | omega)) yv_As_copyTo k_473 (Nat.le_of_ble_eq_true rfl) (Nat.le_of_ble_eq_true rfl) hP hK hSS hD hS hA [2, 3, 1] [0, 4, 5] [0, 2] rfl rfl (by decide) rfl (by decide) (by decide) rfl 2 0 rfl rfl rfl hl rfl rfl (Nat.le_of_ble_eq_true rfl) (Nat.zero_le _) (Nat.zero_le _) d_Co_assemble_51 (fun H locs hP hD hS => ?_)
      have hP : va_P (dC, dI) classes [(o, .inr (4, [.ref h, .ref qe, .int (nI e0.2), .ref w, .ref h2, .ref h3, .ref qm, .int (nI (((rd s0.1 s0.2 f0).2).2))])), (h2, .inr (2, [.ref q2, .int (nI s0.2), .int (nI ((rd s0.1 s0.2 f0).1.1)), .int (bI ((rd s0.1 s0.2 f0).1.2))])), (q2, .inl (c2, 2400, .inl (iN s0.1))), (h3, .inr (0, [.ref q3, .int (nI (((rd s0.1 s0.2 f0).2).2))])), (q3, .inl (c3, 160, .inl (((rd s0.1 s0.2 f0).2).1))), (qm, .inl (cd, 160, .inl (va_cpy ((rd s0.1 s0.2 f0).2).1 md 0 0 ((rd s0.1 s0.2 f0).2).2)))] H := hP
      have hD : va_D A [(o, .inr (4, [.ref h, .ref qe, .int (nI e0.2), .ref w, .ref h2, .ref h3, .ref qm, .int (nI (((rd s0.1 s0.2 f0).2).2))])), (h2, .inr (2, [.ref q2, .int (nI s0.2), .int (nI ((rd s0.1 s0.2 f0).1.1)), .int (bI ((rd s0.1 s0.2 f0).1.2))])), (q2, .inl (c2, 2400, .inl (iN s0.1))), (h3, .inr (0, [.ref q3, .int (nI (((rd s0.1 s0.2 f0).2).2))])), (q3, .inl (c3, 160, .inl (((rd s0.1 s0.2 f0).2).1))), (qm, .inl (cd, 160, .inl (va_cpy ((rd s0.1 s0.2 f0).2).1 md 0 0 ((rd s0.1 s0.2 f0).2).2)))] := hD
      refine stk (st2 := []) rfl ?_
      refine lv_aload_n hx hb d_Co_assemble_54 rfl (lv_at hl 0 rfl) ?_
      refine va_get (D := (dC, dI)) (ci := 4) (v := .int (nI (((rd s0.1 s0.2 f0).2).2))) (C := R_Co) (T := F_Co) (N := 8) hx hb ht in_Co hown hK hP 0 rfl rfl 7 (by decide) (ht _ k_96) (fun _ h9 => h9) rfl d_Co_assemble_55 ?_
      rw [asR, if_pos g11, if_neg (by omega), asM, asC, if_pos ⟨g11, by omega⟩, if_pos ⟨g11, by omega⟩]
      exact eUi hx hb hr hlocks hP hD hS [0, 3, 4, 1, 2, 5] rfl rfl (by decide) d_Co_assemble_58 (by rw [nI_iI])
    · refine lv_bipush (v := iI (-2)) hx hb d_Co_assemble_29 (by decide) ?_
      rw [asM, asC, if_neg (by first | omega | (intro q; rw [g11] at q; cases q.1)), if_neg (by first | omega | (intro q; rw [g11] at q; cases q.1))]
      exact eUi hx hb hr hlocks hP hD hS [0, 2, 3, 4, 5, 1] rfl rfl (by decide) d_Co_assemble_31 (by rw [asR, if_pos g11, if_pos (by omega)])
  · refine lv_iconst (v := iI (-1)) hx hb d_Co_assemble_14 (by decide) ?_
    rw [asM, asC, if_neg (by first | omega | (intro q; rw [g11] at q; cases q.1)), if_neg (by first | omega | (intro q; rw [g11] at q; cases q.1))]
    exact eUi hx hb hr hlocks hP hD hS [0, 2, 3, 4, 5, 1] rfl rfl (by decide) d_Co_assemble_15 (by rw [asR, if_neg (by rw [g11]; decide)])
end
