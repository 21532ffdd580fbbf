section
-- ===== PART A: goes FIRST, ahead of the names: the tables' words, and 'selects' of the private methods out of them =====
/-- a private method of a class that the tables say can be made, by its rows of tables_1 -/
def lw_okq (q : MethodName × Nat) : Prop := (q.1.cls ≠ "java/lang/invoke/MethodHandle" ∧ q.1.cls ≠ "java/lang/invoke/VarHandle") ∧ Cond.instantiable q.1.cls q.2 ∈ tables_1 ∧ Cond.privateMethod q.1 ∈ tables_1 ∧ Cond.instanceMethod q.1 ∈ tables_1
theorem lw_p0 : lw_okq (⟨"ImageGate", "judge", "(I)I"⟩, 5) := ⟨⟨by decide +kernel, by decide +kernel⟩, List.mem_of_getElem? (i := 13) (by decide +kernel), List.mem_of_getElem? (i := 252) (by decide +kernel), List.mem_of_getElem? (i := 253) (by decide +kernel)⟩
theorem lw_p1 : lw_okq (⟨"ImageGate$Plan", "readHeader", "(LImageGate$FileBytes;I)Z"⟩, 5) := ⟨⟨by decide +kernel, by decide +kernel⟩, List.mem_of_getElem? (i := 56) (by decide +kernel), List.mem_of_getElem? (i := 289) (by decide +kernel), List.mem_of_getElem? (i := 290) (by decide +kernel)⟩
theorem lw_p2 : lw_okq (⟨"ImageGate$Image", "layPart", "(LImageGate$Part;LImageGate$FileBytes;)V"⟩, 6) := ⟨⟨by decide +kernel, by decide +kernel⟩, List.mem_of_getElem? (i := 111) (by decide +kernel), List.mem_of_getElem? (i := 310) (by decide +kernel), List.mem_of_getElem? (i := 311) (by decide +kernel)⟩
theorem lw_p3 : lw_okq (⟨"ImageGate$Image", "takePage", "(II)LImageGate$Page;"⟩, 6) := ⟨⟨by decide +kernel, by decide +kernel⟩, List.mem_of_getElem? (i := 111) (by decide +kernel), List.mem_of_getElem? (i := 314) (by decide +kernel), List.mem_of_getElem? (i := 315) (by decide +kernel)⟩
theorem lw_p4 : lw_okq (⟨"ImageGate$Image", "layStack", "(LImageGate$Page;LImageGate$Arguments;)V"⟩, 6) := ⟨⟨by decide +kernel, by decide +kernel⟩, List.mem_of_getElem? (i := 111) (by decide +kernel), List.mem_of_getElem? (i := 333) (by decide +kernel), List.mem_of_getElem? (i := 334) (by decide +kernel)⟩
theorem lw_p5 : lw_okq (⟨"ImageGateModel", "wrong", "(I)I"⟩, 28) := ⟨⟨by decide +kernel, by decide +kernel⟩, List.mem_of_getElem? (i := 372) (by decide +kernel), List.mem_of_getElem? (i := 502) (by decide +kernel), List.mem_of_getElem? (i := 503) (by decide +kernel)⟩
theorem lw_p6 : lw_okq (⟨"ImageGateModel", "isMarked", "()Z"⟩, 28) := ⟨⟨by decide +kernel, by decide +kernel⟩, List.mem_of_getElem? (i := 372) (by decide +kernel), List.mem_of_getElem? (i := 506) (by decide +kernel), List.mem_of_getElem? (i := 507) (by decide +kernel)⟩
theorem lw_p7 : lw_okq (⟨"ImageGateModel", "number", "(JI)J"⟩, 28) := ⟨⟨by decide +kernel, by decide +kernel⟩, List.mem_of_getElem? (i := 372) (by decide +kernel), List.mem_of_getElem? (i := 510) (by decide +kernel), List.mem_of_getElem? (i := 511) (by decide +kernel)⟩
theorem lw_p8 : lw_okq (⟨"ImageGateModel", "isKind", "()Z"⟩, 28) := ⟨⟨by decide +kernel, by decide +kernel⟩, List.mem_of_getElem? (i := 372) (by decide +kernel), List.mem_of_getElem? (i := 518) (by decide +kernel), List.mem_of_getElem? (i := 519) (by decide +kernel)⟩
theorem lw_p9 : lw_okq (⟨"ImageGateModel", "header", "(J)Z"⟩, 28) := ⟨⟨by decide +kernel, by decide +kernel⟩, List.mem_of_getElem? (i := 372) (by decide +kernel), List.mem_of_getElem? (i := 532) (by decide +kernel), List.mem_of_getElem? (i := 533) (by decide +kernel)⟩
theorem lw_p10 : lw_okq (⟨"ImageGateModel", "wanted", "()I"⟩, 28) := ⟨⟨by decide +kernel, by decide +kernel⟩, List.mem_of_getElem? (i := 372) (by decide +kernel), List.mem_of_getElem? (i := 544) (by decide +kernel), List.mem_of_getElem? (i := 545) (by decide +kernel)⟩
theorem lw_p11 : lw_okq (⟨"ImageGateModel", "laid", "(I)I"⟩, 28) := ⟨⟨by decide +kernel, by decide +kernel⟩, List.mem_of_getElem? (i := 372) (by decide +kernel), List.mem_of_getElem? (i := 548) (by decide +kernel), List.mem_of_getElem? (i := 549) (by decide +kernel)⟩
theorem lw_p12 : lw_okq (⟨"ImageGateModel", "part", "(I)I"⟩, 28) := ⟨⟨by decide +kernel, by decide +kernel⟩, List.mem_of_getElem? (i := 372) (by decide +kernel), List.mem_of_getElem? (i := 564) (by decide +kernel), List.mem_of_getElem? (i := 565) (by decide +kernel)⟩
theorem lw_p13 : lw_okq (⟨"ImageGateModel", "near", "(I)I"⟩, 28) := ⟨⟨by decide +kernel, by decide +kernel⟩, List.mem_of_getElem? (i := 372) (by decide +kernel), List.mem_of_getElem? (i := 568) (by decide +kernel), List.mem_of_getElem? (i := 569) (by decide +kernel)⟩
def lw_privs_1 : List (MethodName × Nat) := [(⟨"ImageGate", "judge", "(I)I"⟩, 5), (⟨"ImageGate$Plan", "readHeader", "(LImageGate$FileBytes;I)Z"⟩, 5), (⟨"ImageGate$Image", "layPart", "(LImageGate$Part;LImageGate$FileBytes;)V"⟩, 6), (⟨"ImageGate$Image", "takePage", "(II)LImageGate$Page;"⟩, 6), (⟨"ImageGate$Image", "layStack", "(LImageGate$Page;LImageGate$Arguments;)V"⟩, 6), (⟨"ImageGateModel", "wrong", "(I)I"⟩, 28), (⟨"ImageGateModel", "isMarked", "()Z"⟩, 28), (⟨"ImageGateModel", "number", "(JI)J"⟩, 28), (⟨"ImageGateModel", "isKind", "()Z"⟩, 28), (⟨"ImageGateModel", "header", "(J)Z"⟩, 28), (⟨"ImageGateModel", "wanted", "()I"⟩, 28), (⟨"ImageGateModel", "laid", "(I)I"⟩, 28), (⟨"ImageGateModel", "part", "(I)I"⟩, 28), (⟨"ImageGateModel", "near", "(I)I"⟩, 28)]
theorem lw_r1 : ∀ q ∈ lw_privs_1, lw_okq q := List.forall_mem_cons.mpr ⟨lw_p0, List.forall_mem_cons.mpr ⟨lw_p1, List.forall_mem_cons.mpr ⟨lw_p2, List.forall_mem_cons.mpr ⟨lw_p3, List.forall_mem_cons.mpr ⟨lw_p4, List.forall_mem_cons.mpr ⟨lw_p5, List.forall_mem_cons.mpr ⟨lw_p6, List.forall_mem_cons.mpr ⟨lw_p7, List.forall_mem_cons.mpr ⟨lw_p8, List.forall_mem_cons.mpr ⟨lw_p9, List.forall_mem_cons.mpr ⟨lw_p10, List.forall_mem_cons.mpr ⟨lw_p11, List.forall_mem_cons.mpr ⟨lw_p12, List.forall_mem_cons.mpr ⟨lw_p13, fun _ h => absurd h List.not_mem_nil⟩⟩⟩⟩⟩⟩⟩⟩⟩⟩⟩⟩⟩⟩
def lw_privs : List (MethodName × Nat) := lw_privs_1
def lw_tbl : List Cond := k2_sels lw_privs ++ tables_1
theorem lw_privs_ok : ∀ q ∈ lw_privs, lw_okq q := lw_r1
end
section
/-! NAMES, by my program wip/gen/names.py out of JAVAP.txt and the tables: classes, methods, the words, one list for all -/
def R_AG : String := "ImageGate$Arguments"
def T_AG : u_T := fun k => match k with
  | 0 => ("ImageGate$Arguments", "row", "[B", true)
  | 1 => ("ImageGate$Arguments", "sizes", "[I", true)
  | _ => ("ImageGate$Arguments", "count", "I", false)
def t_AG : Nat → FieldType := fun k => match k with
  | 0 => (.array .byte)
  | 1 => (.array .int)
  | _ => .int
theorem n_AG : ∀ a, a < 3 → ∀ b, b < 3 → a ≠ b → (T_AG a).2.1 ≠ (T_AG b).2.1 := by decide +kernel
theorem k_AG : ∀ k, k < 3 → parseFieldDescriptor (T_AG k).2.2.1 = some (t_AG k) := by decide +kernel
def R_FB : String := "ImageGate$FileBytes"
def T_FB : u_T := fun k => match k with
  | 0 => ("ImageGate$FileBytes", "row", "[B", true)
  | _ => ("ImageGate$FileBytes", "count", "I", false)
def t_FB : Nat → FieldType := fun k => match k with
  | 0 => (.array .byte)
  | _ => .int
theorem n_FB : ∀ a, a < 2 → ∀ b, b < 2 → a ≠ b → (T_FB a).2.1 ≠ (T_FB b).2.1 := by decide +kernel
theorem k_FB : ∀ k, k < 2 → parseFieldDescriptor (T_FB k).2.2.1 = some (t_FB k) := by decide +kernel
def R_IM : String := "ImageGate$Image"
def T_IM : u_T := fun k => match k with
  | 0 => ("ImageGate$Image", "pages", "[LImageGate$Page;", true)
  | 1 => ("ImageGate$Image", "count", "I", false)
  | 2 => ("ImageGate$Image", "entry", "I", false)
  | 3 => ("ImageGate$Image", "stackPointer", "I", false)
  | 4 => ("ImageGate$Image", "size", "I", false)
  | _ => ("ImageGate$Image", "argumentCount", "I", false)
def t_IM : Nat → FieldType := fun k => match k with
  | 0 => (.array (.object "ImageGate$Page"))
  | 1 => .int
  | 2 => .int
  | 3 => .int
  | 4 => .int
  | _ => .int
theorem n_IM : ∀ a, a < 6 → ∀ b, b < 6 → a ≠ b → (T_IM a).2.1 ≠ (T_IM b).2.1 := by decide +kernel
theorem k_IM : ∀ k, k < 6 → parseFieldDescriptor (T_IM k).2.2.1 = some (t_IM k) := by decide +kernel
def R_PG : String := "ImageGate$Page"
def T_PG : u_T := fun k => match k with
  | 0 => ("ImageGate$Page", "bytes", "[B", true)
  | 1 => ("ImageGate$Page", "start", "I", false)
  | _ => ("ImageGate$Page", "rights", "I", false)
def t_PG : Nat → FieldType := fun k => match k with
  | 0 => (.array .byte)
  | 1 => .int
  | _ => .int
theorem n_PG : ∀ a, a < 3 → ∀ b, b < 3 → a ≠ b → (T_PG a).2.1 ≠ (T_PG b).2.1 := by decide +kernel
theorem k_PG : ∀ k, k < 3 → parseFieldDescriptor (T_PG k).2.2.1 = some (t_PG k) := by decide +kernel
def R_PT : String := "ImageGate$Part"
def T_PT : u_T := fun k => match k with
  | 0 => ("ImageGate$Part", "from", "I", false)
  | 1 => ("ImageGate$Part", "bytes", "I", false)
  | 2 => ("ImageGate$Part", "address", "I", false)
  | 3 => ("ImageGate$Part", "pages", "I", false)
  | _ => ("ImageGate$Part", "rights", "I", false)
def t_PT : Nat → FieldType := fun k => match k with
  | 0 => .int
  | 1 => .int
  | 2 => .int
  | 3 => .int
  | _ => .int
theorem n_PT : ∀ a, a < 5 → ∀ b, b < 5 → a ≠ b → (T_PT a).2.1 ≠ (T_PT b).2.1 := by decide +kernel
theorem k_PT : ∀ k, k < 5 → parseFieldDescriptor (T_PT k).2.2.1 = some (t_PT k) := by decide +kernel
def R_PL : String := "ImageGate$Plan"
def T_PL : u_T := fun k => match k with
  | 0 => ("ImageGate$Plan", "parts", "[LImageGate$Part;", true)
  | 1 => ("ImageGate$Plan", "count", "I", false)
  | 2 => ("ImageGate$Plan", "entry", "I", false)
  | 3 => ("ImageGate$Plan", "top", "I", false)
  | _ => ("ImageGate$Plan", "pages", "I", false)
def t_PL : Nat → FieldType := fun k => match k with
  | 0 => (.array (.object "ImageGate$Part"))
  | 1 => .int
  | 2 => .int
  | 3 => .int
  | _ => .int
theorem n_PL : ∀ a, a < 5 → ∀ b, b < 5 → a ≠ b → (T_PL a).2.1 ≠ (T_PL b).2.1 := by decide +kernel
theorem k_PL : ∀ k, k < 5 → parseFieldDescriptor (T_PL k).2.2.1 = some (t_PL k) := by decide +kernel
def R_GT : String := "ImageGate"
def T_GT : u_T := fun k => match k with
  | 0 => ("ImageGate", "file", "LImageGate$FileBytes;", true)
  | 1 => ("ImageGate", "arguments", "LImageGate$Arguments;", true)
  | 2 => ("ImageGate", "plan", "LImageGate$Plan;", true)
  | 3 => ("ImageGate", "image", "LImageGate$Image;", true)
  | _ => ("ImageGate", "refusal", "I", false)
def t_GT : Nat → FieldType := fun k => match k with
  | 0 => (.object "ImageGate$FileBytes")
  | 1 => (.object "ImageGate$Arguments")
  | 2 => (.object "ImageGate$Plan")
  | 3 => (.object "ImageGate$Image")
  | _ => .int
theorem n_GT : ∀ a, a < 5 → ∀ b, b < 5 → a ≠ b → (T_GT a).2.1 ≠ (T_GT b).2.1 := by decide +kernel
theorem k_GT : ∀ k, k < 5 → parseFieldDescriptor (T_GT k).2.2.1 = some (t_GT k) := by decide +kernel
def R_MD : String := "ImageGateModel"
def T_MD : u_T := fun k => match k with
  | 0 => ("ImageGateModel", "thrown", "I", false)
  | 1 => ("ImageGateModel", "size", "I", false)
  | 2 => ("ImageGateModel", "file", "[B", true)
  | 3 => ("ImageGateModel", "arguments", "I", false)
  | 4 => ("ImageGateModel", "lengths", "[I", true)
  | 5 => ("ImageGateModel", "letters", "[B", true)
  | 6 => ("ImageGateModel", "why", "I", false)
  | 7 => ("ImageGateModel", "found", "I", false)
  | 8 => ("ImageGateModel", "end", "J", false)
  | 9 => ("ImageGateModel", "foundFrom", "[I", true)
  | 10 => ("ImageGateModel", "foundAddress", "[I", true)
  | 11 => ("ImageGateModel", "foundBytes", "[I", true)
  | 12 => ("ImageGateModel", "foundSpan", "[I", true)
  | 13 => ("ImageGateModel", "foundFlags", "[I", true)
  | 14 => ("ImageGateModel", "foundStack", "[B", true)
  | 15 => ("ImageGateModel", "pages", "I", false)
  | 16 => ("ImageGateModel", "entry", "I", false)
  | 17 => ("ImageGateModel", "stackPointer", "I", false)
  | 18 => ("ImageGateModel", "top", "I", false)
  | 19 => ("ImageGateModel", "given", "I", false)
  | 20 => ("ImageGateModel", "parts", "I", false)
  | 21 => ("ImageGateModel", "taken", "[B", true)
  | 22 => ("ImageGateModel", "from", "[I", true)
  | 23 => ("ImageGateModel", "address", "[I", true)
  | 24 => ("ImageGateModel", "bytes", "[I", true)
  | 25 => ("ImageGateModel", "span", "[I", true)
  | 26 => ("ImageGateModel", "flags", "[I", true)
  | _ => ("ImageGateModel", "stack", "[B", true)
def t_MD : Nat → FieldType := fun k => match k with
  | 0 => .int
  | 1 => .int
  | 2 => (.array .byte)
  | 3 => .int
  | 4 => (.array .int)
  | 5 => (.array .byte)
  | 6 => .int
  | 7 => .int
  | 8 => .long
  | 9 => (.array .int)
  | 10 => (.array .int)
  | 11 => (.array .int)
  | 12 => (.array .int)
  | 13 => (.array .int)
  | 14 => (.array .byte)
  | 15 => .int
  | 16 => .int
  | 17 => .int
  | 18 => .int
  | 19 => .int
  | 20 => .int
  | 21 => (.array .byte)
  | 22 => (.array .int)
  | 23 => (.array .int)
  | 24 => (.array .int)
  | 25 => (.array .int)
  | 26 => (.array .int)
  | _ => (.array .byte)
theorem n_MD : ∀ a, a < 28 → ∀ b, b < 28 → a ≠ b → (T_MD a).2.1 ≠ (T_MD b).2.1 := by decide +kernel
theorem k_MD : ∀ k, k < 28 → parseFieldDescriptor (T_MD k).2.2.1 = some (t_MD k) := by decide +kernel
def R_AR : String := "java/util/Arrays"
abbrev vwCl : List vw_C := [(R_AG, T_AG, 3), (R_FB, T_FB, 2), (R_IM, T_IM, 6), (R_PG, T_PG, 3), (R_PT, T_PT, 5), (R_PL, T_PL, 5), (R_GT, T_GT, 5), (R_MD, T_MD, 28)]
abbrev ciGate : Nat := 6
abbrev ciFile : Nat := 1
abbrev ciArgs : Nat := 0
abbrev ciPlan : Nat := 5
abbrev ciImage : Nat := 2
abbrev ciPart : Nat := 4
abbrev ciPage : Nat := 3
abbrev ciModel : Nat := 7
/-- the words that a method keeps: those of the tables that stay true over a call -/
def T0 : List Cond := lw_tbl.filter goodWord
theorem mT {w : Cond} (i : Nat) (h : lw_tbl[i]? = some w) (hg : goodWord w = true) : w ∈ T0 := List.mem_filter.mpr ⟨List.mem_of_getElem? h, hg⟩
theorem gT0 : GoodIn T0 T0 := fun w h => ⟨h, good_of_word (List.mem_filter.mp h).2⟩
abbrev b_GT_init : ByteArray := prog_1_method_1_code
def y_GT_init : MethodName := ⟨R_GT, "<init>", "()V"⟩
def w_GT_init : List Cond := .code y_GT_init b_GT_init 1 none :: T0
abbrev b_FB_init : ByteArray := prog_3_method_1_code
def y_FB_init : MethodName := ⟨R_FB, "<init>", "()V"⟩
def w_FB_init : List Cond := .code y_FB_init b_FB_init 1 none :: T0
abbrev b_AG_init : ByteArray := prog_2_method_1_code
def y_AG_init : MethodName := ⟨R_AG, "<init>", "()V"⟩
def w_AG_init : List Cond := .code y_AG_init b_AG_init 1 none :: T0
abbrev b_PL_init : ByteArray := prog_7_method_1_code
def y_PL_init : MethodName := ⟨R_PL, "<init>", "()V"⟩
def w_PL_init : List Cond := .code y_PL_init b_PL_init 2 none :: T0
abbrev b_PT_init : ByteArray := prog_6_method_1_code
def y_PT_init : MethodName := ⟨R_PT, "<init>", "()V"⟩
def w_PT_init : List Cond := .code y_PT_init b_PT_init 1 none :: T0
abbrev b_IM_init : ByteArray := prog_4_method_1_code
def y_IM_init : MethodName := ⟨R_IM, "<init>", "()V"⟩
def w_IM_init : List Cond := .code y_IM_init b_IM_init 2 none :: T0
abbrev b_PG_init : ByteArray := prog_5_method_1_code
def y_PG_init : MethodName := ⟨R_PG, "<init>", "()V"⟩
def w_PG_init : List Cond := .code y_PG_init b_PG_init 1 none :: T0
abbrev b_GT_feed : ByteArray := prog_1_method_2_code
def y_GT_feed : MethodName := ⟨R_GT, "feed", "(IIIII)Z"⟩
def w_GT_feed : List Cond := .code y_GT_feed b_GT_feed 6 (some .boolean) :: T0
abbrev b_FB_hasRoom : ByteArray := prog_3_method_2_code
def y_FB_hasRoom : MethodName := ⟨R_FB, "hasRoom", "(I)Z"⟩
def w_FB_hasRoom : List Cond := .code y_FB_hasRoom b_FB_hasRoom 2 (some .boolean) :: T0
abbrev b_FB_append : ByteArray := prog_3_method_4_code
def y_FB_append : MethodName := ⟨R_FB, "append", "(I)V"⟩
def w_FB_append : List Cond := .code y_FB_append b_FB_append 3 none :: T0
abbrev b_GT_end : ByteArray := prog_1_method_3_code
def y_GT_end : MethodName := ⟨R_GT, "end", "(I)Z"⟩
def w_GT_end : List Cond := .code y_GT_end b_GT_end 2 (some .boolean) :: T0
abbrev b_FB_cut : ByteArray := prog_3_method_5_code
def y_FB_cut : MethodName := ⟨R_FB, "cut", "(I)Z"⟩
def w_FB_cut : List Cond := .code y_FB_cut b_FB_cut 2 (some .boolean) :: T0
abbrev b_GT_set : ByteArray := prog_1_method_4_code
def y_GT_set : MethodName := ⟨R_GT, "set", "(II)Z"⟩
def w_GT_set : List Cond := .code y_GT_set b_GT_set 3 (some .boolean) :: T0
abbrev b_FB_write : ByteArray := prog_3_method_6_code
def y_FB_write : MethodName := ⟨R_FB, "write", "(III)Z"⟩
def w_FB_write : List Cond := .code y_FB_write b_FB_write 5 (some .boolean) :: T0
abbrev b_FB_holds : ByteArray := prog_3_method_3_code
def y_FB_holds : MethodName := ⟨R_FB, "holds", "(JJ)Z"⟩
def w_FB_holds : List Cond := .code y_FB_holds b_FB_holds 5 (some .boolean) :: T0
abbrev b_GT_put : ByteArray := prog_1_method_5_code
def y_GT_put : MethodName := ⟨R_GT, "put", "(III)Z"⟩
def w_GT_put : List Cond := .code y_GT_put b_GT_put 4 (some .boolean) :: T0
abbrev b_GT_length : ByteArray := prog_1_method_6_code
def y_GT_length : MethodName := ⟨R_GT, "length", "()I"⟩
def w_GT_length : List Cond := .code y_GT_length b_GT_length 1 (some .int) :: T0
abbrev b_GT_argument : ByteArray := prog_1_method_7_code
def y_GT_argument : MethodName := ⟨R_GT, "argument", "()Z"⟩
def w_GT_argument : List Cond := .code y_GT_argument b_GT_argument 1 (some .boolean) :: T0
abbrev b_AG_open : ByteArray := prog_2_method_2_code
def y_AG_open : MethodName := ⟨R_AG, "open", "()Z"⟩
def w_AG_open : List Cond := .code y_AG_open b_AG_open 1 (some .boolean) :: T0
abbrev b_GT_letters : ByteArray := prog_1_method_8_code
def y_GT_letters : MethodName := ⟨R_GT, "letters", "(J)Z"⟩
def w_GT_letters : List Cond := .code y_GT_letters b_GT_letters 3 (some .boolean) :: T0
abbrev b_AG_extend : ByteArray := prog_2_method_3_code
def y_AG_extend : MethodName := ⟨R_AG, "extend", "(J)Z"⟩
def w_AG_extend : List Cond := .code y_AG_extend b_AG_extend 6 (some .boolean) :: T0
abbrev b_AG_lettersIn : ByteArray := prog_2_method_4_code
def y_AG_lettersIn : MethodName := ⟨R_AG, "lettersIn", "(J)I"⟩
def w_AG_lettersIn : List Cond := .code y_AG_lettersIn b_AG_lettersIn 4 (some .int) :: T0
abbrev b_GT_forget : ByteArray := prog_1_method_9_code
def y_GT_forget : MethodName := ⟨R_GT, "forget", "()V"⟩
def w_GT_forget : List Cond := .code y_GT_forget b_GT_forget 1 none :: T0
abbrev b_GT_load : ByteArray := prog_1_method_10_code
def y_GT_load : MethodName := ⟨R_GT, "load", "(I)I"⟩
def w_GT_load : List Cond := .code y_GT_load b_GT_load 2 (some .int) :: T0
abbrev b_GT_judge : ByteArray := prog_1_method_15_code
def y_GT_judge : MethodName := ⟨R_GT, "judge", "(I)I"⟩
def w_GT_judge : List Cond := .code y_GT_judge b_GT_judge 2 (some .int) :: T0
abbrev b_PL_beginsAsImage : ByteArray := prog_7_method_2_code
def y_PL_beginsAsImage : MethodName := ⟨R_PL, "beginsAsImage", "(LImageGate$FileBytes;)Z"⟩
def w_PL_beginsAsImage : List Cond := .code y_PL_beginsAsImage b_PL_beginsAsImage 3 (some .boolean) :: T0
abbrev b_FB_number : ByteArray := prog_3_method_7_code
def y_FB_number : MethodName := ⟨R_FB, "number", "(II)I"⟩
def w_FB_number : List Cond := .code y_FB_number b_FB_number 5 (some .int) :: T0
abbrev b_PL_isOfOurKind : ByteArray := prog_7_method_3_code
def y_PL_isOfOurKind : MethodName := ⟨R_PL, "isOfOurKind", "(LImageGate$FileBytes;)Z"⟩
def w_PL_isOfOurKind : List Cond := .code y_PL_isOfOurKind b_PL_isOfOurKind 2 (some .boolean) :: T0
abbrev b_PL_headerCount : ByteArray := prog_7_method_6_code
def y_PL_headerCount : MethodName := ⟨R_PL, "headerCount", "(LImageGate$FileBytes;)I"⟩
def w_PL_headerCount : List Cond := .code y_PL_headerCount b_PL_headerCount 1 (some .int) :: T0
abbrev b_PL_hasAllHeaders : ByteArray := prog_7_method_4_code
def y_PL_hasAllHeaders : MethodName := ⟨R_PL, "hasAllHeaders", "(LImageGate$FileBytes;)Z"⟩
def w_PL_hasAllHeaders : List Cond := .code y_PL_hasAllHeaders b_PL_hasAllHeaders 3 (some .boolean) :: T0
abbrev b_FB_unsigned : ByteArray := prog_3_method_8_code
def y_FB_unsigned : MethodName := ⟨R_FB, "unsigned", "(I)J"⟩
def w_FB_unsigned : List Cond := .code y_FB_unsigned b_FB_unsigned 2 (some .long) :: T0
abbrev b_PL_readParts : ByteArray := prog_7_method_5_code
def y_PL_readParts : MethodName := ⟨R_PL, "readParts", "(LImageGate$FileBytes;)Z"⟩
def w_PL_readParts : List Cond := .code y_PL_readParts b_PL_readParts 5 (some .boolean) :: T0
abbrev b_PL_readHeader : ByteArray := prog_7_method_7_code
def y_PL_readHeader : MethodName := ⟨R_PL, "readHeader", "(LImageGate$FileBytes;I)Z"⟩
def w_PL_readHeader : List Cond := .code y_PL_readHeader b_PL_readHeader 12 (some .boolean) :: T0
abbrev b_PL_rightsOf : ByteArray := prog_7_method_8_code
def y_PL_rightsOf : MethodName := ⟨R_PL, "rightsOf", "(I)I"⟩
def w_PL_rightsOf : List Cond := .code y_PL_rightsOf b_PL_rightsOf 1 (some .int) :: T0
abbrev b_AG_stackPointer : ByteArray := prog_2_method_6_code
def y_AG_stackPointer : MethodName := ⟨R_AG, "stackPointer", "()I"⟩
def w_AG_stackPointer : List Cond := .code y_AG_stackPointer b_AG_stackPointer 3 (some .int) :: T0
abbrev b_AG_placeBelow : ByteArray := prog_2_method_5_code
def y_AG_placeBelow : MethodName := ⟨R_AG, "placeBelow", "(II)I"⟩
def w_AG_placeBelow : List Cond := .code y_AG_placeBelow b_AG_placeBelow 4 (some .int) :: T0
abbrev b_IM_lay : ByteArray := prog_4_method_3_code
def y_IM_lay : MethodName := ⟨R_IM, "lay", "(LImageGate$Plan;LImageGate$FileBytes;LImageGate$Arguments;)V"⟩
def w_IM_lay : List Cond := .code y_IM_lay b_IM_lay 5 none :: T0
abbrev b_IM_layPart : ByteArray := prog_4_method_4_code
def y_IM_layPart : MethodName := ⟨R_IM, "layPart", "(LImageGate$Part;LImageGate$FileBytes;)V"⟩
def w_IM_layPart : List Cond := .code y_IM_layPart b_IM_layPart 6 none :: T0
abbrev b_IM_takePage : ByteArray := prog_4_method_6_code
def y_IM_takePage : MethodName := ⟨R_IM, "takePage", "(II)LImageGate$Page;"⟩
def w_IM_takePage : List Cond := .code y_IM_takePage b_IM_takePage 4 (some (.object "ImageGate$Page")) :: T0
abbrev b_PG_clear : ByteArray := prog_5_method_2_code
def y_PG_clear : MethodName := ⟨R_PG, "clear", "(II)V"⟩
def w_PG_clear : List Cond := .code y_PG_clear b_PG_clear 3 none :: T0
abbrev b_AR_fill : ByteArray := prog_12_method_109_code
def y_AR_fill : MethodName := ⟨R_AR, "fill", "([BB)V"⟩
def w_AR_fill : List Cond := .code y_AR_fill b_AR_fill 4 none :: T0
abbrev b_FB_copyTo : ByteArray := prog_3_method_9_code
def y_FB_copyTo : MethodName := ⟨R_FB, "copyTo", "(LImageGate$Page;II)V"⟩
def w_FB_copyTo : List Cond := .code y_FB_copyTo b_FB_copyTo 4 none :: T0
abbrev b_IM_layStack : ByteArray := prog_4_method_5_code
def y_IM_layStack : MethodName := ⟨R_IM, "layStack", "(LImageGate$Page;LImageGate$Arguments;)V"⟩
def w_IM_layStack : List Cond := .code y_IM_layStack b_IM_layStack 6 none :: T0
abbrev b_AG_copyTo : ByteArray := prog_2_method_7_code
def y_AG_copyTo : MethodName := ⟨R_AG, "copyTo", "(LImageGate$Page;II)V"⟩
def w_AG_copyTo : List Cond := .code y_AG_copyTo b_AG_copyTo 4 none :: T0
abbrev b_PG_writeNumber : ByteArray := prog_5_method_4_code
def y_PG_writeNumber : MethodName := ⟨R_PG, "writeNumber", "(II)V"⟩
def w_PG_writeNumber : List Cond := .code y_PG_writeNumber b_PG_writeNumber 4 none :: T0
abbrev b_GT_why : ByteArray := prog_1_method_11_code
def y_GT_why : MethodName := ⟨R_GT, "why", "()I"⟩
def w_GT_why : List Cond := .code y_GT_why b_GT_why 1 (some .int) :: T0
abbrev b_GT_about : ByteArray := prog_1_method_12_code
def y_GT_about : MethodName := ⟨R_GT, "about", "(I)I"⟩
def w_GT_about : List Cond := .code y_GT_about b_GT_about 2 (some .int) :: T0
abbrev b_GT_at : ByteArray := prog_1_method_13_code
def y_GT_at : MethodName := ⟨R_GT, "at", "(I)I"⟩
def w_GT_at : List Cond := .code y_GT_at b_GT_at 3 (some .int) :: T0
abbrev b_IM_find : ByteArray := prog_4_method_2_code
def y_IM_find : MethodName := ⟨R_IM, "find", "(I)LImageGate$Page;"⟩
def w_IM_find : List Cond := .code y_IM_find b_IM_find 3 (some (.object "ImageGate$Page")) :: T0
abbrev b_PG_read : ByteArray := prog_5_method_3_code
def y_PG_read : MethodName := ⟨R_PG, "read", "(I)I"⟩
def w_PG_read : List Cond := .code y_PG_read b_PG_read 2 (some .int) :: T0
abbrev b_GT_flags : ByteArray := prog_1_method_14_code
def y_GT_flags : MethodName := ⟨R_GT, "flags", "(I)I"⟩
def w_GT_flags : List Cond := .code y_GT_flags b_GT_flags 3 (some .int) :: T0
abbrev b_MD_init : ByteArray := prog_9_method_1_code
def y_MD_init : MethodName := ⟨R_MD, "<init>", "()V"⟩
def w_MD_init : List Cond := .code y_MD_init b_MD_init 1 none :: T0
abbrev b_MD_feed : ByteArray := prog_9_method_3_code
def y_MD_feed : MethodName := ⟨R_MD, "feed", "(IIIII)Z"⟩
def w_MD_feed : List Cond := .code y_MD_feed b_MD_feed 8 (some .boolean) :: T0
abbrev b_MD_end : ByteArray := prog_9_method_4_code
def y_MD_end : MethodName := ⟨R_MD, "end", "(I)Z"⟩
def w_MD_end : List Cond := .code y_MD_end b_MD_end 3 (some .boolean) :: T0
abbrev b_MD_set : ByteArray := prog_9_method_5_code
def y_MD_set : MethodName := ⟨R_MD, "set", "(II)Z"⟩
def w_MD_set : List Cond := .code y_MD_set b_MD_set 3 (some .boolean) :: T0
abbrev b_MD_put : ByteArray := prog_9_method_6_code
def y_MD_put : MethodName := ⟨R_MD, "put", "(III)Z"⟩
def w_MD_put : List Cond := .code y_MD_put b_MD_put 5 (some .boolean) :: T0
abbrev b_MD_length : ByteArray := prog_9_method_7_code
def y_MD_length : MethodName := ⟨R_MD, "length", "()I"⟩
def w_MD_length : List Cond := .code y_MD_length b_MD_length 1 (some .int) :: T0
abbrev b_MD_argument : ByteArray := prog_9_method_8_code
def y_MD_argument : MethodName := ⟨R_MD, "argument", "()Z"⟩
def w_MD_argument : List Cond := .code y_MD_argument b_MD_argument 1 (some .boolean) :: T0
abbrev b_MD_letters : ByteArray := prog_9_method_9_code
def y_MD_letters : MethodName := ⟨R_MD, "letters", "(J)Z"⟩
def w_MD_letters : List Cond := .code y_MD_letters b_MD_letters 6 (some .boolean) :: T0
abbrev b_MD_forget : ByteArray := prog_9_method_10_code
def y_MD_forget : MethodName := ⟨R_MD, "forget", "()V"⟩
def w_MD_forget : List Cond := .code y_MD_forget b_MD_forget 1 none :: T0
abbrev b_MD_load : ByteArray := prog_9_method_19_code
def y_MD_load : MethodName := ⟨R_MD, "load", "(I)I"⟩
def w_MD_load : List Cond := .code y_MD_load b_MD_load 4 (some .int) :: T0
abbrev b_MD_wrong : ByteArray := prog_9_method_18_code
def y_MD_wrong : MethodName := ⟨R_MD, "wrong", "(I)I"⟩
def w_MD_wrong : List Cond := .code y_MD_wrong b_MD_wrong 6 (some .int) :: T0
abbrev b_MD_isMarked : ByteArray := prog_9_method_12_code
def y_MD_isMarked : MethodName := ⟨R_MD, "isMarked", "()Z"⟩
def w_MD_isMarked : List Cond := .code y_MD_isMarked b_MD_isMarked 1 (some .boolean) :: T0
abbrev b_MD_number : ByteArray := prog_9_method_11_code
def y_MD_number : MethodName := ⟨R_MD, "number", "(JI)J"⟩
def w_MD_number : List Cond := .code y_MD_number b_MD_number 7 (some .long) :: T0
abbrev b_MD_isKind : ByteArray := prog_9_method_13_code
def y_MD_isKind : MethodName := ⟨R_MD, "isKind", "()Z"⟩
def w_MD_isKind : List Cond := .code y_MD_isKind b_MD_isKind 1 (some .boolean) :: T0
abbrev b_MD_header : ByteArray := prog_9_method_15_code
def y_MD_header : MethodName := ⟨R_MD, "header", "(J)Z"⟩
def w_MD_header : List Cond := .code y_MD_header b_MD_header 14 (some .boolean) :: T0
abbrev b_MD_up : ByteArray := prog_9_method_14_code
def y_MD_up : MethodName := ⟨R_MD, "up", "(J)J"⟩
def w_MD_up : List Cond := .code y_MD_up b_MD_up 2 (some .long) :: T0
abbrev b_MD_wanted : ByteArray := prog_9_method_16_code
def y_MD_wanted : MethodName := ⟨R_MD, "wanted", "()I"⟩
def w_MD_wanted : List Cond := .code y_MD_wanted b_MD_wanted 4 (some .int) :: T0
abbrev b_MD_laid : ByteArray := prog_9_method_17_code
def y_MD_laid : MethodName := ⟨R_MD, "laid", "(I)I"⟩
def w_MD_laid : List Cond := .code y_MD_laid b_MD_laid 6 (some .int) :: T0
abbrev b_MD_why : ByteArray := prog_9_method_20_code
def y_MD_why : MethodName := ⟨R_MD, "why", "()I"⟩
def w_MD_why : List Cond := .code y_MD_why b_MD_why 1 (some .int) :: T0
abbrev b_MD_about : ByteArray := prog_9_method_21_code
def y_MD_about : MethodName := ⟨R_MD, "about", "(I)I"⟩
def w_MD_about : List Cond := .code y_MD_about b_MD_about 2 (some .int) :: T0
abbrev b_MD_at : ByteArray := prog_9_method_24_code
def y_MD_at : MethodName := ⟨R_MD, "at", "(I)I"⟩
def w_MD_at : List Cond := .code y_MD_at b_MD_at 4 (some .int) :: T0
abbrev b_MD_part : ByteArray := prog_9_method_22_code
def y_MD_part : MethodName := ⟨R_MD, "part", "(I)I"⟩
def w_MD_part : List Cond := .code y_MD_part b_MD_part 4 (some .int) :: T0
abbrev b_MD_near : ByteArray := prog_9_method_23_code
def y_MD_near : MethodName := ⟨R_MD, "near", "(I)I"⟩
def w_MD_near : List Cond := .code y_MD_near b_MD_near 2 (some .int) :: T0
abbrev b_MD_flags : ByteArray := prog_9_method_25_code
def y_MD_flags : MethodName := ⟨R_MD, "flags", "(I)I"⟩
def w_MD_flags : List Cond := .code y_MD_flags b_MD_flags 3 (some .int) :: T0
theorem i_AG : ∀ w ∈ u_ws R_AG T_AG 3, w ∈ T0 := by decide +kernel
theorem i_FB : ∀ w ∈ u_ws R_FB T_FB 2, w ∈ T0 := by decide +kernel
theorem i_IM : ∀ w ∈ u_ws R_IM T_IM 6, w ∈ T0 := by decide +kernel
theorem i_PG : ∀ w ∈ u_ws R_PG T_PG 3, w ∈ T0 := by decide +kernel
theorem i_PT : ∀ w ∈ u_ws R_PT T_PT 5, w ∈ T0 := by decide +kernel
theorem i_PL : ∀ w ∈ u_ws R_PL T_PL 5, w ∈ T0 := by decide +kernel
theorem i_GT : ∀ w ∈ u_ws R_GT T_GT 5, w ∈ T0 := by decide +kernel
theorem i_MD : ∀ w ∈ u_ws R_MD T_MD 28, w ∈ T0 := by decide +kernel
end
section
/-! My own rows over the kit's: one world a contract, no cell comes and none goes. -/
def isNest : Cond → Bool
  | .fieldLinkNest .. => true
  | .methodLinkNest .. => true
  | _ => false
def N0 : List Cond := lw_tbl.filter isNest
theorem mN {w : Cond} (i : Nat) (h : lw_tbl[i]? = some w) (hg : isNest w = true) : w ∈ N0 := List.mem_filter.mpr ⟨List.mem_of_getElem? h, hg⟩
/-- what the links between nest mates need -/
def xNest (U : State) : Prop := ∀ w ∈ N0, va_Nw w U
theorem xNest.warm {s U : State} (hW : s.WarmedH U.vm) (h : xNest s) : xNest U := by
  intro w hw
  have h1 := (List.mem_filter.mp hw).2
  have h2 := h w hw
  cases w <;> first | exact va_Nw.warmF hW h2 | exact va_Nw.warmM hW h2 | simp [isNest] at h1
theorem xNest.onT {w : Cond} (hw : w ∈ N0) : w.onTables = true := by
  have h1 := (List.mem_filter.mp hw).2
  cases w <;> first | rfl | simp [isNest] at h1
theorem xNest.use {U : State} {A : Array Value} (h : xNest U) {w : Cond} (hw : w ∈ N0) : w.before A U = true := va_Nw.use (xNest.onT hw) (h w hw)
theorem xNest.same {u U : State} (h : u.vm = U.vm) (hN : xNest u) : xNest U := fun w hw => va_Nw.same (xNest.onT hw) h (hN w hw)
/-- the seven first bytes, the class's one static array -/
def fb7 (j : Nat) : Int32 := ([127, 69, 76, 70, 1, 1, 1] : List Int32).getD j 0
def xZ (A : Nat → Prop) (U : State) (H : Heap) : Prop := ∃ t : Nat, va_Z "ImageGate" "FIRST_BYTES" "[B" (.ref t) A U H ∧ va_T .byte t 7 (fun j => .int (fb7 j)) A U H
theorem xZ.go {A B : Nat → Prop} {u U : State} {H0 H : Heap} (h : xZ A u H0) (hvm : u.vm.Alike U.vm) (hk : ∀ q : Nat, q < H0.size → ¬ A q → H[q]? = H0[q]?) (hAB : ∀ q, B q → A q) : xZ B U H := by
  obtain ⟨t, h1, h2⟩ := h
  exact ⟨t, ((h1.moved hvm).kept hk).narrow hAB, ((h2.moved hvm).kept hk).narrow hAB⟩
def xP (D : va_G) (tys : List (ClassId × FieldType)) (ws : va_W) (sz : Nat) (U : State) : Prop := U.heap.size = sz ∧ va_P D vwCl ws U.heap ∧ va_K D vwCl tys U ∧ va_D (fun _ => True) ws ∧ xNest U ∧ xZ (va_A ws sz) U U.heap
/-- a call's words, out of the one list -/
theorem xgV {own C : String} {idx : Nat} {y : MethodName} {b : ByteArray} {n : Nat} {r : Option FieldType} (h1 : Cond.methodLink own idx y ∈ T0) (h2 : Cond.instanceMethod y ∈ T0) (h3 : Cond.selects C y y ∈ T0) (h4 : Cond.initialized C ∈ T0) (h5 : Cond.code y b n r ∈ T0) : GoodIn T0 (wsV own idx C y (Cond.code y b n r :: T0)) := by
  intro w hw
  simp only [wsV, List.mem_append, List.mem_cons, List.not_mem_nil, or_false] at hw
  rcases hw with (rfl | rfl | rfl | rfl) | rfl | hw
  · exact gT0 _ h1
  · exact gT0 _ h2
  · exact gT0 _ h3
  · exact gT0 _ h4
  · exact gT0 _ h5
  · exact gT0 _ hw
theorem xgS {own : String} {idx : Nat} {y : MethodName} {b : ByteArray} {n : Nat} {r : Option FieldType} (h1 : Cond.methodLink own idx y ∈ T0) (h2 : Cond.static y ∈ T0) (h4 : Cond.initialized own ∈ T0) (h5 : Cond.code y b n r ∈ T0) : GoodIn T0 (wsS own idx y (Cond.code y b n r :: T0)) := by
  intro w hw
  simp only [wsS, List.mem_append, List.mem_cons, List.not_mem_nil, or_false] at hw
  rcases hw with (rfl | rfl | rfl) | rfl | hw
  · exact gT0 _ h1
  · exact gT0 _ h2
  · exact gT0 _ h4
  · exact gT0 _ h5
  · exact gT0 _ hw
def xB (D : va_G) (tys : List (ClassId × FieldType)) (A : Nat → Prop) (ws : va_W) (t : State) : Prop := va_P D vwCl ws t.heap ∧ va_K D vwCl tys t ∧ va_D A ws
def xQi (D : va_G) (tys : List (ClassId × FieldType)) (A : Nat → Prop) (ws : va_W) (P : Int32 → Prop) : Array Value → State → Outcome → State → Prop := va_Qi (S := Unit) (fun r _ => P r) (fun _ => xB D tys A ws) A
def xQl (D : va_G) (tys : List (ClassId × FieldType)) (A : Nat → Prop) (ws : va_W) (P : Int64 → Prop) : Array Value → State → Outcome → State → Prop := va_Ql (S := Unit) (fun r _ => P r) (fun _ => xB D tys A ws) A
def xQq (D : va_G) (tys : List (ClassId × FieldType)) (A : Nat → Prop) (ws : va_W) (P : Option Nat → Prop) : Array Value → State → Outcome → State → Prop := va_Qq (S := Unit) (fun r _ => P r) (fun _ => xB D tys A ws) A
def xQv (D : va_G) (tys : List (ClassId × FieldType)) (A : Nat → Prop) (ws : va_W) : Array Value → State → Outcome → State → Prop := va_Qv (S := Unit) (fun _ => True) (fun _ => xB D tys A ws) A
/-- what is fixed while a method is walked -/
def xC (p : Program) (s : State) (m : MethodId) (meth : Method) (c : Code) (args : Array Value) (cc : ByteArray) (nL : Nat) (own : String) (Ts : List Cond) (ret : Option FieldType) : Prop :=
  p.tables.exec = Jvm.exec ∧ c.code = cc ∧ meth.sig.returnType = ret ∧ c.maxLocals = nL ∧ s.vm.findClass own = some m.cls ∧ (∀ w ∈ Ts, w.before args s = true) ∧ meth.locks = false
theorem xof {l : Launch} {y : MethodName} {w : List Cond} {rm : Room} {cc : ByteArray} {maxL : Nat} {ret : Option FieldType} {own : String} {D : va_G} {tys : List (ClassId × FieldType)} {argl : List Value} {ws : va_W} {Qc : (Nat → Prop) → Array Value → State → Outcome → State → Prop} {mc ms : Nat}
    (hy : plainName y.cls = true) (hw : w = Cond.code y cc maxL ret :: T0) (hyo : y.cls = own) (hle : (lg_sl argl).length ≤ maxL)
    (body : ∀ (p : Program) (e : Env) (s : State) (m : MethodId) (below : List Frame) (meth : Method) (c : Code) (A : Nat → Prop), xC p s m meth c argl.toArray cc maxL own T0 ret → (meth.name = y.name) → va_K D vwCl tys s → va_P D vwCl ws s.heap → va_D A ws → (∀ q : Nat, s.heap.size ≤ q → A q) → xNest s → xZ A s s.heap → va_S A s.heap s.heap [] → ∀ ls : Array Slot, lv_has ls maxL (lv_args 0 argl) →
      W p l e rm s m argl.toArray below meth c s.heap [] 0 0 (MQ below (Qc A) argl.toArray s mc ms A) (F0 m 0 ls [])) (sz : Nat) :
    Met l y w rm (va_Pc argl (xP D tys ws sz)) (Qc (va_A ws sz)) mc ms (va_A ws sz) := by
  refine Met.ofW (cc := cc) (maxL := maxL) (ret := ret) hy hw ?_
  intro p e s m args below meth c s₁ B hml hv
  obtain ⟨rfl, hsz, hP, hK, hD0, hN, hZ⟩ := hv
  subst hsz
  rw [lg_entry_eq]
  exact body p e s m below meth c (va_A ws s.heap.size) ⟨B.exec, B.bytes, B.returns, hml, by rw [← hyo]; exact findClass_of_methodNamed B.named, fun w9 h9 => atoms_spec (ws := w) B.pre w9 (by rw [hw]; exact List.mem_cons_of_mem _ h9), B.notSynchronized⟩ (name_of_methodNamed B.named B.method).1 hK hP hD0.self (fun q h => Or.inr h) hN hZ va_S.rf _ (lv_entry argl hle)
theorem xgT {own : String} {idx : Nat} {y : MethodName} {b : ByteArray} {n : Nat} {r : Option FieldType} (h1 : Cond.methodLink own idx y ∈ T0) (h2 : Cond.static y ∈ T0) (h4 : Cond.initialized y.cls ∈ T0) (h5 : Cond.code y b n r ∈ T0) : GoodIn T0 (va_wsS own idx y (Cond.code y b n r :: T0)) := by
  intro w hw
  simp only [va_wsS, List.mem_append, List.mem_cons, List.not_mem_nil, or_false] at hw
  rcases hw with (rfl | rfl | rfl) | rfl | hw
  · exact gT0 _ h1
  · exact gT0 _ h2
  · exact gT0 _ h4
  · exact gT0 _ h5
  · exact gT0 _ hw
section XA
variable {p : Program} {l : Launch} {e : Env} {R : Room} {s : State} {m : MethodId} {args : Array Value} {below : List Frame} {meth : Method} {c : Code} {H : Heap} {locs : List Loc} {cells slots : Nat} {Q : State → Prop}
variable {cc : ByteArray} {pc : Nat} {ls : Array Slot} {rest st0 : List Value} {D : va_G} {A : Nat → Prop} {tys : List (ClassId × FieldType)} {ws ws1 : va_W} {H0 : Heap} {mc ms : Nat} {a : Array Value}
theorem xfree (hD : va_D A ws) (hS : va_S A H0 H locs) (hA : ∀ q, H0.size ≤ q → A q) : ∀ q, va_A ws H.size q → A q := fun q h => by
  rcases h with ⟨k, e, hk⟩ | h
  · exact hD.2 k _ hk
  · exact hA q (Nat.le_trans hS.1 h)
theorem xcalli {P : Int32 → Prop} (hr : va_Run p l e R s m args below meth c H locs cells slots mc ms (F0 m pc ls st0) rest (xQi D tys (va_A ws H.size) ws1 P a) (va_A ws H.size)) (hD : va_D A ws) (hS : va_S A H0 H locs) (hA : ∀ q, H0.size ≤ q → A q)
    (kk : ∀ (r : Int32) (H1 : Heap) (locs1 : List Loc), P r → va_P D vwCl ws1 H1 → va_D A ws1 → va_S A H0 H1 locs1 → W p l e R s m args below meth c H1 locs1 (cells + mc) (slots + ms) Q (F0 m (pc + 3) ls (.int r :: rest))) : W p l e R s m args below meth c H locs cells slots Q (F0 m pc ls st0) := by
  have hF := xfree hD hS hA
  refine va_calli hr hS (fun q _ h => hF q h) hF (fun r u t H1 locs1 ht hvm hw hB hz hk hS1 => ?_)
  obtain ⟨hP1, hK1, hD1⟩ := hB
  rw [ht] at hP1
  exact kk r H1 locs1 hw hP1 (hD1.weaken (fun _ _ _ h => hF _ h)) hS1
theorem xcalll {P : Int64 → Prop} (hr : va_Run p l e R s m args below meth c H locs cells slots mc ms (F0 m pc ls st0) rest (xQl D tys (va_A ws H.size) ws1 P a) (va_A ws H.size)) (hD : va_D A ws) (hS : va_S A H0 H locs) (hA : ∀ q, H0.size ≤ q → A q)
    (kk : ∀ (r : Int64) (H1 : Heap) (locs1 : List Loc), P r → va_P D vwCl ws1 H1 → va_D A ws1 → va_S A H0 H1 locs1 → W p l e R s m args below meth c H1 locs1 (cells + mc) (slots + ms) Q (F0 m (pc + 3) ls (.long r :: rest))) : W p l e R s m args below meth c H locs cells slots Q (F0 m pc ls st0) := by
  have hF := xfree hD hS hA
  refine va_calll hr hS (fun q _ h => hF q h) hF (fun r u t H1 locs1 ht hvm hw hB hz hk hS1 => ?_)
  obtain ⟨hP1, hK1, hD1⟩ := hB
  rw [ht] at hP1
  exact kk r H1 locs1 hw hP1 (hD1.weaken (fun _ _ _ h => hF _ h)) hS1
theorem xcallq {P : Option Nat → Prop} (hr : va_Run p l e R s m args below meth c H locs cells slots mc ms (F0 m pc ls st0) rest (xQq D tys (va_A ws H.size) ws1 P a) (va_A ws H.size)) (hD : va_D A ws) (hS : va_S A H0 H locs) (hA : ∀ q, H0.size ≤ q → A q)
    (kk : ∀ (r : Option Nat) (H1 : Heap) (locs1 : List Loc), P r → va_P D vwCl ws1 H1 → va_D A ws1 → va_S A H0 H1 locs1 → W p l e R s m args below meth c H1 locs1 (cells + mc) (slots + ms) Q (F0 m (pc + 3) ls (va_rf r :: rest))) : W p l e R s m args below meth c H locs cells slots Q (F0 m pc ls st0) := by
  have hF := xfree hD hS hA
  refine va_callq hr hS (fun q _ h => hF q h) hF (fun r u t H1 locs1 ht hvm hw hB hz hk hS1 => ?_)
  obtain ⟨hP1, hK1, hD1⟩ := hB
  rw [ht] at hP1
  exact kk r H1 locs1 hw hP1 (hD1.weaken (fun _ _ _ h => hF _ h)) hS1
theorem xcallv (hr : va_Run p l e R s m args below meth c H locs cells slots mc ms (F0 m pc ls st0) rest (xQv D tys (va_A ws H.size) ws1 a) (va_A ws H.size)) (hD : va_D A ws) (hS : va_S A H0 H locs) (hA : ∀ q, H0.size ≤ q → A q)
    (kk : ∀ (H1 : Heap) (locs1 : List Loc), va_P D vwCl ws1 H1 → va_D A ws1 → va_S A H0 H1 locs1 → W p l e R s m args below meth c H1 locs1 (cells + mc) (slots + ms) Q (F0 m (pc + 3) ls rest)) : W p l e R s m args below meth c H locs cells slots Q (F0 m pc ls st0) := by
  have hF := xfree hD hS hA
  refine va_callv hr hS (fun q _ h => hF q h) hF (fun u t H1 locs1 ht hvm hw hB hz hk hS1 => ?_)
  obtain ⟨hP1, hK1, hD1⟩ := hB
  rw [ht] at hP1
  exact kk H1 locs1 hP1 (hD1.weaken (fun _ _ _ h => hF _ h)) hS1
theorem xblind {argl : List Value} {sz : Nat} : FrameBlind (va_Pc argl (xP D tys ws sz)) := fun a U g mk q => by
  obtain ⟨q0, q1, qP, qK, qD, qN, qZ⟩ := q
  exact ⟨q0, q1, qP, va_K.moved (u := U) (U := U.calling g mk a) (Vm.Alike.refl U.vm) qK, qD, xNest.same (u := U) rfl qN, xZ.go (u := U) (U := U.calling g mk a) qZ (Vm.Alike.refl U.vm) (fun _ _ _ => rfl) (fun _ h => h)⟩
theorem xpreS {As : List Value} (hK : va_K D vwCl tys s) (hN : xNest s) (hZ : xZ A s s.heap) (hA : ∀ q : Nat, s.heap.size ≤ q → A q) (hS : va_S A s.heap H locs) (hP : va_P D vwCl ws H) (hD : va_D A ws) : PreS s H (va_Pc As (xP D tys ws H.size)) As :=
  ⟨xblind, fun U hU hW => ⟨rfl, by rw [hU], by rw [hU]; exact hP, va_K.moved hW.alike hK, hD.weaken (fun _ _ _ _ => trivial), xNest.warm hW hN, by rw [hU]; exact hZ.go hW.alike hS.2.1 (xfree hD hS hA)⟩⟩
theorem xpreV {b : Addr} {As : List Value} {q0 ci : Nat} {q : vw_C} {fs : List Value} (hK : va_K D vwCl tys s) (hN : xNest s) (hZ : xZ A s s.heap) (hA : ∀ q : Nat, s.heap.size ≤ q → A q) (hS : va_S A s.heap H locs) (hP : va_P D vwCl ws H) (hD : va_D A ws) (hc : vwCl[ci]? = some q) (he : ws[q0]? = some (b, .inr (ci, fs))) : PreV s H q.1 b (va_Pc (.ref b :: As) (xP D tys ws H.size)) As :=
  ⟨xblind, va_recv hK hP hc he, (xpreS (As := .ref b :: As) hK hN hZ hA hS hP hD).2⟩
theorem xreti {P : Int32 → Prop} {v : Int32} {ty : FieldType} (hx : p.tables.exec = Jvm.exec) (hb : c.code = cc) (hr : meth.sig.returnType = some ty) (hlocks : meth.locks = false) (hK : va_K D vwCl tys s) (hP : va_P D vwCl ws1 H) (hD : va_D A ws1) (hS : va_S A s.heap H locs) (hn : narrow ty (.int v) = .int v) (hv : P v) (hdg : decode cc pc = .ok (.ireturn, 1)) :
    W p l e R s m args below meth c H locs cells slots (MQ below (xQi D tys A ws1 P) args s cells slots A) (F0 m pc ls [.int v]) :=
  W.zret hx hb hr hn (fun t ht hW => ⟨⟨v, (), rfl, hv, by rw [ht]; exact hP, va_K.moved hW.alike hK, hD⟩, hS.F ht⟩) hS.2.2 hdg hlocks
theorem xretl {P : Int64 → Prop} {v : Int64} (hx : p.tables.exec = Jvm.exec) (hb : c.code = cc) (hr : meth.sig.returnType = some .long) (hlocks : meth.locks = false) (hK : va_K D vwCl tys s) (hP : va_P D vwCl ws1 H) (hD : va_D A ws1) (hS : va_S A s.heap H locs) (hv : P v) (hdg : decode cc pc = .ok (.lreturn, 1)) :
    W p l e R s m args below meth c H locs cells slots (MQ below (xQl D tys A ws1 P) args s cells slots A) (F0 m pc ls [.long v]) :=
  W.lret hx hb hr (fun t ht hW => ⟨⟨v, (), rfl, hv, by rw [ht]; exact hP, va_K.moved hW.alike hK, hD⟩, hS.F ht⟩) hS.2.2 hdg hlocks
theorem xretv (hx : p.tables.exec = Jvm.exec) (hb : c.code = cc) (hr : meth.sig.returnType = none) (hlocks : meth.locks = false) (hK : va_K D vwCl tys s) (hP : va_P D vwCl ws1 H) (hD : va_D A ws1) (hS : va_S A s.heap H locs) (hdg : decode cc pc = .ok (.return_, 1)) :
    W p l e R s m args below meth c H locs cells slots (MQ below (xQv D tys A ws1) args s cells slots A) (F0 m pc ls []) :=
  W.vret hx hb hr (fun t ht hW => ⟨⟨(), rfl, trivial, by rw [ht]; exact hP, va_K.moved hW.alike hK, hD⟩, hS.F ht⟩) hS.2.2 hdg hlocks
theorem xretq {P : Option Nat → Prop} {v : Option Nat} {C : String} (hx : p.tables.exec = Jvm.exec) (hb : c.code = cc) (hr : meth.sig.returnType = some (.object C)) (hlocks : meth.locks = false) (hK : va_K D vwCl tys s) (hP : va_P D vwCl ws1 H) (hD : va_D A ws1) (hS : va_S A s.heap H locs) (hv : P v) (hdg : decode cc pc = .ok (.areturn, 1)) :
    W p l e R s m args below meth c H locs cells slots (MQ below (xQq D tys A ws1 P) args s cells slots A) (F0 m pc ls [va_rf v]) :=
  W.aret hx hb hr (Or.inl ⟨C, rfl⟩) (by cases v with
    | none => exact Or.inl rfl
    | some a => exact Or.inr ⟨a, rfl⟩) (fun t ht hW => ⟨⟨v, (), rfl, hv, by rw [ht]; exact hP, va_K.moved hW.alike hK, hD⟩, hS.F ht⟩) hS.2.2 hdg hlocks
/-- arrays by a Nat place -/
theorem xbald {a0 n k : Nat} {cA : ClassId} {f : Nat → Int32} {i : Int32} (hx : p.tables.exec = Jvm.exec) (hb : c.code = cc) (hK : va_K D vwCl tys s) (hP : va_P D vwCl ws H) (q0 t0 : Nat) (ha : ws[q0]? = some (a0, .inl (cA, n, .inl f))) (ht : tys[t0]? = some (cA, .byte)) (hi : i = nI k) (hk : k < n) (hn : n < 2 ^ 31) (hdg : decode cc pc = .ok (.baload, 1))
    (kk : W p l e R s m args below meth c H locs cells slots Q (F0 m (pc + 1) ls (.int (f k) :: rest))) : W p l e R s m args below meth c H locs cells slots Q (F0 m pc ls (.int i :: .ref a0 :: rest)) := by
  subst hi
  refine va_bald hx hb hK hP q0 t0 ha ht (vp_in_nI hk hn) hdg ?_
  rw [nI_clamp (Nat.lt_trans hk hn)]
  exact kk
theorem xiald {a0 n k : Nat} {cA : ClassId} {f : Nat → Int32} {i : Int32} (hx : p.tables.exec = Jvm.exec) (hb : c.code = cc) (hK : va_K D vwCl tys s) (hP : va_P D vwCl ws H) (q0 t0 : Nat) (ha : ws[q0]? = some (a0, .inl (cA, n, .inl f))) (ht : tys[t0]? = some (cA, .int)) (hi : i = nI k) (hk : k < n) (hn : n < 2 ^ 31) (hdg : decode cc pc = .ok (.iaload, 1))
    (kk : W p l e R s m args below meth c H locs cells slots Q (F0 m (pc + 1) ls (.int (f k) :: rest))) : W p l e R s m args below meth c H locs cells slots Q (F0 m pc ls (.int i :: .ref a0 :: rest)) := by
  subst hi
  refine va_iald hx hb hK hP q0 t0 ha ht (vp_in_nI hk hn) hdg ?_
  rw [nI_clamp (Nat.lt_trans hk hn)]
  exact kk
theorem xaald {a0 n k b : Nat} {cA : ClassId} {C : String} {f : Nat → Option Nat} {i : Int32} (hx : p.tables.exec = Jvm.exec) (hb : c.code = cc) (hK : va_K D vwCl tys s) (hP : va_P D vwCl ws H) (q0 t0 : Nat) (ha : ws[q0]? = some (a0, .inl (cA, n, .inr (.inr (.inr (.inr f)))))) (ht : tys[t0]? = some (cA, .object C)) (hi : i = nI k) (hk : k < n) (hn : n < 2 ^ 31) (hf : f k = some b) (hdg : decode cc pc = .ok (.aaload, 1))
    (kk : W p l e R s m args below meth c H locs cells slots Q (F0 m (pc + 1) ls (.ref b :: rest))) : W p l e R s m args below meth c H locs cells slots Q (F0 m pc ls (.int i :: .ref a0 :: rest)) := by
  subst hi
  refine va_aldq hx hb hK hP q0 t0 ha ht (vp_in_nI hk hn) hdg ?_
  rw [nI_clamp (Nat.lt_trans hk hn), hf]
  exact kk
theorem xbast {a0 n k : Nat} {cA : ClassId} {f : Nat → Int32} {i x : Int32} (hx : p.tables.exec = Jvm.exec) (hb : c.code = cc) (hK : va_K D vwCl tys s) (hP : va_P D vwCl ws H) (hD : va_D A ws) (hS : va_S A H0 H locs) (q0 t0 : Nat) (ha : ws[q0]? = some (a0, .inl (cA, n, .inl f))) (ht : tys[t0]? = some (cA, .byte)) (hi : i = nI k) (hk : k < n) (hn : n < 2 ^ 31) {x' : Int32} (hx' : vp_nar .byte x = x') (hws : ws.set q0 (a0, .inl (cA, n, .inl (upd f k x'))) = ws1) (hdg : decode cc pc = .ok (.bastore, 1))
    (kk : ∀ (H1 : Heap) (locs1 : List Loc), va_P D vwCl ws1 H1 → va_D A ws1 → va_S A H0 H1 locs1 → W p l e R s m args below meth c H1 locs1 cells slots Q (F0 m (pc + 1) ls rest)) : W p l e R s m args below meth c H locs cells slots Q (F0 m pc ls (.int x :: .int i :: .ref a0 :: rest)) := by
  subst hi
  refine va_bast hx hb hK hP hD hS q0 t0 ha ht (vp_in_nI hk hn) hdg (fun H1 locs1 h1 h2 h3 => ?_)
  rw [nI_clamp (Nat.lt_trans hk hn), hx', hws] at h1 h2
  exact kk H1 locs1 h1 h2 h3
theorem xiast {a0 n k : Nat} {cA : ClassId} {f : Nat → Int32} {i x : Int32} (hx : p.tables.exec = Jvm.exec) (hb : c.code = cc) (hK : va_K D vwCl tys s) (hP : va_P D vwCl ws H) (hD : va_D A ws) (hS : va_S A H0 H locs) (q0 t0 : Nat) (ha : ws[q0]? = some (a0, .inl (cA, n, .inl f))) (ht : tys[t0]? = some (cA, .int)) (hi : i = nI k) (hk : k < n) (hn : n < 2 ^ 31) (hws : ws.set q0 (a0, .inl (cA, n, .inl (upd f k x))) = ws1) (hdg : decode cc pc = .ok (.iastore, 1))
    (kk : ∀ (H1 : Heap) (locs1 : List Loc), va_P D vwCl ws1 H1 → va_D A ws1 → va_S A H0 H1 locs1 → W p l e R s m args below meth c H1 locs1 cells slots Q (F0 m (pc + 1) ls rest)) : W p l e R s m args below meth c H locs cells slots Q (F0 m pc ls (.int x :: .int i :: .ref a0 :: rest)) := by
  subst hi
  refine va_iast hx hb hK hP hD hS q0 t0 ha ht (vp_in_nI hk hn) hdg (fun H1 locs1 h1 h2 h3 => ?_)
  rw [nI_clamp (Nat.lt_trans hk hn), hws] at h1 h2
  exact kk H1 locs1 h1 h2 h3
theorem xcopyb {a0 a1 n0 n1 sp dp n : Nat} {i1 i2 i3 : Int32} {c0 c1 : ClassId} {f g : Nat → Int32} {own : String} {index : Nat} (hx : p.tables.exec = Jvm.exec) (hb : c.code = cc) (hml : c.maxLocals = ls.size) (hown : s.vm.findClass own = some m.cls) (hlink : (Cond.methodLink own index arraycopyName).before args s = true) (hnat : (Cond.native arraycopyName).before args s = true) (hstat : (Cond.static arraycopyName).before args s = true) (hini : (Cond.initialized "java/lang/System").before args s = true)
    (hK : va_K D vwCl tys s) (hP : va_P D vwCl ws H) (hD : va_D A ws) (hS : va_S A H0 H locs) (q0 q1 t0 t1 : Nat) (ha0 : ws[q0]? = some (a0, .inl (c0, n0, .inl f))) (ha1 : ws[q1]? = some (a1, .inl (c1, n1, .inl g))) (ht0 : tys[t0]? = some (c0, .byte)) (ht1 : tys[t1]? = some (c1, .byte))
    (e1 : i1 = nI sp) (e2 : i2 = nI dp) (e3 : i3 = nI n) (h4 : sp + n ≤ n0) (h5 : dp + n ≤ n1) (hn0 : n0 < 2 ^ 31) (hn1 : n1 < 2 ^ 31) (hfit : sb_Fit f) (hframes : 1 ≤ R.frames) (hlocals : (rest.map fun v => v.category).sum + (nativeFrameWords "java/lang/System" "arraycopy" 5 + 11) ≤ R.locals) (hws : ws.set q1 (a1, .inl (c1, n1, .inl (va_cpy f g sp dp n))) = ws1) (hdg : decode cc pc = .ok (.invokestatic index, 3))
    (kk : ∀ (H1 : Heap) (locs1 : List Loc), va_P D vwCl ws1 H1 → va_D A ws1 → va_S A H0 H1 locs1 → W p l e R s m args below meth c H1 locs1 cells slots Q (F0 m (pc + 3) ls rest)) : W p l e R s m args below meth c H locs cells slots Q (F0 m pc ls (.int i3 :: .int i2 :: .ref a1 :: .int i1 :: .ref a0 :: rest)) := by
  subst e1; subst e2; subst e3
  have z1 : (nI sp).toNatClampNeg = sp := nI_clamp (by omega)
  have z2 : (nI dp).toNatClampNeg = dp := nI_clamp (by omega)
  have z3 : (nI n).toNatClampNeg = n := nI_clamp (by omega)
  refine va_copyi hx hb hml hown hlink hnat hstat hini hK hP hD hS q0 q1 t0 t1 ha0 ha1 ht0 ht1 rfl (nI_pos (by omega)) (nI_pos (by omega)) (nI_pos (by omega)) (by rw [z1, z3]; exact h4) (by rw [z2, z3]; exact h5) (fun i _ => hfit _) hframes hlocals hdg (fun H1 locs1 h1 h2 h3 => ?_)
  rw [z1, z2, z3, hws] at h1 h2
  exact kk H1 locs1 h1 h2 h3
theorem xtopi {x y : Int32} (h : x = y) (kk : W p l e R s m args below meth c H locs cells slots Q (F0 m pc ls (.int y :: rest))) : W p l e R s m args below meth c H locs cells slots Q (F0 m pc ls (.int x :: rest)) := by
  rw [h]
  exact kk
theorem xtopl {x y : Int64} (h : x = y) (kk : W p l e R s m args below meth c H locs cells slots Q (F0 m pc ls (.long y :: rest))) : W p l e R s m args below meth c H locs cells slots Q (F0 m pc ls (.long x :: rest)) := by
  rw [h]
  exact kk
end XA
end
section
theorem wd_0 : Cond.selects "ImageGate" ⟨"ImageGate", "judge", "(I)I"⟩ ⟨"ImageGate", "judge", "(I)I"⟩ ∈ T0 := mT 0 (by decide +kernel) (by decide +kernel)
theorem wd_1 : Cond.selects "ImageGate$Plan" ⟨"ImageGate$Plan", "readHeader", "(LImageGate$FileBytes;I)Z"⟩ ⟨"ImageGate$Plan", "readHeader", "(LImageGate$FileBytes;I)Z"⟩ ∈ T0 := mT 1 (by decide +kernel) (by decide +kernel)
theorem wd_2 : Cond.selects "ImageGate$Image" ⟨"ImageGate$Image", "layPart", "(LImageGate$Part;LImageGate$FileBytes;)V"⟩ ⟨"ImageGate$Image", "layPart", "(LImageGate$Part;LImageGate$FileBytes;)V"⟩ ∈ T0 := mT 2 (by decide +kernel) (by decide +kernel)
theorem wd_3 : Cond.selects "ImageGate$Image" ⟨"ImageGate$Image", "takePage", "(II)LImageGate$Page;"⟩ ⟨"ImageGate$Image", "takePage", "(II)LImageGate$Page;"⟩ ∈ T0 := mT 3 (by decide +kernel) (by decide +kernel)
theorem wd_4 : Cond.selects "ImageGate$Image" ⟨"ImageGate$Image", "layStack", "(LImageGate$Page;LImageGate$Arguments;)V"⟩ ⟨"ImageGate$Image", "layStack", "(LImageGate$Page;LImageGate$Arguments;)V"⟩ ∈ T0 := mT 4 (by decide +kernel) (by decide +kernel)
theorem wd_5 : Cond.selects "ImageGateModel" ⟨"ImageGateModel", "wrong", "(I)I"⟩ ⟨"ImageGateModel", "wrong", "(I)I"⟩ ∈ T0 := mT 5 (by decide +kernel) (by decide +kernel)
theorem wd_6 : Cond.selects "ImageGateModel" ⟨"ImageGateModel", "isMarked", "()Z"⟩ ⟨"ImageGateModel", "isMarked", "()Z"⟩ ∈ T0 := mT 6 (by decide +kernel) (by decide +kernel)
theorem wd_7 : Cond.selects "ImageGateModel" ⟨"ImageGateModel", "number", "(JI)J"⟩ ⟨"ImageGateModel", "number", "(JI)J"⟩ ∈ T0 := mT 7 (by decide +kernel) (by decide +kernel)
theorem wd_8 : Cond.selects "ImageGateModel" ⟨"ImageGateModel", "isKind", "()Z"⟩ ⟨"ImageGateModel", "isKind", "()Z"⟩ ∈ T0 := mT 8 (by decide +kernel) (by decide +kernel)
theorem wd_9 : Cond.selects "ImageGateModel" ⟨"ImageGateModel", "header", "(J)Z"⟩ ⟨"ImageGateModel", "header", "(J)Z"⟩ ∈ T0 := mT 9 (by decide +kernel) (by decide +kernel)
theorem wd_10 : Cond.selects "ImageGateModel" ⟨"ImageGateModel", "wanted", "()I"⟩ ⟨"ImageGateModel", "wanted", "()I"⟩ ∈ T0 := mT 10 (by decide +kernel) (by decide +kernel)
theorem wd_11 : Cond.selects "ImageGateModel" ⟨"ImageGateModel", "laid", "(I)I"⟩ ⟨"ImageGateModel", "laid", "(I)I"⟩ ∈ T0 := mT 11 (by decide +kernel) (by decide +kernel)
theorem wd_12 : Cond.selects "ImageGateModel" ⟨"ImageGateModel", "part", "(I)I"⟩ ⟨"ImageGateModel", "part", "(I)I"⟩ ∈ T0 := mT 12 (by decide +kernel) (by decide +kernel)
theorem wd_13 : Cond.selects "ImageGateModel" ⟨"ImageGateModel", "near", "(I)I"⟩ ⟨"ImageGateModel", "near", "(I)I"⟩ ∈ T0 := mT 13 (by decide +kernel) (by decide +kernel)
theorem wd_14 : (Jvm.Cond.initialized "ImageGateLaw") ∈ T0 := mT 14 (by decide +kernel) (by decide +kernel)
theorem wd_15 : (Jvm.Cond.initialized "ImageGate") ∈ T0 := mT 15 (by decide +kernel) (by decide +kernel)
theorem wd_16 : (Jvm.Cond.initialized "ImageGate$FileBytes") ∈ T0 := mT 16 (by decide +kernel) (by decide +kernel)
theorem wd_17 : (Jvm.Cond.initialized "ImageGate$Arguments") ∈ T0 := mT 17 (by decide +kernel) (by decide +kernel)
theorem wd_18 : (Jvm.Cond.initialized "ImageGate$Plan") ∈ T0 := mT 18 (by decide +kernel) (by decide +kernel)
theorem wd_19 : (Jvm.Cond.initialized "ImageGate$Part") ∈ T0 := mT 19 (by decide +kernel) (by decide +kernel)
theorem wd_20 : (Jvm.Cond.initialized "ImageGate$Image") ∈ T0 := mT 20 (by decide +kernel) (by decide +kernel)
theorem wd_21 : (Jvm.Cond.initialized "ImageGate$Page") ∈ T0 := mT 21 (by decide +kernel) (by decide +kernel)
theorem wd_22 : (Jvm.Cond.initialized "ImageGateModel") ∈ T0 := mT 22 (by decide +kernel) (by decide +kernel)
theorem wd_23 : (Jvm.Cond.initialized "java/lang/Math") ∈ T0 := mT 23 (by decide +kernel) (by decide +kernel)
theorem wd_24 : (Jvm.Cond.initialized "java/util/Arrays") ∈ T0 := mT 24 (by decide +kernel) (by decide +kernel)
theorem wd_25 : (Jvm.Cond.initialized "java/lang/System") ∈ T0 := mT 25 (by decide +kernel) (by decide +kernel)
theorem wd_26 : (Jvm.Cond.classLink "ImageGateLaw" (7 : Nat) "ImageGate") ∈ T0 := mT 26 (by decide +kernel) (by decide +kernel)
theorem wd_27 : (Jvm.Cond.instantiable "ImageGate" (5 : Nat)) ∈ T0 := mT 27 (by decide +kernel) (by decide +kernel)
theorem wd_28 : (Jvm.Cond.methodLink "ImageGateLaw" (9 : Nat) ({ cls := "ImageGate", name := "<init>", desc := "()V" } : Jvm.MethodName)) ∈ T0 := mT 28 (by decide +kernel) (by decide +kernel)
theorem wd_29 : (Jvm.Cond.instanceMethod ({ cls := "ImageGate", name := "<init>", desc := "()V" } : Jvm.MethodName)) ∈ T0 := mT 29 (by decide +kernel) (by decide +kernel)
theorem wd_30 : (Jvm.Cond.code ({ cls := "ImageGate", name := "<init>", desc := "()V" } : Jvm.MethodName) prog_1_method_1_code (1 : Nat) (Option.none : Option Jvm.ClassFile.FieldType)) ∈ T0 := mT 30 (by decide +kernel) (by decide +kernel)
theorem wd_31 : (Jvm.Cond.methodLink "ImageGate" (1 : Nat) ({ cls := "java/lang/Object", name := "<init>", desc := "()V" } : Jvm.MethodName)) ∈ T0 := mT 31 (by decide +kernel) (by decide +kernel)
theorem wd_32 : (Jvm.Cond.instanceMethod ({ cls := "java/lang/Object", name := "<init>", desc := "()V" } : Jvm.MethodName)) ∈ T0 := mT 32 (by decide +kernel) (by decide +kernel)
theorem wd_33 : (Jvm.Cond.code ({ cls := "java/lang/Object", name := "<init>", desc := "()V" } : Jvm.MethodName) object_method_1_code (1 : Nat) (Option.none : Option Jvm.ClassFile.FieldType)) ∈ T0 := mT 33 (by decide +kernel) (by decide +kernel)
theorem wd_34 : (Jvm.Cond.classLink "ImageGate" (7 : Nat) "ImageGate$FileBytes") ∈ T0 := mT 34 (by decide +kernel) (by decide +kernel)
theorem wd_35 : (Jvm.Cond.instantiable "ImageGate$FileBytes" (2 : Nat)) ∈ T0 := mT 35 (by decide +kernel) (by decide +kernel)
theorem wd_36 : (Jvm.Cond.methodLinkNest "ImageGate" (9 : Nat) ({ cls := "ImageGate$FileBytes", name := "<init>", desc := "()V" } : Jvm.MethodName) "ImageGate") ∈ N0 := mN 36 (by decide +kernel) (by decide +kernel)
theorem wd_37 : (Jvm.Cond.instanceMethod ({ cls := "ImageGate$FileBytes", name := "<init>", desc := "()V" } : Jvm.MethodName)) ∈ T0 := mT 37 (by decide +kernel) (by decide +kernel)
theorem wd_38 : (Jvm.Cond.code ({ cls := "ImageGate$FileBytes", name := "<init>", desc := "()V" } : Jvm.MethodName) prog_3_method_1_code (1 : Nat) (Option.none : Option Jvm.ClassFile.FieldType)) ∈ T0 := mT 38 (by decide +kernel) (by decide +kernel)
theorem wd_39 : (Jvm.Cond.methodLink "ImageGate$FileBytes" (3 : Nat) ({ cls := "java/lang/Object", name := "<init>", desc := "()V" } : Jvm.MethodName)) ∈ T0 := mT 39 (by decide +kernel) (by decide +kernel)
theorem wd_40 : (Jvm.Cond.constant "ImageGate$FileBytes" (9 : Nat) (65536 : Int32)) ∈ T0 := mT 40 (by decide +kernel) (by decide +kernel)
theorem wd_41 : (Jvm.Cond.fieldLink "ImageGate$FileBytes" (10 : Nat) "ImageGate$FileBytes" "row" "[B") ∈ T0 := mT 41 (by decide +kernel) (by decide +kernel)
theorem wd_42 : (Jvm.Cond.fieldLink "ImageGate$FileBytes" (16 : Nat) "ImageGate$FileBytes" "count" "I") ∈ T0 := mT 42 (by decide +kernel) (by decide +kernel)
theorem wd_43 : (Jvm.Cond.fieldLinkNest "ImageGate" (56 : Nat) "ImageGate$FileBytes" "count" "I" "ImageGate") ∈ N0 := mN 43 (by decide +kernel) (by decide +kernel)
theorem wd_44 : (Jvm.Cond.laysFinal "ImageGate$FileBytes" "ImageGate$FileBytes" "row" "[B") ∈ T0 := mT 44 (by decide +kernel) (by decide +kernel)
theorem wd_45 : (Jvm.Cond.soleField "ImageGate$FileBytes" "row") ∈ T0 := mT 45 (by decide +kernel) (by decide +kernel)
theorem wd_46 : (Jvm.Cond.lays "ImageGate$FileBytes" "ImageGate$FileBytes" "count" "I") ∈ T0 := mT 46 (by decide +kernel) (by decide +kernel)
theorem wd_47 : (Jvm.Cond.soleField "ImageGate$FileBytes" "count") ∈ T0 := mT 47 (by decide +kernel) (by decide +kernel)
theorem wd_48 : (Jvm.Cond.superclass "ImageGate$FileBytes" "java/lang/Object") ∈ T0 := mT 48 (by decide +kernel) (by decide +kernel)
theorem wd_49 : (Jvm.Cond.arrayClass Jvm.ClassFile.FieldType.byte) ∈ T0 := mT 49 (by decide +kernel) (by decide +kernel)
theorem wd_50 : (Jvm.Cond.classLink "ImageGate" (16 : Nat) "ImageGate$Arguments") ∈ T0 := mT 50 (by decide +kernel) (by decide +kernel)
theorem wd_51 : (Jvm.Cond.instantiable "ImageGate$Arguments" (3 : Nat)) ∈ T0 := mT 51 (by decide +kernel) (by decide +kernel)
theorem wd_52 : (Jvm.Cond.methodLinkNest "ImageGate" (18 : Nat) ({ cls := "ImageGate$Arguments", name := "<init>", desc := "()V" } : Jvm.MethodName) "ImageGate") ∈ N0 := mN 52 (by decide +kernel) (by decide +kernel)
theorem wd_53 : (Jvm.Cond.instanceMethod ({ cls := "ImageGate$Arguments", name := "<init>", desc := "()V" } : Jvm.MethodName)) ∈ T0 := mT 53 (by decide +kernel) (by decide +kernel)
theorem wd_54 : (Jvm.Cond.code ({ cls := "ImageGate$Arguments", name := "<init>", desc := "()V" } : Jvm.MethodName) prog_2_method_1_code (1 : Nat) (Option.none : Option Jvm.ClassFile.FieldType)) ∈ T0 := mT 54 (by decide +kernel) (by decide +kernel)
theorem wd_55 : (Jvm.Cond.methodLink "ImageGate$Arguments" (3 : Nat) ({ cls := "java/lang/Object", name := "<init>", desc := "()V" } : Jvm.MethodName)) ∈ T0 := mT 55 (by decide +kernel) (by decide +kernel)
theorem wd_56 : (Jvm.Cond.fieldLink "ImageGate$Arguments" (9 : Nat) "ImageGate$Arguments" "row" "[B") ∈ T0 := mT 56 (by decide +kernel) (by decide +kernel)
theorem wd_57 : (Jvm.Cond.fieldLink "ImageGate$Arguments" (15 : Nat) "ImageGate$Arguments" "sizes" "[I") ∈ T0 := mT 57 (by decide +kernel) (by decide +kernel)
theorem wd_58 : (Jvm.Cond.fieldLink "ImageGate$Arguments" (19 : Nat) "ImageGate$Arguments" "count" "I") ∈ T0 := mT 58 (by decide +kernel) (by decide +kernel)
theorem wd_59 : (Jvm.Cond.fieldLinkNest "ImageGate$Image" (37 : Nat) "ImageGate$Arguments" "count" "I" "ImageGate") ∈ N0 := mN 59 (by decide +kernel) (by decide +kernel)
theorem wd_60 : (Jvm.Cond.fieldLinkNest "ImageGate" (67 : Nat) "ImageGate$Arguments" "count" "I" "ImageGate") ∈ N0 := mN 60 (by decide +kernel) (by decide +kernel)
theorem wd_61 : (Jvm.Cond.laysFinal "ImageGate$Arguments" "ImageGate$Arguments" "row" "[B") ∈ T0 := mT 61 (by decide +kernel) (by decide +kernel)
theorem wd_62 : (Jvm.Cond.soleField "ImageGate$Arguments" "row") ∈ T0 := mT 62 (by decide +kernel) (by decide +kernel)
theorem wd_63 : (Jvm.Cond.laysFinal "ImageGate$Arguments" "ImageGate$Arguments" "sizes" "[I") ∈ T0 := mT 63 (by decide +kernel) (by decide +kernel)
theorem wd_64 : (Jvm.Cond.soleField "ImageGate$Arguments" "sizes") ∈ T0 := mT 64 (by decide +kernel) (by decide +kernel)
theorem wd_65 : (Jvm.Cond.lays "ImageGate$Arguments" "ImageGate$Arguments" "count" "I") ∈ T0 := mT 65 (by decide +kernel) (by decide +kernel)
theorem wd_66 : (Jvm.Cond.soleField "ImageGate$Arguments" "count") ∈ T0 := mT 66 (by decide +kernel) (by decide +kernel)
theorem wd_67 : (Jvm.Cond.superclass "ImageGate$Arguments" "java/lang/Object") ∈ T0 := mT 67 (by decide +kernel) (by decide +kernel)
theorem wd_68 : (Jvm.Cond.arrayClass Jvm.ClassFile.FieldType.int) ∈ T0 := mT 68 (by decide +kernel) (by decide +kernel)
theorem wd_69 : (Jvm.Cond.classLink "ImageGate" (23 : Nat) "ImageGate$Plan") ∈ T0 := mT 69 (by decide +kernel) (by decide +kernel)
theorem wd_70 : (Jvm.Cond.instantiable "ImageGate$Plan" (5 : Nat)) ∈ T0 := mT 70 (by decide +kernel) (by decide +kernel)
theorem wd_71 : (Jvm.Cond.methodLink "ImageGate" (25 : Nat) ({ cls := "ImageGate$Plan", name := "<init>", desc := "()V" } : Jvm.MethodName)) ∈ T0 := mT 71 (by decide +kernel) (by decide +kernel)
theorem wd_72 : (Jvm.Cond.instanceMethod ({ cls := "ImageGate$Plan", name := "<init>", desc := "()V" } : Jvm.MethodName)) ∈ T0 := mT 72 (by decide +kernel) (by decide +kernel)
theorem wd_73 : (Jvm.Cond.code ({ cls := "ImageGate$Plan", name := "<init>", desc := "()V" } : Jvm.MethodName) prog_7_method_1_code (2 : Nat) (Option.none : Option Jvm.ClassFile.FieldType)) ∈ T0 := mT 73 (by decide +kernel) (by decide +kernel)
theorem wd_74 : (Jvm.Cond.methodLink "ImageGate$Plan" (3 : Nat) ({ cls := "java/lang/Object", name := "<init>", desc := "()V" } : Jvm.MethodName)) ∈ T0 := mT 74 (by decide +kernel) (by decide +kernel)
theorem wd_75 : (Jvm.Cond.classLink "ImageGate$Plan" (9 : Nat) "ImageGate$Part") ∈ T0 := mT 75 (by decide +kernel) (by decide +kernel)
theorem wd_76 : (Jvm.Cond.arrayOver (Jvm.ClassFile.FieldType.object "ImageGate$Part")) ∈ lw_tbl := List.mem_of_getElem? (i := 76) (by decide +kernel)
theorem wd_77 : (Jvm.Cond.instantiable "ImageGate$Part" (5 : Nat)) ∈ T0 := mT 77 (by decide +kernel) (by decide +kernel)
theorem wd_78 : (Jvm.Cond.methodLinkNest "ImageGate$Plan" (17 : Nat) ({ cls := "ImageGate$Part", name := "<init>", desc := "()V" } : Jvm.MethodName) "ImageGate") ∈ N0 := mN 78 (by decide +kernel) (by decide +kernel)
theorem wd_79 : (Jvm.Cond.instanceMethod ({ cls := "ImageGate$Part", name := "<init>", desc := "()V" } : Jvm.MethodName)) ∈ T0 := mT 79 (by decide +kernel) (by decide +kernel)
theorem wd_80 : (Jvm.Cond.code ({ cls := "ImageGate$Part", name := "<init>", desc := "()V" } : Jvm.MethodName) prog_6_method_1_code (1 : Nat) (Option.none : Option Jvm.ClassFile.FieldType)) ∈ T0 := mT 80 (by decide +kernel) (by decide +kernel)
theorem wd_81 : (Jvm.Cond.methodLink "ImageGate$Part" (1 : Nat) ({ cls := "java/lang/Object", name := "<init>", desc := "()V" } : Jvm.MethodName)) ∈ T0 := mT 81 (by decide +kernel) (by decide +kernel)
theorem wd_82 : (Jvm.Cond.fieldLinkNest "ImageGate$Image" (73 : Nat) "ImageGate$Part" "from" "I" "ImageGate") ∈ N0 := mN 82 (by decide +kernel) (by decide +kernel)
theorem wd_83 : (Jvm.Cond.fieldLinkNest "ImageGate$Plan" (63 : Nat) "ImageGate$Part" "from" "I" "ImageGate") ∈ N0 := mN 83 (by decide +kernel) (by decide +kernel)
theorem wd_84 : (Jvm.Cond.fieldLinkNest "ImageGate$Image" (70 : Nat) "ImageGate$Part" "bytes" "I" "ImageGate") ∈ N0 := mN 84 (by decide +kernel) (by decide +kernel)
theorem wd_85 : (Jvm.Cond.fieldLinkNest "ImageGate$Plan" (66 : Nat) "ImageGate$Part" "bytes" "I" "ImageGate") ∈ N0 := mN 85 (by decide +kernel) (by decide +kernel)
theorem wd_86 : (Jvm.Cond.fieldLinkNest "ImageGate$Image" (64 : Nat) "ImageGate$Part" "address" "I" "ImageGate") ∈ N0 := mN 86 (by decide +kernel) (by decide +kernel)
theorem wd_87 : (Jvm.Cond.fieldLinkNest "ImageGate$Plan" (69 : Nat) "ImageGate$Part" "address" "I" "ImageGate") ∈ N0 := mN 87 (by decide +kernel) (by decide +kernel)
theorem wd_88 : (Jvm.Cond.fieldLinkNest "ImageGate$Image" (60 : Nat) "ImageGate$Part" "pages" "I" "ImageGate") ∈ N0 := mN 88 (by decide +kernel) (by decide +kernel)
theorem wd_89 : (Jvm.Cond.fieldLinkNest "ImageGate$Plan" (72 : Nat) "ImageGate$Part" "pages" "I" "ImageGate") ∈ N0 := mN 89 (by decide +kernel) (by decide +kernel)
theorem wd_90 : (Jvm.Cond.fieldLinkNest "ImageGate$Image" (67 : Nat) "ImageGate$Part" "rights" "I" "ImageGate") ∈ N0 := mN 90 (by decide +kernel) (by decide +kernel)
theorem wd_91 : (Jvm.Cond.fieldLinkNest "ImageGate$Plan" (77 : Nat) "ImageGate$Part" "rights" "I" "ImageGate") ∈ N0 := mN 91 (by decide +kernel) (by decide +kernel)
theorem wd_92 : (Jvm.Cond.lays "ImageGate$Part" "ImageGate$Part" "from" "I") ∈ T0 := mT 92 (by decide +kernel) (by decide +kernel)
theorem wd_93 : (Jvm.Cond.soleField "ImageGate$Part" "from") ∈ T0 := mT 93 (by decide +kernel) (by decide +kernel)
theorem wd_94 : (Jvm.Cond.lays "ImageGate$Part" "ImageGate$Part" "bytes" "I") ∈ T0 := mT 94 (by decide +kernel) (by decide +kernel)
theorem wd_95 : (Jvm.Cond.soleField "ImageGate$Part" "bytes") ∈ T0 := mT 95 (by decide +kernel) (by decide +kernel)
theorem wd_96 : (Jvm.Cond.lays "ImageGate$Part" "ImageGate$Part" "address" "I") ∈ T0 := mT 96 (by decide +kernel) (by decide +kernel)
theorem wd_97 : (Jvm.Cond.soleField "ImageGate$Part" "address") ∈ T0 := mT 97 (by decide +kernel) (by decide +kernel)
theorem wd_98 : (Jvm.Cond.lays "ImageGate$Part" "ImageGate$Part" "pages" "I") ∈ T0 := mT 98 (by decide +kernel) (by decide +kernel)
theorem wd_99 : (Jvm.Cond.soleField "ImageGate$Part" "pages") ∈ T0 := mT 99 (by decide +kernel) (by decide +kernel)
theorem wd_100 : (Jvm.Cond.lays "ImageGate$Part" "ImageGate$Part" "rights" "I") ∈ T0 := mT 100 (by decide +kernel) (by decide +kernel)
theorem wd_101 : (Jvm.Cond.soleField "ImageGate$Part" "rights") ∈ T0 := mT 101 (by decide +kernel) (by decide +kernel)
theorem wd_102 : (Jvm.Cond.superclass "ImageGate$Part" "java/lang/Object") ∈ T0 := mT 102 (by decide +kernel) (by decide +kernel)
theorem wd_103 : (Jvm.Cond.fieldLink "ImageGate$Plan" (11 : Nat) "ImageGate$Plan" "parts" "[LImageGate$Part;") ∈ T0 := mT 103 (by decide +kernel) (by decide +kernel)
theorem wd_104 : (Jvm.Cond.fieldLinkNest "ImageGate$Image" (44 : Nat) "ImageGate$Plan" "parts" "[LImageGate$Part;" "ImageGate") ∈ N0 := mN 104 (by decide +kernel) (by decide +kernel)
theorem wd_105 : (Jvm.Cond.fieldLinkNest "ImageGate$Image" (43 : Nat) "ImageGate$Plan" "count" "I" "ImageGate") ∈ N0 := mN 105 (by decide +kernel) (by decide +kernel)
theorem wd_106 : (Jvm.Cond.fieldLink "ImageGate$Plan" (42 : Nat) "ImageGate$Plan" "count" "I") ∈ T0 := mT 106 (by decide +kernel) (by decide +kernel)
theorem wd_107 : (Jvm.Cond.fieldLinkNest "ImageGate$Image" (25 : Nat) "ImageGate$Plan" "entry" "I" "ImageGate") ∈ N0 := mN 107 (by decide +kernel) (by decide +kernel)
theorem wd_108 : (Jvm.Cond.fieldLink "ImageGate$Plan" (46 : Nat) "ImageGate$Plan" "entry" "I") ∈ T0 := mT 108 (by decide +kernel) (by decide +kernel)
theorem wd_109 : (Jvm.Cond.fieldLinkNest "ImageGate$Image" (31 : Nat) "ImageGate$Plan" "top" "I" "ImageGate") ∈ N0 := mN 109 (by decide +kernel) (by decide +kernel)
theorem wd_110 : (Jvm.Cond.fieldLink "ImageGate$Plan" (49 : Nat) "ImageGate$Plan" "top" "I") ∈ T0 := mT 110 (by decide +kernel) (by decide +kernel)
theorem wd_111 : (Jvm.Cond.fieldLink "ImageGate$Plan" (52 : Nat) "ImageGate$Plan" "pages" "I") ∈ T0 := mT 111 (by decide +kernel) (by decide +kernel)
theorem wd_112 : (Jvm.Cond.fieldLinkNest "ImageGate" (126 : Nat) "ImageGate$Plan" "pages" "I" "ImageGate") ∈ N0 := mN 112 (by decide +kernel) (by decide +kernel)
theorem wd_113 : (Jvm.Cond.laysFinal "ImageGate$Plan" "ImageGate$Plan" "parts" "[LImageGate$Part;") ∈ T0 := mT 113 (by decide +kernel) (by decide +kernel)
theorem wd_114 : (Jvm.Cond.soleField "ImageGate$Plan" "parts") ∈ T0 := mT 114 (by decide +kernel) (by decide +kernel)
theorem wd_115 : (Jvm.Cond.lays "ImageGate$Plan" "ImageGate$Plan" "count" "I") ∈ T0 := mT 115 (by decide +kernel) (by decide +kernel)
theorem wd_116 : (Jvm.Cond.soleField "ImageGate$Plan" "count") ∈ T0 := mT 116 (by decide +kernel) (by decide +kernel)
theorem wd_117 : (Jvm.Cond.lays "ImageGate$Plan" "ImageGate$Plan" "entry" "I") ∈ T0 := mT 117 (by decide +kernel) (by decide +kernel)
theorem wd_118 : (Jvm.Cond.soleField "ImageGate$Plan" "entry") ∈ T0 := mT 118 (by decide +kernel) (by decide +kernel)
theorem wd_119 : (Jvm.Cond.lays "ImageGate$Plan" "ImageGate$Plan" "top" "I") ∈ T0 := mT 119 (by decide +kernel) (by decide +kernel)
theorem wd_120 : (Jvm.Cond.soleField "ImageGate$Plan" "top") ∈ T0 := mT 120 (by decide +kernel) (by decide +kernel)
theorem wd_121 : (Jvm.Cond.lays "ImageGate$Plan" "ImageGate$Plan" "pages" "I") ∈ T0 := mT 121 (by decide +kernel) (by decide +kernel)
theorem wd_122 : (Jvm.Cond.soleField "ImageGate$Plan" "pages") ∈ T0 := mT 122 (by decide +kernel) (by decide +kernel)
theorem wd_123 : (Jvm.Cond.superclass "ImageGate$Plan" "java/lang/Object") ∈ T0 := mT 123 (by decide +kernel) (by decide +kernel)
theorem wd_124 : (Jvm.Cond.classLink "ImageGate" (30 : Nat) "ImageGate$Image") ∈ T0 := mT 124 (by decide +kernel) (by decide +kernel)
theorem wd_125 : (Jvm.Cond.instantiable "ImageGate$Image" (6 : Nat)) ∈ T0 := mT 125 (by decide +kernel) (by decide +kernel)
theorem wd_126 : (Jvm.Cond.methodLink "ImageGate" (32 : Nat) ({ cls := "ImageGate$Image", name := "<init>", desc := "()V" } : Jvm.MethodName)) ∈ T0 := mT 126 (by decide +kernel) (by decide +kernel)
theorem wd_127 : (Jvm.Cond.instanceMethod ({ cls := "ImageGate$Image", name := "<init>", desc := "()V" } : Jvm.MethodName)) ∈ T0 := mT 127 (by decide +kernel) (by decide +kernel)
theorem wd_128 : (Jvm.Cond.code ({ cls := "ImageGate$Image", name := "<init>", desc := "()V" } : Jvm.MethodName) prog_4_method_1_code (2 : Nat) (Option.none : Option Jvm.ClassFile.FieldType)) ∈ T0 := mT 128 (by decide +kernel) (by decide +kernel)
theorem wd_129 : (Jvm.Cond.methodLink "ImageGate$Image" (3 : Nat) ({ cls := "java/lang/Object", name := "<init>", desc := "()V" } : Jvm.MethodName)) ∈ T0 := mT 129 (by decide +kernel) (by decide +kernel)
theorem wd_130 : (Jvm.Cond.classLink "ImageGate$Image" (9 : Nat) "ImageGate$Page") ∈ T0 := mT 130 (by decide +kernel) (by decide +kernel)
theorem wd_131 : (Jvm.Cond.arrayOver (Jvm.ClassFile.FieldType.object "ImageGate$Page")) ∈ lw_tbl := List.mem_of_getElem? (i := 131) (by decide +kernel)
theorem wd_132 : (Jvm.Cond.instantiable "ImageGate$Page" (3 : Nat)) ∈ T0 := mT 132 (by decide +kernel) (by decide +kernel)
theorem wd_133 : (Jvm.Cond.methodLinkNest "ImageGate$Image" (17 : Nat) ({ cls := "ImageGate$Page", name := "<init>", desc := "()V" } : Jvm.MethodName) "ImageGate") ∈ N0 := mN 133 (by decide +kernel) (by decide +kernel)
theorem wd_134 : (Jvm.Cond.instanceMethod ({ cls := "ImageGate$Page", name := "<init>", desc := "()V" } : Jvm.MethodName)) ∈ T0 := mT 134 (by decide +kernel) (by decide +kernel)
theorem wd_135 : (Jvm.Cond.code ({ cls := "ImageGate$Page", name := "<init>", desc := "()V" } : Jvm.MethodName) prog_5_method_1_code (1 : Nat) (Option.none : Option Jvm.ClassFile.FieldType)) ∈ T0 := mT 135 (by decide +kernel) (by decide +kernel)
theorem wd_136 : (Jvm.Cond.methodLink "ImageGate$Page" (3 : Nat) ({ cls := "java/lang/Object", name := "<init>", desc := "()V" } : Jvm.MethodName)) ∈ T0 := mT 136 (by decide +kernel) (by decide +kernel)
theorem wd_137 : (Jvm.Cond.fieldLink "ImageGate$Page" (9 : Nat) "ImageGate$Page" "bytes" "[B") ∈ T0 := mT 137 (by decide +kernel) (by decide +kernel)
theorem wd_138 : (Jvm.Cond.fieldLinkNest "ImageGate$Arguments" (31 : Nat) "ImageGate$Page" "bytes" "[B" "ImageGate") ∈ N0 := mN 138 (by decide +kernel) (by decide +kernel)
theorem wd_139 : (Jvm.Cond.fieldLinkNest "ImageGate$FileBytes" (30 : Nat) "ImageGate$Page" "bytes" "[B" "ImageGate") ∈ N0 := mN 139 (by decide +kernel) (by decide +kernel)
theorem wd_140 : (Jvm.Cond.fieldLink "ImageGate$Page" (15 : Nat) "ImageGate$Page" "start" "I") ∈ T0 := mT 140 (by decide +kernel) (by decide +kernel)
theorem wd_141 : (Jvm.Cond.fieldLinkNest "ImageGate$Image" (22 : Nat) "ImageGate$Page" "start" "I" "ImageGate") ∈ N0 := mN 141 (by decide +kernel) (by decide +kernel)
theorem wd_142 : (Jvm.Cond.fieldLinkNest "ImageGate" (102 : Nat) "ImageGate$Page" "start" "I" "ImageGate") ∈ N0 := mN 142 (by decide +kernel) (by decide +kernel)
theorem wd_143 : (Jvm.Cond.fieldLink "ImageGate$Page" (19 : Nat) "ImageGate$Page" "rights" "I") ∈ T0 := mT 143 (by decide +kernel) (by decide +kernel)
theorem wd_144 : (Jvm.Cond.fieldLinkNest "ImageGate" (110 : Nat) "ImageGate$Page" "rights" "I" "ImageGate") ∈ N0 := mN 144 (by decide +kernel) (by decide +kernel)
theorem wd_145 : (Jvm.Cond.laysFinal "ImageGate$Page" "ImageGate$Page" "bytes" "[B") ∈ T0 := mT 145 (by decide +kernel) (by decide +kernel)
theorem wd_146 : (Jvm.Cond.soleField "ImageGate$Page" "bytes") ∈ T0 := mT 146 (by decide +kernel) (by decide +kernel)
theorem wd_147 : (Jvm.Cond.lays "ImageGate$Page" "ImageGate$Page" "start" "I") ∈ T0 := mT 147 (by decide +kernel) (by decide +kernel)
theorem wd_148 : (Jvm.Cond.soleField "ImageGate$Page" "start") ∈ T0 := mT 148 (by decide +kernel) (by decide +kernel)
theorem wd_149 : (Jvm.Cond.lays "ImageGate$Page" "ImageGate$Page" "rights" "I") ∈ T0 := mT 149 (by decide +kernel) (by decide +kernel)
theorem wd_150 : (Jvm.Cond.soleField "ImageGate$Page" "rights") ∈ T0 := mT 150 (by decide +kernel) (by decide +kernel)
theorem wd_151 : (Jvm.Cond.superclass "ImageGate$Page" "java/lang/Object") ∈ T0 := mT 151 (by decide +kernel) (by decide +kernel)
theorem wd_152 : (Jvm.Cond.fieldLink "ImageGate$Image" (11 : Nat) "ImageGate$Image" "pages" "[LImageGate$Page;") ∈ T0 := mT 152 (by decide +kernel) (by decide +kernel)
theorem wd_153 : (Jvm.Cond.fieldLink "ImageGate$Image" (18 : Nat) "ImageGate$Image" "count" "I") ∈ T0 := mT 153 (by decide +kernel) (by decide +kernel)
theorem wd_154 : (Jvm.Cond.fieldLinkNest "ImageGate" (85 : Nat) "ImageGate$Image" "count" "I" "ImageGate") ∈ N0 := mN 154 (by decide +kernel) (by decide +kernel)
theorem wd_155 : (Jvm.Cond.fieldLink "ImageGate$Image" (30 : Nat) "ImageGate$Image" "entry" "I") ∈ T0 := mT 155 (by decide +kernel) (by decide +kernel)
theorem wd_156 : (Jvm.Cond.fieldLinkNest "ImageGate" (86 : Nat) "ImageGate$Image" "entry" "I" "ImageGate") ∈ N0 := mN 156 (by decide +kernel) (by decide +kernel)
theorem wd_157 : (Jvm.Cond.fieldLink "ImageGate$Image" (100 : Nat) "ImageGate$Image" "stackPointer" "I") ∈ T0 := mT 157 (by decide +kernel) (by decide +kernel)
theorem wd_158 : (Jvm.Cond.fieldLinkNest "ImageGate" (89 : Nat) "ImageGate$Image" "stackPointer" "I" "ImageGate") ∈ N0 := mN 158 (by decide +kernel) (by decide +kernel)
theorem wd_159 : (Jvm.Cond.fieldLink "ImageGate$Image" (34 : Nat) "ImageGate$Image" "size" "I") ∈ T0 := mT 159 (by decide +kernel) (by decide +kernel)
theorem wd_160 : (Jvm.Cond.fieldLinkNest "ImageGate" (92 : Nat) "ImageGate$Image" "size" "I" "ImageGate") ∈ N0 := mN 160 (by decide +kernel) (by decide +kernel)
theorem wd_161 : (Jvm.Cond.fieldLink "ImageGate$Image" (40 : Nat) "ImageGate$Image" "argumentCount" "I") ∈ T0 := mT 161 (by decide +kernel) (by decide +kernel)
theorem wd_162 : (Jvm.Cond.fieldLinkNest "ImageGate" (95 : Nat) "ImageGate$Image" "argumentCount" "I" "ImageGate") ∈ N0 := mN 162 (by decide +kernel) (by decide +kernel)
theorem wd_163 : (Jvm.Cond.laysFinal "ImageGate$Image" "ImageGate$Image" "pages" "[LImageGate$Page;") ∈ T0 := mT 163 (by decide +kernel) (by decide +kernel)
theorem wd_164 : (Jvm.Cond.soleField "ImageGate$Image" "pages") ∈ T0 := mT 164 (by decide +kernel) (by decide +kernel)
theorem wd_165 : (Jvm.Cond.lays "ImageGate$Image" "ImageGate$Image" "count" "I") ∈ T0 := mT 165 (by decide +kernel) (by decide +kernel)
theorem wd_166 : (Jvm.Cond.soleField "ImageGate$Image" "count") ∈ T0 := mT 166 (by decide +kernel) (by decide +kernel)
theorem wd_167 : (Jvm.Cond.lays "ImageGate$Image" "ImageGate$Image" "entry" "I") ∈ T0 := mT 167 (by decide +kernel) (by decide +kernel)
theorem wd_168 : (Jvm.Cond.soleField "ImageGate$Image" "entry") ∈ T0 := mT 168 (by decide +kernel) (by decide +kernel)
theorem wd_169 : (Jvm.Cond.lays "ImageGate$Image" "ImageGate$Image" "stackPointer" "I") ∈ T0 := mT 169 (by decide +kernel) (by decide +kernel)
theorem wd_170 : (Jvm.Cond.soleField "ImageGate$Image" "stackPointer") ∈ T0 := mT 170 (by decide +kernel) (by decide +kernel)
theorem wd_171 : (Jvm.Cond.lays "ImageGate$Image" "ImageGate$Image" "size" "I") ∈ T0 := mT 171 (by decide +kernel) (by decide +kernel)
theorem wd_172 : (Jvm.Cond.soleField "ImageGate$Image" "size") ∈ T0 := mT 172 (by decide +kernel) (by decide +kernel)
theorem wd_173 : (Jvm.Cond.lays "ImageGate$Image" "ImageGate$Image" "argumentCount" "I") ∈ T0 := mT 173 (by decide +kernel) (by decide +kernel)
theorem wd_174 : (Jvm.Cond.soleField "ImageGate$Image" "argumentCount") ∈ T0 := mT 174 (by decide +kernel) (by decide +kernel)
theorem wd_175 : (Jvm.Cond.superclass "ImageGate$Image" "java/lang/Object") ∈ T0 := mT 175 (by decide +kernel) (by decide +kernel)
theorem wd_176 : (Jvm.Cond.fieldLink "ImageGate" (10 : Nat) "ImageGate" "file" "LImageGate$FileBytes;") ∈ T0 := mT 176 (by decide +kernel) (by decide +kernel)
theorem wd_177 : (Jvm.Cond.fieldLink "ImageGate" (19 : Nat) "ImageGate" "arguments" "LImageGate$Arguments;") ∈ T0 := mT 177 (by decide +kernel) (by decide +kernel)
theorem wd_178 : (Jvm.Cond.fieldLink "ImageGate" (26 : Nat) "ImageGate" "plan" "LImageGate$Plan;") ∈ T0 := mT 178 (by decide +kernel) (by decide +kernel)
theorem wd_179 : (Jvm.Cond.fieldLink "ImageGate" (33 : Nat) "ImageGate" "image" "LImageGate$Image;") ∈ T0 := mT 179 (by decide +kernel) (by decide +kernel)
theorem wd_180 : (Jvm.Cond.fieldLink "ImageGate" (37 : Nat) "ImageGate" "refusal" "I") ∈ T0 := mT 180 (by decide +kernel) (by decide +kernel)
theorem wd_181 : (Jvm.Cond.laysFinal "ImageGate" "ImageGate" "file" "LImageGate$FileBytes;") ∈ T0 := mT 181 (by decide +kernel) (by decide +kernel)
theorem wd_182 : (Jvm.Cond.soleField "ImageGate" "file") ∈ T0 := mT 182 (by decide +kernel) (by decide +kernel)
theorem wd_183 : (Jvm.Cond.laysFinal "ImageGate" "ImageGate" "arguments" "LImageGate$Arguments;") ∈ T0 := mT 183 (by decide +kernel) (by decide +kernel)
theorem wd_184 : (Jvm.Cond.soleField "ImageGate" "arguments") ∈ T0 := mT 184 (by decide +kernel) (by decide +kernel)
theorem wd_185 : (Jvm.Cond.laysFinal "ImageGate" "ImageGate" "plan" "LImageGate$Plan;") ∈ T0 := mT 185 (by decide +kernel) (by decide +kernel)
theorem wd_186 : (Jvm.Cond.soleField "ImageGate" "plan") ∈ T0 := mT 186 (by decide +kernel) (by decide +kernel)
theorem wd_187 : (Jvm.Cond.laysFinal "ImageGate" "ImageGate" "image" "LImageGate$Image;") ∈ T0 := mT 187 (by decide +kernel) (by decide +kernel)
theorem wd_188 : (Jvm.Cond.soleField "ImageGate" "image") ∈ T0 := mT 188 (by decide +kernel) (by decide +kernel)
theorem wd_189 : (Jvm.Cond.lays "ImageGate" "ImageGate" "refusal" "I") ∈ T0 := mT 189 (by decide +kernel) (by decide +kernel)
theorem wd_190 : (Jvm.Cond.soleField "ImageGate" "refusal") ∈ T0 := mT 190 (by decide +kernel) (by decide +kernel)
theorem wd_191 : (Jvm.Cond.superclass "ImageGate" "java/lang/Object") ∈ T0 := mT 191 (by decide +kernel) (by decide +kernel)
theorem wd_192 : (Jvm.Cond.methodLink "ImageGateLaw" (13 : Nat) ({ cls := "ImageGate", name := "feed", desc := "(IIIII)Z" } : Jvm.MethodName)) ∈ T0 := mT 192 (by decide +kernel) (by decide +kernel)
theorem wd_193 : (Jvm.Cond.instanceMethod ({ cls := "ImageGate", name := "feed", desc := "(IIIII)Z" } : Jvm.MethodName)) ∈ T0 := mT 193 (by decide +kernel) (by decide +kernel)
theorem wd_194 : (Jvm.Cond.selects "ImageGate" ({ cls := "ImageGate", name := "feed", desc := "(IIIII)Z" } : Jvm.MethodName) ({ cls := "ImageGate", name := "feed", desc := "(IIIII)Z" } : Jvm.MethodName)) ∈ T0 := mT 194 (by decide +kernel) (by decide +kernel)
theorem wd_195 : (Jvm.Cond.code ({ cls := "ImageGate", name := "feed", desc := "(IIIII)Z" } : Jvm.MethodName) prog_1_method_2_code (6 : Nat) (Option.some Jvm.ClassFile.FieldType.boolean)) ∈ T0 := mT 195 (by decide +kernel) (by decide +kernel)
theorem wd_196 : (Jvm.Cond.methodLink "ImageGate" (41 : Nat) ({ cls := "ImageGate$FileBytes", name := "hasRoom", desc := "(I)Z" } : Jvm.MethodName)) ∈ T0 := mT 196 (by decide +kernel) (by decide +kernel)
theorem wd_197 : (Jvm.Cond.instanceMethod ({ cls := "ImageGate$FileBytes", name := "hasRoom", desc := "(I)Z" } : Jvm.MethodName)) ∈ T0 := mT 197 (by decide +kernel) (by decide +kernel)
theorem wd_198 : (Jvm.Cond.selects "ImageGate$FileBytes" ({ cls := "ImageGate$FileBytes", name := "hasRoom", desc := "(I)Z" } : Jvm.MethodName) ({ cls := "ImageGate$FileBytes", name := "hasRoom", desc := "(I)Z" } : Jvm.MethodName)) ∈ T0 := mT 198 (by decide +kernel) (by decide +kernel)
theorem wd_199 : (Jvm.Cond.code ({ cls := "ImageGate$FileBytes", name := "hasRoom", desc := "(I)Z" } : Jvm.MethodName) prog_3_method_2_code (2 : Nat) (Option.some Jvm.ClassFile.FieldType.boolean)) ∈ T0 := mT 199 (by decide +kernel) (by decide +kernel)
theorem wd_200 : (Jvm.Cond.methodLink "ImageGate" (45 : Nat) ({ cls := "ImageGate$FileBytes", name := "append", desc := "(I)V" } : Jvm.MethodName)) ∈ T0 := mT 200 (by decide +kernel) (by decide +kernel)
theorem wd_201 : (Jvm.Cond.instanceMethod ({ cls := "ImageGate$FileBytes", name := "append", desc := "(I)V" } : Jvm.MethodName)) ∈ T0 := mT 201 (by decide +kernel) (by decide +kernel)
theorem wd_202 : (Jvm.Cond.selects "ImageGate$FileBytes" ({ cls := "ImageGate$FileBytes", name := "append", desc := "(I)V" } : Jvm.MethodName) ({ cls := "ImageGate$FileBytes", name := "append", desc := "(I)V" } : Jvm.MethodName)) ∈ T0 := mT 202 (by decide +kernel) (by decide +kernel)
theorem wd_203 : (Jvm.Cond.code ({ cls := "ImageGate$FileBytes", name := "append", desc := "(I)V" } : Jvm.MethodName) prog_3_method_4_code (3 : Nat) (Option.none : Option Jvm.ClassFile.FieldType)) ∈ T0 := mT 203 (by decide +kernel) (by decide +kernel)
theorem wd_204 : (Jvm.Cond.methodLink "ImageGateLaw" (18 : Nat) ({ cls := "ImageGate", name := "end", desc := "(I)Z" } : Jvm.MethodName)) ∈ T0 := mT 204 (by decide +kernel) (by decide +kernel)
theorem wd_205 : (Jvm.Cond.instanceMethod ({ cls := "ImageGate", name := "end", desc := "(I)Z" } : Jvm.MethodName)) ∈ T0 := mT 205 (by decide +kernel) (by decide +kernel)
theorem wd_206 : (Jvm.Cond.selects "ImageGate" ({ cls := "ImageGate", name := "end", desc := "(I)Z" } : Jvm.MethodName) ({ cls := "ImageGate", name := "end", desc := "(I)Z" } : Jvm.MethodName)) ∈ T0 := mT 206 (by decide +kernel) (by decide +kernel)
theorem wd_207 : (Jvm.Cond.code ({ cls := "ImageGate", name := "end", desc := "(I)Z" } : Jvm.MethodName) prog_1_method_3_code (2 : Nat) (Option.some Jvm.ClassFile.FieldType.boolean)) ∈ T0 := mT 207 (by decide +kernel) (by decide +kernel)
theorem wd_208 : (Jvm.Cond.methodLink "ImageGate" (49 : Nat) ({ cls := "ImageGate$FileBytes", name := "cut", desc := "(I)Z" } : Jvm.MethodName)) ∈ T0 := mT 208 (by decide +kernel) (by decide +kernel)
theorem wd_209 : (Jvm.Cond.instanceMethod ({ cls := "ImageGate$FileBytes", name := "cut", desc := "(I)Z" } : Jvm.MethodName)) ∈ T0 := mT 209 (by decide +kernel) (by decide +kernel)
theorem wd_210 : (Jvm.Cond.selects "ImageGate$FileBytes" ({ cls := "ImageGate$FileBytes", name := "cut", desc := "(I)Z" } : Jvm.MethodName) ({ cls := "ImageGate$FileBytes", name := "cut", desc := "(I)Z" } : Jvm.MethodName)) ∈ T0 := mT 210 (by decide +kernel) (by decide +kernel)
theorem wd_211 : (Jvm.Cond.code ({ cls := "ImageGate$FileBytes", name := "cut", desc := "(I)Z" } : Jvm.MethodName) prog_3_method_5_code (2 : Nat) (Option.some Jvm.ClassFile.FieldType.boolean)) ∈ T0 := mT 211 (by decide +kernel) (by decide +kernel)
theorem wd_212 : (Jvm.Cond.methodLink "ImageGateLaw" (23 : Nat) ({ cls := "ImageGate", name := "set", desc := "(II)Z" } : Jvm.MethodName)) ∈ T0 := mT 212 (by decide +kernel) (by decide +kernel)
theorem wd_213 : (Jvm.Cond.instanceMethod ({ cls := "ImageGate", name := "set", desc := "(II)Z" } : Jvm.MethodName)) ∈ T0 := mT 213 (by decide +kernel) (by decide +kernel)
theorem wd_214 : (Jvm.Cond.selects "ImageGate" ({ cls := "ImageGate", name := "set", desc := "(II)Z" } : Jvm.MethodName) ({ cls := "ImageGate", name := "set", desc := "(II)Z" } : Jvm.MethodName)) ∈ T0 := mT 214 (by decide +kernel) (by decide +kernel)
theorem wd_215 : (Jvm.Cond.code ({ cls := "ImageGate", name := "set", desc := "(II)Z" } : Jvm.MethodName) prog_1_method_4_code (3 : Nat) (Option.some Jvm.ClassFile.FieldType.boolean)) ∈ T0 := mT 215 (by decide +kernel) (by decide +kernel)
theorem wd_216 : (Jvm.Cond.methodLink "ImageGate" (52 : Nat) ({ cls := "ImageGate$FileBytes", name := "write", desc := "(III)Z" } : Jvm.MethodName)) ∈ T0 := mT 216 (by decide +kernel) (by decide +kernel)
theorem wd_217 : (Jvm.Cond.instanceMethod ({ cls := "ImageGate$FileBytes", name := "write", desc := "(III)Z" } : Jvm.MethodName)) ∈ T0 := mT 217 (by decide +kernel) (by decide +kernel)
theorem wd_218 : (Jvm.Cond.selects "ImageGate$FileBytes" ({ cls := "ImageGate$FileBytes", name := "write", desc := "(III)Z" } : Jvm.MethodName) ({ cls := "ImageGate$FileBytes", name := "write", desc := "(III)Z" } : Jvm.MethodName)) ∈ T0 := mT 218 (by decide +kernel) (by decide +kernel)
theorem wd_219 : (Jvm.Cond.code ({ cls := "ImageGate$FileBytes", name := "write", desc := "(III)Z" } : Jvm.MethodName) prog_3_method_6_code (5 : Nat) (Option.some Jvm.ClassFile.FieldType.boolean)) ∈ T0 := mT 219 (by decide +kernel) (by decide +kernel)
theorem wd_220 : (Jvm.Cond.methodLink "ImageGate$FileBytes" (20 : Nat) ({ cls := "ImageGate$FileBytes", name := "holds", desc := "(JJ)Z" } : Jvm.MethodName)) ∈ T0 := mT 220 (by decide +kernel) (by decide +kernel)
theorem wd_221 : (Jvm.Cond.instanceMethod ({ cls := "ImageGate$FileBytes", name := "holds", desc := "(JJ)Z" } : Jvm.MethodName)) ∈ T0 := mT 221 (by decide +kernel) (by decide +kernel)
theorem wd_222 : (Jvm.Cond.selects "ImageGate$FileBytes" ({ cls := "ImageGate$FileBytes", name := "holds", desc := "(JJ)Z" } : Jvm.MethodName) ({ cls := "ImageGate$FileBytes", name := "holds", desc := "(JJ)Z" } : Jvm.MethodName)) ∈ T0 := mT 222 (by decide +kernel) (by decide +kernel)
theorem wd_223 : (Jvm.Cond.code ({ cls := "ImageGate$FileBytes", name := "holds", desc := "(JJ)Z" } : Jvm.MethodName) prog_3_method_3_code (5 : Nat) (Option.some Jvm.ClassFile.FieldType.boolean)) ∈ T0 := mT 223 (by decide +kernel) (by decide +kernel)
theorem wd_224 : (Jvm.Cond.methodLink "ImageGateLaw" (28 : Nat) ({ cls := "ImageGate", name := "put", desc := "(III)Z" } : Jvm.MethodName)) ∈ T0 := mT 224 (by decide +kernel) (by decide +kernel)
theorem wd_225 : (Jvm.Cond.instanceMethod ({ cls := "ImageGate", name := "put", desc := "(III)Z" } : Jvm.MethodName)) ∈ T0 := mT 225 (by decide +kernel) (by decide +kernel)
theorem wd_226 : (Jvm.Cond.selects "ImageGate" ({ cls := "ImageGate", name := "put", desc := "(III)Z" } : Jvm.MethodName) ({ cls := "ImageGate", name := "put", desc := "(III)Z" } : Jvm.MethodName)) ∈ T0 := mT 226 (by decide +kernel) (by decide +kernel)
theorem wd_227 : (Jvm.Cond.code ({ cls := "ImageGate", name := "put", desc := "(III)Z" } : Jvm.MethodName) prog_1_method_5_code (4 : Nat) (Option.some Jvm.ClassFile.FieldType.boolean)) ∈ T0 := mT 227 (by decide +kernel) (by decide +kernel)
theorem wd_228 : (Jvm.Cond.methodLink "ImageGateLaw" (33 : Nat) ({ cls := "ImageGate", name := "length", desc := "()I" } : Jvm.MethodName)) ∈ T0 := mT 228 (by decide +kernel) (by decide +kernel)
theorem wd_229 : (Jvm.Cond.instanceMethod ({ cls := "ImageGate", name := "length", desc := "()I" } : Jvm.MethodName)) ∈ T0 := mT 229 (by decide +kernel) (by decide +kernel)
theorem wd_230 : (Jvm.Cond.selects "ImageGate" ({ cls := "ImageGate", name := "length", desc := "()I" } : Jvm.MethodName) ({ cls := "ImageGate", name := "length", desc := "()I" } : Jvm.MethodName)) ∈ T0 := mT 230 (by decide +kernel) (by decide +kernel)
theorem wd_231 : (Jvm.Cond.code ({ cls := "ImageGate", name := "length", desc := "()I" } : Jvm.MethodName) prog_1_method_6_code (1 : Nat) (Option.some Jvm.ClassFile.FieldType.int)) ∈ T0 := mT 231 (by decide +kernel) (by decide +kernel)
theorem wd_232 : (Jvm.Cond.methodLink "ImageGateLaw" (38 : Nat) ({ cls := "ImageGate", name := "argument", desc := "()Z" } : Jvm.MethodName)) ∈ T0 := mT 232 (by decide +kernel) (by decide +kernel)
theorem wd_233 : (Jvm.Cond.instanceMethod ({ cls := "ImageGate", name := "argument", desc := "()Z" } : Jvm.MethodName)) ∈ T0 := mT 233 (by decide +kernel) (by decide +kernel)
theorem wd_234 : (Jvm.Cond.selects "ImageGate" ({ cls := "ImageGate", name := "argument", desc := "()Z" } : Jvm.MethodName) ({ cls := "ImageGate", name := "argument", desc := "()Z" } : Jvm.MethodName)) ∈ T0 := mT 234 (by decide +kernel) (by decide +kernel)
theorem wd_235 : (Jvm.Cond.code ({ cls := "ImageGate", name := "argument", desc := "()Z" } : Jvm.MethodName) prog_1_method_7_code (1 : Nat) (Option.some Jvm.ClassFile.FieldType.boolean)) ∈ T0 := mT 235 (by decide +kernel) (by decide +kernel)
theorem wd_236 : (Jvm.Cond.methodLink "ImageGate" (59 : Nat) ({ cls := "ImageGate$Arguments", name := "open", desc := "()Z" } : Jvm.MethodName)) ∈ T0 := mT 236 (by decide +kernel) (by decide +kernel)
theorem wd_237 : (Jvm.Cond.instanceMethod ({ cls := "ImageGate$Arguments", name := "open", desc := "()Z" } : Jvm.MethodName)) ∈ T0 := mT 237 (by decide +kernel) (by decide +kernel)
theorem wd_238 : (Jvm.Cond.selects "ImageGate$Arguments" ({ cls := "ImageGate$Arguments", name := "open", desc := "()Z" } : Jvm.MethodName) ({ cls := "ImageGate$Arguments", name := "open", desc := "()Z" } : Jvm.MethodName)) ∈ T0 := mT 238 (by decide +kernel) (by decide +kernel)
theorem wd_239 : (Jvm.Cond.code ({ cls := "ImageGate$Arguments", name := "open", desc := "()Z" } : Jvm.MethodName) prog_2_method_2_code (1 : Nat) (Option.some Jvm.ClassFile.FieldType.boolean)) ∈ T0 := mT 239 (by decide +kernel) (by decide +kernel)
theorem wd_240 : (Jvm.Cond.methodLink "ImageGateLaw" (45 : Nat) ({ cls := "ImageGate", name := "letters", desc := "(J)Z" } : Jvm.MethodName)) ∈ T0 := mT 240 (by decide +kernel) (by decide +kernel)
theorem wd_241 : (Jvm.Cond.instanceMethod ({ cls := "ImageGate", name := "letters", desc := "(J)Z" } : Jvm.MethodName)) ∈ T0 := mT 241 (by decide +kernel) (by decide +kernel)
theorem wd_242 : (Jvm.Cond.selects "ImageGate" ({ cls := "ImageGate", name := "letters", desc := "(J)Z" } : Jvm.MethodName) ({ cls := "ImageGate", name := "letters", desc := "(J)Z" } : Jvm.MethodName)) ∈ T0 := mT 242 (by decide +kernel) (by decide +kernel)
theorem wd_243 : (Jvm.Cond.code ({ cls := "ImageGate", name := "letters", desc := "(J)Z" } : Jvm.MethodName) prog_1_method_8_code (3 : Nat) (Option.some Jvm.ClassFile.FieldType.boolean)) ∈ T0 := mT 243 (by decide +kernel) (by decide +kernel)
theorem wd_244 : (Jvm.Cond.methodLink "ImageGate" (63 : Nat) ({ cls := "ImageGate$Arguments", name := "extend", desc := "(J)Z" } : Jvm.MethodName)) ∈ T0 := mT 244 (by decide +kernel) (by decide +kernel)
theorem wd_245 : (Jvm.Cond.instanceMethod ({ cls := "ImageGate$Arguments", name := "extend", desc := "(J)Z" } : Jvm.MethodName)) ∈ T0 := mT 245 (by decide +kernel) (by decide +kernel)
theorem wd_246 : (Jvm.Cond.selects "ImageGate$Arguments" ({ cls := "ImageGate$Arguments", name := "extend", desc := "(J)Z" } : Jvm.MethodName) ({ cls := "ImageGate$Arguments", name := "extend", desc := "(J)Z" } : Jvm.MethodName)) ∈ T0 := mT 246 (by decide +kernel) (by decide +kernel)
theorem wd_247 : (Jvm.Cond.code ({ cls := "ImageGate$Arguments", name := "extend", desc := "(J)Z" } : Jvm.MethodName) prog_2_method_3_code (6 : Nat) (Option.some Jvm.ClassFile.FieldType.boolean)) ∈ T0 := mT 247 (by decide +kernel) (by decide +kernel)
theorem wd_248 : (Jvm.Cond.methodLink "ImageGate$Arguments" (23 : Nat) ({ cls := "ImageGate$Arguments", name := "lettersIn", desc := "(J)I" } : Jvm.MethodName)) ∈ T0 := mT 248 (by decide +kernel) (by decide +kernel)
theorem wd_249 : (Jvm.Cond.static ({ cls := "ImageGate$Arguments", name := "lettersIn", desc := "(J)I" } : Jvm.MethodName)) ∈ T0 := mT 249 (by decide +kernel) (by decide +kernel)
theorem wd_250 : (Jvm.Cond.code ({ cls := "ImageGate$Arguments", name := "lettersIn", desc := "(J)I" } : Jvm.MethodName) prog_2_method_4_code (4 : Nat) (Option.some Jvm.ClassFile.FieldType.int)) ∈ T0 := mT 250 (by decide +kernel) (by decide +kernel)
theorem wd_251 : (Jvm.Cond.methodLink "ImageGateLaw" (50 : Nat) ({ cls := "ImageGate", name := "forget", desc := "()V" } : Jvm.MethodName)) ∈ T0 := mT 251 (by decide +kernel) (by decide +kernel)
theorem wd_252 : (Jvm.Cond.instanceMethod ({ cls := "ImageGate", name := "forget", desc := "()V" } : Jvm.MethodName)) ∈ T0 := mT 252 (by decide +kernel) (by decide +kernel)
theorem wd_253 : (Jvm.Cond.selects "ImageGate" ({ cls := "ImageGate", name := "forget", desc := "()V" } : Jvm.MethodName) ({ cls := "ImageGate", name := "forget", desc := "()V" } : Jvm.MethodName)) ∈ T0 := mT 253 (by decide +kernel) (by decide +kernel)
theorem wd_254 : (Jvm.Cond.code ({ cls := "ImageGate", name := "forget", desc := "()V" } : Jvm.MethodName) prog_1_method_9_code (1 : Nat) (Option.none : Option Jvm.ClassFile.FieldType)) ∈ T0 := mT 254 (by decide +kernel) (by decide +kernel)
theorem wd_255 : (Jvm.Cond.methodLink "ImageGateLaw" (54 : Nat) ({ cls := "ImageGate", name := "load", desc := "(I)I" } : Jvm.MethodName)) ∈ T0 := mT 255 (by decide +kernel) (by decide +kernel)
theorem wd_256 : (Jvm.Cond.instanceMethod ({ cls := "ImageGate", name := "load", desc := "(I)I" } : Jvm.MethodName)) ∈ T0 := mT 256 (by decide +kernel) (by decide +kernel)
theorem wd_257 : (Jvm.Cond.selects "ImageGate" ({ cls := "ImageGate", name := "load", desc := "(I)I" } : Jvm.MethodName) ({ cls := "ImageGate", name := "load", desc := "(I)I" } : Jvm.MethodName)) ∈ T0 := mT 257 (by decide +kernel) (by decide +kernel)
theorem wd_258 : (Jvm.Cond.code ({ cls := "ImageGate", name := "load", desc := "(I)I" } : Jvm.MethodName) prog_1_method_10_code (2 : Nat) (Option.some Jvm.ClassFile.FieldType.int)) ∈ T0 := mT 258 (by decide +kernel) (by decide +kernel)
theorem wd_259 : (Jvm.Cond.methodLink "ImageGate" (68 : Nat) ({ cls := "java/lang/Math", name := "min", desc := "(II)I" } : Jvm.MethodName)) ∈ T0 := mT 259 (by decide +kernel) (by decide +kernel)
theorem wd_260 : (Jvm.Cond.static ({ cls := "java/lang/Math", name := "min", desc := "(II)I" } : Jvm.MethodName)) ∈ T0 := mT 260 (by decide +kernel) (by decide +kernel)
theorem wd_261 : (Jvm.Cond.code ({ cls := "java/lang/Math", name := "min", desc := "(II)I" } : Jvm.MethodName) prog_10_method_69_code (2 : Nat) (Option.some Jvm.ClassFile.FieldType.int)) ∈ T0 := mT 261 (by decide +kernel) (by decide +kernel)
theorem wd_262 : (Jvm.Cond.methodLink "ImageGate" (74 : Nat) ({ cls := "java/lang/Math", name := "max", desc := "(II)I" } : Jvm.MethodName)) ∈ T0 := mT 262 (by decide +kernel) (by decide +kernel)
theorem wd_263 : (Jvm.Cond.static ({ cls := "java/lang/Math", name := "max", desc := "(II)I" } : Jvm.MethodName)) ∈ T0 := mT 263 (by decide +kernel) (by decide +kernel)
theorem wd_264 : (Jvm.Cond.code ({ cls := "java/lang/Math", name := "max", desc := "(II)I" } : Jvm.MethodName) prog_10_method_65_code (2 : Nat) (Option.some Jvm.ClassFile.FieldType.int)) ∈ T0 := mT 264 (by decide +kernel) (by decide +kernel)
theorem wd_265 : (Jvm.Cond.methodLink "ImageGate" (77 : Nat) ({ cls := "ImageGate", name := "judge", desc := "(I)I" } : Jvm.MethodName)) ∈ T0 := mT 265 (by decide +kernel) (by decide +kernel)
theorem wd_266 : (Jvm.Cond.privateMethod ({ cls := "ImageGate", name := "judge", desc := "(I)I" } : Jvm.MethodName)) ∈ lw_tbl := List.mem_of_getElem? (i := 266) (by decide +kernel)
theorem wd_267 : (Jvm.Cond.instanceMethod ({ cls := "ImageGate", name := "judge", desc := "(I)I" } : Jvm.MethodName)) ∈ T0 := mT 267 (by decide +kernel) (by decide +kernel)
theorem wd_268 : (Jvm.Cond.code ({ cls := "ImageGate", name := "judge", desc := "(I)I" } : Jvm.MethodName) prog_1_method_15_code (2 : Nat) (Option.some Jvm.ClassFile.FieldType.int)) ∈ T0 := mT 268 (by decide +kernel) (by decide +kernel)
theorem wd_269 : (Jvm.Cond.methodLink "ImageGate" (113 : Nat) ({ cls := "ImageGate$Plan", name := "beginsAsImage", desc := "(LImageGate$FileBytes;)Z" } : Jvm.MethodName)) ∈ T0 := mT 269 (by decide +kernel) (by decide +kernel)
theorem wd_270 : (Jvm.Cond.instanceMethod ({ cls := "ImageGate$Plan", name := "beginsAsImage", desc := "(LImageGate$FileBytes;)Z" } : Jvm.MethodName)) ∈ T0 := mT 270 (by decide +kernel) (by decide +kernel)
theorem wd_271 : (Jvm.Cond.selects "ImageGate$Plan" ({ cls := "ImageGate$Plan", name := "beginsAsImage", desc := "(LImageGate$FileBytes;)Z" } : Jvm.MethodName) ({ cls := "ImageGate$Plan", name := "beginsAsImage", desc := "(LImageGate$FileBytes;)Z" } : Jvm.MethodName)) ∈ T0 := mT 271 (by decide +kernel) (by decide +kernel)
theorem wd_272 : (Jvm.Cond.code ({ cls := "ImageGate$Plan", name := "beginsAsImage", desc := "(LImageGate$FileBytes;)Z" } : Jvm.MethodName) prog_7_method_2_code (3 : Nat) (Option.some Jvm.ClassFile.FieldType.boolean)) ∈ T0 := mT 272 (by decide +kernel) (by decide +kernel)
theorem wd_273 : (Jvm.Cond.constantLong "ImageGate$Plan" (18 : Nat) (52 : Int64)) ∈ T0 := mT 273 (by decide +kernel) (by decide +kernel)
theorem wd_274 : (Jvm.Cond.methodLink "ImageGate$Plan" (20 : Nat) ({ cls := "ImageGate$FileBytes", name := "holds", desc := "(JJ)Z" } : Jvm.MethodName)) ∈ T0 := mT 274 (by decide +kernel) (by decide +kernel)
theorem wd_275 : (Jvm.Cond.fieldLinkNest "ImageGate$Plan" (26 : Nat) "ImageGate" "FIRST_BYTES" "[B" "ImageGate") ∈ N0 := mN 275 (by decide +kernel) (by decide +kernel)
theorem wd_276 : (Jvm.Cond.laysStatic "ImageGate" "FIRST_BYTES" "[B") ∈ lw_tbl := List.mem_of_getElem? (i := 276) (by decide +kernel)
theorem wd_277 : (Jvm.Cond.methodLink "ImageGate$Plan" (30 : Nat) ({ cls := "ImageGate$FileBytes", name := "number", desc := "(II)I" } : Jvm.MethodName)) ∈ T0 := mT 277 (by decide +kernel) (by decide +kernel)
theorem wd_278 : (Jvm.Cond.instanceMethod ({ cls := "ImageGate$FileBytes", name := "number", desc := "(II)I" } : Jvm.MethodName)) ∈ T0 := mT 278 (by decide +kernel) (by decide +kernel)
theorem wd_279 : (Jvm.Cond.selects "ImageGate$FileBytes" ({ cls := "ImageGate$FileBytes", name := "number", desc := "(II)I" } : Jvm.MethodName) ({ cls := "ImageGate$FileBytes", name := "number", desc := "(II)I" } : Jvm.MethodName)) ∈ T0 := mT 279 (by decide +kernel) (by decide +kernel)
theorem wd_280 : (Jvm.Cond.code ({ cls := "ImageGate$FileBytes", name := "number", desc := "(II)I" } : Jvm.MethodName) prog_3_method_7_code (5 : Nat) (Option.some Jvm.ClassFile.FieldType.int)) ∈ T0 := mT 280 (by decide +kernel) (by decide +kernel)
theorem wd_281 : (Jvm.Cond.methodLink "ImageGate" (117 : Nat) ({ cls := "ImageGate$Plan", name := "isOfOurKind", desc := "(LImageGate$FileBytes;)Z" } : Jvm.MethodName)) ∈ T0 := mT 281 (by decide +kernel) (by decide +kernel)
theorem wd_282 : (Jvm.Cond.instanceMethod ({ cls := "ImageGate$Plan", name := "isOfOurKind", desc := "(LImageGate$FileBytes;)Z" } : Jvm.MethodName)) ∈ T0 := mT 282 (by decide +kernel) (by decide +kernel)
theorem wd_283 : (Jvm.Cond.selects "ImageGate$Plan" ({ cls := "ImageGate$Plan", name := "isOfOurKind", desc := "(LImageGate$FileBytes;)Z" } : Jvm.MethodName) ({ cls := "ImageGate$Plan", name := "isOfOurKind", desc := "(LImageGate$FileBytes;)Z" } : Jvm.MethodName)) ∈ T0 := mT 283 (by decide +kernel) (by decide +kernel)
theorem wd_284 : (Jvm.Cond.code ({ cls := "ImageGate$Plan", name := "isOfOurKind", desc := "(LImageGate$FileBytes;)Z" } : Jvm.MethodName) prog_7_method_3_code (2 : Nat) (Option.some Jvm.ClassFile.FieldType.boolean)) ∈ T0 := mT 284 (by decide +kernel) (by decide +kernel)
theorem wd_285 : (Jvm.Cond.methodLink "ImageGate$Plan" (34 : Nat) ({ cls := "ImageGate$Plan", name := "headerCount", desc := "(LImageGate$FileBytes;)I" } : Jvm.MethodName)) ∈ T0 := mT 285 (by decide +kernel) (by decide +kernel)
theorem wd_286 : (Jvm.Cond.static ({ cls := "ImageGate$Plan", name := "headerCount", desc := "(LImageGate$FileBytes;)I" } : Jvm.MethodName)) ∈ T0 := mT 286 (by decide +kernel) (by decide +kernel)
theorem wd_287 : (Jvm.Cond.code ({ cls := "ImageGate$Plan", name := "headerCount", desc := "(LImageGate$FileBytes;)I" } : Jvm.MethodName) prog_7_method_6_code (1 : Nat) (Option.some Jvm.ClassFile.FieldType.int)) ∈ T0 := mT 287 (by decide +kernel) (by decide +kernel)
theorem wd_288 : (Jvm.Cond.methodLink "ImageGate" (120 : Nat) ({ cls := "ImageGate$Plan", name := "hasAllHeaders", desc := "(LImageGate$FileBytes;)Z" } : Jvm.MethodName)) ∈ T0 := mT 288 (by decide +kernel) (by decide +kernel)
theorem wd_289 : (Jvm.Cond.instanceMethod ({ cls := "ImageGate$Plan", name := "hasAllHeaders", desc := "(LImageGate$FileBytes;)Z" } : Jvm.MethodName)) ∈ T0 := mT 289 (by decide +kernel) (by decide +kernel)
theorem wd_290 : (Jvm.Cond.selects "ImageGate$Plan" ({ cls := "ImageGate$Plan", name := "hasAllHeaders", desc := "(LImageGate$FileBytes;)Z" } : Jvm.MethodName) ({ cls := "ImageGate$Plan", name := "hasAllHeaders", desc := "(LImageGate$FileBytes;)Z" } : Jvm.MethodName)) ∈ T0 := mT 290 (by decide +kernel) (by decide +kernel)
theorem wd_291 : (Jvm.Cond.code ({ cls := "ImageGate$Plan", name := "hasAllHeaders", desc := "(LImageGate$FileBytes;)Z" } : Jvm.MethodName) prog_7_method_4_code (3 : Nat) (Option.some Jvm.ClassFile.FieldType.boolean)) ∈ T0 := mT 291 (by decide +kernel) (by decide +kernel)
theorem wd_292 : (Jvm.Cond.methodLink "ImageGate$Plan" (38 : Nat) ({ cls := "ImageGate$FileBytes", name := "unsigned", desc := "(I)J" } : Jvm.MethodName)) ∈ T0 := mT 292 (by decide +kernel) (by decide +kernel)
theorem wd_293 : (Jvm.Cond.instanceMethod ({ cls := "ImageGate$FileBytes", name := "unsigned", desc := "(I)J" } : Jvm.MethodName)) ∈ T0 := mT 293 (by decide +kernel) (by decide +kernel)
theorem wd_294 : (Jvm.Cond.selects "ImageGate$FileBytes" ({ cls := "ImageGate$FileBytes", name := "unsigned", desc := "(I)J" } : Jvm.MethodName) ({ cls := "ImageGate$FileBytes", name := "unsigned", desc := "(I)J" } : Jvm.MethodName)) ∈ T0 := mT 294 (by decide +kernel) (by decide +kernel)
theorem wd_295 : (Jvm.Cond.code ({ cls := "ImageGate$FileBytes", name := "unsigned", desc := "(I)J" } : Jvm.MethodName) prog_3_method_8_code (2 : Nat) (Option.some Jvm.ClassFile.FieldType.long)) ∈ T0 := mT 295 (by decide +kernel) (by decide +kernel)
theorem wd_296 : (Jvm.Cond.methodLink "ImageGate$FileBytes" (24 : Nat) ({ cls := "ImageGate$FileBytes", name := "number", desc := "(II)I" } : Jvm.MethodName)) ∈ T0 := mT 296 (by decide +kernel) (by decide +kernel)
theorem wd_297 : (Jvm.Cond.constantLong "ImageGate$FileBytes" (28 : Nat) (4294967295 : Int64)) ∈ T0 := mT 297 (by decide +kernel) (by decide +kernel)
theorem wd_298 : (Jvm.Cond.methodLink "ImageGate" (123 : Nat) ({ cls := "ImageGate$Plan", name := "readParts", desc := "(LImageGate$FileBytes;)Z" } : Jvm.MethodName)) ∈ T0 := mT 298 (by decide +kernel) (by decide +kernel)
theorem wd_299 : (Jvm.Cond.instanceMethod ({ cls := "ImageGate$Plan", name := "readParts", desc := "(LImageGate$FileBytes;)Z" } : Jvm.MethodName)) ∈ T0 := mT 299 (by decide +kernel) (by decide +kernel)
theorem wd_300 : (Jvm.Cond.selects "ImageGate$Plan" ({ cls := "ImageGate$Plan", name := "readParts", desc := "(LImageGate$FileBytes;)Z" } : Jvm.MethodName) ({ cls := "ImageGate$Plan", name := "readParts", desc := "(LImageGate$FileBytes;)Z" } : Jvm.MethodName)) ∈ T0 := mT 300 (by decide +kernel) (by decide +kernel)
theorem wd_301 : (Jvm.Cond.code ({ cls := "ImageGate$Plan", name := "readParts", desc := "(LImageGate$FileBytes;)Z" } : Jvm.MethodName) prog_7_method_5_code (5 : Nat) (Option.some Jvm.ClassFile.FieldType.boolean)) ∈ T0 := mT 301 (by decide +kernel) (by decide +kernel)
theorem wd_302 : (Jvm.Cond.methodLink "ImageGate$Plan" (55 : Nat) ({ cls := "ImageGate$Plan", name := "readHeader", desc := "(LImageGate$FileBytes;I)Z" } : Jvm.MethodName)) ∈ T0 := mT 302 (by decide +kernel) (by decide +kernel)
theorem wd_303 : (Jvm.Cond.privateMethod ({ cls := "ImageGate$Plan", name := "readHeader", desc := "(LImageGate$FileBytes;I)Z" } : Jvm.MethodName)) ∈ lw_tbl := List.mem_of_getElem? (i := 303) (by decide +kernel)
theorem wd_304 : (Jvm.Cond.instanceMethod ({ cls := "ImageGate$Plan", name := "readHeader", desc := "(LImageGate$FileBytes;I)Z" } : Jvm.MethodName)) ∈ T0 := mT 304 (by decide +kernel) (by decide +kernel)
theorem wd_305 : (Jvm.Cond.code ({ cls := "ImageGate$Plan", name := "readHeader", desc := "(LImageGate$FileBytes;I)Z" } : Jvm.MethodName) prog_7_method_7_code (12 : Nat) (Option.some Jvm.ClassFile.FieldType.boolean)) ∈ T0 := mT 305 (by decide +kernel) (by decide +kernel)
theorem wd_306 : (Jvm.Cond.constantLong "ImageGate$Plan" (59 : Nat) (4096 : Int64)) ∈ T0 := mT 306 (by decide +kernel) (by decide +kernel)
theorem wd_307 : (Jvm.Cond.constantLong "ImageGate$Plan" (61 : Nat) (1073733632 : Int64)) ∈ T0 := mT 307 (by decide +kernel) (by decide +kernel)
theorem wd_308 : (Jvm.Cond.methodLink "ImageGate$Plan" (73 : Nat) ({ cls := "ImageGate$Plan", name := "rightsOf", desc := "(I)I" } : Jvm.MethodName)) ∈ T0 := mT 308 (by decide +kernel) (by decide +kernel)
theorem wd_309 : (Jvm.Cond.static ({ cls := "ImageGate$Plan", name := "rightsOf", desc := "(I)I" } : Jvm.MethodName)) ∈ T0 := mT 309 (by decide +kernel) (by decide +kernel)
theorem wd_310 : (Jvm.Cond.code ({ cls := "ImageGate$Plan", name := "rightsOf", desc := "(I)I" } : Jvm.MethodName) prog_7_method_8_code (1 : Nat) (Option.some Jvm.ClassFile.FieldType.int)) ∈ T0 := mT 310 (by decide +kernel) (by decide +kernel)
theorem wd_311 : (Jvm.Cond.methodLink "ImageGate" (129 : Nat) ({ cls := "ImageGate$Arguments", name := "stackPointer", desc := "()I" } : Jvm.MethodName)) ∈ T0 := mT 311 (by decide +kernel) (by decide +kernel)
theorem wd_312 : (Jvm.Cond.instanceMethod ({ cls := "ImageGate$Arguments", name := "stackPointer", desc := "()I" } : Jvm.MethodName)) ∈ T0 := mT 312 (by decide +kernel) (by decide +kernel)
theorem wd_313 : (Jvm.Cond.selects "ImageGate$Arguments" ({ cls := "ImageGate$Arguments", name := "stackPointer", desc := "()I" } : Jvm.MethodName) ({ cls := "ImageGate$Arguments", name := "stackPointer", desc := "()I" } : Jvm.MethodName)) ∈ T0 := mT 313 (by decide +kernel) (by decide +kernel)
theorem wd_314 : (Jvm.Cond.code ({ cls := "ImageGate$Arguments", name := "stackPointer", desc := "()I" } : Jvm.MethodName) prog_2_method_6_code (3 : Nat) (Option.some Jvm.ClassFile.FieldType.int)) ∈ T0 := mT 314 (by decide +kernel) (by decide +kernel)
theorem wd_315 : (Jvm.Cond.methodLink "ImageGate$Arguments" (27 : Nat) ({ cls := "ImageGate$Arguments", name := "placeBelow", desc := "(II)I" } : Jvm.MethodName)) ∈ T0 := mT 315 (by decide +kernel) (by decide +kernel)
theorem wd_316 : (Jvm.Cond.instanceMethod ({ cls := "ImageGate$Arguments", name := "placeBelow", desc := "(II)I" } : Jvm.MethodName)) ∈ T0 := mT 316 (by decide +kernel) (by decide +kernel)
theorem wd_317 : (Jvm.Cond.selects "ImageGate$Arguments" ({ cls := "ImageGate$Arguments", name := "placeBelow", desc := "(II)I" } : Jvm.MethodName) ({ cls := "ImageGate$Arguments", name := "placeBelow", desc := "(II)I" } : Jvm.MethodName)) ∈ T0 := mT 317 (by decide +kernel) (by decide +kernel)
theorem wd_318 : (Jvm.Cond.code ({ cls := "ImageGate$Arguments", name := "placeBelow", desc := "(II)I" } : Jvm.MethodName) prog_2_method_5_code (4 : Nat) (Option.some Jvm.ClassFile.FieldType.int)) ∈ T0 := mT 318 (by decide +kernel) (by decide +kernel)
theorem wd_319 : (Jvm.Cond.methodLink "ImageGate" (81 : Nat) ({ cls := "ImageGate$Image", name := "lay", desc := "(LImageGate$Plan;LImageGate$FileBytes;LImageGate$Arguments;)V" } : Jvm.MethodName)) ∈ T0 := mT 319 (by decide +kernel) (by decide +kernel)
theorem wd_320 : (Jvm.Cond.instanceMethod ({ cls := "ImageGate$Image", name := "lay", desc := "(LImageGate$Plan;LImageGate$FileBytes;LImageGate$Arguments;)V" } : Jvm.MethodName)) ∈ T0 := mT 320 (by decide +kernel) (by decide +kernel)
theorem wd_321 : (Jvm.Cond.selects "ImageGate$Image" ({ cls := "ImageGate$Image", name := "lay", desc := "(LImageGate$Plan;LImageGate$FileBytes;LImageGate$Arguments;)V" } : Jvm.MethodName) ({ cls := "ImageGate$Image", name := "lay", desc := "(LImageGate$Plan;LImageGate$FileBytes;LImageGate$Arguments;)V" } : Jvm.MethodName)) ∈ T0 := mT 321 (by decide +kernel) (by decide +kernel)
theorem wd_322 : (Jvm.Cond.code ({ cls := "ImageGate$Image", name := "lay", desc := "(LImageGate$Plan;LImageGate$FileBytes;LImageGate$Arguments;)V" } : Jvm.MethodName) prog_4_method_3_code (5 : Nat) (Option.none : Option Jvm.ClassFile.FieldType)) ∈ T0 := mT 322 (by decide +kernel) (by decide +kernel)
theorem wd_323 : (Jvm.Cond.methodLink "ImageGate$Image" (48 : Nat) ({ cls := "ImageGate$Image", name := "layPart", desc := "(LImageGate$Part;LImageGate$FileBytes;)V" } : Jvm.MethodName)) ∈ T0 := mT 323 (by decide +kernel) (by decide +kernel)
theorem wd_324 : (Jvm.Cond.privateMethod ({ cls := "ImageGate$Image", name := "layPart", desc := "(LImageGate$Part;LImageGate$FileBytes;)V" } : Jvm.MethodName)) ∈ lw_tbl := List.mem_of_getElem? (i := 324) (by decide +kernel)
theorem wd_325 : (Jvm.Cond.instanceMethod ({ cls := "ImageGate$Image", name := "layPart", desc := "(LImageGate$Part;LImageGate$FileBytes;)V" } : Jvm.MethodName)) ∈ T0 := mT 325 (by decide +kernel) (by decide +kernel)
theorem wd_326 : (Jvm.Cond.code ({ cls := "ImageGate$Image", name := "layPart", desc := "(LImageGate$Part;LImageGate$FileBytes;)V" } : Jvm.MethodName) prog_4_method_4_code (6 : Nat) (Option.none : Option Jvm.ClassFile.FieldType)) ∈ T0 := mT 326 (by decide +kernel) (by decide +kernel)
theorem wd_327 : (Jvm.Cond.methodLink "ImageGate$Image" (52 : Nat) ({ cls := "ImageGate$Image", name := "takePage", desc := "(II)LImageGate$Page;" } : Jvm.MethodName)) ∈ T0 := mT 327 (by decide +kernel) (by decide +kernel)
theorem wd_328 : (Jvm.Cond.privateMethod ({ cls := "ImageGate$Image", name := "takePage", desc := "(II)LImageGate$Page;" } : Jvm.MethodName)) ∈ lw_tbl := List.mem_of_getElem? (i := 328) (by decide +kernel)
theorem wd_329 : (Jvm.Cond.instanceMethod ({ cls := "ImageGate$Image", name := "takePage", desc := "(II)LImageGate$Page;" } : Jvm.MethodName)) ∈ T0 := mT 329 (by decide +kernel) (by decide +kernel)
theorem wd_330 : (Jvm.Cond.code ({ cls := "ImageGate$Image", name := "takePage", desc := "(II)LImageGate$Page;" } : Jvm.MethodName) prog_4_method_6_code (4 : Nat) (Option.some (Jvm.ClassFile.FieldType.object "ImageGate$Page"))) ∈ T0 := mT 330 (by decide +kernel) (by decide +kernel)
theorem wd_331 : (Jvm.Cond.methodLink "ImageGate$Image" (102 : Nat) ({ cls := "ImageGate$Page", name := "clear", desc := "(II)V" } : Jvm.MethodName)) ∈ T0 := mT 331 (by decide +kernel) (by decide +kernel)
theorem wd_332 : (Jvm.Cond.instanceMethod ({ cls := "ImageGate$Page", name := "clear", desc := "(II)V" } : Jvm.MethodName)) ∈ T0 := mT 332 (by decide +kernel) (by decide +kernel)
theorem wd_333 : (Jvm.Cond.selects "ImageGate$Page" ({ cls := "ImageGate$Page", name := "clear", desc := "(II)V" } : Jvm.MethodName) ({ cls := "ImageGate$Page", name := "clear", desc := "(II)V" } : Jvm.MethodName)) ∈ T0 := mT 333 (by decide +kernel) (by decide +kernel)
theorem wd_334 : (Jvm.Cond.code ({ cls := "ImageGate$Page", name := "clear", desc := "(II)V" } : Jvm.MethodName) prog_5_method_2_code (3 : Nat) (Option.none : Option Jvm.ClassFile.FieldType)) ∈ T0 := mT 334 (by decide +kernel) (by decide +kernel)
theorem wd_335 : (Jvm.Cond.methodLink "ImageGate$Page" (22 : Nat) ({ cls := "java/util/Arrays", name := "fill", desc := "([BB)V" } : Jvm.MethodName)) ∈ T0 := mT 335 (by decide +kernel) (by decide +kernel)
theorem wd_336 : (Jvm.Cond.static ({ cls := "java/util/Arrays", name := "fill", desc := "([BB)V" } : Jvm.MethodName)) ∈ T0 := mT 336 (by decide +kernel) (by decide +kernel)
theorem wd_337 : (Jvm.Cond.code ({ cls := "java/util/Arrays", name := "fill", desc := "([BB)V" } : Jvm.MethodName) prog_12_method_109_code (4 : Nat) (Option.none : Option Jvm.ClassFile.FieldType)) ∈ T0 := mT 337 (by decide +kernel) (by decide +kernel)
theorem wd_338 : (Jvm.Cond.methodLink "ImageGate$Image" (76 : Nat) ({ cls := "java/lang/Math", name := "min", desc := "(II)I" } : Jvm.MethodName)) ∈ T0 := mT 338 (by decide +kernel) (by decide +kernel)
theorem wd_339 : (Jvm.Cond.methodLink "ImageGate$Image" (82 : Nat) ({ cls := "ImageGate$FileBytes", name := "copyTo", desc := "(LImageGate$Page;II)V" } : Jvm.MethodName)) ∈ T0 := mT 339 (by decide +kernel) (by decide +kernel)
theorem wd_340 : (Jvm.Cond.instanceMethod ({ cls := "ImageGate$FileBytes", name := "copyTo", desc := "(LImageGate$Page;II)V" } : Jvm.MethodName)) ∈ T0 := mT 340 (by decide +kernel) (by decide +kernel)
theorem wd_341 : (Jvm.Cond.selects "ImageGate$FileBytes" ({ cls := "ImageGate$FileBytes", name := "copyTo", desc := "(LImageGate$Page;II)V" } : Jvm.MethodName) ({ cls := "ImageGate$FileBytes", name := "copyTo", desc := "(LImageGate$Page;II)V" } : Jvm.MethodName)) ∈ T0 := mT 341 (by decide +kernel) (by decide +kernel)
theorem wd_342 : (Jvm.Cond.code ({ cls := "ImageGate$FileBytes", name := "copyTo", desc := "(LImageGate$Page;II)V" } : Jvm.MethodName) prog_3_method_9_code (4 : Nat) (Option.none : Option Jvm.ClassFile.FieldType)) ∈ T0 := mT 342 (by decide +kernel) (by decide +kernel)
theorem wd_343 : (Jvm.Cond.methodLink "ImageGate$FileBytes" (35 : Nat) ({ cls := "java/lang/System", name := "arraycopy", desc := "(Ljava/lang/Object;ILjava/lang/Object;II)V" } : Jvm.MethodName)) ∈ T0 := mT 343 (by decide +kernel) (by decide +kernel)
theorem wd_344 : (Jvm.Cond.static ({ cls := "java/lang/System", name := "arraycopy", desc := "(Ljava/lang/Object;ILjava/lang/Object;II)V" } : Jvm.MethodName)) ∈ T0 := mT 344 (by decide +kernel) (by decide +kernel)
theorem wd_345 : (Jvm.Cond.native ({ cls := "java/lang/System", name := "arraycopy", desc := "(Ljava/lang/Object;ILjava/lang/Object;II)V" } : Jvm.MethodName)) ∈ T0 := mT 345 (by decide +kernel) (by decide +kernel)
theorem wd_346 : (Jvm.Cond.methodLink "ImageGate$Image" (56 : Nat) ({ cls := "ImageGate$Image", name := "layStack", desc := "(LImageGate$Page;LImageGate$Arguments;)V" } : Jvm.MethodName)) ∈ T0 := mT 346 (by decide +kernel) (by decide +kernel)
theorem wd_347 : (Jvm.Cond.privateMethod ({ cls := "ImageGate$Image", name := "layStack", desc := "(LImageGate$Page;LImageGate$Arguments;)V" } : Jvm.MethodName)) ∈ lw_tbl := List.mem_of_getElem? (i := 347) (by decide +kernel)
theorem wd_348 : (Jvm.Cond.instanceMethod ({ cls := "ImageGate$Image", name := "layStack", desc := "(LImageGate$Page;LImageGate$Arguments;)V" } : Jvm.MethodName)) ∈ T0 := mT 348 (by decide +kernel) (by decide +kernel)
theorem wd_349 : (Jvm.Cond.code ({ cls := "ImageGate$Image", name := "layStack", desc := "(LImageGate$Page;LImageGate$Arguments;)V" } : Jvm.MethodName) prog_4_method_5_code (6 : Nat) (Option.none : Option Jvm.ClassFile.FieldType)) ∈ T0 := mT 349 (by decide +kernel) (by decide +kernel)
theorem wd_350 : (Jvm.Cond.methodLink "ImageGate$Image" (88 : Nat) ({ cls := "ImageGate$Arguments", name := "stackPointer", desc := "()I" } : Jvm.MethodName)) ∈ T0 := mT 350 (by decide +kernel) (by decide +kernel)
theorem wd_351 : (Jvm.Cond.methodLink "ImageGate$Image" (92 : Nat) ({ cls := "ImageGate$Arguments", name := "placeBelow", desc := "(II)I" } : Jvm.MethodName)) ∈ T0 := mT 351 (by decide +kernel) (by decide +kernel)
theorem wd_352 : (Jvm.Cond.methodLink "ImageGate$Image" (95 : Nat) ({ cls := "ImageGate$Arguments", name := "copyTo", desc := "(LImageGate$Page;II)V" } : Jvm.MethodName)) ∈ T0 := mT 352 (by decide +kernel) (by decide +kernel)
theorem wd_353 : (Jvm.Cond.instanceMethod ({ cls := "ImageGate$Arguments", name := "copyTo", desc := "(LImageGate$Page;II)V" } : Jvm.MethodName)) ∈ T0 := mT 353 (by decide +kernel) (by decide +kernel)
theorem wd_354 : (Jvm.Cond.selects "ImageGate$Arguments" ({ cls := "ImageGate$Arguments", name := "copyTo", desc := "(LImageGate$Page;II)V" } : Jvm.MethodName) ({ cls := "ImageGate$Arguments", name := "copyTo", desc := "(LImageGate$Page;II)V" } : Jvm.MethodName)) ∈ T0 := mT 354 (by decide +kernel) (by decide +kernel)
theorem wd_355 : (Jvm.Cond.code ({ cls := "ImageGate$Arguments", name := "copyTo", desc := "(LImageGate$Page;II)V" } : Jvm.MethodName) prog_2_method_7_code (4 : Nat) (Option.none : Option Jvm.ClassFile.FieldType)) ∈ T0 := mT 355 (by decide +kernel) (by decide +kernel)
theorem wd_356 : (Jvm.Cond.methodLink "ImageGate$Arguments" (36 : Nat) ({ cls := "java/lang/System", name := "arraycopy", desc := "(Ljava/lang/Object;ILjava/lang/Object;II)V" } : Jvm.MethodName)) ∈ T0 := mT 356 (by decide +kernel) (by decide +kernel)
theorem wd_357 : (Jvm.Cond.methodLink "ImageGate$Image" (96 : Nat) ({ cls := "ImageGate$Page", name := "writeNumber", desc := "(II)V" } : Jvm.MethodName)) ∈ T0 := mT 357 (by decide +kernel) (by decide +kernel)
theorem wd_358 : (Jvm.Cond.instanceMethod ({ cls := "ImageGate$Page", name := "writeNumber", desc := "(II)V" } : Jvm.MethodName)) ∈ T0 := mT 358 (by decide +kernel) (by decide +kernel)
theorem wd_359 : (Jvm.Cond.selects "ImageGate$Page" ({ cls := "ImageGate$Page", name := "writeNumber", desc := "(II)V" } : Jvm.MethodName) ({ cls := "ImageGate$Page", name := "writeNumber", desc := "(II)V" } : Jvm.MethodName)) ∈ T0 := mT 359 (by decide +kernel) (by decide +kernel)
theorem wd_360 : (Jvm.Cond.code ({ cls := "ImageGate$Page", name := "writeNumber", desc := "(II)V" } : Jvm.MethodName) prog_5_method_4_code (4 : Nat) (Option.none : Option Jvm.ClassFile.FieldType)) ∈ T0 := mT 360 (by decide +kernel) (by decide +kernel)
theorem wd_361 : (Jvm.Cond.methodLink "ImageGateLaw" (59 : Nat) ({ cls := "ImageGate", name := "why", desc := "()I" } : Jvm.MethodName)) ∈ T0 := mT 361 (by decide +kernel) (by decide +kernel)
theorem wd_362 : (Jvm.Cond.instanceMethod ({ cls := "ImageGate", name := "why", desc := "()I" } : Jvm.MethodName)) ∈ T0 := mT 362 (by decide +kernel) (by decide +kernel)
theorem wd_363 : (Jvm.Cond.selects "ImageGate" ({ cls := "ImageGate", name := "why", desc := "()I" } : Jvm.MethodName) ({ cls := "ImageGate", name := "why", desc := "()I" } : Jvm.MethodName)) ∈ T0 := mT 363 (by decide +kernel) (by decide +kernel)
theorem wd_364 : (Jvm.Cond.code ({ cls := "ImageGate", name := "why", desc := "()I" } : Jvm.MethodName) prog_1_method_11_code (1 : Nat) (Option.some Jvm.ClassFile.FieldType.int)) ∈ T0 := mT 364 (by decide +kernel) (by decide +kernel)
theorem wd_365 : (Jvm.Cond.methodLink "ImageGateLaw" (63 : Nat) ({ cls := "ImageGate", name := "about", desc := "(I)I" } : Jvm.MethodName)) ∈ T0 := mT 365 (by decide +kernel) (by decide +kernel)
theorem wd_366 : (Jvm.Cond.instanceMethod ({ cls := "ImageGate", name := "about", desc := "(I)I" } : Jvm.MethodName)) ∈ T0 := mT 366 (by decide +kernel) (by decide +kernel)
theorem wd_367 : (Jvm.Cond.selects "ImageGate" ({ cls := "ImageGate", name := "about", desc := "(I)I" } : Jvm.MethodName) ({ cls := "ImageGate", name := "about", desc := "(I)I" } : Jvm.MethodName)) ∈ T0 := mT 367 (by decide +kernel) (by decide +kernel)
theorem wd_368 : (Jvm.Cond.code ({ cls := "ImageGate", name := "about", desc := "(I)I" } : Jvm.MethodName) prog_1_method_12_code (2 : Nat) (Option.some Jvm.ClassFile.FieldType.int)) ∈ T0 := mT 368 (by decide +kernel) (by decide +kernel)
theorem wd_369 : (Jvm.Cond.methodLink "ImageGateLaw" (67 : Nat) ({ cls := "ImageGate", name := "at", desc := "(I)I" } : Jvm.MethodName)) ∈ T0 := mT 369 (by decide +kernel) (by decide +kernel)
theorem wd_370 : (Jvm.Cond.instanceMethod ({ cls := "ImageGate", name := "at", desc := "(I)I" } : Jvm.MethodName)) ∈ T0 := mT 370 (by decide +kernel) (by decide +kernel)
theorem wd_371 : (Jvm.Cond.selects "ImageGate" ({ cls := "ImageGate", name := "at", desc := "(I)I" } : Jvm.MethodName) ({ cls := "ImageGate", name := "at", desc := "(I)I" } : Jvm.MethodName)) ∈ T0 := mT 371 (by decide +kernel) (by decide +kernel)
theorem wd_372 : (Jvm.Cond.code ({ cls := "ImageGate", name := "at", desc := "(I)I" } : Jvm.MethodName) prog_1_method_13_code (3 : Nat) (Option.some Jvm.ClassFile.FieldType.int)) ∈ T0 := mT 372 (by decide +kernel) (by decide +kernel)
theorem wd_373 : (Jvm.Cond.methodLink "ImageGate" (98 : Nat) ({ cls := "ImageGate$Image", name := "find", desc := "(I)LImageGate$Page;" } : Jvm.MethodName)) ∈ T0 := mT 373 (by decide +kernel) (by decide +kernel)
theorem wd_374 : (Jvm.Cond.instanceMethod ({ cls := "ImageGate$Image", name := "find", desc := "(I)LImageGate$Page;" } : Jvm.MethodName)) ∈ T0 := mT 374 (by decide +kernel) (by decide +kernel)
theorem wd_375 : (Jvm.Cond.selects "ImageGate$Image" ({ cls := "ImageGate$Image", name := "find", desc := "(I)LImageGate$Page;" } : Jvm.MethodName) ({ cls := "ImageGate$Image", name := "find", desc := "(I)LImageGate$Page;" } : Jvm.MethodName)) ∈ T0 := mT 375 (by decide +kernel) (by decide +kernel)
theorem wd_376 : (Jvm.Cond.code ({ cls := "ImageGate$Image", name := "find", desc := "(I)LImageGate$Page;" } : Jvm.MethodName) prog_4_method_2_code (3 : Nat) (Option.some (Jvm.ClassFile.FieldType.object "ImageGate$Page"))) ∈ T0 := mT 376 (by decide +kernel) (by decide +kernel)
theorem wd_377 : (Jvm.Cond.methodLink "ImageGate" (107 : Nat) ({ cls := "ImageGate$Page", name := "read", desc := "(I)I" } : Jvm.MethodName)) ∈ T0 := mT 377 (by decide +kernel) (by decide +kernel)
theorem wd_378 : (Jvm.Cond.instanceMethod ({ cls := "ImageGate$Page", name := "read", desc := "(I)I" } : Jvm.MethodName)) ∈ T0 := mT 378 (by decide +kernel) (by decide +kernel)
theorem wd_379 : (Jvm.Cond.selects "ImageGate$Page" ({ cls := "ImageGate$Page", name := "read", desc := "(I)I" } : Jvm.MethodName) ({ cls := "ImageGate$Page", name := "read", desc := "(I)I" } : Jvm.MethodName)) ∈ T0 := mT 379 (by decide +kernel) (by decide +kernel)
theorem wd_380 : (Jvm.Cond.code ({ cls := "ImageGate$Page", name := "read", desc := "(I)I" } : Jvm.MethodName) prog_5_method_3_code (2 : Nat) (Option.some Jvm.ClassFile.FieldType.int)) ∈ T0 := mT 380 (by decide +kernel) (by decide +kernel)
theorem wd_381 : (Jvm.Cond.methodLink "ImageGateLaw" (71 : Nat) ({ cls := "ImageGate", name := "flags", desc := "(I)I" } : Jvm.MethodName)) ∈ T0 := mT 381 (by decide +kernel) (by decide +kernel)
theorem wd_382 : (Jvm.Cond.instanceMethod ({ cls := "ImageGate", name := "flags", desc := "(I)I" } : Jvm.MethodName)) ∈ T0 := mT 382 (by decide +kernel) (by decide +kernel)
theorem wd_383 : (Jvm.Cond.selects "ImageGate" ({ cls := "ImageGate", name := "flags", desc := "(I)I" } : Jvm.MethodName) ({ cls := "ImageGate", name := "flags", desc := "(I)I" } : Jvm.MethodName)) ∈ T0 := mT 383 (by decide +kernel) (by decide +kernel)
theorem wd_384 : (Jvm.Cond.code ({ cls := "ImageGate", name := "flags", desc := "(I)I" } : Jvm.MethodName) prog_1_method_14_code (3 : Nat) (Option.some Jvm.ClassFile.FieldType.int)) ∈ T0 := mT 384 (by decide +kernel) (by decide +kernel)
theorem wd_385 : (Jvm.Cond.classLink "ImageGateLaw" (10 : Nat) "ImageGateModel") ∈ T0 := mT 385 (by decide +kernel) (by decide +kernel)
theorem wd_386 : (Jvm.Cond.instantiable "ImageGateModel" (28 : Nat)) ∈ T0 := mT 386 (by decide +kernel) (by decide +kernel)
theorem wd_387 : (Jvm.Cond.methodLink "ImageGateLaw" (12 : Nat) ({ cls := "ImageGateModel", name := "<init>", desc := "()V" } : Jvm.MethodName)) ∈ T0 := mT 387 (by decide +kernel) (by decide +kernel)
theorem wd_388 : (Jvm.Cond.instanceMethod ({ cls := "ImageGateModel", name := "<init>", desc := "()V" } : Jvm.MethodName)) ∈ T0 := mT 388 (by decide +kernel) (by decide +kernel)
theorem wd_389 : (Jvm.Cond.code ({ cls := "ImageGateModel", name := "<init>", desc := "()V" } : Jvm.MethodName) prog_9_method_1_code (1 : Nat) (Option.none : Option Jvm.ClassFile.FieldType)) ∈ T0 := mT 389 (by decide +kernel) (by decide +kernel)
theorem wd_390 : (Jvm.Cond.methodLink "ImageGateModel" (1 : Nat) ({ cls := "java/lang/Object", name := "<init>", desc := "()V" } : Jvm.MethodName)) ∈ T0 := mT 390 (by decide +kernel) (by decide +kernel)
theorem wd_391 : (Jvm.Cond.constant "ImageGateModel" (7 : Nat) (65536 : Int32)) ∈ T0 := mT 391 (by decide +kernel) (by decide +kernel)
theorem wd_392 : (Jvm.Cond.fieldLink "ImageGateModel" (60 : Nat) "ImageGateModel" "thrown" "I") ∈ T0 := mT 392 (by decide +kernel) (by decide +kernel)
theorem wd_393 : (Jvm.Cond.fieldLink "ImageGateModel" (64 : Nat) "ImageGateModel" "size" "I") ∈ T0 := mT 393 (by decide +kernel) (by decide +kernel)
theorem wd_394 : (Jvm.Cond.fieldLink "ImageGateModel" (8 : Nat) "ImageGateModel" "file" "[B") ∈ T0 := mT 394 (by decide +kernel) (by decide +kernel)
theorem wd_395 : (Jvm.Cond.fieldLink "ImageGateModel" (68 : Nat) "ImageGateModel" "arguments" "I") ∈ T0 := mT 395 (by decide +kernel) (by decide +kernel)
theorem wd_396 : (Jvm.Cond.fieldLink "ImageGateModel" (14 : Nat) "ImageGateModel" "lengths" "[I") ∈ T0 := mT 396 (by decide +kernel) (by decide +kernel)
theorem wd_397 : (Jvm.Cond.fieldLink "ImageGateModel" (18 : Nat) "ImageGateModel" "letters" "[B") ∈ T0 := mT 397 (by decide +kernel) (by decide +kernel)
theorem wd_398 : (Jvm.Cond.fieldLink "ImageGateModel" (145 : Nat) "ImageGateModel" "why" "I") ∈ T0 := mT 398 (by decide +kernel) (by decide +kernel)
theorem wd_399 : (Jvm.Cond.fieldLink "ImageGateModel" (115 : Nat) "ImageGateModel" "found" "I") ∈ T0 := mT 399 (by decide +kernel) (by decide +kernel)
theorem wd_400 : (Jvm.Cond.fieldLink "ImageGateModel" (109 : Nat) "ImageGateModel" "end" "J") ∈ T0 := mT 400 (by decide +kernel) (by decide +kernel)
theorem wd_401 : (Jvm.Cond.fieldLink "ImageGateModel" (21 : Nat) "ImageGateModel" "foundFrom" "[I") ∈ T0 := mT 401 (by decide +kernel) (by decide +kernel)
theorem wd_402 : (Jvm.Cond.fieldLink "ImageGateModel" (24 : Nat) "ImageGateModel" "foundAddress" "[I") ∈ T0 := mT 402 (by decide +kernel) (by decide +kernel)
theorem wd_403 : (Jvm.Cond.fieldLink "ImageGateModel" (27 : Nat) "ImageGateModel" "foundBytes" "[I") ∈ T0 := mT 403 (by decide +kernel) (by decide +kernel)
theorem wd_404 : (Jvm.Cond.fieldLink "ImageGateModel" (30 : Nat) "ImageGateModel" "foundSpan" "[I") ∈ T0 := mT 404 (by decide +kernel) (by decide +kernel)
theorem wd_405 : (Jvm.Cond.fieldLink "ImageGateModel" (33 : Nat) "ImageGateModel" "foundFlags" "[I") ∈ T0 := mT 405 (by decide +kernel) (by decide +kernel)
theorem wd_406 : (Jvm.Cond.fieldLink "ImageGateModel" (36 : Nat) "ImageGateModel" "foundStack" "[B") ∈ T0 := mT 406 (by decide +kernel) (by decide +kernel)
theorem wd_407 : (Jvm.Cond.fieldLink "ImageGateModel" (163 : Nat) "ImageGateModel" "pages" "I") ∈ T0 := mT 407 (by decide +kernel) (by decide +kernel)
theorem wd_408 : (Jvm.Cond.fieldLink "ImageGateModel" (151 : Nat) "ImageGateModel" "entry" "I") ∈ T0 := mT 408 (by decide +kernel) (by decide +kernel)
theorem wd_409 : (Jvm.Cond.fieldLink "ImageGateModel" (154 : Nat) "ImageGateModel" "stackPointer" "I") ∈ T0 := mT 409 (by decide +kernel) (by decide +kernel)
theorem wd_410 : (Jvm.Cond.fieldLink "ImageGateModel" (157 : Nat) "ImageGateModel" "top" "I") ∈ T0 := mT 410 (by decide +kernel) (by decide +kernel)
theorem wd_411 : (Jvm.Cond.fieldLink "ImageGateModel" (160 : Nat) "ImageGateModel" "given" "I") ∈ T0 := mT 411 (by decide +kernel) (by decide +kernel)
theorem wd_412 : (Jvm.Cond.fieldLink "ImageGateModel" (166 : Nat) "ImageGateModel" "parts" "I") ∈ T0 := mT 412 (by decide +kernel) (by decide +kernel)
theorem wd_413 : (Jvm.Cond.fieldLink "ImageGateModel" (39 : Nat) "ImageGateModel" "taken" "[B") ∈ T0 := mT 413 (by decide +kernel) (by decide +kernel)
theorem wd_414 : (Jvm.Cond.fieldLink "ImageGateModel" (42 : Nat) "ImageGateModel" "from" "[I") ∈ T0 := mT 414 (by decide +kernel) (by decide +kernel)
theorem wd_415 : (Jvm.Cond.fieldLink "ImageGateModel" (45 : Nat) "ImageGateModel" "address" "[I") ∈ T0 := mT 415 (by decide +kernel) (by decide +kernel)
theorem wd_416 : (Jvm.Cond.fieldLink "ImageGateModel" (48 : Nat) "ImageGateModel" "bytes" "[I") ∈ T0 := mT 416 (by decide +kernel) (by decide +kernel)
theorem wd_417 : (Jvm.Cond.fieldLink "ImageGateModel" (51 : Nat) "ImageGateModel" "span" "[I") ∈ T0 := mT 417 (by decide +kernel) (by decide +kernel)
theorem wd_418 : (Jvm.Cond.fieldLink "ImageGateModel" (54 : Nat) "ImageGateModel" "flags" "[I") ∈ T0 := mT 418 (by decide +kernel) (by decide +kernel)
theorem wd_419 : (Jvm.Cond.fieldLink "ImageGateModel" (57 : Nat) "ImageGateModel" "stack" "[B") ∈ T0 := mT 419 (by decide +kernel) (by decide +kernel)
theorem wd_420 : (Jvm.Cond.lays "ImageGateModel" "ImageGateModel" "thrown" "I") ∈ T0 := mT 420 (by decide +kernel) (by decide +kernel)
theorem wd_421 : (Jvm.Cond.soleField "ImageGateModel" "thrown") ∈ T0 := mT 421 (by decide +kernel) (by decide +kernel)
theorem wd_422 : (Jvm.Cond.lays "ImageGateModel" "ImageGateModel" "size" "I") ∈ T0 := mT 422 (by decide +kernel) (by decide +kernel)
theorem wd_423 : (Jvm.Cond.soleField "ImageGateModel" "size") ∈ T0 := mT 423 (by decide +kernel) (by decide +kernel)
theorem wd_424 : (Jvm.Cond.laysFinal "ImageGateModel" "ImageGateModel" "file" "[B") ∈ T0 := mT 424 (by decide +kernel) (by decide +kernel)
theorem wd_425 : (Jvm.Cond.soleField "ImageGateModel" "file") ∈ T0 := mT 425 (by decide +kernel) (by decide +kernel)
theorem wd_426 : (Jvm.Cond.lays "ImageGateModel" "ImageGateModel" "arguments" "I") ∈ T0 := mT 426 (by decide +kernel) (by decide +kernel)
theorem wd_427 : (Jvm.Cond.soleField "ImageGateModel" "arguments") ∈ T0 := mT 427 (by decide +kernel) (by decide +kernel)
theorem wd_428 : (Jvm.Cond.laysFinal "ImageGateModel" "ImageGateModel" "lengths" "[I") ∈ T0 := mT 428 (by decide +kernel) (by decide +kernel)
theorem wd_429 : (Jvm.Cond.soleField "ImageGateModel" "lengths") ∈ T0 := mT 429 (by decide +kernel) (by decide +kernel)
theorem wd_430 : (Jvm.Cond.laysFinal "ImageGateModel" "ImageGateModel" "letters" "[B") ∈ T0 := mT 430 (by decide +kernel) (by decide +kernel)
theorem wd_431 : (Jvm.Cond.soleField "ImageGateModel" "letters") ∈ T0 := mT 431 (by decide +kernel) (by decide +kernel)
theorem wd_432 : (Jvm.Cond.lays "ImageGateModel" "ImageGateModel" "why" "I") ∈ T0 := mT 432 (by decide +kernel) (by decide +kernel)
theorem wd_433 : (Jvm.Cond.soleField "ImageGateModel" "why") ∈ T0 := mT 433 (by decide +kernel) (by decide +kernel)
theorem wd_434 : (Jvm.Cond.lays "ImageGateModel" "ImageGateModel" "found" "I") ∈ T0 := mT 434 (by decide +kernel) (by decide +kernel)
theorem wd_435 : (Jvm.Cond.soleField "ImageGateModel" "found") ∈ T0 := mT 435 (by decide +kernel) (by decide +kernel)
theorem wd_436 : (Jvm.Cond.lays "ImageGateModel" "ImageGateModel" "end" "J") ∈ T0 := mT 436 (by decide +kernel) (by decide +kernel)
theorem wd_437 : (Jvm.Cond.soleField "ImageGateModel" "end") ∈ T0 := mT 437 (by decide +kernel) (by decide +kernel)
theorem wd_438 : (Jvm.Cond.laysFinal "ImageGateModel" "ImageGateModel" "foundFrom" "[I") ∈ T0 := mT 438 (by decide +kernel) (by decide +kernel)
theorem wd_439 : (Jvm.Cond.soleField "ImageGateModel" "foundFrom") ∈ T0 := mT 439 (by decide +kernel) (by decide +kernel)
theorem wd_440 : (Jvm.Cond.laysFinal "ImageGateModel" "ImageGateModel" "foundAddress" "[I") ∈ T0 := mT 440 (by decide +kernel) (by decide +kernel)
theorem wd_441 : (Jvm.Cond.soleField "ImageGateModel" "foundAddress") ∈ T0 := mT 441 (by decide +kernel) (by decide +kernel)
theorem wd_442 : (Jvm.Cond.laysFinal "ImageGateModel" "ImageGateModel" "foundBytes" "[I") ∈ T0 := mT 442 (by decide +kernel) (by decide +kernel)
theorem wd_443 : (Jvm.Cond.soleField "ImageGateModel" "foundBytes") ∈ T0 := mT 443 (by decide +kernel) (by decide +kernel)
theorem wd_444 : (Jvm.Cond.laysFinal "ImageGateModel" "ImageGateModel" "foundSpan" "[I") ∈ T0 := mT 444 (by decide +kernel) (by decide +kernel)
theorem wd_445 : (Jvm.Cond.soleField "ImageGateModel" "foundSpan") ∈ T0 := mT 445 (by decide +kernel) (by decide +kernel)
theorem wd_446 : (Jvm.Cond.laysFinal "ImageGateModel" "ImageGateModel" "foundFlags" "[I") ∈ T0 := mT 446 (by decide +kernel) (by decide +kernel)
theorem wd_447 : (Jvm.Cond.soleField "ImageGateModel" "foundFlags") ∈ T0 := mT 447 (by decide +kernel) (by decide +kernel)
theorem wd_448 : (Jvm.Cond.laysFinal "ImageGateModel" "ImageGateModel" "foundStack" "[B") ∈ T0 := mT 448 (by decide +kernel) (by decide +kernel)
theorem wd_449 : (Jvm.Cond.soleField "ImageGateModel" "foundStack") ∈ T0 := mT 449 (by decide +kernel) (by decide +kernel)
theorem wd_450 : (Jvm.Cond.lays "ImageGateModel" "ImageGateModel" "pages" "I") ∈ T0 := mT 450 (by decide +kernel) (by decide +kernel)
theorem wd_451 : (Jvm.Cond.soleField "ImageGateModel" "pages") ∈ T0 := mT 451 (by decide +kernel) (by decide +kernel)
theorem wd_452 : (Jvm.Cond.lays "ImageGateModel" "ImageGateModel" "entry" "I") ∈ T0 := mT 452 (by decide +kernel) (by decide +kernel)
theorem wd_453 : (Jvm.Cond.soleField "ImageGateModel" "entry") ∈ T0 := mT 453 (by decide +kernel) (by decide +kernel)
theorem wd_454 : (Jvm.Cond.lays "ImageGateModel" "ImageGateModel" "stackPointer" "I") ∈ T0 := mT 454 (by decide +kernel) (by decide +kernel)
theorem wd_455 : (Jvm.Cond.soleField "ImageGateModel" "stackPointer") ∈ T0 := mT 455 (by decide +kernel) (by decide +kernel)
theorem wd_456 : (Jvm.Cond.lays "ImageGateModel" "ImageGateModel" "top" "I") ∈ T0 := mT 456 (by decide +kernel) (by decide +kernel)
theorem wd_457 : (Jvm.Cond.soleField "ImageGateModel" "top") ∈ T0 := mT 457 (by decide +kernel) (by decide +kernel)
theorem wd_458 : (Jvm.Cond.lays "ImageGateModel" "ImageGateModel" "given" "I") ∈ T0 := mT 458 (by decide +kernel) (by decide +kernel)
theorem wd_459 : (Jvm.Cond.soleField "ImageGateModel" "given") ∈ T0 := mT 459 (by decide +kernel) (by decide +kernel)
theorem wd_460 : (Jvm.Cond.lays "ImageGateModel" "ImageGateModel" "parts" "I") ∈ T0 := mT 460 (by decide +kernel) (by decide +kernel)
theorem wd_461 : (Jvm.Cond.soleField "ImageGateModel" "parts") ∈ T0 := mT 461 (by decide +kernel) (by decide +kernel)
theorem wd_462 : (Jvm.Cond.laysFinal "ImageGateModel" "ImageGateModel" "taken" "[B") ∈ T0 := mT 462 (by decide +kernel) (by decide +kernel)
theorem wd_463 : (Jvm.Cond.soleField "ImageGateModel" "taken") ∈ T0 := mT 463 (by decide +kernel) (by decide +kernel)
theorem wd_464 : (Jvm.Cond.laysFinal "ImageGateModel" "ImageGateModel" "from" "[I") ∈ T0 := mT 464 (by decide +kernel) (by decide +kernel)
theorem wd_465 : (Jvm.Cond.soleField "ImageGateModel" "from") ∈ T0 := mT 465 (by decide +kernel) (by decide +kernel)
theorem wd_466 : (Jvm.Cond.laysFinal "ImageGateModel" "ImageGateModel" "address" "[I") ∈ T0 := mT 466 (by decide +kernel) (by decide +kernel)
theorem wd_467 : (Jvm.Cond.soleField "ImageGateModel" "address") ∈ T0 := mT 467 (by decide +kernel) (by decide +kernel)
theorem wd_468 : (Jvm.Cond.laysFinal "ImageGateModel" "ImageGateModel" "bytes" "[I") ∈ T0 := mT 468 (by decide +kernel) (by decide +kernel)
theorem wd_469 : (Jvm.Cond.soleField "ImageGateModel" "bytes") ∈ T0 := mT 469 (by decide +kernel) (by decide +kernel)
theorem wd_470 : (Jvm.Cond.laysFinal "ImageGateModel" "ImageGateModel" "span" "[I") ∈ T0 := mT 470 (by decide +kernel) (by decide +kernel)
theorem wd_471 : (Jvm.Cond.soleField "ImageGateModel" "span") ∈ T0 := mT 471 (by decide +kernel) (by decide +kernel)
theorem wd_472 : (Jvm.Cond.laysFinal "ImageGateModel" "ImageGateModel" "flags" "[I") ∈ T0 := mT 472 (by decide +kernel) (by decide +kernel)
theorem wd_473 : (Jvm.Cond.soleField "ImageGateModel" "flags") ∈ T0 := mT 473 (by decide +kernel) (by decide +kernel)
theorem wd_474 : (Jvm.Cond.laysFinal "ImageGateModel" "ImageGateModel" "stack" "[B") ∈ T0 := mT 474 (by decide +kernel) (by decide +kernel)
theorem wd_475 : (Jvm.Cond.soleField "ImageGateModel" "stack") ∈ T0 := mT 475 (by decide +kernel) (by decide +kernel)
theorem wd_476 : (Jvm.Cond.superclass "ImageGateModel" "java/lang/Object") ∈ T0 := mT 476 (by decide +kernel) (by decide +kernel)
theorem wd_477 : (Jvm.Cond.methodLink "ImageGateLaw" (17 : Nat) ({ cls := "ImageGateModel", name := "feed", desc := "(IIIII)Z" } : Jvm.MethodName)) ∈ T0 := mT 477 (by decide +kernel) (by decide +kernel)
theorem wd_478 : (Jvm.Cond.instanceMethod ({ cls := "ImageGateModel", name := "feed", desc := "(IIIII)Z" } : Jvm.MethodName)) ∈ T0 := mT 478 (by decide +kernel) (by decide +kernel)
theorem wd_479 : (Jvm.Cond.selects "ImageGateModel" ({ cls := "ImageGateModel", name := "feed", desc := "(IIIII)Z" } : Jvm.MethodName) ({ cls := "ImageGateModel", name := "feed", desc := "(IIIII)Z" } : Jvm.MethodName)) ∈ T0 := mT 479 (by decide +kernel) (by decide +kernel)
theorem wd_480 : (Jvm.Cond.code ({ cls := "ImageGateModel", name := "feed", desc := "(IIIII)Z" } : Jvm.MethodName) prog_9_method_3_code (8 : Nat) (Option.some Jvm.ClassFile.FieldType.boolean)) ∈ T0 := mT 480 (by decide +kernel) (by decide +kernel)
theorem wd_481 : (Jvm.Cond.constant "ImageGateModel" (67 : Nat) (65516 : Int32)) ∈ T0 := mT 481 (by decide +kernel) (by decide +kernel)
theorem wd_482 : (Jvm.Cond.methodLink "ImageGateLaw" (22 : Nat) ({ cls := "ImageGateModel", name := "end", desc := "(I)Z" } : Jvm.MethodName)) ∈ T0 := mT 482 (by decide +kernel) (by decide +kernel)
theorem wd_483 : (Jvm.Cond.instanceMethod ({ cls := "ImageGateModel", name := "end", desc := "(I)Z" } : Jvm.MethodName)) ∈ T0 := mT 483 (by decide +kernel) (by decide +kernel)
theorem wd_484 : (Jvm.Cond.selects "ImageGateModel" ({ cls := "ImageGateModel", name := "end", desc := "(I)Z" } : Jvm.MethodName) ({ cls := "ImageGateModel", name := "end", desc := "(I)Z" } : Jvm.MethodName)) ∈ T0 := mT 484 (by decide +kernel) (by decide +kernel)
theorem wd_485 : (Jvm.Cond.code ({ cls := "ImageGateModel", name := "end", desc := "(I)Z" } : Jvm.MethodName) prog_9_method_4_code (3 : Nat) (Option.some Jvm.ClassFile.FieldType.boolean)) ∈ T0 := mT 485 (by decide +kernel) (by decide +kernel)
theorem wd_486 : (Jvm.Cond.methodLink "ImageGateLaw" (27 : Nat) ({ cls := "ImageGateModel", name := "set", desc := "(II)Z" } : Jvm.MethodName)) ∈ T0 := mT 486 (by decide +kernel) (by decide +kernel)
theorem wd_487 : (Jvm.Cond.instanceMethod ({ cls := "ImageGateModel", name := "set", desc := "(II)Z" } : Jvm.MethodName)) ∈ T0 := mT 487 (by decide +kernel) (by decide +kernel)
theorem wd_488 : (Jvm.Cond.selects "ImageGateModel" ({ cls := "ImageGateModel", name := "set", desc := "(II)Z" } : Jvm.MethodName) ({ cls := "ImageGateModel", name := "set", desc := "(II)Z" } : Jvm.MethodName)) ∈ T0 := mT 488 (by decide +kernel) (by decide +kernel)
theorem wd_489 : (Jvm.Cond.code ({ cls := "ImageGateModel", name := "set", desc := "(II)Z" } : Jvm.MethodName) prog_9_method_5_code (3 : Nat) (Option.some Jvm.ClassFile.FieldType.boolean)) ∈ T0 := mT 489 (by decide +kernel) (by decide +kernel)
theorem wd_490 : (Jvm.Cond.methodLink "ImageGateLaw" (32 : Nat) ({ cls := "ImageGateModel", name := "put", desc := "(III)Z" } : Jvm.MethodName)) ∈ T0 := mT 490 (by decide +kernel) (by decide +kernel)
theorem wd_491 : (Jvm.Cond.instanceMethod ({ cls := "ImageGateModel", name := "put", desc := "(III)Z" } : Jvm.MethodName)) ∈ T0 := mT 491 (by decide +kernel) (by decide +kernel)
theorem wd_492 : (Jvm.Cond.selects "ImageGateModel" ({ cls := "ImageGateModel", name := "put", desc := "(III)Z" } : Jvm.MethodName) ({ cls := "ImageGateModel", name := "put", desc := "(III)Z" } : Jvm.MethodName)) ∈ T0 := mT 492 (by decide +kernel) (by decide +kernel)
theorem wd_493 : (Jvm.Cond.code ({ cls := "ImageGateModel", name := "put", desc := "(III)Z" } : Jvm.MethodName) prog_9_method_6_code (5 : Nat) (Option.some Jvm.ClassFile.FieldType.boolean)) ∈ T0 := mT 493 (by decide +kernel) (by decide +kernel)
theorem wd_494 : (Jvm.Cond.methodLink "ImageGateLaw" (37 : Nat) ({ cls := "ImageGateModel", name := "length", desc := "()I" } : Jvm.MethodName)) ∈ T0 := mT 494 (by decide +kernel) (by decide +kernel)
theorem wd_495 : (Jvm.Cond.instanceMethod ({ cls := "ImageGateModel", name := "length", desc := "()I" } : Jvm.MethodName)) ∈ T0 := mT 495 (by decide +kernel) (by decide +kernel)
theorem wd_496 : (Jvm.Cond.selects "ImageGateModel" ({ cls := "ImageGateModel", name := "length", desc := "()I" } : Jvm.MethodName) ({ cls := "ImageGateModel", name := "length", desc := "()I" } : Jvm.MethodName)) ∈ T0 := mT 496 (by decide +kernel) (by decide +kernel)
theorem wd_497 : (Jvm.Cond.code ({ cls := "ImageGateModel", name := "length", desc := "()I" } : Jvm.MethodName) prog_9_method_7_code (1 : Nat) (Option.some Jvm.ClassFile.FieldType.int)) ∈ T0 := mT 497 (by decide +kernel) (by decide +kernel)
theorem wd_498 : (Jvm.Cond.methodLink "ImageGateLaw" (42 : Nat) ({ cls := "ImageGateModel", name := "argument", desc := "()Z" } : Jvm.MethodName)) ∈ T0 := mT 498 (by decide +kernel) (by decide +kernel)
theorem wd_499 : (Jvm.Cond.instanceMethod ({ cls := "ImageGateModel", name := "argument", desc := "()Z" } : Jvm.MethodName)) ∈ T0 := mT 499 (by decide +kernel) (by decide +kernel)
theorem wd_500 : (Jvm.Cond.selects "ImageGateModel" ({ cls := "ImageGateModel", name := "argument", desc := "()Z" } : Jvm.MethodName) ({ cls := "ImageGateModel", name := "argument", desc := "()Z" } : Jvm.MethodName)) ∈ T0 := mT 500 (by decide +kernel) (by decide +kernel)
theorem wd_501 : (Jvm.Cond.code ({ cls := "ImageGateModel", name := "argument", desc := "()Z" } : Jvm.MethodName) prog_9_method_8_code (1 : Nat) (Option.some Jvm.ClassFile.FieldType.boolean)) ∈ T0 := mT 501 (by decide +kernel) (by decide +kernel)
theorem wd_502 : (Jvm.Cond.methodLink "ImageGateLaw" (49 : Nat) ({ cls := "ImageGateModel", name := "letters", desc := "(J)Z" } : Jvm.MethodName)) ∈ T0 := mT 502 (by decide +kernel) (by decide +kernel)
theorem wd_503 : (Jvm.Cond.instanceMethod ({ cls := "ImageGateModel", name := "letters", desc := "(J)Z" } : Jvm.MethodName)) ∈ T0 := mT 503 (by decide +kernel) (by decide +kernel)
theorem wd_504 : (Jvm.Cond.selects "ImageGateModel" ({ cls := "ImageGateModel", name := "letters", desc := "(J)Z" } : Jvm.MethodName) ({ cls := "ImageGateModel", name := "letters", desc := "(J)Z" } : Jvm.MethodName)) ∈ T0 := mT 504 (by decide +kernel) (by decide +kernel)
theorem wd_505 : (Jvm.Cond.code ({ cls := "ImageGateModel", name := "letters", desc := "(J)Z" } : Jvm.MethodName) prog_9_method_9_code (6 : Nat) (Option.some Jvm.ClassFile.FieldType.boolean)) ∈ T0 := mT 505 (by decide +kernel) (by decide +kernel)
theorem wd_506 : (Jvm.Cond.constantLong "ImageGateModel" (71 : Nat) (255 : Int64)) ∈ T0 := mT 506 (by decide +kernel) (by decide +kernel)
theorem wd_507 : (Jvm.Cond.methodLink "ImageGateLaw" (53 : Nat) ({ cls := "ImageGateModel", name := "forget", desc := "()V" } : Jvm.MethodName)) ∈ T0 := mT 507 (by decide +kernel) (by decide +kernel)
theorem wd_508 : (Jvm.Cond.instanceMethod ({ cls := "ImageGateModel", name := "forget", desc := "()V" } : Jvm.MethodName)) ∈ T0 := mT 508 (by decide +kernel) (by decide +kernel)
theorem wd_509 : (Jvm.Cond.selects "ImageGateModel" ({ cls := "ImageGateModel", name := "forget", desc := "()V" } : Jvm.MethodName) ({ cls := "ImageGateModel", name := "forget", desc := "()V" } : Jvm.MethodName)) ∈ T0 := mT 509 (by decide +kernel) (by decide +kernel)
theorem wd_510 : (Jvm.Cond.code ({ cls := "ImageGateModel", name := "forget", desc := "()V" } : Jvm.MethodName) prog_9_method_10_code (1 : Nat) (Option.none : Option Jvm.ClassFile.FieldType)) ∈ T0 := mT 510 (by decide +kernel) (by decide +kernel)
theorem wd_511 : (Jvm.Cond.methodLink "ImageGateLaw" (58 : Nat) ({ cls := "ImageGateModel", name := "load", desc := "(I)I" } : Jvm.MethodName)) ∈ T0 := mT 511 (by decide +kernel) (by decide +kernel)
theorem wd_512 : (Jvm.Cond.instanceMethod ({ cls := "ImageGateModel", name := "load", desc := "(I)I" } : Jvm.MethodName)) ∈ T0 := mT 512 (by decide +kernel) (by decide +kernel)
theorem wd_513 : (Jvm.Cond.selects "ImageGateModel" ({ cls := "ImageGateModel", name := "load", desc := "(I)I" } : Jvm.MethodName) ({ cls := "ImageGateModel", name := "load", desc := "(I)I" } : Jvm.MethodName)) ∈ T0 := mT 513 (by decide +kernel) (by decide +kernel)
theorem wd_514 : (Jvm.Cond.code ({ cls := "ImageGateModel", name := "load", desc := "(I)I" } : Jvm.MethodName) prog_9_method_19_code (4 : Nat) (Option.some Jvm.ClassFile.FieldType.int)) ∈ T0 := mT 514 (by decide +kernel) (by decide +kernel)
theorem wd_515 : (Jvm.Cond.methodLink "ImageGateModel" (141 : Nat) ({ cls := "ImageGateModel", name := "wrong", desc := "(I)I" } : Jvm.MethodName)) ∈ T0 := mT 515 (by decide +kernel) (by decide +kernel)
theorem wd_516 : (Jvm.Cond.privateMethod ({ cls := "ImageGateModel", name := "wrong", desc := "(I)I" } : Jvm.MethodName)) ∈ lw_tbl := List.mem_of_getElem? (i := 516) (by decide +kernel)
theorem wd_517 : (Jvm.Cond.instanceMethod ({ cls := "ImageGateModel", name := "wrong", desc := "(I)I" } : Jvm.MethodName)) ∈ T0 := mT 517 (by decide +kernel) (by decide +kernel)
theorem wd_518 : (Jvm.Cond.code ({ cls := "ImageGateModel", name := "wrong", desc := "(I)I" } : Jvm.MethodName) prog_9_method_18_code (6 : Nat) (Option.some Jvm.ClassFile.FieldType.int)) ∈ T0 := mT 518 (by decide +kernel) (by decide +kernel)
theorem wd_519 : (Jvm.Cond.methodLink "ImageGateModel" (124 : Nat) ({ cls := "ImageGateModel", name := "isMarked", desc := "()Z" } : Jvm.MethodName)) ∈ T0 := mT 519 (by decide +kernel) (by decide +kernel)
theorem wd_520 : (Jvm.Cond.privateMethod ({ cls := "ImageGateModel", name := "isMarked", desc := "()Z" } : Jvm.MethodName)) ∈ lw_tbl := List.mem_of_getElem? (i := 520) (by decide +kernel)
theorem wd_521 : (Jvm.Cond.instanceMethod ({ cls := "ImageGateModel", name := "isMarked", desc := "()Z" } : Jvm.MethodName)) ∈ T0 := mT 521 (by decide +kernel) (by decide +kernel)
theorem wd_522 : (Jvm.Cond.code ({ cls := "ImageGateModel", name := "isMarked", desc := "()Z" } : Jvm.MethodName) prog_9_method_12_code (1 : Nat) (Option.some Jvm.ClassFile.FieldType.boolean)) ∈ T0 := mT 522 (by decide +kernel) (by decide +kernel)
theorem wd_523 : (Jvm.Cond.methodLink "ImageGateModel" (73 : Nat) ({ cls := "ImageGateModel", name := "number", desc := "(JI)J" } : Jvm.MethodName)) ∈ T0 := mT 523 (by decide +kernel) (by decide +kernel)
theorem wd_524 : (Jvm.Cond.privateMethod ({ cls := "ImageGateModel", name := "number", desc := "(JI)J" } : Jvm.MethodName)) ∈ lw_tbl := List.mem_of_getElem? (i := 524) (by decide +kernel)
theorem wd_525 : (Jvm.Cond.instanceMethod ({ cls := "ImageGateModel", name := "number", desc := "(JI)J" } : Jvm.MethodName)) ∈ T0 := mT 525 (by decide +kernel) (by decide +kernel)
theorem wd_526 : (Jvm.Cond.code ({ cls := "ImageGateModel", name := "number", desc := "(JI)J" } : Jvm.MethodName) prog_9_method_11_code (7 : Nat) (Option.some Jvm.ClassFile.FieldType.long)) ∈ T0 := mT 526 (by decide +kernel) (by decide +kernel)
theorem wd_527 : (Jvm.Cond.constantLong "ImageGateModel" (77 : Nat) (1179403647 : Int64)) ∈ T0 := mT 527 (by decide +kernel) (by decide +kernel)
theorem wd_528 : (Jvm.Cond.constantLong "ImageGateModel" (79 : Nat) (4 : Int64)) ∈ T0 := mT 528 (by decide +kernel) (by decide +kernel)
theorem wd_529 : (Jvm.Cond.constantLong "ImageGateModel" (81 : Nat) (257 : Int64)) ∈ T0 := mT 529 (by decide +kernel) (by decide +kernel)
theorem wd_530 : (Jvm.Cond.constantLong "ImageGateModel" (83 : Nat) (6 : Int64)) ∈ T0 := mT 530 (by decide +kernel) (by decide +kernel)
theorem wd_531 : (Jvm.Cond.methodLink "ImageGateModel" (128 : Nat) ({ cls := "ImageGateModel", name := "isKind", desc := "()Z" } : Jvm.MethodName)) ∈ T0 := mT 531 (by decide +kernel) (by decide +kernel)
theorem wd_532 : (Jvm.Cond.privateMethod ({ cls := "ImageGateModel", name := "isKind", desc := "()Z" } : Jvm.MethodName)) ∈ lw_tbl := List.mem_of_getElem? (i := 532) (by decide +kernel)
theorem wd_533 : (Jvm.Cond.instanceMethod ({ cls := "ImageGateModel", name := "isKind", desc := "()Z" } : Jvm.MethodName)) ∈ T0 := mT 533 (by decide +kernel) (by decide +kernel)
theorem wd_534 : (Jvm.Cond.code ({ cls := "ImageGateModel", name := "isKind", desc := "()Z" } : Jvm.MethodName) prog_9_method_13_code (1 : Nat) (Option.some Jvm.ClassFile.FieldType.boolean)) ∈ T0 := mT 534 (by decide +kernel) (by decide +kernel)
theorem wd_535 : (Jvm.Cond.constantLong "ImageGateModel" (85 : Nat) (16 : Int64)) ∈ T0 := mT 535 (by decide +kernel) (by decide +kernel)
theorem wd_536 : (Jvm.Cond.constantLong "ImageGateModel" (87 : Nat) (2 : Int64)) ∈ T0 := mT 536 (by decide +kernel) (by decide +kernel)
theorem wd_537 : (Jvm.Cond.constantLong "ImageGateModel" (89 : Nat) (18 : Int64)) ∈ T0 := mT 537 (by decide +kernel) (by decide +kernel)
theorem wd_538 : (Jvm.Cond.constantLong "ImageGateModel" (91 : Nat) (243 : Int64)) ∈ T0 := mT 538 (by decide +kernel) (by decide +kernel)
theorem wd_539 : (Jvm.Cond.constantLong "ImageGateModel" (93 : Nat) (20 : Int64)) ∈ T0 := mT 539 (by decide +kernel) (by decide +kernel)
theorem wd_540 : (Jvm.Cond.constantLong "ImageGateModel" (95 : Nat) (42 : Int64)) ∈ T0 := mT 540 (by decide +kernel) (by decide +kernel)
theorem wd_541 : (Jvm.Cond.constantLong "ImageGateModel" (97 : Nat) (32 : Int64)) ∈ T0 := mT 541 (by decide +kernel) (by decide +kernel)
theorem wd_542 : (Jvm.Cond.constantLong "ImageGateModel" (99 : Nat) (44 : Int64)) ∈ T0 := mT 542 (by decide +kernel) (by decide +kernel)
theorem wd_543 : (Jvm.Cond.constantLong "ImageGateModel" (101 : Nat) (9 : Int64)) ∈ T0 := mT 543 (by decide +kernel) (by decide +kernel)
theorem wd_544 : (Jvm.Cond.constantLong "ImageGateModel" (131 : Nat) (28 : Int64)) ∈ T0 := mT 544 (by decide +kernel) (by decide +kernel)
theorem wd_545 : (Jvm.Cond.methodLink "ImageGateModel" (133 : Nat) ({ cls := "ImageGateModel", name := "header", desc := "(J)Z" } : Jvm.MethodName)) ∈ T0 := mT 545 (by decide +kernel) (by decide +kernel)
theorem wd_546 : (Jvm.Cond.privateMethod ({ cls := "ImageGateModel", name := "header", desc := "(J)Z" } : Jvm.MethodName)) ∈ lw_tbl := List.mem_of_getElem? (i := 546) (by decide +kernel)
theorem wd_547 : (Jvm.Cond.instanceMethod ({ cls := "ImageGateModel", name := "header", desc := "(J)Z" } : Jvm.MethodName)) ∈ T0 := mT 547 (by decide +kernel) (by decide +kernel)
theorem wd_548 : (Jvm.Cond.code ({ cls := "ImageGateModel", name := "header", desc := "(J)Z" } : Jvm.MethodName) prog_9_method_15_code (14 : Nat) (Option.some Jvm.ClassFile.FieldType.boolean)) ∈ T0 := mT 548 (by decide +kernel) (by decide +kernel)
theorem wd_549 : (Jvm.Cond.constantLong "ImageGateModel" (107 : Nat) (8 : Int64)) ∈ T0 := mT 549 (by decide +kernel) (by decide +kernel)
theorem wd_550 : (Jvm.Cond.constantLong "ImageGateModel" (105 : Nat) (4096 : Int64)) ∈ T0 := mT 550 (by decide +kernel) (by decide +kernel)
theorem wd_551 : (Jvm.Cond.constantLong "ImageGateModel" (113 : Nat) (1073733632 : Int64)) ∈ T0 := mT 551 (by decide +kernel) (by decide +kernel)
theorem wd_552 : (Jvm.Cond.constantLong "ImageGateModel" (118 : Nat) (24 : Int64)) ∈ T0 := mT 552 (by decide +kernel) (by decide +kernel)
theorem wd_553 : (Jvm.Cond.methodLink "ImageGateModel" (120 : Nat) ({ cls := "ImageGateModel", name := "up", desc := "(J)J" } : Jvm.MethodName)) ∈ T0 := mT 553 (by decide +kernel) (by decide +kernel)
theorem wd_554 : (Jvm.Cond.static ({ cls := "ImageGateModel", name := "up", desc := "(J)J" } : Jvm.MethodName)) ∈ T0 := mT 554 (by decide +kernel) (by decide +kernel)
theorem wd_555 : (Jvm.Cond.code ({ cls := "ImageGateModel", name := "up", desc := "(J)J" } : Jvm.MethodName) prog_9_method_14_code (2 : Nat) (Option.some Jvm.ClassFile.FieldType.long)) ∈ T0 := mT 555 (by decide +kernel) (by decide +kernel)
theorem wd_556 : (Jvm.Cond.constantLong "ImageGateModel" (103 : Nat) (4095 : Int64)) ∈ T0 := mT 556 (by decide +kernel) (by decide +kernel)
theorem wd_557 : (Jvm.Cond.methodLink "ImageGateModel" (137 : Nat) ({ cls := "ImageGateModel", name := "wanted", desc := "()I" } : Jvm.MethodName)) ∈ T0 := mT 557 (by decide +kernel) (by decide +kernel)
theorem wd_558 : (Jvm.Cond.privateMethod ({ cls := "ImageGateModel", name := "wanted", desc := "()I" } : Jvm.MethodName)) ∈ lw_tbl := List.mem_of_getElem? (i := 558) (by decide +kernel)
theorem wd_559 : (Jvm.Cond.instanceMethod ({ cls := "ImageGateModel", name := "wanted", desc := "()I" } : Jvm.MethodName)) ∈ T0 := mT 559 (by decide +kernel) (by decide +kernel)
theorem wd_560 : (Jvm.Cond.code ({ cls := "ImageGateModel", name := "wanted", desc := "()I" } : Jvm.MethodName) prog_9_method_16_code (4 : Nat) (Option.some Jvm.ClassFile.FieldType.int)) ∈ T0 := mT 560 (by decide +kernel) (by decide +kernel)
theorem wd_561 : (Jvm.Cond.methodLink "ImageGateModel" (148 : Nat) ({ cls := "ImageGateModel", name := "laid", desc := "(I)I" } : Jvm.MethodName)) ∈ T0 := mT 561 (by decide +kernel) (by decide +kernel)
theorem wd_562 : (Jvm.Cond.privateMethod ({ cls := "ImageGateModel", name := "laid", desc := "(I)I" } : Jvm.MethodName)) ∈ lw_tbl := List.mem_of_getElem? (i := 562) (by decide +kernel)
theorem wd_563 : (Jvm.Cond.instanceMethod ({ cls := "ImageGateModel", name := "laid", desc := "(I)I" } : Jvm.MethodName)) ∈ T0 := mT 563 (by decide +kernel) (by decide +kernel)
theorem wd_564 : (Jvm.Cond.code ({ cls := "ImageGateModel", name := "laid", desc := "(I)I" } : Jvm.MethodName) prog_9_method_17_code (6 : Nat) (Option.some Jvm.ClassFile.FieldType.int)) ∈ T0 := mT 564 (by decide +kernel) (by decide +kernel)
theorem wd_565 : (Jvm.Cond.methodLink "ImageGateLaw" (62 : Nat) ({ cls := "ImageGateModel", name := "why", desc := "()I" } : Jvm.MethodName)) ∈ T0 := mT 565 (by decide +kernel) (by decide +kernel)
theorem wd_566 : (Jvm.Cond.instanceMethod ({ cls := "ImageGateModel", name := "why", desc := "()I" } : Jvm.MethodName)) ∈ T0 := mT 566 (by decide +kernel) (by decide +kernel)
theorem wd_567 : (Jvm.Cond.selects "ImageGateModel" ({ cls := "ImageGateModel", name := "why", desc := "()I" } : Jvm.MethodName) ({ cls := "ImageGateModel", name := "why", desc := "()I" } : Jvm.MethodName)) ∈ T0 := mT 567 (by decide +kernel) (by decide +kernel)
theorem wd_568 : (Jvm.Cond.code ({ cls := "ImageGateModel", name := "why", desc := "()I" } : Jvm.MethodName) prog_9_method_20_code (1 : Nat) (Option.some Jvm.ClassFile.FieldType.int)) ∈ T0 := mT 568 (by decide +kernel) (by decide +kernel)
theorem wd_569 : (Jvm.Cond.methodLink "ImageGateLaw" (66 : Nat) ({ cls := "ImageGateModel", name := "about", desc := "(I)I" } : Jvm.MethodName)) ∈ T0 := mT 569 (by decide +kernel) (by decide +kernel)
theorem wd_570 : (Jvm.Cond.instanceMethod ({ cls := "ImageGateModel", name := "about", desc := "(I)I" } : Jvm.MethodName)) ∈ T0 := mT 570 (by decide +kernel) (by decide +kernel)
theorem wd_571 : (Jvm.Cond.selects "ImageGateModel" ({ cls := "ImageGateModel", name := "about", desc := "(I)I" } : Jvm.MethodName) ({ cls := "ImageGateModel", name := "about", desc := "(I)I" } : Jvm.MethodName)) ∈ T0 := mT 571 (by decide +kernel) (by decide +kernel)
theorem wd_572 : (Jvm.Cond.code ({ cls := "ImageGateModel", name := "about", desc := "(I)I" } : Jvm.MethodName) prog_9_method_21_code (2 : Nat) (Option.some Jvm.ClassFile.FieldType.int)) ∈ T0 := mT 572 (by decide +kernel) (by decide +kernel)
theorem wd_573 : (Jvm.Cond.methodLink "ImageGateLaw" (70 : Nat) ({ cls := "ImageGateModel", name := "at", desc := "(I)I" } : Jvm.MethodName)) ∈ T0 := mT 573 (by decide +kernel) (by decide +kernel)
theorem wd_574 : (Jvm.Cond.instanceMethod ({ cls := "ImageGateModel", name := "at", desc := "(I)I" } : Jvm.MethodName)) ∈ T0 := mT 574 (by decide +kernel) (by decide +kernel)
theorem wd_575 : (Jvm.Cond.selects "ImageGateModel" ({ cls := "ImageGateModel", name := "at", desc := "(I)I" } : Jvm.MethodName) ({ cls := "ImageGateModel", name := "at", desc := "(I)I" } : Jvm.MethodName)) ∈ T0 := mT 575 (by decide +kernel) (by decide +kernel)
theorem wd_576 : (Jvm.Cond.code ({ cls := "ImageGateModel", name := "at", desc := "(I)I" } : Jvm.MethodName) prog_9_method_24_code (4 : Nat) (Option.some Jvm.ClassFile.FieldType.int)) ∈ T0 := mT 576 (by decide +kernel) (by decide +kernel)
theorem wd_577 : (Jvm.Cond.methodLink "ImageGateModel" (169 : Nat) ({ cls := "ImageGateModel", name := "part", desc := "(I)I" } : Jvm.MethodName)) ∈ T0 := mT 577 (by decide +kernel) (by decide +kernel)
theorem wd_578 : (Jvm.Cond.privateMethod ({ cls := "ImageGateModel", name := "part", desc := "(I)I" } : Jvm.MethodName)) ∈ lw_tbl := List.mem_of_getElem? (i := 578) (by decide +kernel)
theorem wd_579 : (Jvm.Cond.instanceMethod ({ cls := "ImageGateModel", name := "part", desc := "(I)I" } : Jvm.MethodName)) ∈ T0 := mT 579 (by decide +kernel) (by decide +kernel)
theorem wd_580 : (Jvm.Cond.code ({ cls := "ImageGateModel", name := "part", desc := "(I)I" } : Jvm.MethodName) prog_9_method_22_code (4 : Nat) (Option.some Jvm.ClassFile.FieldType.int)) ∈ T0 := mT 580 (by decide +kernel) (by decide +kernel)
theorem wd_581 : (Jvm.Cond.methodLink "ImageGateModel" (172 : Nat) ({ cls := "ImageGateModel", name := "near", desc := "(I)I" } : Jvm.MethodName)) ∈ T0 := mT 581 (by decide +kernel) (by decide +kernel)
theorem wd_582 : (Jvm.Cond.privateMethod ({ cls := "ImageGateModel", name := "near", desc := "(I)I" } : Jvm.MethodName)) ∈ lw_tbl := List.mem_of_getElem? (i := 582) (by decide +kernel)
theorem wd_583 : (Jvm.Cond.instanceMethod ({ cls := "ImageGateModel", name := "near", desc := "(I)I" } : Jvm.MethodName)) ∈ T0 := mT 583 (by decide +kernel) (by decide +kernel)
theorem wd_584 : (Jvm.Cond.code ({ cls := "ImageGateModel", name := "near", desc := "(I)I" } : Jvm.MethodName) prog_9_method_23_code (2 : Nat) (Option.some Jvm.ClassFile.FieldType.int)) ∈ T0 := mT 584 (by decide +kernel) (by decide +kernel)
theorem wd_585 : (Jvm.Cond.methodLink "ImageGateLaw" (74 : Nat) ({ cls := "ImageGateModel", name := "flags", desc := "(I)I" } : Jvm.MethodName)) ∈ T0 := mT 585 (by decide +kernel) (by decide +kernel)
theorem wd_586 : (Jvm.Cond.instanceMethod ({ cls := "ImageGateModel", name := "flags", desc := "(I)I" } : Jvm.MethodName)) ∈ T0 := mT 586 (by decide +kernel) (by decide +kernel)
theorem wd_587 : (Jvm.Cond.selects "ImageGateModel" ({ cls := "ImageGateModel", name := "flags", desc := "(I)I" } : Jvm.MethodName) ({ cls := "ImageGateModel", name := "flags", desc := "(I)I" } : Jvm.MethodName)) ∈ T0 := mT 587 (by decide +kernel) (by decide +kernel)
theorem wd_588 : (Jvm.Cond.code ({ cls := "ImageGateModel", name := "flags", desc := "(I)I" } : Jvm.MethodName) prog_9_method_25_code (3 : Nat) (Option.some Jvm.ClassFile.FieldType.int)) ∈ T0 := mT 588 (by decide +kernel) (by decide +kernel)
theorem wd_589 : (Jvm.Cond.constantLong "ImageGateLaw" (43 : Nat) (4294967295 : Int64)) ∈ T0 := mT 589 (by decide +kernel) (by decide +kernel)
end
section
/-! THE CLASS'S WORLD: ten cells, then its 8 parts, its 32 pages and their bytes. All that changes: v (numbers), fr (the file's row), ar, zs (the arguments' row and sizes), pf (the parts' fields), st, rt, pb (the pages' start, rights, bytes). -/
theorem bl_get {α : Type} (F : Nat → α) {n i : Nat} (h : i < n) (B : List α) : ((List.range n).map F ++ B)[i]? = some (F i) := by
  rw [List.getElem?_append_left (by simp; exact h)]
  simp [h]
theorem bl_skip {α : Type} (F : Nat → α) (n i : Nat) (B : List α) : ((List.range n).map F ++ B)[i + n]? = B[i]? := by
  rw [List.getElem?_append_right (by simp)]
  simp
theorem bl_set {α : Type} (F G : Nat → α) {n i : Nat} (h : i < n) (B : List α) {x : α} (hx : G i = x) (hG : ∀ j, j ≠ i → G j = F j) : ((List.range n).map F ++ B).set i x = (List.range n).map G ++ B := by
  apply List.ext_getElem?
  intro k
  rw [List.getElem?_set]
  by_cases hk : i = k
  · subst hk
    rw [bl_get G h, hx]
    simp
    omega
  · simp only [hk, if_false]
    by_cases hn : k < n
    · rw [bl_get F hn, bl_get G hn, hG k (fun e => hk e.symm)]
    · obtain ⟨d, rfl⟩ : ∃ d, k = d + n := ⟨k - n, by omega⟩
      rw [bl_skip, bl_skip]
theorem bl_setR {α : Type} (F : Nat → α) {n i : Nat} (B : List α) {x : α} : ((List.range n).map F ++ B).set (i + n) x = (List.range n).map F ++ B.set i x := by
  rw [List.set_append_right _ _ (by simp)]
  simp
def upp (pf : Nat → Nat → Int32) (i k : Nat) (x : Int32) : Nat → Nat → Int32 := fun j => if j = i then upd (pf i) k x else pf j
def upr (pb : Nat → Nat → Int32) (i : Nat) (f : Nat → Int32) : Nat → Nat → Int32 := fun j => if j = i then f else pb j
def gPart (ad : Nat → Nat) (pf : Nat → Nat → Int32) (i : Nat) : Nat × va_E := (ad (i + 10), .inr (ciPart, [.int (pf i 0), .int (pf i 1), .int (pf i 2), .int (pf i 3), .int (pf i 4)]))
def gPage (ad : Nat → Nat) (st rt : Nat → Int32) (i : Nat) : Nat × va_E := (ad (i + 20), .inr (ciPage, [.ref (ad (i + 60)), .int (st i), .int (rt i)]))
def gPb (ad : Nat → Nat) (ck : Nat → ClassId) (pb : Nat → Nat → Int32) (i : Nat) : Nat × va_E := (ad (i + 60), .inl (ck 0, 4096, .inl (pb i)))
def wsG (ad : Nat → Nat) (ck : Nat → ClassId) (rf : Int32) (n : Nat) (fr : Nat → Int32) (a : Nat) (ar : Nat → Int32) (z : Nat → Nat) (pc : Nat) (pe : Int32) (pt pp : Nat) (pf : Nat → Nat → Int32) (ic : Nat) (ie ip iz ia : Int32) (st rt : Nat → Int32) (pb : Nat → Nat → Int32) : va_W :=
  (ad 0, .inr (ciGate, [.ref (ad 1), .ref (ad 3), .ref (ad 6), .ref (ad 8), .int rf])) ::
  (ad 1, .inr (ciFile, [.ref (ad 2), .int (nI n)])) ::
  (ad 2, .inl (ck 0, 65536, .inl fr)) ::
  (ad 3, .inr (ciArgs, [.ref (ad 4), .ref (ad 5), .int (nI a)])) ::
  (ad 4, .inl (ck 0, 4064, .inl ar)) ::
  (ad 5, .inl (ck 1, 32, .inl (fun j => nI (z j)))) ::
  (ad 6, .inr (ciPlan, [.ref (ad 7), .int (nI pc), .int pe, .int (nI pt), .int (nI pp)])) ::
  (ad 7, .inl (ck 2, 8, .inr (.inr (.inr (.inr (fun i => some (ad (i + 10)))))))) ::
  (ad 8, .inr (ciImage, [.ref (ad 9), .int (nI ic), .int ie, .int ip, .int iz, .int ia])) ::
  (ad 9, .inl (ck 3, 32, .inr (.inr (.inr (.inr (fun i => some (ad (i + 20)))))))) ::
  ((List.range 8).map (gPart ad pf) ++ ((List.range 32).map (gPage ad st rt) ++ ((List.range 32).map (gPb ad ck pb) ++ [])))
abbrev tyG (ck : Nat → ClassId) : List (ClassId × FieldType) := [(ck 0, .byte), (ck 1, .int), (ck 2, .object "ImageGate$Part"), (ck 3, .object "ImageGate$Page")]
section XG
variable {ad : Nat → Nat} {ck : Nat → ClassId} {rf : Int32} {n : Nat} {fr : Nat → Int32} {a : Nat} {ar : Nat → Int32} {z : Nat → Nat} {pc : Nat} {pe : Int32} {pt pp : Nat} {pf : Nat → Nat → Int32} {ic : Nat} {ie ip iz ia : Int32} {st rt : Nat → Int32} {pb : Nat → Nat → Int32} {i : Nat}
theorem wsG_part (h : i < 8) : (wsG ad ck rf n fr a ar z pc pe pt pp pf ic ie ip iz ia st rt pb)[i + 10]? = some (gPart ad pf i) := bl_get _ h _
theorem wsG_page (h : i < 32) : (wsG ad ck rf n fr a ar z pc pe pt pp pf ic ie ip iz ia st rt pb)[i + 18]? = some (gPage ad st rt i) := (bl_skip _ 8 i _).trans (bl_get _ h _)
theorem wsG_pb (h : i < 32) : (wsG ad ck rf n fr a ar z pc pe pt pp pf ic ie ip iz ia st rt pb)[i + 50]? = some (gPb ad ck pb i) := (bl_skip _ 8 (i + 32) _).trans ((bl_skip _ 32 i _).trans (bl_get _ h _))
theorem wsG_setP {pf2 : Nat → Nat → Int32} (h : i < 8) (hG : ∀ j, j ≠ i → pf2 j = pf j) : (wsG ad ck rf n fr a ar z pc pe pt pp pf ic ie ip iz ia st rt pb).set (i + 10) (gPart ad pf2 i) = wsG ad ck rf n fr a ar z pc pe pt pp pf2 ic ie ip iz ia st rt pb := by
  show _ :: _ :: _ :: _ :: _ :: _ :: _ :: _ :: _ :: _ :: (List.set _ i _) = _
  rw [bl_set (gPart ad pf) (gPart ad pf2) h _ rfl (fun j hj => by simp only [gPart, hG j hj])]
  rfl
theorem wsG_setQ {st2 rt2 : Nat → Int32} (h : i < 32) (hG : ∀ j, j ≠ i → st2 j = st j) (hR : ∀ j, j ≠ i → rt2 j = rt j) : (wsG ad ck rf n fr a ar z pc pe pt pp pf ic ie ip iz ia st rt pb).set (i + 18) (gPage ad st2 rt2 i) = wsG ad ck rf n fr a ar z pc pe pt pp pf ic ie ip iz ia st2 rt2 pb := by
  show _ :: _ :: _ :: _ :: _ :: _ :: _ :: _ :: _ :: _ :: (List.set _ (i + 8) _) = _
  rw [bl_setR, bl_set (gPage ad st rt) (gPage ad st2 rt2) h _ rfl (fun j hj => by simp only [gPage, hG j hj, hR j hj])]
  rfl
theorem wsG_setB {pb2 : Nat → Nat → Int32} (h : i < 32) (hG : ∀ j, j ≠ i → pb2 j = pb j) : (wsG ad ck rf n fr a ar z pc pe pt pp pf ic ie ip iz ia st rt pb).set (i + 50) (gPb ad ck pb2 i) = wsG ad ck rf n fr a ar z pc pe pt pp pf ic ie ip iz ia st rt pb2 := by
  show _ :: _ :: _ :: _ :: _ :: _ :: _ :: _ :: _ :: _ :: (List.set _ (i + 32 + 8) _) = _
  rw [bl_setR, bl_setR, bl_set (gPb ad ck pb) (gPb ad ck pb2) h _ rfl (fun j hj => by simp only [gPb, hG j hj])]
  rfl
end XG
/-- a boolean answer -/
def bI (b : Prop) [Decidable b] : Int32 := if b then 1 else 0
theorem bI_t {b : Prop} [Decidable b] (h : ¬ bI b = 0) : b := by
  by_cases hb : b
  · exact hb
  · exact absurd (by simp [bI, hb]) h
theorem bI_f {b : Prop} [Decidable b] (h : bI b = 0) : ¬ b := fun hb => by simp [bI, hb] at h
theorem bI_1 {b : Prop} [Decidable b] (h : b) : (1 : Int32) = bI b := by simp [bI, h]
theorem bI_0 {b : Prop} [Decidable b] (h : ¬ b) : (0 : Int32) = bI b := by simp [bI, h]
theorem bI_n {b : Prop} [Decidable b] : narrow .boolean (.int (bI b)) = .int (bI b) := by
  by_cases hb : b <;> simp [bI, hb] <;> rfl
section XH
variable {ad : Nat → Nat} {ck : Nat → ClassId} {rf : Int32} {n : Nat} {fr : Nat → Int32} {a : Nat} {ar : Nat → Int32} {z : Nat → Nat} {pc : Nat} {pe : Int32} {pt pp : Nat} {pf : Nat → Nat → Int32} {ic : Nat} {ie ip iz ia : Int32} {st rt : Nat → Int32} {pb : Nat → Nat → Int32} {i : Nat} {x : Int32}
theorem upp_ne {k j : Nat} (h : j ≠ i) : upp pf i k x j = pf j := by simp [upp, h]
theorem upr_ne {f : Nat → Int32} {j : Nat} (h : j ≠ i) : upr pb i f j = pb j := by simp [upr, h]
theorem upr_eq {f : Nat → Int32} : upr pb i f i = f := by simp [upr]
theorem wsG_putP0 (h : i < 8) : (wsG ad ck rf n fr a ar z pc pe pt pp pf ic ie ip iz ia st rt pb).set (i + 10) (ad (i + 10), .inr (ciPart, ([.int (pf i 0), .int (pf i 1), .int (pf i 2), .int (pf i 3), .int (pf i 4)] : List Value).set 0 (.int x))) = wsG ad ck rf n fr a ar z pc pe pt pp (upp pf i 0 x) ic ie ip iz ia st rt pb := by
  rw [← wsG_setP (pf := pf) (pf2 := upp pf i 0 x) h (fun j hj => upp_ne hj)]
  simp [gPart, upp, upd]
theorem wsG_putP1 (h : i < 8) : (wsG ad ck rf n fr a ar z pc pe pt pp pf ic ie ip iz ia st rt pb).set (i + 10) (ad (i + 10), .inr (ciPart, ([.int (pf i 0), .int (pf i 1), .int (pf i 2), .int (pf i 3), .int (pf i 4)] : List Value).set 1 (.int x))) = wsG ad ck rf n fr a ar z pc pe pt pp (upp pf i 1 x) ic ie ip iz ia st rt pb := by
  rw [← wsG_setP (pf := pf) (pf2 := upp pf i 1 x) h (fun j hj => upp_ne hj)]
  simp [gPart, upp, upd]
theorem wsG_putP2 (h : i < 8) : (wsG ad ck rf n fr a ar z pc pe pt pp pf ic ie ip iz ia st rt pb).set (i + 10) (ad (i + 10), .inr (ciPart, ([.int (pf i 0), .int (pf i 1), .int (pf i 2), .int (pf i 3), .int (pf i 4)] : List Value).set 2 (.int x))) = wsG ad ck rf n fr a ar z pc pe pt pp (upp pf i 2 x) ic ie ip iz ia st rt pb := by
  rw [← wsG_setP (pf := pf) (pf2 := upp pf i 2 x) h (fun j hj => upp_ne hj)]
  simp [gPart, upp, upd]
theorem wsG_putP3 (h : i < 8) : (wsG ad ck rf n fr a ar z pc pe pt pp pf ic ie ip iz ia st rt pb).set (i + 10) (ad (i + 10), .inr (ciPart, ([.int (pf i 0), .int (pf i 1), .int (pf i 2), .int (pf i 3), .int (pf i 4)] : List Value).set 3 (.int x))) = wsG ad ck rf n fr a ar z pc pe pt pp (upp pf i 3 x) ic ie ip iz ia st rt pb := by
  rw [← wsG_setP (pf := pf) (pf2 := upp pf i 3 x) h (fun j hj => upp_ne hj)]
  simp [gPart, upp, upd]
theorem wsG_putP4 (h : i < 8) : (wsG ad ck rf n fr a ar z pc pe pt pp pf ic ie ip iz ia st rt pb).set (i + 10) (ad (i + 10), .inr (ciPart, ([.int (pf i 0), .int (pf i 1), .int (pf i 2), .int (pf i 3), .int (pf i 4)] : List Value).set 4 (.int x))) = wsG ad ck rf n fr a ar z pc pe pt pp (upp pf i 4 x) ic ie ip iz ia st rt pb := by
  rw [← wsG_setP (pf := pf) (pf2 := upp pf i 4 x) h (fun j hj => upp_ne hj)]
  simp [gPart, upp, upd]
theorem wsG_putQ1 (h : i < 32) : (wsG ad ck rf n fr a ar z pc pe pt pp pf ic ie ip iz ia st rt pb).set (i + 18) (ad (i + 20), .inr (ciPage, ([.ref (ad (i + 60)), .int (st i), .int (rt i)] : List Value).set 1 (.int x))) = wsG ad ck rf n fr a ar z pc pe pt pp pf ic ie ip iz ia (upd st i x) rt pb := by
  rw [← wsG_setQ (st := st) (rt := rt) (st2 := upd st i x) (rt2 := rt) h (fun j hj => pk_un hj) (fun _ _ => rfl)]
  simp [gPage, upd]
theorem wsG_putQ2 (h : i < 32) : (wsG ad ck rf n fr a ar z pc pe pt pp pf ic ie ip iz ia st rt pb).set (i + 18) (ad (i + 20), .inr (ciPage, ([.ref (ad (i + 60)), .int (st i), .int (rt i)] : List Value).set 2 (.int x))) = wsG ad ck rf n fr a ar z pc pe pt pp pf ic ie ip iz ia st (upd rt i x) pb := by
  rw [← wsG_setQ (st := st) (rt := rt) (st2 := st) (rt2 := upd rt i x) h (fun _ _ => rfl) (fun j hj => pk_un hj)]
  simp [gPage, upd]
theorem wsG_putB {f : Nat → Int32} (h : i < 32) : (wsG ad ck rf n fr a ar z pc pe pt pp pf ic ie ip iz ia st rt pb).set (i + 50) (ad (i + 60), .inl (ck 0, 4096, .inl f)) = wsG ad ck rf n fr a ar z pc pe pt pp pf ic ie ip iz ia st rt (upr pb i f) := by
  rw [← wsG_setB (pb := pb) (pb2 := upr pb i f) h (fun j hj => upr_ne hj)]
  simp [gPb, upr]
end XH
def upn (z : Nat → Nat) (k x : Nat) : Nat → Nat := fun j => if j = k then x else z j
theorem upd_z (z : Nat → Nat) (k x : Nat) : upd (fun j => nI (z j)) k (nI x) = fun j => nI (upn z k x j) := by
  funext j
  by_cases h : j = k <;> simp [upd, upn, h]
theorem wsG_putZ {ad : Nat → Nat} {ck : Nat → ClassId} {rf : Int32} {n : Nat} {fr : Nat → Int32} {a : Nat} {ar : Nat → Int32} {z : Nat → Nat} {pc : Nat} {pe : Int32} {pt pp : Nat} {pf : Nat → Nat → Int32} {ic : Nat} {ie ip iz ia : Int32} {st rt : Nat → Int32} {pb : Nat → Nat → Int32} {k x : Nat} : (wsG ad ck rf n fr a ar z pc pe pt pp pf ic ie ip iz ia st rt pb).set 5 (ad 5, .inl (ck 1, 32, .inl (upd (fun j => nI (z j)) k (nI x)))) = wsG ad ck rf n fr a ar (upn z k x) pc pe pt pp pf ic ie ip iz ia st rt pb := by
  rw [upd_z]
  rfl
end
section
/-! THE FILE: what its methods compute -/
def apW (fr : Nat → Int32) (n : Nat) (w : Int32) : Nat → Int32 := upd (upd (upd (upd fr n (w >>> (24 &&& 31)).toInt8.toInt32) (n + 1) (w >>> (16 &&& 31)).toInt8.toInt32) (n + 1 + 1) (w >>> (8 &&& 31)).toInt8.toInt32) (n + 1 + 1 + 1) (w >>> (0 &&& 31)).toInt8.toInt32
def fbCut (n : Nat) (k : Int32) : Nat := if 0 ≤ k.toInt ∧ k.toInt ≤ (n : Int) then k.toInt.toNat else n
def wrN (fr : Nat → Int32) (j : Nat) (w : Int32) : Nat → Nat → Int32
  | 0 => fr
  | i + 1 => upd (wrN fr j w i) (j + i) (w >>> ((8 * nI i) &&& 31)).toInt8.toInt32
def fbWr (M n : Nat) (fr : Nat → Int32) (k w : Int32) : Nat → Int32 := if 0 ≤ k.toInt ∧ k.toInt + M ≤ (n : Int) then wrN fr k.toInt.toNat w M else fr
def numI (f : Nat → Int32) (j : Nat) : Nat → Int32
  | 0 => 0
  | i + 1 => (numI f (j + 1) i <<< ((8 : Int32) &&& 31)) ||| (f j &&& 255)
def fbNum (M n : Nat) (fr : Nat → Int32) (k : Int32) : Int32 := if 0 ≤ k.toInt ∧ k.toInt + M ≤ (n : Int) then numI fr k.toInt.toNat M else 0
def fbUns (n : Nat) (fr : Nat → Int32) (k : Int32) : Int64 := (fbNum 4 n fr k).toInt64 &&& 4294967295
theorem p_holds {f k : Int64} {n : Nat} (hn : n ≤ 65536) : (¬ f < 0 ∧ ¬ k < 0 ∧ ¬ lN n < f ∧ ¬ (lN n - f) < k) ↔ (0 ≤ f.toInt ∧ 0 ≤ k.toInt ∧ f.toInt + k.toInt ≤ (n : Int)) := by
  have h0 : (0 : Int64).toInt = 0 := rfl
  have hl : (lN n).toInt = n := lN_toInt (by omega)
  simp only [Int64.lt_iff_toInt_lt, h0, hl]
  by_cases hf : 0 ≤ f.toInt ∧ f.toInt ≤ n
  · have hs : (lN n - f).toInt = n - f.toInt := by
      rw [Int64.toInt_sub, hl]
      apply Int.bmod_eq_of_le <;> omega
    rw [hs]
    omega
  · constructor
    · intro h
      omega
    · intro h
      omega
theorem p_nneg {k : Int32} (h : 0 ≤ k.toInt) : ¬ k < 0 := by
  rw [Int32.lt_iff_toInt_lt]
  have h0 : (0 : Int32).toInt = 0 := rfl
  omega
theorem p_ofNat {k : Int32} (h : 0 ≤ k.toInt) : ∃ j : Nat, k = nI j ∧ (j : Int) = k.toInt := by
  obtain ⟨j, hj, e⟩ := nI_of (p_nneg h)
  exact ⟨j, e, by rw [e, nI_toInt hj]⟩
theorem p_at {M : Nat} {m : Int64} {k : Int32} {n : Nat} (hm : m.toInt = (M : Int)) (h : 0 ≤ k.toInt64.toInt ∧ 0 ≤ m.toInt ∧ k.toInt64.toInt + m.toInt ≤ (n : Int)) : ∃ j : Nat, k = nI j ∧ j + M ≤ n := by
  rw [Int32.toInt_toInt64, hm] at h
  obtain ⟨j, e, hj⟩ := p_ofNat h.1
  exact ⟨j, e, by omega⟩
theorem p_nat {M : Nat} {m : Int64} {k : Int32} {n : Nat} (hm : m.toInt = (M : Int)) (h : ¬ (0 ≤ k.toInt64.toInt ∧ 0 ≤ m.toInt ∧ k.toInt64.toInt + m.toInt ≤ (n : Int))) : ¬ (0 ≤ k.toInt ∧ k.toInt + M ≤ (n : Int)) := by
  rw [Int32.toInt_toInt64, hm] at h
  omega
theorem p_at1 {k : Int32} {n : Nat} (h : 0 ≤ k.toInt64.toInt ∧ 0 ≤ (1 : Int64).toInt ∧ k.toInt64.toInt + (1 : Int64).toInt ≤ (n : Int)) : ∃ j : Nat, k = nI j ∧ j + 1 ≤ n := p_at rfl h
theorem p_at2 {k : Int32} {n : Nat} (h : 0 ≤ k.toInt64.toInt ∧ 0 ≤ (2 : Int64).toInt ∧ k.toInt64.toInt + (2 : Int64).toInt ≤ (n : Int)) : ∃ j : Nat, k = nI j ∧ j + 2 ≤ n := p_at rfl h
theorem p_at4 {k : Int32} {n : Nat} (h : 0 ≤ k.toInt64.toInt ∧ 0 ≤ (4 : Int64).toInt ∧ k.toInt64.toInt + (4 : Int64).toInt ≤ (n : Int)) : ∃ j : Nat, k = nI j ∧ j + 4 ≤ n := p_at rfl h
theorem p_nat1 {k : Int32} {n : Nat} (h : ¬ (0 ≤ k.toInt64.toInt ∧ 0 ≤ (1 : Int64).toInt ∧ k.toInt64.toInt + (1 : Int64).toInt ≤ (n : Int))) : ¬ (0 ≤ k.toInt ∧ k.toInt + ((1 : Nat) : Int) ≤ (n : Int)) := p_nat (M := 1) rfl h
theorem p_nat2 {k : Int32} {n : Nat} (h : ¬ (0 ≤ k.toInt64.toInt ∧ 0 ≤ (2 : Int64).toInt ∧ k.toInt64.toInt + (2 : Int64).toInt ≤ (n : Int))) : ¬ (0 ≤ k.toInt ∧ k.toInt + ((2 : Nat) : Int) ≤ (n : Int)) := p_nat (M := 2) rfl h
theorem p_nat4 {k : Int32} {n : Nat} (h : ¬ (0 ≤ k.toInt64.toInt ∧ 0 ≤ (4 : Int64).toInt ∧ k.toInt64.toInt + (4 : Int64).toInt ≤ (n : Int))) : ¬ (0 ≤ k.toInt ∧ k.toInt + ((4 : Nat) : Int) ≤ (n : Int)) := p_nat (M := 4) rfl h
theorem p_in {k : Int32} {j M n : Nat} (e : k = nI j) (hj : j + M ≤ n) (hn : n ≤ 65536) : 0 ≤ k.toInt ∧ k.toInt + M ≤ (n : Int) := by
  rw [e, nI_toInt (by omega)]
  omega
end
section
theorem d_FB_hasRoom_0 : decode b_FB_hasRoom 0 = .ok (.iload_n 1, 1) := by decide +kernel
theorem d_FB_hasRoom_1 : decode b_FB_hasRoom 1 = .ok (.aload_n 0, 1) := by decide +kernel
theorem d_FB_hasRoom_2 : decode b_FB_hasRoom 2 = .ok (.getfield 10, 3) := by decide +kernel
theorem d_FB_hasRoom_5 : decode b_FB_hasRoom 5 = .ok (.arraylength, 1) := by decide +kernel
theorem d_FB_hasRoom_6 : decode b_FB_hasRoom 6 = .ok (.aload_n 0, 1) := by decide +kernel
theorem d_FB_hasRoom_7 : decode b_FB_hasRoom 7 = .ok (.getfield 16, 3) := by decide +kernel
theorem d_FB_hasRoom_10 : decode b_FB_hasRoom 10 = .ok (.isub, 1) := by decide +kernel
theorem d_FB_hasRoom_11 : decode b_FB_hasRoom 11 = .ok (.if_icmp .gt 7, 3) := by decide +kernel
theorem d_FB_hasRoom_14 : decode b_FB_hasRoom 14 = .ok (.iconst 1, 1) := by decide +kernel
theorem d_FB_hasRoom_15 : decode b_FB_hasRoom 15 = .ok (.goto 4, 3) := by decide +kernel
theorem d_FB_hasRoom_18 : decode b_FB_hasRoom 18 = .ok (.iconst 0, 1) := by decide +kernel
theorem d_FB_hasRoom_19 : decode b_FB_hasRoom 19 = .ok (.ireturn, 1) := by decide +kernel
theorem d_FB_holds_0 : decode b_FB_holds 0 = .ok (.lload_n 1, 1) := by decide +kernel
theorem d_FB_holds_1 : decode b_FB_holds 1 = .ok (.lconst 0, 1) := by decide +kernel
theorem d_FB_holds_2 : decode b_FB_holds 2 = .ok (.lcmp, 1) := by decide +kernel
theorem d_FB_holds_3 : decode b_FB_holds 3 = .ok (.ifCond .lt 35, 3) := by decide +kernel
theorem d_FB_holds_6 : decode b_FB_holds 6 = .ok (.lload_n 3, 1) := by decide +kernel
theorem d_FB_holds_7 : decode b_FB_holds 7 = .ok (.lconst 0, 1) := by decide +kernel
theorem d_FB_holds_8 : decode b_FB_holds 8 = .ok (.lcmp, 1) := by decide +kernel
theorem d_FB_holds_9 : decode b_FB_holds 9 = .ok (.ifCond .lt 29, 3) := by decide +kernel
theorem d_FB_holds_12 : decode b_FB_holds 12 = .ok (.lload_n 1, 1) := by decide +kernel
theorem d_FB_holds_13 : decode b_FB_holds 13 = .ok (.aload_n 0, 1) := by decide +kernel
theorem d_FB_holds_14 : decode b_FB_holds 14 = .ok (.getfield 16, 3) := by decide +kernel
theorem d_FB_holds_17 : decode b_FB_holds 17 = .ok (.i2l, 1) := by decide +kernel
theorem d_FB_holds_18 : decode b_FB_holds 18 = .ok (.lcmp, 1) := by decide +kernel
theorem d_FB_holds_19 : decode b_FB_holds 19 = .ok (.ifCond .gt 19, 3) := by decide +kernel
theorem d_FB_holds_22 : decode b_FB_holds 22 = .ok (.lload_n 3, 1) := by decide +kernel
theorem d_FB_holds_23 : decode b_FB_holds 23 = .ok (.aload_n 0, 1) := by decide +kernel
theorem d_FB_holds_24 : decode b_FB_holds 24 = .ok (.getfield 16, 3) := by decide +kernel
theorem d_FB_holds_27 : decode b_FB_holds 27 = .ok (.i2l, 1) := by decide +kernel
theorem d_FB_holds_28 : decode b_FB_holds 28 = .ok (.lload_n 1, 1) := by decide +kernel
theorem d_FB_holds_29 : decode b_FB_holds 29 = .ok (.lsub, 1) := by decide +kernel
theorem d_FB_holds_30 : decode b_FB_holds 30 = .ok (.lcmp, 1) := by decide +kernel
theorem d_FB_holds_31 : decode b_FB_holds 31 = .ok (.ifCond .gt 7, 3) := by decide +kernel
theorem d_FB_holds_34 : decode b_FB_holds 34 = .ok (.iconst 1, 1) := by decide +kernel
theorem d_FB_holds_35 : decode b_FB_holds 35 = .ok (.goto 4, 3) := by decide +kernel
theorem d_FB_holds_38 : decode b_FB_holds 38 = .ok (.iconst 0, 1) := by decide +kernel
theorem d_FB_holds_39 : decode b_FB_holds 39 = .ok (.ireturn, 1) := by decide +kernel
theorem d_FB_append_0 : decode b_FB_append 0 = .ok (.bipush 24, 2) := by decide +kernel
theorem d_FB_append_2 : decode b_FB_append 2 = .ok (.istore_n 2, 1) := by decide +kernel
theorem d_FB_append_3 : decode b_FB_append 3 = .ok (.iload_n 2, 1) := by decide +kernel
theorem d_FB_append_4 : decode b_FB_append 4 = .ok (.ifCond .lt 44, 3) := by decide +kernel
theorem d_FB_append_7 : decode b_FB_append 7 = .ok (.aload_n 0, 1) := by decide +kernel
theorem d_FB_append_8 : decode b_FB_append 8 = .ok (.getfield 16, 3) := by decide +kernel
theorem d_FB_append_11 : decode b_FB_append 11 = .ok (.aload_n 0, 1) := by decide +kernel
theorem d_FB_append_12 : decode b_FB_append 12 = .ok (.getfield 10, 3) := by decide +kernel
theorem d_FB_append_15 : decode b_FB_append 15 = .ok (.arraylength, 1) := by decide +kernel
theorem d_FB_append_16 : decode b_FB_append 16 = .ok (.if_icmp .ge 26, 3) := by decide +kernel
theorem d_FB_append_19 : decode b_FB_append 19 = .ok (.aload_n 0, 1) := by decide +kernel
theorem d_FB_append_20 : decode b_FB_append 20 = .ok (.getfield 10, 3) := by decide +kernel
theorem d_FB_append_23 : decode b_FB_append 23 = .ok (.aload_n 0, 1) := by decide +kernel
theorem d_FB_append_24 : decode b_FB_append 24 = .ok (.getfield 16, 3) := by decide +kernel
theorem d_FB_append_27 : decode b_FB_append 27 = .ok (.iload_n 1, 1) := by decide +kernel
theorem d_FB_append_28 : decode b_FB_append 28 = .ok (.iload_n 2, 1) := by decide +kernel
theorem d_FB_append_29 : decode b_FB_append 29 = .ok (.ishr, 1) := by decide +kernel
theorem d_FB_append_30 : decode b_FB_append 30 = .ok (.i2b, 1) := by decide +kernel
theorem d_FB_append_31 : decode b_FB_append 31 = .ok (.bastore, 1) := by decide +kernel
theorem d_FB_append_32 : decode b_FB_append 32 = .ok (.aload_n 0, 1) := by decide +kernel
theorem d_FB_append_33 : decode b_FB_append 33 = .ok (.dup, 1) := by decide +kernel
theorem d_FB_append_34 : decode b_FB_append 34 = .ok (.getfield 16, 3) := by decide +kernel
theorem d_FB_append_37 : decode b_FB_append 37 = .ok (.iconst 1, 1) := by decide +kernel
theorem d_FB_append_38 : decode b_FB_append 38 = .ok (.iadd, 1) := by decide +kernel
theorem d_FB_append_39 : decode b_FB_append 39 = .ok (.putfield 16, 3) := by decide +kernel
theorem d_FB_append_42 : decode b_FB_append 42 = .ok (.iinc 2 (-8), 3) := by decide +kernel
theorem d_FB_append_45 : decode b_FB_append 45 = .ok (.goto (-42), 3) := by decide +kernel
theorem d_FB_append_48 : decode b_FB_append 48 = .ok (.return_, 1) := by decide +kernel
theorem d_FB_cut_0 : decode b_FB_cut 0 = .ok (.iload_n 1, 1) := by decide +kernel
theorem d_FB_cut_1 : decode b_FB_cut 1 = .ok (.ifCond .lt 11, 3) := by decide +kernel
theorem d_FB_cut_4 : decode b_FB_cut 4 = .ok (.iload_n 1, 1) := by decide +kernel
theorem d_FB_cut_5 : decode b_FB_cut 5 = .ok (.aload_n 0, 1) := by decide +kernel
theorem d_FB_cut_6 : decode b_FB_cut 6 = .ok (.getfield 16, 3) := by decide +kernel
theorem d_FB_cut_9 : decode b_FB_cut 9 = .ok (.if_icmp .le 5, 3) := by decide +kernel
theorem d_FB_cut_12 : decode b_FB_cut 12 = .ok (.iconst 0, 1) := by decide +kernel
theorem d_FB_cut_13 : decode b_FB_cut 13 = .ok (.ireturn, 1) := by decide +kernel
theorem d_FB_cut_14 : decode b_FB_cut 14 = .ok (.aload_n 0, 1) := by decide +kernel
theorem d_FB_cut_15 : decode b_FB_cut 15 = .ok (.iload_n 1, 1) := by decide +kernel
theorem d_FB_cut_16 : decode b_FB_cut 16 = .ok (.putfield 16, 3) := by decide +kernel
theorem d_FB_cut_19 : decode b_FB_cut 19 = .ok (.iconst 1, 1) := by decide +kernel
theorem d_FB_cut_20 : decode b_FB_cut 20 = .ok (.ireturn, 1) := by decide +kernel
theorem d_FB_write_0 : decode b_FB_write 0 = .ok (.aload_n 0, 1) := by decide +kernel
theorem d_FB_write_1 : decode b_FB_write 1 = .ok (.iload_n 1, 1) := by decide +kernel
theorem d_FB_write_2 : decode b_FB_write 2 = .ok (.i2l, 1) := by decide +kernel
theorem d_FB_write_3 : decode b_FB_write 3 = .ok (.iload_n 2, 1) := by decide +kernel
theorem d_FB_write_4 : decode b_FB_write 4 = .ok (.i2l, 1) := by decide +kernel
theorem d_FB_write_5 : decode b_FB_write 5 = .ok (.invokevirtual 20, 3) := by decide +kernel
theorem d_FB_write_8 : decode b_FB_write 8 = .ok (.ifCond .ne 5, 3) := by decide +kernel
theorem d_FB_write_11 : decode b_FB_write 11 = .ok (.iconst 0, 1) := by decide +kernel
theorem d_FB_write_12 : decode b_FB_write 12 = .ok (.ireturn, 1) := by decide +kernel
theorem d_FB_write_13 : decode b_FB_write 13 = .ok (.iconst 0, 1) := by decide +kernel
theorem d_FB_write_14 : decode b_FB_write 14 = .ok (.istore 4, 2) := by decide +kernel
theorem d_FB_write_16 : decode b_FB_write 16 = .ok (.iload 4, 2) := by decide +kernel
theorem d_FB_write_18 : decode b_FB_write 18 = .ok (.iload_n 2, 1) := by decide +kernel
theorem d_FB_write_19 : decode b_FB_write 19 = .ok (.if_icmp .ge 26, 3) := by decide +kernel
theorem d_FB_write_22 : decode b_FB_write 22 = .ok (.aload_n 0, 1) := by decide +kernel
theorem d_FB_write_23 : decode b_FB_write 23 = .ok (.getfield 10, 3) := by decide +kernel
theorem d_FB_write_26 : decode b_FB_write 26 = .ok (.iload_n 1, 1) := by decide +kernel
theorem d_FB_write_27 : decode b_FB_write 27 = .ok (.iload 4, 2) := by decide +kernel
theorem d_FB_write_29 : decode b_FB_write 29 = .ok (.iadd, 1) := by decide +kernel
theorem d_FB_write_30 : decode b_FB_write 30 = .ok (.iload_n 3, 1) := by decide +kernel
theorem d_FB_write_31 : decode b_FB_write 31 = .ok (.bipush 8, 2) := by decide +kernel
theorem d_FB_write_33 : decode b_FB_write 33 = .ok (.iload 4, 2) := by decide +kernel
theorem d_FB_write_35 : decode b_FB_write 35 = .ok (.imul, 1) := by decide +kernel
theorem d_FB_write_36 : decode b_FB_write 36 = .ok (.ishr, 1) := by decide +kernel
theorem d_FB_write_37 : decode b_FB_write 37 = .ok (.i2b, 1) := by decide +kernel
theorem d_FB_write_38 : decode b_FB_write 38 = .ok (.bastore, 1) := by decide +kernel
theorem d_FB_write_39 : decode b_FB_write 39 = .ok (.iinc 4 1, 3) := by decide +kernel
theorem d_FB_write_42 : decode b_FB_write 42 = .ok (.goto (-26), 3) := by decide +kernel
theorem d_FB_write_45 : decode b_FB_write 45 = .ok (.iconst 1, 1) := by decide +kernel
theorem d_FB_write_46 : decode b_FB_write 46 = .ok (.ireturn, 1) := by decide +kernel
theorem d_FB_number_0 : decode b_FB_number 0 = .ok (.aload_n 0, 1) := by decide +kernel
theorem d_FB_number_1 : decode b_FB_number 1 = .ok (.iload_n 1, 1) := by decide +kernel
theorem d_FB_number_2 : decode b_FB_number 2 = .ok (.i2l, 1) := by decide +kernel
theorem d_FB_number_3 : decode b_FB_number 3 = .ok (.iload_n 2, 1) := by decide +kernel
theorem d_FB_number_4 : decode b_FB_number 4 = .ok (.i2l, 1) := by decide +kernel
theorem d_FB_number_5 : decode b_FB_number 5 = .ok (.invokevirtual 20, 3) := by decide +kernel
theorem d_FB_number_8 : decode b_FB_number 8 = .ok (.ifCond .ne 5, 3) := by decide +kernel
theorem d_FB_number_11 : decode b_FB_number 11 = .ok (.iconst 0, 1) := by decide +kernel
theorem d_FB_number_12 : decode b_FB_number 12 = .ok (.ireturn, 1) := by decide +kernel
theorem d_FB_number_13 : decode b_FB_number 13 = .ok (.iconst 0, 1) := by decide +kernel
theorem d_FB_number_14 : decode b_FB_number 14 = .ok (.istore_n 3, 1) := by decide +kernel
theorem d_FB_number_15 : decode b_FB_number 15 = .ok (.iload_n 2, 1) := by decide +kernel
theorem d_FB_number_16 : decode b_FB_number 16 = .ok (.iconst 1, 1) := by decide +kernel
theorem d_FB_number_17 : decode b_FB_number 17 = .ok (.isub, 1) := by decide +kernel
theorem d_FB_number_18 : decode b_FB_number 18 = .ok (.istore 4, 2) := by decide +kernel
theorem d_FB_number_20 : decode b_FB_number 20 = .ok (.iload 4, 2) := by decide +kernel
theorem d_FB_number_22 : decode b_FB_number 22 = .ok (.ifCond .lt 28, 3) := by decide +kernel
theorem d_FB_number_25 : decode b_FB_number 25 = .ok (.iload_n 3, 1) := by decide +kernel
theorem d_FB_number_26 : decode b_FB_number 26 = .ok (.bipush 8, 2) := by decide +kernel
theorem d_FB_number_28 : decode b_FB_number 28 = .ok (.ishl, 1) := by decide +kernel
theorem d_FB_number_29 : decode b_FB_number 29 = .ok (.aload_n 0, 1) := by decide +kernel
theorem d_FB_number_30 : decode b_FB_number 30 = .ok (.getfield 10, 3) := by decide +kernel
theorem d_FB_number_33 : decode b_FB_number 33 = .ok (.iload_n 1, 1) := by decide +kernel
theorem d_FB_number_34 : decode b_FB_number 34 = .ok (.iload 4, 2) := by decide +kernel
theorem d_FB_number_36 : decode b_FB_number 36 = .ok (.iadd, 1) := by decide +kernel
theorem d_FB_number_37 : decode b_FB_number 37 = .ok (.baload, 1) := by decide +kernel
theorem d_FB_number_38 : decode b_FB_number 38 = .ok (.sipush 255, 3) := by decide +kernel
theorem d_FB_number_41 : decode b_FB_number 41 = .ok (.iand, 1) := by decide +kernel
theorem d_FB_number_42 : decode b_FB_number 42 = .ok (.ior, 1) := by decide +kernel
theorem d_FB_number_43 : decode b_FB_number 43 = .ok (.istore_n 3, 1) := by decide +kernel
theorem d_FB_number_44 : decode b_FB_number 44 = .ok (.iinc 4 (-1), 3) := by decide +kernel
theorem d_FB_number_47 : decode b_FB_number 47 = .ok (.goto (-27), 3) := by decide +kernel
theorem d_FB_number_50 : decode b_FB_number 50 = .ok (.iload_n 3, 1) := by decide +kernel
theorem d_FB_number_51 : decode b_FB_number 51 = .ok (.ireturn, 1) := by decide +kernel
theorem d_FB_unsigned_0 : decode b_FB_unsigned 0 = .ok (.aload_n 0, 1) := by decide +kernel
theorem d_FB_unsigned_1 : decode b_FB_unsigned 1 = .ok (.iload_n 1, 1) := by decide +kernel
theorem d_FB_unsigned_2 : decode b_FB_unsigned 2 = .ok (.iconst 4, 1) := by decide +kernel
theorem d_FB_unsigned_3 : decode b_FB_unsigned 3 = .ok (.invokevirtual 24, 3) := by decide +kernel
theorem d_FB_unsigned_6 : decode b_FB_unsigned 6 = .ok (.i2l, 1) := by decide +kernel
theorem d_FB_unsigned_7 : decode b_FB_unsigned 7 = .ok (.ldc2_w 28, 3) := by decide +kernel
theorem d_FB_unsigned_10 : decode b_FB_unsigned 10 = .ok (.land, 1) := by decide +kernel
theorem d_FB_unsigned_11 : decode b_FB_unsigned 11 = .ok (.lreturn, 1) := by decide +kernel
end
section
set_option maxHeartbeats 4000000 in
set_option maxRecDepth 100000 in
theorem c_fb_hasRoom (l : Launch) (dC : Nat → ClassId) (dI : Nat → Nat → Nat) (ad : Nat → Nat) (ck : Nat → ClassId) (rf : Int32) (n : Nat) (fr : Nat → Int32) (a : Nat) (ar : Nat → Int32) (z : Nat → Nat) (pc : Nat) (pe : Int32) (pt pp : Nat) (pf : Nat → Nat → Int32) (ic : Nat) (ie ip iz ia : Int32) (st rt : Nat → Int32) (pb : Nat → Nat → Int32) (hn : n ≤ 65536) (sz : Nat) : Met l y_FB_hasRoom w_FB_hasRoom { frames := 0, cells := 0, slots := 0, locals := 0 } (va_Pc [.ref (ad 1), .int 20] (xP (dC, dI) (tyG ck) (wsG ad ck rf n fr a ar z pc pe pt pp pf ic ie ip iz ia st rt pb) sz)) (xQi (dC, dI) (tyG ck) (va_A (wsG ad ck rf n fr a ar z pc pe pt pp pf ic ie ip iz ia st rt pb) sz) (wsG ad ck rf n fr a ar z pc pe pt pp pf ic ie ip iz ia st rt pb) (fun r => r = bI (n + 20 ≤ 65536))) 0 0 (va_A (wsG ad ck rf n fr a ar z pc pe pt pp pf ic ie ip iz ia st rt pb) sz) := by
  refine xof (cc := b_FB_hasRoom) (maxL := 2) (ret := (some .boolean)) (own := R_FB) (Qc := fun A => (xQi (dC, dI) (tyG ck) A (wsG ad ck rf n fr a ar z pc pe pt pp pf ic ie ip iz ia st rt pb) (fun r => r = bI (n + 20 ≤ 65536)))) (by decide) rfl rfl (Nat.le_of_ble_eq_true rfl) ?_ sz
  intro p e s m below meth c A C hnm hK hP hD hA hN hZ hS ls hl
  obtain ⟨hx, hb, hr, hml, hown, hts, hlocks⟩ := C
  have hl : lv_has ls 2 [(0, .ref (ad 1)), (1, .int 20)] := hl
  refine lv_iload_n hx hb d_FB_hasRoom_0 rfl (lv_at hl 1 rfl) ?_
  refine lv_aload_n hx hb d_FB_hasRoom_1 rfl (lv_at hl 0 rfl) ?_
  refine va_get (D := (dC, dI)) (ci := 1) (v := .ref (ad 2)) (C := R_FB) (T := T_FB) (N := 2) hx hb hts i_FB hown hK hP 1 rfl rfl 0 (by decide) (hts _ wd_41) (fun _ h9 => h9) rfl d_FB_hasRoom_2 ?_
  refine va_alen (v := 65536) hx hb hK hP 2 0 rfl rfl rfl d_FB_hasRoom_5 ?_
  refine lv_aload_n hx hb d_FB_hasRoom_6 rfl (lv_at hl 0 rfl) ?_
  refine va_get (D := (dC, dI)) (ci := 1) (v := .int (nI n)) (C := R_FB) (T := T_FB) (N := 2) hx hb hts i_FB hown hK hP 1 rfl rfl 1 (by decide) (hts _ wd_42) (fun _ h9 => h9) rfl d_FB_hasRoom_7 ?_
  refine lv_isub hx hb d_FB_hasRoom_10 ?_
  refine xtopi (y := nI (65536 - n)) (pk_sub (a := 65536) (b := n) (by omega)) ?_
  refine lv_icmp_gt (tgt := 18) hx hb d_FB_hasRoom_11 (by decide) (fun c_1 => ?_) (fun c_1 => ?_)
  · skip
    have c_1 : 65536 - n < 20 := (nI_ltI (a := 65536 - n) (b := 20) (by omega) (by omega)).mp c_1
    refine lv_iconst (v := 0) hx hb d_FB_hasRoom_18 (by decide) ?_
    exact xreti (v := 0) hx hb hr hlocks hK hP hD hS (rfl) (bI_0 (by omega)) d_FB_hasRoom_19
  · skip
    have c_1 : ¬ (65536 - n < 20) := fun h9 => c_1 ((nI_ltI (a := 65536 - n) (b := 20) (by omega) (by omega)).mpr h9)
    refine lv_iconst (v := 1) hx hb d_FB_hasRoom_14 (by decide) ?_
    refine lv_goto (tgt := 19) hx hb d_FB_hasRoom_15 (by decide) ?_
    exact xreti (v := 1) hx hb hr hlocks hK hP hD hS (rfl) (bI_1 (by omega)) d_FB_hasRoom_19
set_option maxHeartbeats 4000000 in
set_option maxRecDepth 100000 in
theorem c_fb_holds (l : Launch) (dC : Nat → ClassId) (dI : Nat → Nat → Nat) (ad : Nat → Nat) (ck : Nat → ClassId) (rf : Int32) (n : Nat) (fr : Nat → Int32) (a : Nat) (ar : Nat → Int32) (z : Nat → Nat) (pc : Nat) (pe : Int32) (pt pp : Nat) (pf : Nat → Nat → Int32) (ic : Nat) (ie ip iz ia : Int32) (st rt : Nat → Int32) (pb : Nat → Nat → Int32) (f k : Int64) (hn : n ≤ 65536) (sz : Nat) : Met l y_FB_holds w_FB_holds { frames := 0, cells := 0, slots := 0, locals := 0 } (va_Pc [.ref (ad 1), .long f, .long k] (xP (dC, dI) (tyG ck) (wsG ad ck rf n fr a ar z pc pe pt pp pf ic ie ip iz ia st rt pb) sz)) (xQi (dC, dI) (tyG ck) (va_A (wsG ad ck rf n fr a ar z pc pe pt pp pf ic ie ip iz ia st rt pb) sz) (wsG ad ck rf n fr a ar z pc pe pt pp pf ic ie ip iz ia st rt pb) (fun r => r = bI (0 ≤ f.toInt ∧ 0 ≤ k.toInt ∧ f.toInt + k.toInt ≤ (n : Int)))) 0 0 (va_A (wsG ad ck rf n fr a ar z pc pe pt pp pf ic ie ip iz ia st rt pb) sz) := by
  refine xof (cc := b_FB_holds) (maxL := 5) (ret := (some .boolean)) (own := R_FB) (Qc := fun A => (xQi (dC, dI) (tyG ck) A (wsG ad ck rf n fr a ar z pc pe pt pp pf ic ie ip iz ia st rt pb) (fun r => r = bI (0 ≤ f.toInt ∧ 0 ≤ k.toInt ∧ f.toInt + k.toInt ≤ (n : Int))))) (by decide) rfl rfl (Nat.le_of_ble_eq_true rfl) ?_ sz
  intro p e s m below meth c A C hnm hK hP hD hA hN hZ hS ls hl
  obtain ⟨hx, hb, hr, hml, hown, hts, hlocks⟩ := C
  have hl : lv_has ls 5 [(0, .ref (ad 1)), (1, .long f), (3, .long k)] := hl
  refine lv_lload_n hx hb d_FB_holds_0 rfl (lv_at hl 1 rfl) ?_
  refine lv_lconst (v := 0) hx hb d_FB_holds_1 (by decide) ?_
  refine W.lcmp hx hb d_FB_holds_2 ?_
  refine lv_if_lt (tgt := 38) hx hb d_FB_holds_3 (by decide) (fun c_1 => ?_) (fun c_1 => ?_)
  · skip
    rw [lg_cmp_lt] at c_1
    refine lv_iconst (v := 0) hx hb d_FB_holds_38 (by decide) ?_
    exact xreti (v := 0) hx hb hr hlocks hK hP hD hS (rfl) (bI_0 (fun h9 => absurd c_1 ((p_holds hn).mpr h9).1)) d_FB_holds_39
  · skip
    rw [lg_cmp_lt] at c_1
    refine lv_lload_n hx hb d_FB_holds_6 rfl (lv_at hl 2 rfl) ?_
    refine lv_lconst (v := 0) hx hb d_FB_holds_7 (by decide) ?_
    refine W.lcmp hx hb d_FB_holds_8 ?_
    refine lv_if_lt (tgt := 38) hx hb d_FB_holds_9 (by decide) (fun c_2 => ?_) (fun c_2 => ?_)
    · skip
      rw [lg_cmp_lt] at c_2
      refine lv_iconst (v := 0) hx hb d_FB_holds_38 (by decide) ?_
      exact xreti (v := 0) hx hb hr hlocks hK hP hD hS (rfl) (bI_0 (fun h9 => absurd c_2 ((p_holds hn).mpr h9).2.1)) d_FB_holds_39
    · skip
      rw [lg_cmp_lt] at c_2
      refine lv_lload_n hx hb d_FB_holds_12 rfl (lv_at hl 1 rfl) ?_
      refine lv_aload_n hx hb d_FB_holds_13 rfl (lv_at hl 0 rfl) ?_
      refine va_get (D := (dC, dI)) (ci := 1) (v := .int (nI n)) (C := R_FB) (T := T_FB) (N := 2) hx hb hts i_FB hown hK hP 1 rfl rfl 1 (by decide) (hts _ wd_42) (fun _ h9 => h9) rfl d_FB_holds_14 ?_
      refine lv_i2l hx hb d_FB_holds_17 rfl ?_
      refine xtopl (y := lN n) (nI_l (by omega)) ?_
      refine W.lcmp hx hb d_FB_holds_18 ?_
      refine lv_if_gt (tgt := 38) hx hb d_FB_holds_19 (by decide) (fun c_3 => ?_) (fun c_3 => ?_)
      · skip
        rw [lg_cmp_gt] at c_3
        refine lv_iconst (v := 0) hx hb d_FB_holds_38 (by decide) ?_
        exact xreti (v := 0) hx hb hr hlocks hK hP hD hS (rfl) (bI_0 (fun h9 => absurd c_3 ((p_holds hn).mpr h9).2.2.1)) d_FB_holds_39
      · skip
        rw [lg_cmp_gt] at c_3
        refine lv_lload_n hx hb d_FB_holds_22 rfl (lv_at hl 2 rfl) ?_
        refine lv_aload_n hx hb d_FB_holds_23 rfl (lv_at hl 0 rfl) ?_
        refine va_get (D := (dC, dI)) (ci := 1) (v := .int (nI n)) (C := R_FB) (T := T_FB) (N := 2) hx hb hts i_FB hown hK hP 1 rfl rfl 1 (by decide) (hts _ wd_42) (fun _ h9 => h9) rfl d_FB_holds_24 ?_
        refine lv_i2l hx hb d_FB_holds_27 rfl ?_
        refine xtopl (y := lN n) (nI_l (by omega)) ?_
        refine lv_lload_n hx hb d_FB_holds_28 rfl (lv_at hl 1 rfl) ?_
        refine lv_lsub hx hb d_FB_holds_29 ?_
        refine W.lcmp hx hb d_FB_holds_30 ?_
        refine lv_if_gt (tgt := 38) hx hb d_FB_holds_31 (by decide) (fun c_4 => ?_) (fun c_4 => ?_)
        · skip
          rw [lg_cmp_gt] at c_4
          refine lv_iconst (v := 0) hx hb d_FB_holds_38 (by decide) ?_
          exact xreti (v := 0) hx hb hr hlocks hK hP hD hS (rfl) (bI_0 (fun h9 => absurd c_4 ((p_holds hn).mpr h9).2.2.2)) d_FB_holds_39
        · skip
          rw [lg_cmp_gt] at c_4
          refine lv_iconst (v := 1) hx hb d_FB_holds_34 (by decide) ?_
          refine lv_goto (tgt := 39) hx hb d_FB_holds_35 (by decide) ?_
          exact xreti (v := 1) hx hb hr hlocks hK hP hD hS (rfl) (bI_1 ((p_holds hn).mp ⟨c_1, c_2, c_3, c_4⟩)) d_FB_holds_39
set_option maxHeartbeats 4000000 in
set_option maxRecDepth 100000 in
theorem c_fb_append (l : Launch) (dC : Nat → ClassId) (dI : Nat → Nat → Nat) (ad : Nat → Nat) (ck : Nat → ClassId) (rf : Int32) (n : Nat) (fr : Nat → Int32) (a : Nat) (ar : Nat → Int32) (z : Nat → Nat) (pc : Nat) (pe : Int32) (pt pp : Nat) (pf : Nat → Nat → Int32) (ic : Nat) (ie ip iz ia : Int32) (st rt : Nat → Int32) (pb : Nat → Nat → Int32) (w : Int32) (hn : n + 4 ≤ 65536) (sz : Nat) : Met l y_FB_append w_FB_append { frames := 0, cells := 0, slots := 0, locals := 0 } (va_Pc [.ref (ad 1), .int w] (xP (dC, dI) (tyG ck) (wsG ad ck rf n fr a ar z pc pe pt pp pf ic ie ip iz ia st rt pb) sz)) (xQv (dC, dI) (tyG ck) (va_A (wsG ad ck rf n fr a ar z pc pe pt pp pf ic ie ip iz ia st rt pb) sz) (wsG ad ck rf (n + 4) (apW fr n w) a ar z pc pe pt pp pf ic ie ip iz ia st rt pb)) 0 0 (va_A (wsG ad ck rf n fr a ar z pc pe pt pp pf ic ie ip iz ia st rt pb) sz) := by
  refine xof (cc := b_FB_append) (maxL := 3) (ret := none) (own := R_FB) (Qc := fun A => (xQv (dC, dI) (tyG ck) A (wsG ad ck rf (n + 4) (apW fr n w) a ar z pc pe pt pp pf ic ie ip iz ia st rt pb))) (by decide) rfl rfl (Nat.le_of_ble_eq_true rfl) ?_ sz
  intro p e s m below meth c A C hnm hK hP hD hA hN hZ hS ls hl
  obtain ⟨hx, hb, hr, hml, hown, hts, hlocks⟩ := C
  have hl : lv_has ls 3 [(0, .ref (ad 1)), (1, .int w)] := hl
  refine lv_bipush (v := 24) hx hb d_FB_append_0 (by decide) ?_
  refine lv_istore_n (lv' := [(2, .int 24), (0, .ref (ad 1)), (1, .int w)]) hx hb d_FB_append_2 rfl hl (by decide) rfl (fun ls hl => ?_)
  refine lv_iload_n hx hb d_FB_append_3 rfl (lv_at hl 0 rfl) ?_
  refine lv_if_lt (tgt := 48) hx hb d_FB_append_4 (by decide) (fun c_1 => ?_) (fun c_1 => ?_)
  · exact absurd c_1 (by decide)
  · skip
    refine lv_aload_n hx hb d_FB_append_7 rfl (lv_at hl 1 rfl) ?_
    refine va_get (D := (dC, dI)) (ci := 1) (v := .int (nI n)) (C := R_FB) (T := T_FB) (N := 2) hx hb hts i_FB hown hK hP 1 rfl rfl 1 (by decide) (hts _ wd_42) (fun _ h9 => h9) rfl d_FB_append_8 ?_
    refine lv_aload_n hx hb d_FB_append_11 rfl (lv_at hl 1 rfl) ?_
    refine va_get (D := (dC, dI)) (ci := 1) (v := .ref (ad 2)) (C := R_FB) (T := T_FB) (N := 2) hx hb hts i_FB hown hK hP 1 rfl rfl 0 (by decide) (hts _ wd_41) (fun _ h9 => h9) rfl d_FB_append_12 ?_
    refine va_alen (v := 65536) hx hb hK hP 2 0 rfl rfl rfl d_FB_append_15 ?_
    refine lv_icmp_ge (tgt := 42) hx hb d_FB_append_16 (by decide) (fun c_2 => ?_) (fun c_2 => ?_)
    · skip
      have c_2 : 65536 ≤ n := (nI_leI (a := 65536) (b := n) (by omega) (by omega)).mp c_2
      exact absurd c_2 (by omega)
    · skip
      have c_2 : ¬ (65536 ≤ n) := fun h9 => c_2 ((nI_leI (a := 65536) (b := n) (by omega) (by omega)).mpr h9)
      refine lv_aload_n hx hb d_FB_append_19 rfl (lv_at hl 1 rfl) ?_
      refine va_get (D := (dC, dI)) (ci := 1) (v := .ref (ad 2)) (C := R_FB) (T := T_FB) (N := 2) hx hb hts i_FB hown hK hP 1 rfl rfl 0 (by decide) (hts _ wd_41) (fun _ h9 => h9) rfl d_FB_append_20 ?_
      refine lv_aload_n hx hb d_FB_append_23 rfl (lv_at hl 1 rfl) ?_
      refine va_get (D := (dC, dI)) (ci := 1) (v := .int (nI n)) (C := R_FB) (T := T_FB) (N := 2) hx hb hts i_FB hown hK hP 1 rfl rfl 1 (by decide) (hts _ wd_42) (fun _ h9 => h9) rfl d_FB_append_24 ?_
      refine lv_iload_n hx hb d_FB_append_27 rfl (lv_at hl 2 rfl) ?_
      refine lv_iload_n hx hb d_FB_append_28 rfl (lv_at hl 0 rfl) ?_
      refine lv_ishr hx hb d_FB_append_29 ?_
      refine lv_i2b hx hb d_FB_append_30 rfl ?_
      refine xbast (k := n) (x' := (w >>> ((24 : Int32) &&& 31)).toInt8.toInt32) (ws1 := wsG ad ck rf n (upd fr n ((w >>> ((24 : Int32) &&& 31)).toInt8.toInt32)) a ar z pc pe pt pp pf ic ie ip iz ia st rt pb) hx hb hK hP hD hS 2 0 rfl rfl (rfl) (by omega) (by decide) (pk_vb _) rfl d_FB_append_31 (fun H locs hP hD hS => ?_)
      refine lv_aload_n hx hb d_FB_append_32 rfl (lv_at hl 1 rfl) ?_
      refine lv_dup hx hb d_FB_append_33 rfl ?_
      refine va_get (D := (dC, dI)) (ci := 1) (v := .int (nI n)) (C := R_FB) (T := T_FB) (N := 2) hx hb hts i_FB hown hK hP 1 rfl rfl 1 (by decide) (hts _ wd_42) (fun _ h9 => h9) rfl d_FB_append_34 ?_
      refine lv_iconst (v := 1) hx hb d_FB_append_37 (by decide) ?_
      refine lv_iadd hx hb d_FB_append_38 ?_
      refine xtopi (y := nI (n + 1)) (nI_add (n) (1)) ?_
      refine va_put (D := (dC, dI)) (ci := 1) (v := .int (nI (n + 1))) (ty := .int) (C := R_FB) (T := T_FB) (N := 2) hx hb hts i_FB t_FB k_FB n_FB hown hK hP hD hS 1 rfl rfl 1 (by decide) (hts _ wd_42) (fun _ h9 => h9) rfl (by decide +kernel) rfl rfl (Nat.le_of_ble_eq_true rfl) d_FB_append_39 (fun H locs hP hD hS => ?_)
      have hP : va_P (dC, dI) vwCl (wsG ad ck rf (n + 1) (upd fr n ((w >>> ((24 : Int32) &&& 31)).toInt8.toInt32)) a ar z pc pe pt pp pf ic ie ip iz ia st rt pb) H := hP
      have hD : va_D A (wsG ad ck rf (n + 1) (upd fr n ((w >>> ((24 : Int32) &&& 31)).toInt8.toInt32)) a ar z pc pe pt pp pf ic ie ip iz ia st rt pb) := hD
      refine lv_iinc (v := 16) (lv' := [(2, .int 16), (0, .ref (ad 1)), (1, .int w)]) hx hb d_FB_append_42 hl (k := 0) rfl rfl (by decide) rfl (fun ls hl => ?_)
      refine lv_goto (tgt := 3) hx hb d_FB_append_45 (by decide) ?_
      refine lv_iload_n hx hb d_FB_append_3 rfl (lv_at hl 0 rfl) ?_
      refine lv_if_lt (tgt := 48) hx hb d_FB_append_4 (by decide) (fun c_3 => ?_) (fun c_3 => ?_)
      · exact absurd c_3 (by decide)
      · skip
        refine lv_aload_n hx hb d_FB_append_7 rfl (lv_at hl 1 rfl) ?_
        refine va_get (D := (dC, dI)) (ci := 1) (v := .int (nI (n + 1))) (C := R_FB) (T := T_FB) (N := 2) hx hb hts i_FB hown hK hP 1 rfl rfl 1 (by decide) (hts _ wd_42) (fun _ h9 => h9) rfl d_FB_append_8 ?_
        refine lv_aload_n hx hb d_FB_append_11 rfl (lv_at hl 1 rfl) ?_
        refine va_get (D := (dC, dI)) (ci := 1) (v := .ref (ad 2)) (C := R_FB) (T := T_FB) (N := 2) hx hb hts i_FB hown hK hP 1 rfl rfl 0 (by decide) (hts _ wd_41) (fun _ h9 => h9) rfl d_FB_append_12 ?_
        refine va_alen (v := 65536) hx hb hK hP 2 0 rfl rfl rfl d_FB_append_15 ?_
        refine lv_icmp_ge (tgt := 42) hx hb d_FB_append_16 (by decide) (fun c_4 => ?_) (fun c_4 => ?_)
        · skip
          have c_4 : 65536 ≤ n + 1 := (nI_leI (a := 65536) (b := n + 1) (by omega) (by omega)).mp c_4
          exact absurd c_4 (by omega)
        · skip
          have c_4 : ¬ (65536 ≤ n + 1) := fun h9 => c_4 ((nI_leI (a := 65536) (b := n + 1) (by omega) (by omega)).mpr h9)
          refine lv_aload_n hx hb d_FB_append_19 rfl (lv_at hl 1 rfl) ?_
          refine va_get (D := (dC, dI)) (ci := 1) (v := .ref (ad 2)) (C := R_FB) (T := T_FB) (N := 2) hx hb hts i_FB hown hK hP 1 rfl rfl 0 (by decide) (hts _ wd_41) (fun _ h9 => h9) rfl d_FB_append_20 ?_
          refine lv_aload_n hx hb d_FB_append_23 rfl (lv_at hl 1 rfl) ?_
          refine va_get (D := (dC, dI)) (ci := 1) (v := .int (nI (n + 1))) (C := R_FB) (T := T_FB) (N := 2) hx hb hts i_FB hown hK hP 1 rfl rfl 1 (by decide) (hts _ wd_42) (fun _ h9 => h9) rfl d_FB_append_24 ?_
          refine lv_iload_n hx hb d_FB_append_27 rfl (lv_at hl 2 rfl) ?_
          refine lv_iload_n hx hb d_FB_append_28 rfl (lv_at hl 0 rfl) ?_
          refine lv_ishr hx hb d_FB_append_29 ?_
          refine lv_i2b hx hb d_FB_append_30 rfl ?_
          refine xbast (k := n + 1) (x' := (w >>> ((16 : Int32) &&& 31)).toInt8.toInt32) (ws1 := wsG ad ck rf (n + 1) (upd (upd fr n ((w >>> ((24 : Int32) &&& 31)).toInt8.toInt32)) (n + 1) ((w >>> ((16 : Int32) &&& 31)).toInt8.toInt32)) a ar z pc pe pt pp pf ic ie ip iz ia st rt pb) hx hb hK hP hD hS 2 0 rfl rfl (rfl) (by omega) (by decide) (pk_vb _) rfl d_FB_append_31 (fun H locs hP hD hS => ?_)
          refine lv_aload_n hx hb d_FB_append_32 rfl (lv_at hl 1 rfl) ?_
          refine lv_dup hx hb d_FB_append_33 rfl ?_
          refine va_get (D := (dC, dI)) (ci := 1) (v := .int (nI (n + 1))) (C := R_FB) (T := T_FB) (N := 2) hx hb hts i_FB hown hK hP 1 rfl rfl 1 (by decide) (hts _ wd_42) (fun _ h9 => h9) rfl d_FB_append_34 ?_
          refine lv_iconst (v := 1) hx hb d_FB_append_37 (by decide) ?_
          refine lv_iadd hx hb d_FB_append_38 ?_
          refine xtopi (y := nI ((n + 1) + 1)) (nI_add (n + 1) (1)) ?_
          refine va_put (D := (dC, dI)) (ci := 1) (v := .int (nI ((n + 1) + 1))) (ty := .int) (C := R_FB) (T := T_FB) (N := 2) hx hb hts i_FB t_FB k_FB n_FB hown hK hP hD hS 1 rfl rfl 1 (by decide) (hts _ wd_42) (fun _ h9 => h9) rfl (by decide +kernel) rfl rfl (Nat.le_of_ble_eq_true rfl) d_FB_append_39 (fun H locs hP hD hS => ?_)
          have hP : va_P (dC, dI) vwCl (wsG ad ck rf ((n + 1) + 1) (upd (upd fr n ((w >>> ((24 : Int32) &&& 31)).toInt8.toInt32)) (n + 1) ((w >>> ((16 : Int32) &&& 31)).toInt8.toInt32)) a ar z pc pe pt pp pf ic ie ip iz ia st rt pb) H := hP
          have hD : va_D A (wsG ad ck rf ((n + 1) + 1) (upd (upd fr n ((w >>> ((24 : Int32) &&& 31)).toInt8.toInt32)) (n + 1) ((w >>> ((16 : Int32) &&& 31)).toInt8.toInt32)) a ar z pc pe pt pp pf ic ie ip iz ia st rt pb) := hD
          refine lv_iinc (v := 8) (lv' := [(2, .int 8), (0, .ref (ad 1)), (1, .int w)]) hx hb d_FB_append_42 hl (k := 0) rfl rfl (by decide) rfl (fun ls hl => ?_)
          refine lv_goto (tgt := 3) hx hb d_FB_append_45 (by decide) ?_
          refine lv_iload_n hx hb d_FB_append_3 rfl (lv_at hl 0 rfl) ?_
          refine lv_if_lt (tgt := 48) hx hb d_FB_append_4 (by decide) (fun c_5 => ?_) (fun c_5 => ?_)
          · exact absurd c_5 (by decide)
          · skip
            refine lv_aload_n hx hb d_FB_append_7 rfl (lv_at hl 1 rfl) ?_
            refine va_get (D := (dC, dI)) (ci := 1) (v := .int (nI ((n + 1) + 1))) (C := R_FB) (T := T_FB) (N := 2) hx hb hts i_FB hown hK hP 1 rfl rfl 1 (by decide) (hts _ wd_42) (fun _ h9 => h9) rfl d_FB_append_8 ?_
            refine lv_aload_n hx hb d_FB_append_11 rfl (lv_at hl 1 rfl) ?_
            refine va_get (D := (dC, dI)) (ci := 1) (v := .ref (ad 2)) (C := R_FB) (T := T_FB) (N := 2) hx hb hts i_FB hown hK hP 1 rfl rfl 0 (by decide) (hts _ wd_41) (fun _ h9 => h9) rfl d_FB_append_12 ?_
            refine va_alen (v := 65536) hx hb hK hP 2 0 rfl rfl rfl d_FB_append_15 ?_
            refine lv_icmp_ge (tgt := 42) hx hb d_FB_append_16 (by decide) (fun c_6 => ?_) (fun c_6 => ?_)
            · skip
              have c_6 : 65536 ≤ (n + 1) + 1 := (nI_leI (a := 65536) (b := (n + 1) + 1) (by omega) (by omega)).mp c_6
              exact absurd c_6 (by omega)
            · skip
              have c_6 : ¬ (65536 ≤ (n + 1) + 1) := fun h9 => c_6 ((nI_leI (a := 65536) (b := (n + 1) + 1) (by omega) (by omega)).mpr h9)
              refine lv_aload_n hx hb d_FB_append_19 rfl (lv_at hl 1 rfl) ?_
              refine va_get (D := (dC, dI)) (ci := 1) (v := .ref (ad 2)) (C := R_FB) (T := T_FB) (N := 2) hx hb hts i_FB hown hK hP 1 rfl rfl 0 (by decide) (hts _ wd_41) (fun _ h9 => h9) rfl d_FB_append_20 ?_
              refine lv_aload_n hx hb d_FB_append_23 rfl (lv_at hl 1 rfl) ?_
              refine va_get (D := (dC, dI)) (ci := 1) (v := .int (nI ((n + 1) + 1))) (C := R_FB) (T := T_FB) (N := 2) hx hb hts i_FB hown hK hP 1 rfl rfl 1 (by decide) (hts _ wd_42) (fun _ h9 => h9) rfl d_FB_append_24 ?_
              refine lv_iload_n hx hb d_FB_append_27 rfl (lv_at hl 2 rfl) ?_
              refine lv_iload_n hx hb d_FB_append_28 rfl (lv_at hl 0 rfl) ?_
              refine lv_ishr hx hb d_FB_append_29 ?_
              refine lv_i2b hx hb d_FB_append_30 rfl ?_
              refine xbast (k := (n + 1) + 1) (x' := (w >>> ((8 : Int32) &&& 31)).toInt8.toInt32) (ws1 := wsG ad ck rf ((n + 1) + 1) (upd (upd (upd fr n ((w >>> ((24 : Int32) &&& 31)).toInt8.toInt32)) (n + 1) ((w >>> ((16 : Int32) &&& 31)).toInt8.toInt32)) ((n + 1) + 1) ((w >>> ((8 : Int32) &&& 31)).toInt8.toInt32)) a ar z pc pe pt pp pf ic ie ip iz ia st rt pb) hx hb hK hP hD hS 2 0 rfl rfl (rfl) (by omega) (by decide) (pk_vb _) rfl d_FB_append_31 (fun H locs hP hD hS => ?_)
              refine lv_aload_n hx hb d_FB_append_32 rfl (lv_at hl 1 rfl) ?_
              refine lv_dup hx hb d_FB_append_33 rfl ?_
              refine va_get (D := (dC, dI)) (ci := 1) (v := .int (nI ((n + 1) + 1))) (C := R_FB) (T := T_FB) (N := 2) hx hb hts i_FB hown hK hP 1 rfl rfl 1 (by decide) (hts _ wd_42) (fun _ h9 => h9) rfl d_FB_append_34 ?_
              refine lv_iconst (v := 1) hx hb d_FB_append_37 (by decide) ?_
              refine lv_iadd hx hb d_FB_append_38 ?_
              refine xtopi (y := nI (((n + 1) + 1) + 1)) (nI_add ((n + 1) + 1) (1)) ?_
              refine va_put (D := (dC, dI)) (ci := 1) (v := .int (nI (((n + 1) + 1) + 1))) (ty := .int) (C := R_FB) (T := T_FB) (N := 2) hx hb hts i_FB t_FB k_FB n_FB hown hK hP hD hS 1 rfl rfl 1 (by decide) (hts _ wd_42) (fun _ h9 => h9) rfl (by decide +kernel) rfl rfl (Nat.le_of_ble_eq_true rfl) d_FB_append_39 (fun H locs hP hD hS => ?_)
              have hP : va_P (dC, dI) vwCl (wsG ad ck rf (((n + 1) + 1) + 1) (upd (upd (upd fr n ((w >>> ((24 : Int32) &&& 31)).toInt8.toInt32)) (n + 1) ((w >>> ((16 : Int32) &&& 31)).toInt8.toInt32)) ((n + 1) + 1) ((w >>> ((8 : Int32) &&& 31)).toInt8.toInt32)) a ar z pc pe pt pp pf ic ie ip iz ia st rt pb) H := hP
              have hD : va_D A (wsG ad ck rf (((n + 1) + 1) + 1) (upd (upd (upd fr n ((w >>> ((24 : Int32) &&& 31)).toInt8.toInt32)) (n + 1) ((w >>> ((16 : Int32) &&& 31)).toInt8.toInt32)) ((n + 1) + 1) ((w >>> ((8 : Int32) &&& 31)).toInt8.toInt32)) a ar z pc pe pt pp pf ic ie ip iz ia st rt pb) := hD
              refine lv_iinc (v := 0) (lv' := [(2, .int 0), (0, .ref (ad 1)), (1, .int w)]) hx hb d_FB_append_42 hl (k := 0) rfl rfl (by decide) rfl (fun ls hl => ?_)
              refine lv_goto (tgt := 3) hx hb d_FB_append_45 (by decide) ?_
              refine lv_iload_n hx hb d_FB_append_3 rfl (lv_at hl 0 rfl) ?_
              refine lv_if_lt (tgt := 48) hx hb d_FB_append_4 (by decide) (fun c_7 => ?_) (fun c_7 => ?_)
              · exact absurd c_7 (by decide)
              · skip
                refine lv_aload_n hx hb d_FB_append_7 rfl (lv_at hl 1 rfl) ?_
                refine va_get (D := (dC, dI)) (ci := 1) (v := .int (nI (((n + 1) + 1) + 1))) (C := R_FB) (T := T_FB) (N := 2) hx hb hts i_FB hown hK hP 1 rfl rfl 1 (by decide) (hts _ wd_42) (fun _ h9 => h9) rfl d_FB_append_8 ?_
                refine lv_aload_n hx hb d_FB_append_11 rfl (lv_at hl 1 rfl) ?_
                refine va_get (D := (dC, dI)) (ci := 1) (v := .ref (ad 2)) (C := R_FB) (T := T_FB) (N := 2) hx hb hts i_FB hown hK hP 1 rfl rfl 0 (by decide) (hts _ wd_41) (fun _ h9 => h9) rfl d_FB_append_12 ?_
                refine va_alen (v := 65536) hx hb hK hP 2 0 rfl rfl rfl d_FB_append_15 ?_
                refine lv_icmp_ge (tgt := 42) hx hb d_FB_append_16 (by decide) (fun c_8 => ?_) (fun c_8 => ?_)
                · skip
                  have c_8 : 65536 ≤ ((n + 1) + 1) + 1 := (nI_leI (a := 65536) (b := ((n + 1) + 1) + 1) (by omega) (by omega)).mp c_8
                  exact absurd c_8 (by omega)
                · skip
                  have c_8 : ¬ (65536 ≤ ((n + 1) + 1) + 1) := fun h9 => c_8 ((nI_leI (a := 65536) (b := ((n + 1) + 1) + 1) (by omega) (by omega)).mpr h9)
                  refine lv_aload_n hx hb d_FB_append_19 rfl (lv_at hl 1 rfl) ?_
                  refine va_get (D := (dC, dI)) (ci := 1) (v := .ref (ad 2)) (C := R_FB) (T := T_FB) (N := 2) hx hb hts i_FB hown hK hP 1 rfl rfl 0 (by decide) (hts _ wd_41) (fun _ h9 => h9) rfl d_FB_append_20 ?_
                  refine lv_aload_n hx hb d_FB_append_23 rfl (lv_at hl 1 rfl) ?_
                  refine va_get (D := (dC, dI)) (ci := 1) (v := .int (nI (((n + 1) + 1) + 1))) (C := R_FB) (T := T_FB) (N := 2) hx hb hts i_FB hown hK hP 1 rfl rfl 1 (by decide) (hts _ wd_42) (fun _ h9 => h9) rfl d_FB_append_24 ?_
                  refine lv_iload_n hx hb d_FB_append_27 rfl (lv_at hl 2 rfl) ?_
                  refine lv_iload_n hx hb d_FB_append_28 rfl (lv_at hl 0 rfl) ?_
                  refine lv_ishr hx hb d_FB_append_29 ?_
                  refine lv_i2b hx hb d_FB_append_30 rfl ?_
                  refine xbast (k := ((n + 1) + 1) + 1) (x' := (w >>> ((0 : Int32) &&& 31)).toInt8.toInt32) (ws1 := wsG ad ck rf (((n + 1) + 1) + 1) (upd (upd (upd (upd fr n ((w >>> ((24 : Int32) &&& 31)).toInt8.toInt32)) (n + 1) ((w >>> ((16 : Int32) &&& 31)).toInt8.toInt32)) ((n + 1) + 1) ((w >>> ((8 : Int32) &&& 31)).toInt8.toInt32)) (((n + 1) + 1) + 1) ((w >>> ((0 : Int32) &&& 31)).toInt8.toInt32)) a ar z pc pe pt pp pf ic ie ip iz ia st rt pb) hx hb hK hP hD hS 2 0 rfl rfl (rfl) (by omega) (by decide) (pk_vb _) rfl d_FB_append_31 (fun H locs hP hD hS => ?_)
                  refine lv_aload_n hx hb d_FB_append_32 rfl (lv_at hl 1 rfl) ?_
                  refine lv_dup hx hb d_FB_append_33 rfl ?_
                  refine va_get (D := (dC, dI)) (ci := 1) (v := .int (nI (((n + 1) + 1) + 1))) (C := R_FB) (T := T_FB) (N := 2) hx hb hts i_FB hown hK hP 1 rfl rfl 1 (by decide) (hts _ wd_42) (fun _ h9 => h9) rfl d_FB_append_34 ?_
                  refine lv_iconst (v := 1) hx hb d_FB_append_37 (by decide) ?_
                  refine lv_iadd hx hb d_FB_append_38 ?_
                  refine xtopi (y := nI ((((n + 1) + 1) + 1) + 1)) (nI_add (((n + 1) + 1) + 1) (1)) ?_
                  refine va_put (D := (dC, dI)) (ci := 1) (v := .int (nI ((((n + 1) + 1) + 1) + 1))) (ty := .int) (C := R_FB) (T := T_FB) (N := 2) hx hb hts i_FB t_FB k_FB n_FB hown hK hP hD hS 1 rfl rfl 1 (by decide) (hts _ wd_42) (fun _ h9 => h9) rfl (by decide +kernel) rfl rfl (Nat.le_of_ble_eq_true rfl) d_FB_append_39 (fun H locs hP hD hS => ?_)
                  have hP : va_P (dC, dI) vwCl (wsG ad ck rf ((((n + 1) + 1) + 1) + 1) (upd (upd (upd (upd fr n ((w >>> ((24 : Int32) &&& 31)).toInt8.toInt32)) (n + 1) ((w >>> ((16 : Int32) &&& 31)).toInt8.toInt32)) ((n + 1) + 1) ((w >>> ((8 : Int32) &&& 31)).toInt8.toInt32)) (((n + 1) + 1) + 1) ((w >>> ((0 : Int32) &&& 31)).toInt8.toInt32)) a ar z pc pe pt pp pf ic ie ip iz ia st rt pb) H := hP
                  have hD : va_D A (wsG ad ck rf ((((n + 1) + 1) + 1) + 1) (upd (upd (upd (upd fr n ((w >>> ((24 : Int32) &&& 31)).toInt8.toInt32)) (n + 1) ((w >>> ((16 : Int32) &&& 31)).toInt8.toInt32)) ((n + 1) + 1) ((w >>> ((8 : Int32) &&& 31)).toInt8.toInt32)) (((n + 1) + 1) + 1) ((w >>> ((0 : Int32) &&& 31)).toInt8.toInt32)) a ar z pc pe pt pp pf ic ie ip iz ia st rt pb) := hD
                  refine lv_iinc (v := (-8)) (lv' := [(2, .int (-8)), (0, .ref (ad 1)), (1, .int w)]) hx hb d_FB_append_42 hl (k := 0) rfl rfl (by decide) rfl (fun ls hl => ?_)
                  refine lv_goto (tgt := 3) hx hb d_FB_append_45 (by decide) ?_
                  refine lv_iload_n hx hb d_FB_append_3 rfl (lv_at hl 0 rfl) ?_
                  refine lv_if_lt (tgt := 48) hx hb d_FB_append_4 (by decide) (fun c_9 => ?_) (fun c_9 => ?_)
                  · skip
                    have hw9 : wsG ad ck rf ((((n + 1) + 1) + 1) + 1) (upd (upd (upd (upd fr n ((w >>> ((24 : Int32) &&& 31)).toInt8.toInt32)) (n + 1) ((w >>> ((16 : Int32) &&& 31)).toInt8.toInt32)) ((n + 1) + 1) ((w >>> ((8 : Int32) &&& 31)).toInt8.toInt32)) (((n + 1) + 1) + 1) ((w >>> ((0 : Int32) &&& 31)).toInt8.toInt32)) a ar z pc pe pt pp pf ic ie ip iz ia st rt pb = wsG ad ck rf (n + 4) (apW fr n w) a ar z pc pe pt pp pf ic ie ip iz ia st rt pb := rfl
                    rw [hw9] at hP hD
                    exact xretv hx hb hr hlocks hK hP hD hS d_FB_append_48
                  · exact absurd c_9 (by decide)
set_option maxHeartbeats 4000000 in
set_option maxRecDepth 100000 in
theorem c_fb_cut (l : Launch) (dC : Nat → ClassId) (dI : Nat → Nat → Nat) (ad : Nat → Nat) (ck : Nat → ClassId) (rf : Int32) (n : Nat) (fr : Nat → Int32) (a : Nat) (ar : Nat → Int32) (z : Nat → Nat) (pc : Nat) (pe : Int32) (pt pp : Nat) (pf : Nat → Nat → Int32) (ic : Nat) (ie ip iz ia : Int32) (st rt : Nat → Int32) (pb : Nat → Nat → Int32) (k : Int32) (hn : n ≤ 65536) (sz : Nat) : Met l y_FB_cut w_FB_cut { frames := 0, cells := 0, slots := 0, locals := 0 } (va_Pc [.ref (ad 1), .int k] (xP (dC, dI) (tyG ck) (wsG ad ck rf n fr a ar z pc pe pt pp pf ic ie ip iz ia st rt pb) sz)) (xQi (dC, dI) (tyG ck) (va_A (wsG ad ck rf n fr a ar z pc pe pt pp pf ic ie ip iz ia st rt pb) sz) (wsG ad ck rf (fbCut n k) fr a ar z pc pe pt pp pf ic ie ip iz ia st rt pb) (fun r => r = bI (0 ≤ k.toInt ∧ k.toInt ≤ (n : Int)))) 0 0 (va_A (wsG ad ck rf n fr a ar z pc pe pt pp pf ic ie ip iz ia st rt pb) sz) := by
  refine xof (cc := b_FB_cut) (maxL := 2) (ret := (some .boolean)) (own := R_FB) (Qc := fun A => (xQi (dC, dI) (tyG ck) A (wsG ad ck rf (fbCut n k) fr a ar z pc pe pt pp pf ic ie ip iz ia st rt pb) (fun r => r = bI (0 ≤ k.toInt ∧ k.toInt ≤ (n : Int))))) (by decide) rfl rfl (Nat.le_of_ble_eq_true rfl) ?_ sz
  intro p e s m below meth c A C hnm hK hP hD hA hN hZ hS ls hl
  obtain ⟨hx, hb, hr, hml, hown, hts, hlocks⟩ := C
  have hl : lv_has ls 2 [(0, .ref (ad 1)), (1, .int k)] := hl
  refine lv_iload_n hx hb d_FB_cut_0 rfl (lv_at hl 1 rfl) ?_
  refine lv_if_lt (tgt := 12) hx hb d_FB_cut_1 (by decide) (fun c_1 => ?_) (fun c_1 => ?_)
  · skip
    refine lv_iconst (v := 0) hx hb d_FB_cut_12 (by decide) ?_
    have hw9 : wsG ad ck rf n fr a ar z pc pe pt pp pf ic ie ip iz ia st rt pb = wsG ad ck rf (fbCut n k) fr a ar z pc pe pt pp pf ic ie ip iz ia st rt pb := by simp only [fbCut]; rw [if_neg (fun h9 => absurd c_1 (p_nneg h9.1))]
    rw [hw9] at hP hD
    exact xreti (v := 0) hx hb hr hlocks hK hP hD hS (rfl) (bI_0 (fun h9 => absurd c_1 (p_nneg h9.1))) d_FB_cut_13
  · skip
    obtain ⟨j, hj, ej⟩ := nI_of c_1
    rw [ej] at hl
    refine lv_iload_n hx hb d_FB_cut_4 rfl (lv_at hl 1 rfl) ?_
    refine lv_aload_n hx hb d_FB_cut_5 rfl (lv_at hl 0 rfl) ?_
    refine va_get (D := (dC, dI)) (ci := 1) (v := .int (nI n)) (C := R_FB) (T := T_FB) (N := 2) hx hb hts i_FB hown hK hP 1 rfl rfl 1 (by decide) (hts _ wd_42) (fun _ h9 => h9) rfl d_FB_cut_6 ?_
    refine lv_icmp_le (tgt := 14) hx hb d_FB_cut_9 (by decide) (fun c_2 => ?_) (fun c_2 => ?_)
    · skip
      have c_2 : j ≤ n := (nI_leI (a := j) (b := n) (by omega) (by omega)).mp c_2
      refine lv_aload_n hx hb d_FB_cut_14 rfl (lv_at hl 0 rfl) ?_
      refine lv_iload_n hx hb d_FB_cut_15 rfl (lv_at hl 1 rfl) ?_
      refine va_put (D := (dC, dI)) (ci := 1) (v := .int (nI j)) (ty := .int) (C := R_FB) (T := T_FB) (N := 2) hx hb hts i_FB t_FB k_FB n_FB hown hK hP hD hS 1 rfl rfl 1 (by decide) (hts _ wd_42) (fun _ h9 => h9) rfl (by decide +kernel) rfl rfl (Nat.le_of_ble_eq_true rfl) d_FB_cut_16 (fun H locs hP hD hS => ?_)
      have hP : va_P (dC, dI) vwCl (wsG ad ck rf j fr a ar z pc pe pt pp pf ic ie ip iz ia st rt pb) H := hP
      have hD : va_D A (wsG ad ck rf j fr a ar z pc pe pt pp pf ic ie ip iz ia st rt pb) := hD
      refine lv_iconst (v := 1) hx hb d_FB_cut_19 (by decide) ?_
      have hw9 : wsG ad ck rf j fr a ar z pc pe pt pp pf ic ie ip iz ia st rt pb = wsG ad ck rf (fbCut n k) fr a ar z pc pe pt pp pf ic ie ip iz ia st rt pb := by simp only [fbCut]; rw [if_pos (by rw [ej, nI_toInt hj]; omega), ej, nI_toInt hj]; rfl
      rw [hw9] at hP hD
      exact xreti (v := 1) hx hb hr hlocks hK hP hD hS (rfl) (bI_1 (by rw [ej, nI_toInt hj]; omega)) d_FB_cut_20
    · skip
      have c_2 : ¬ (j ≤ n) := fun h9 => c_2 ((nI_leI (a := j) (b := n) (by omega) (by omega)).mpr h9)
      refine lv_iconst (v := 0) hx hb d_FB_cut_12 (by decide) ?_
      have hw9 : wsG ad ck rf n fr a ar z pc pe pt pp pf ic ie ip iz ia st rt pb = wsG ad ck rf (fbCut n k) fr a ar z pc pe pt pp pf ic ie ip iz ia st rt pb := by simp only [fbCut]; rw [if_neg (by rw [ej, nI_toInt hj]; omega)]
      rw [hw9] at hP hD
      exact xreti (v := 0) hx hb hr hlocks hK hP hD hS (rfl) (bI_0 (by rw [ej, nI_toInt hj]; omega)) d_FB_cut_13
set_option maxHeartbeats 4000000 in
set_option maxRecDepth 100000 in
theorem c_fb_write1 (l : Launch) (dC : Nat → ClassId) (dI : Nat → Nat → Nat) (ad : Nat → Nat) (ck : Nat → ClassId) (rf : Int32) (n : Nat) (fr : Nat → Int32) (a : Nat) (ar : Nat → Int32) (z : Nat → Nat) (pc : Nat) (pe : Int32) (pt pp : Nat) (pf : Nat → Nat → Int32) (ic : Nat) (ie ip iz ia : Int32) (st rt : Nat → Int32) (pb : Nat → Nat → Int32) (k w : Int32) (hn : n ≤ 65536) (sz : Nat) : Met l y_FB_write w_FB_write { frames := 1, cells := 0, slots := 0, locals := 24 } (va_Pc [.ref (ad 1), .int k, .int 1, .int w] (xP (dC, dI) (tyG ck) (wsG ad ck rf n fr a ar z pc pe pt pp pf ic ie ip iz ia st rt pb) sz)) (xQi (dC, dI) (tyG ck) (va_A (wsG ad ck rf n fr a ar z pc pe pt pp pf ic ie ip iz ia st rt pb) sz) (wsG ad ck rf n (fbWr 1 n fr k w) a ar z pc pe pt pp pf ic ie ip iz ia st rt pb) (fun r => r = bI (0 ≤ k.toInt ∧ k.toInt + ((1 : Nat) : Int) ≤ (n : Int)))) 0 0 (va_A (wsG ad ck rf n fr a ar z pc pe pt pp pf ic ie ip iz ia st rt pb) sz) := by
  refine xof (cc := b_FB_write) (maxL := 5) (ret := (some .boolean)) (own := R_FB) (Qc := fun A => (xQi (dC, dI) (tyG ck) A (wsG ad ck rf n (fbWr 1 n fr k w) a ar z pc pe pt pp pf ic ie ip iz ia st rt pb) (fun r => r = bI (0 ≤ k.toInt ∧ k.toInt + ((1 : Nat) : Int) ≤ (n : Int))))) (by decide) rfl rfl (Nat.le_of_ble_eq_true rfl) ?_ sz
  intro p e s m below meth c A C hnm hK hP hD hA hN hZ hS ls hl
  obtain ⟨hx, hb, hr, hml, hown, hts, hlocks⟩ := C
  have hl : lv_has ls 5 [(0, .ref (ad 1)), (1, .int k), (2, .int 1), (3, .int w)] := hl
  refine lv_aload_n hx hb d_FB_write_0 rfl (lv_at hl 0 rfl) ?_
  refine lv_iload_n hx hb d_FB_write_1 rfl (lv_at hl 1 rfl) ?_
  refine lv_i2l hx hb d_FB_write_2 rfl ?_
  refine lv_iload_n hx hb d_FB_write_3 rfl (lv_at hl 2 rfl) ?_
  refine lv_i2l hx hb d_FB_write_4 rfl ?_
  refine xtopl (y := 1) (by decide) ?_
  refine xcalli (va_runV (As := [.long k.toInt64, .long 1]) (rest := []) ⟨hx, hb, hml, hown, hts⟩ (c_fb_holds l dC dI ad ck rf n fr a ar z pc pe pt pp pf ic ie ip iz ia st rt pb k.toInt64 1 hn s.heap.size) (cwV 2 hts (xgV wd_220 wd_221 wd_222 wd_16 wd_223) rfl rfl rfl (by decide +kernel) ⟨Nat.le_of_ble_eq_true rfl, Nat.le_of_ble_eq_true rfl⟩) (xpreV (q0 := 1) hK hN hZ hA hS hP hD rfl rfl) rfl rfl hl.1 rfl (lv_room (Nat.le_of_ble_eq_true rfl)) d_FB_write_5 ⟨Nat.zero_le _, Nat.zero_le _⟩) hD hS hA (fun r_1 H locs hr_1 hP hD hS => ?_)
  subst hr_1
  refine lv_if_ne (tgt := 13) hx hb d_FB_write_8 (by decide) (fun c_2 => ?_) (fun c_2 => ?_)
  · skip
    have c_2 := bI_t c_2
    obtain ⟨j, ej, hj⟩ := p_at1 c_2
    have hj : j + 1 ≤ n := hj
    rw [ej] at hl
    refine lv_iconst (v := 0) hx hb d_FB_write_13 (by decide) ?_
    refine lv_istore (lv' := [(4, .int 0), (0, .ref (ad 1)), (1, .int (nI j)), (2, .int 1), (3, .int w)]) hx hb d_FB_write_14 hl (by decide) rfl (fun ls hl => ?_)
    refine lv_iload hx hb d_FB_write_16 (lv_at hl 0 rfl) ?_
    refine lv_iload_n hx hb d_FB_write_18 rfl (lv_at hl 3 rfl) ?_
    refine lv_icmp_ge (tgt := 45) hx hb d_FB_write_19 (by decide) (fun c_3 => ?_) (fun c_3 => ?_)
    · exact absurd c_3 (by decide)
    · skip
      refine lv_aload_n hx hb d_FB_write_22 rfl (lv_at hl 1 rfl) ?_
      refine va_get (D := (dC, dI)) (ci := 1) (v := .ref (ad 2)) (C := R_FB) (T := T_FB) (N := 2) hx hb hts i_FB hown hK hP 1 rfl rfl 0 (by decide) (hts _ wd_41) (fun _ h9 => h9) rfl d_FB_write_23 ?_
      refine lv_iload_n hx hb d_FB_write_26 rfl (lv_at hl 2 rfl) ?_
      refine lv_iload hx hb d_FB_write_27 (lv_at hl 0 rfl) ?_
      refine lv_iadd hx hb d_FB_write_29 ?_
      refine xtopi (y := nI (j + 0)) (nI_add (j) (0)) ?_
      refine lv_iload_n hx hb d_FB_write_30 rfl (lv_at hl 4 rfl) ?_
      refine lv_bipush (v := 8) hx hb d_FB_write_31 (by decide) ?_
      refine lv_iload hx hb d_FB_write_33 (lv_at hl 0 rfl) ?_
      refine lv_imul hx hb d_FB_write_35 ?_
      refine lv_ishr hx hb d_FB_write_36 ?_
      refine lv_i2b hx hb d_FB_write_37 rfl ?_
      refine xbast (k := j + 0) (x' := (w >>> ((8 * 0 : Int32) &&& 31)).toInt8.toInt32) (ws1 := wsG ad ck rf n (upd fr (j + 0) ((w >>> ((8 * 0 : Int32) &&& 31)).toInt8.toInt32)) a ar z pc pe pt pp pf ic ie ip iz ia st rt pb) hx hb hK hP hD hS 2 0 rfl rfl (rfl) (by omega) (by decide) (pk_vb _) rfl d_FB_write_38 (fun H locs hP hD hS => ?_)
      refine lv_iinc (v := 1) (lv' := [(4, .int 1), (0, .ref (ad 1)), (1, .int (nI j)), (2, .int 1), (3, .int w)]) hx hb d_FB_write_39 hl (k := 0) rfl rfl (by decide) rfl (fun ls hl => ?_)
      refine lv_goto (tgt := 16) hx hb d_FB_write_42 (by decide) ?_
      refine lv_iload hx hb d_FB_write_16 (lv_at hl 0 rfl) ?_
      refine lv_iload_n hx hb d_FB_write_18 rfl (lv_at hl 3 rfl) ?_
      refine lv_icmp_ge (tgt := 45) hx hb d_FB_write_19 (by decide) (fun c_4 => ?_) (fun c_4 => ?_)
      · skip
        refine lv_iconst (v := 1) hx hb d_FB_write_45 (by decide) ?_
        have hw9 : wsG ad ck rf n (upd fr (j + 0) ((w >>> ((8 * 0 : Int32) &&& 31)).toInt8.toInt32)) a ar z pc pe pt pp pf ic ie ip iz ia st rt pb = wsG ad ck rf n (fbWr 1 n fr k w) a ar z pc pe pt pp pf ic ie ip iz ia st rt pb := by simp only [fbWr]; rw [if_pos (p_in ej hj hn), ej, nI_toInt (by omega)]; rfl
        rw [hw9] at hP hD
        exact xreti (v := 1) hx hb hr hlocks hK hP hD hS (rfl) (bI_1 (p_in ej hj hn)) d_FB_write_46
      · exact absurd c_4 (by decide)
  · skip
    have c_2 := bI_f c_2
    refine lv_iconst (v := 0) hx hb d_FB_write_11 (by decide) ?_
    have hw9 : wsG ad ck rf n fr a ar z pc pe pt pp pf ic ie ip iz ia st rt pb = wsG ad ck rf n (fbWr 1 n fr k w) a ar z pc pe pt pp pf ic ie ip iz ia st rt pb := by simp only [fbWr]; rw [if_neg (p_nat1 c_2)]
    rw [hw9] at hP hD
    exact xreti (v := 0) hx hb hr hlocks hK hP hD hS (rfl) (bI_0 (p_nat1 c_2)) d_FB_write_12
set_option maxHeartbeats 4000000 in
set_option maxRecDepth 100000 in
theorem c_fb_number1 (l : Launch) (dC : Nat → ClassId) (dI : Nat → Nat → Nat) (ad : Nat → Nat) (ck : Nat → ClassId) (rf : Int32) (n : Nat) (fr : Nat → Int32) (a : Nat) (ar : Nat → Int32) (z : Nat → Nat) (pc : Nat) (pe : Int32) (pt pp : Nat) (pf : Nat → Nat → Int32) (ic : Nat) (ie ip iz ia : Int32) (st rt : Nat → Int32) (pb : Nat → Nat → Int32) (k : Int32) (hn : n ≤ 65536) (sz : Nat) : Met l y_FB_number w_FB_number { frames := 1, cells := 0, slots := 0, locals := 24 } (va_Pc [.ref (ad 1), .int k, .int 1] (xP (dC, dI) (tyG ck) (wsG ad ck rf n fr a ar z pc pe pt pp pf ic ie ip iz ia st rt pb) sz)) (xQi (dC, dI) (tyG ck) (va_A (wsG ad ck rf n fr a ar z pc pe pt pp pf ic ie ip iz ia st rt pb) sz) (wsG ad ck rf n fr a ar z pc pe pt pp pf ic ie ip iz ia st rt pb) (fun r => r = fbNum 1 n fr k)) 0 0 (va_A (wsG ad ck rf n fr a ar z pc pe pt pp pf ic ie ip iz ia st rt pb) sz) := by
  refine xof (cc := b_FB_number) (maxL := 5) (ret := (some .int)) (own := R_FB) (Qc := fun A => (xQi (dC, dI) (tyG ck) A (wsG ad ck rf n fr a ar z pc pe pt pp pf ic ie ip iz ia st rt pb) (fun r => r = fbNum 1 n fr k))) (by decide) rfl rfl (Nat.le_of_ble_eq_true rfl) ?_ sz
  intro p e s m below meth c A C hnm hK hP hD hA hN hZ hS ls hl
  obtain ⟨hx, hb, hr, hml, hown, hts, hlocks⟩ := C
  have hl : lv_has ls 5 [(0, .ref (ad 1)), (1, .int k), (2, .int 1)] := hl
  refine lv_aload_n hx hb d_FB_number_0 rfl (lv_at hl 0 rfl) ?_
  refine lv_iload_n hx hb d_FB_number_1 rfl (lv_at hl 1 rfl) ?_
  refine lv_i2l hx hb d_FB_number_2 rfl ?_
  refine lv_iload_n hx hb d_FB_number_3 rfl (lv_at hl 2 rfl) ?_
  refine lv_i2l hx hb d_FB_number_4 rfl ?_
  refine xtopl (y := 1) (by decide) ?_
  refine xcalli (va_runV (As := [.long k.toInt64, .long 1]) (rest := []) ⟨hx, hb, hml, hown, hts⟩ (c_fb_holds l dC dI ad ck rf n fr a ar z pc pe pt pp pf ic ie ip iz ia st rt pb k.toInt64 1 hn s.heap.size) (cwV 2 hts (xgV wd_220 wd_221 wd_222 wd_16 wd_223) rfl rfl rfl (by decide +kernel) ⟨Nat.le_of_ble_eq_true rfl, Nat.le_of_ble_eq_true rfl⟩) (xpreV (q0 := 1) hK hN hZ hA hS hP hD rfl rfl) rfl rfl hl.1 rfl (lv_room (Nat.le_of_ble_eq_true rfl)) d_FB_number_5 ⟨Nat.zero_le _, Nat.zero_le _⟩) hD hS hA (fun r_1 H locs hr_1 hP hD hS => ?_)
  subst hr_1
  refine lv_if_ne (tgt := 13) hx hb d_FB_number_8 (by decide) (fun c_2 => ?_) (fun c_2 => ?_)
  · skip
    have c_2 := bI_t c_2
    obtain ⟨j, ej, hj⟩ := p_at1 c_2
    have hj : j + 1 ≤ n := hj
    rw [ej] at hl
    refine lv_iconst (v := 0) hx hb d_FB_number_13 (by decide) ?_
    refine lv_istore_n (lv' := [(3, .int 0), (0, .ref (ad 1)), (1, .int (nI j)), (2, .int 1)]) hx hb d_FB_number_14 rfl hl (by decide) rfl (fun ls hl => ?_)
    refine lv_iload_n hx hb d_FB_number_15 rfl (lv_at hl 3 rfl) ?_
    refine lv_iconst (v := 1) hx hb d_FB_number_16 (by decide) ?_
    refine lv_isub hx hb d_FB_number_17 ?_
    refine xtopi (y := 0) (by decide) ?_
    refine lv_istore (lv' := [(4, .int 0), (3, .int 0), (0, .ref (ad 1)), (1, .int (nI j)), (2, .int 1)]) hx hb d_FB_number_18 hl (by decide) rfl (fun ls hl => ?_)
    refine lv_iload hx hb d_FB_number_20 (lv_at hl 0 rfl) ?_
    refine lv_if_lt (tgt := 50) hx hb d_FB_number_22 (by decide) (fun c_3 => ?_) (fun c_3 => ?_)
    · exact absurd c_3 (by decide)
    · skip
      refine lv_iload_n hx hb d_FB_number_25 rfl (lv_at hl 1 rfl) ?_
      refine lv_bipush (v := 8) hx hb d_FB_number_26 (by decide) ?_
      refine lv_ishl hx hb d_FB_number_28 ?_
      refine lv_aload_n hx hb d_FB_number_29 rfl (lv_at hl 2 rfl) ?_
      refine va_get (D := (dC, dI)) (ci := 1) (v := .ref (ad 2)) (C := R_FB) (T := T_FB) (N := 2) hx hb hts i_FB hown hK hP 1 rfl rfl 0 (by decide) (hts _ wd_41) (fun _ h9 => h9) rfl d_FB_number_30 ?_
      refine lv_iload_n hx hb d_FB_number_33 rfl (lv_at hl 3 rfl) ?_
      refine lv_iload hx hb d_FB_number_34 (lv_at hl 0 rfl) ?_
      refine lv_iadd hx hb d_FB_number_36 ?_
      refine xtopi (y := nI (j + 0)) (nI_add (j) (0)) ?_
      refine xbald (k := j + 0) hx hb hK hP 2 0 rfl rfl (rfl) (by omega) (by decide) d_FB_number_37 ?_
      refine lv_sipush (v := 255) hx hb d_FB_number_38 (by decide) ?_
      refine lv_iand hx hb d_FB_number_41 ?_
      refine lv_ior hx hb d_FB_number_42 ?_
      refine lv_istore_n (lv' := [(3, .int (((0 : Int32) <<< ((8 : Int32) &&& 31)) ||| ((fr (j + 0)) &&& 255))), (4, .int 0), (0, .ref (ad 1)), (1, .int (nI j)), (2, .int 1)]) hx hb d_FB_number_43 rfl hl (by decide) rfl (fun ls hl => ?_)
      refine lv_iinc (v := (-1)) (lv' := [(4, .int (-1)), (3, .int (((0 : Int32) <<< ((8 : Int32) &&& 31)) ||| ((fr (j + 0)) &&& 255))), (0, .ref (ad 1)), (1, .int (nI j)), (2, .int 1)]) hx hb d_FB_number_44 hl (k := 1) rfl rfl (by decide) rfl (fun ls hl => ?_)
      refine lv_goto (tgt := 20) hx hb d_FB_number_47 (by decide) ?_
      refine lv_iload hx hb d_FB_number_20 (lv_at hl 0 rfl) ?_
      refine lv_if_lt (tgt := 50) hx hb d_FB_number_22 (by decide) (fun c_4 => ?_) (fun c_4 => ?_)
      · skip
        refine lv_iload_n hx hb d_FB_number_50 rfl (lv_at hl 1 rfl) ?_
        exact xreti (v := ((0 : Int32) <<< ((8 : Int32) &&& 31)) ||| ((fr (j + 0)) &&& 255)) hx hb hr hlocks hK hP hD hS (rfl) (by simp only [fbNum]; rw [if_pos (p_in ej hj hn), ej, nI_toInt (by omega)]; rfl) d_FB_number_51
      · exact absurd c_4 (by decide)
  · skip
    have c_2 := bI_f c_2
    refine lv_iconst (v := 0) hx hb d_FB_number_11 (by decide) ?_
    exact xreti (v := 0) hx hb hr hlocks hK hP hD hS (rfl) (by simp only [fbNum]; rw [if_neg (p_nat1 c_2)]) d_FB_number_12
set_option maxHeartbeats 4000000 in
set_option maxRecDepth 100000 in
theorem c_fb_write2 (l : Launch) (dC : Nat → ClassId) (dI : Nat → Nat → Nat) (ad : Nat → Nat) (ck : Nat → ClassId) (rf : Int32) (n : Nat) (fr : Nat → Int32) (a : Nat) (ar : Nat → Int32) (z : Nat → Nat) (pc : Nat) (pe : Int32) (pt pp : Nat) (pf : Nat → Nat → Int32) (ic : Nat) (ie ip iz ia : Int32) (st rt : Nat → Int32) (pb : Nat → Nat → Int32) (k w : Int32) (hn : n ≤ 65536) (sz : Nat) : Met l y_FB_write w_FB_write { frames := 1, cells := 0, slots := 0, locals := 24 } (va_Pc [.ref (ad 1), .int k, .int 2, .int w] (xP (dC, dI) (tyG ck) (wsG ad ck rf n fr a ar z pc pe pt pp pf ic ie ip iz ia st rt pb) sz)) (xQi (dC, dI) (tyG ck) (va_A (wsG ad ck rf n fr a ar z pc pe pt pp pf ic ie ip iz ia st rt pb) sz) (wsG ad ck rf n (fbWr 2 n fr k w) a ar z pc pe pt pp pf ic ie ip iz ia st rt pb) (fun r => r = bI (0 ≤ k.toInt ∧ k.toInt + ((2 : Nat) : Int) ≤ (n : Int)))) 0 0 (va_A (wsG ad ck rf n fr a ar z pc pe pt pp pf ic ie ip iz ia st rt pb) sz) := by
  refine xof (cc := b_FB_write) (maxL := 5) (ret := (some .boolean)) (own := R_FB) (Qc := fun A => (xQi (dC, dI) (tyG ck) A (wsG ad ck rf n (fbWr 2 n fr k w) a ar z pc pe pt pp pf ic ie ip iz ia st rt pb) (fun r => r = bI (0 ≤ k.toInt ∧ k.toInt + ((2 : Nat) : Int) ≤ (n : Int))))) (by decide) rfl rfl (Nat.le_of_ble_eq_true rfl) ?_ sz
  intro p e s m below meth c A C hnm hK hP hD hA hN hZ hS ls hl
  obtain ⟨hx, hb, hr, hml, hown, hts, hlocks⟩ := C
  have hl : lv_has ls 5 [(0, .ref (ad 1)), (1, .int k), (2, .int 2), (3, .int w)] := hl
  refine lv_aload_n hx hb d_FB_write_0 rfl (lv_at hl 0 rfl) ?_
  refine lv_iload_n hx hb d_FB_write_1 rfl (lv_at hl 1 rfl) ?_
  refine lv_i2l hx hb d_FB_write_2 rfl ?_
  refine lv_iload_n hx hb d_FB_write_3 rfl (lv_at hl 2 rfl) ?_
  refine lv_i2l hx hb d_FB_write_4 rfl ?_
  refine xtopl (y := 2) (by decide) ?_
  refine xcalli (va_runV (As := [.long k.toInt64, .long 2]) (rest := []) ⟨hx, hb, hml, hown, hts⟩ (c_fb_holds l dC dI ad ck rf n fr a ar z pc pe pt pp pf ic ie ip iz ia st rt pb k.toInt64 2 hn s.heap.size) (cwV 2 hts (xgV wd_220 wd_221 wd_222 wd_16 wd_223) rfl rfl rfl (by decide +kernel) ⟨Nat.le_of_ble_eq_true rfl, Nat.le_of_ble_eq_true rfl⟩) (xpreV (q0 := 1) hK hN hZ hA hS hP hD rfl rfl) rfl rfl hl.1 rfl (lv_room (Nat.le_of_ble_eq_true rfl)) d_FB_write_5 ⟨Nat.zero_le _, Nat.zero_le _⟩) hD hS hA (fun r_1 H locs hr_1 hP hD hS => ?_)
  subst hr_1
  refine lv_if_ne (tgt := 13) hx hb d_FB_write_8 (by decide) (fun c_2 => ?_) (fun c_2 => ?_)
  · skip
    have c_2 := bI_t c_2
    obtain ⟨j, ej, hj⟩ := p_at2 c_2
    have hj : j + 2 ≤ n := hj
    rw [ej] at hl
    refine lv_iconst (v := 0) hx hb d_FB_write_13 (by decide) ?_
    refine lv_istore (lv' := [(4, .int 0), (0, .ref (ad 1)), (1, .int (nI j)), (2, .int 2), (3, .int w)]) hx hb d_FB_write_14 hl (by decide) rfl (fun ls hl => ?_)
    refine lv_iload hx hb d_FB_write_16 (lv_at hl 0 rfl) ?_
    refine lv_iload_n hx hb d_FB_write_18 rfl (lv_at hl 3 rfl) ?_
    refine lv_icmp_ge (tgt := 45) hx hb d_FB_write_19 (by decide) (fun c_3 => ?_) (fun c_3 => ?_)
    · exact absurd c_3 (by decide)
    · skip
      refine lv_aload_n hx hb d_FB_write_22 rfl (lv_at hl 1 rfl) ?_
      refine va_get (D := (dC, dI)) (ci := 1) (v := .ref (ad 2)) (C := R_FB) (T := T_FB) (N := 2) hx hb hts i_FB hown hK hP 1 rfl rfl 0 (by decide) (hts _ wd_41) (fun _ h9 => h9) rfl d_FB_write_23 ?_
      refine lv_iload_n hx hb d_FB_write_26 rfl (lv_at hl 2 rfl) ?_
      refine lv_iload hx hb d_FB_write_27 (lv_at hl 0 rfl) ?_
      refine lv_iadd hx hb d_FB_write_29 ?_
      refine xtopi (y := nI (j + 0)) (nI_add (j) (0)) ?_
      refine lv_iload_n hx hb d_FB_write_30 rfl (lv_at hl 4 rfl) ?_
      refine lv_bipush (v := 8) hx hb d_FB_write_31 (by decide) ?_
      refine lv_iload hx hb d_FB_write_33 (lv_at hl 0 rfl) ?_
      refine lv_imul hx hb d_FB_write_35 ?_
      refine lv_ishr hx hb d_FB_write_36 ?_
      refine lv_i2b hx hb d_FB_write_37 rfl ?_
      refine xbast (k := j + 0) (x' := (w >>> ((8 * 0 : Int32) &&& 31)).toInt8.toInt32) (ws1 := wsG ad ck rf n (upd fr (j + 0) ((w >>> ((8 * 0 : Int32) &&& 31)).toInt8.toInt32)) a ar z pc pe pt pp pf ic ie ip iz ia st rt pb) hx hb hK hP hD hS 2 0 rfl rfl (rfl) (by omega) (by decide) (pk_vb _) rfl d_FB_write_38 (fun H locs hP hD hS => ?_)
      refine lv_iinc (v := 1) (lv' := [(4, .int 1), (0, .ref (ad 1)), (1, .int (nI j)), (2, .int 2), (3, .int w)]) hx hb d_FB_write_39 hl (k := 0) rfl rfl (by decide) rfl (fun ls hl => ?_)
      refine lv_goto (tgt := 16) hx hb d_FB_write_42 (by decide) ?_
      refine lv_iload hx hb d_FB_write_16 (lv_at hl 0 rfl) ?_
      refine lv_iload_n hx hb d_FB_write_18 rfl (lv_at hl 3 rfl) ?_
      refine lv_icmp_ge (tgt := 45) hx hb d_FB_write_19 (by decide) (fun c_4 => ?_) (fun c_4 => ?_)
      · exact absurd c_4 (by decide)
      · skip
        refine lv_aload_n hx hb d_FB_write_22 rfl (lv_at hl 1 rfl) ?_
        refine va_get (D := (dC, dI)) (ci := 1) (v := .ref (ad 2)) (C := R_FB) (T := T_FB) (N := 2) hx hb hts i_FB hown hK hP 1 rfl rfl 0 (by decide) (hts _ wd_41) (fun _ h9 => h9) rfl d_FB_write_23 ?_
        refine lv_iload_n hx hb d_FB_write_26 rfl (lv_at hl 2 rfl) ?_
        refine lv_iload hx hb d_FB_write_27 (lv_at hl 0 rfl) ?_
        refine lv_iadd hx hb d_FB_write_29 ?_
        refine xtopi (y := nI (j + 1)) (nI_add (j) (1)) ?_
        refine lv_iload_n hx hb d_FB_write_30 rfl (lv_at hl 4 rfl) ?_
        refine lv_bipush (v := 8) hx hb d_FB_write_31 (by decide) ?_
        refine lv_iload hx hb d_FB_write_33 (lv_at hl 0 rfl) ?_
        refine lv_imul hx hb d_FB_write_35 ?_
        refine lv_ishr hx hb d_FB_write_36 ?_
        refine lv_i2b hx hb d_FB_write_37 rfl ?_
        refine xbast (k := j + 1) (x' := (w >>> ((8 * 1 : Int32) &&& 31)).toInt8.toInt32) (ws1 := wsG ad ck rf n (upd (upd fr (j + 0) ((w >>> ((8 * 0 : Int32) &&& 31)).toInt8.toInt32)) (j + 1) ((w >>> ((8 * 1 : Int32) &&& 31)).toInt8.toInt32)) a ar z pc pe pt pp pf ic ie ip iz ia st rt pb) hx hb hK hP hD hS 2 0 rfl rfl (rfl) (by omega) (by decide) (pk_vb _) rfl d_FB_write_38 (fun H locs hP hD hS => ?_)
        refine lv_iinc (v := 2) (lv' := [(4, .int 2), (0, .ref (ad 1)), (1, .int (nI j)), (2, .int 2), (3, .int w)]) hx hb d_FB_write_39 hl (k := 0) rfl rfl (by decide) rfl (fun ls hl => ?_)
        refine lv_goto (tgt := 16) hx hb d_FB_write_42 (by decide) ?_
        refine lv_iload hx hb d_FB_write_16 (lv_at hl 0 rfl) ?_
        refine lv_iload_n hx hb d_FB_write_18 rfl (lv_at hl 3 rfl) ?_
        refine lv_icmp_ge (tgt := 45) hx hb d_FB_write_19 (by decide) (fun c_5 => ?_) (fun c_5 => ?_)
        · skip
          refine lv_iconst (v := 1) hx hb d_FB_write_45 (by decide) ?_
          have hw9 : wsG ad ck rf n (upd (upd fr (j + 0) ((w >>> ((8 * 0 : Int32) &&& 31)).toInt8.toInt32)) (j + 1) ((w >>> ((8 * 1 : Int32) &&& 31)).toInt8.toInt32)) a ar z pc pe pt pp pf ic ie ip iz ia st rt pb = wsG ad ck rf n (fbWr 2 n fr k w) a ar z pc pe pt pp pf ic ie ip iz ia st rt pb := by simp only [fbWr]; rw [if_pos (p_in ej hj hn), ej, nI_toInt (by omega)]; rfl
          rw [hw9] at hP hD
          exact xreti (v := 1) hx hb hr hlocks hK hP hD hS (rfl) (bI_1 (p_in ej hj hn)) d_FB_write_46
        · exact absurd c_5 (by decide)
  · skip
    have c_2 := bI_f c_2
    refine lv_iconst (v := 0) hx hb d_FB_write_11 (by decide) ?_
    have hw9 : wsG ad ck rf n fr a ar z pc pe pt pp pf ic ie ip iz ia st rt pb = wsG ad ck rf n (fbWr 2 n fr k w) a ar z pc pe pt pp pf ic ie ip iz ia st rt pb := by simp only [fbWr]; rw [if_neg (p_nat2 c_2)]
    rw [hw9] at hP hD
    exact xreti (v := 0) hx hb hr hlocks hK hP hD hS (rfl) (bI_0 (p_nat2 c_2)) d_FB_write_12
set_option maxHeartbeats 4000000 in
set_option maxRecDepth 100000 in
theorem c_fb_number2 (l : Launch) (dC : Nat → ClassId) (dI : Nat → Nat → Nat) (ad : Nat → Nat) (ck : Nat → ClassId) (rf : Int32) (n : Nat) (fr : Nat → Int32) (a : Nat) (ar : Nat → Int32) (z : Nat → Nat) (pc : Nat) (pe : Int32) (pt pp : Nat) (pf : Nat → Nat → Int32) (ic : Nat) (ie ip iz ia : Int32) (st rt : Nat → Int32) (pb : Nat → Nat → Int32) (k : Int32) (hn : n ≤ 65536) (sz : Nat) : Met l y_FB_number w_FB_number { frames := 1, cells := 0, slots := 0, locals := 24 } (va_Pc [.ref (ad 1), .int k, .int 2] (xP (dC, dI) (tyG ck) (wsG ad ck rf n fr a ar z pc pe pt pp pf ic ie ip iz ia st rt pb) sz)) (xQi (dC, dI) (tyG ck) (va_A (wsG ad ck rf n fr a ar z pc pe pt pp pf ic ie ip iz ia st rt pb) sz) (wsG ad ck rf n fr a ar z pc pe pt pp pf ic ie ip iz ia st rt pb) (fun r => r = fbNum 2 n fr k)) 0 0 (va_A (wsG ad ck rf n fr a ar z pc pe pt pp pf ic ie ip iz ia st rt pb) sz) := by
  refine xof (cc := b_FB_number) (maxL := 5) (ret := (some .int)) (own := R_FB) (Qc := fun A => (xQi (dC, dI) (tyG ck) A (wsG ad ck rf n fr a ar z pc pe pt pp pf ic ie ip iz ia st rt pb) (fun r => r = fbNum 2 n fr k))) (by decide) rfl rfl (Nat.le_of_ble_eq_true rfl) ?_ sz
  intro p e s m below meth c A C hnm hK hP hD hA hN hZ hS ls hl
  obtain ⟨hx, hb, hr, hml, hown, hts, hlocks⟩ := C
  have hl : lv_has ls 5 [(0, .ref (ad 1)), (1, .int k), (2, .int 2)] := hl
  refine lv_aload_n hx hb d_FB_number_0 rfl (lv_at hl 0 rfl) ?_
  refine lv_iload_n hx hb d_FB_number_1 rfl (lv_at hl 1 rfl) ?_
  refine lv_i2l hx hb d_FB_number_2 rfl ?_
  refine lv_iload_n hx hb d_FB_number_3 rfl (lv_at hl 2 rfl) ?_
  refine lv_i2l hx hb d_FB_number_4 rfl ?_
  refine xtopl (y := 2) (by decide) ?_
  refine xcalli (va_runV (As := [.long k.toInt64, .long 2]) (rest := []) ⟨hx, hb, hml, hown, hts⟩ (c_fb_holds l dC dI ad ck rf n fr a ar z pc pe pt pp pf ic ie ip iz ia st rt pb k.toInt64 2 hn s.heap.size) (cwV 2 hts (xgV wd_220 wd_221 wd_222 wd_16 wd_223) rfl rfl rfl (by decide +kernel) ⟨Nat.le_of_ble_eq_true rfl, Nat.le_of_ble_eq_true rfl⟩) (xpreV (q0 := 1) hK hN hZ hA hS hP hD rfl rfl) rfl rfl hl.1 rfl (lv_room (Nat.le_of_ble_eq_true rfl)) d_FB_number_5 ⟨Nat.zero_le _, Nat.zero_le _⟩) hD hS hA (fun r_1 H locs hr_1 hP hD hS => ?_)
  subst hr_1
  refine lv_if_ne (tgt := 13) hx hb d_FB_number_8 (by decide) (fun c_2 => ?_) (fun c_2 => ?_)
  · skip
    have c_2 := bI_t c_2
    obtain ⟨j, ej, hj⟩ := p_at2 c_2
    have hj : j + 2 ≤ n := hj
    rw [ej] at hl
    refine lv_iconst (v := 0) hx hb d_FB_number_13 (by decide) ?_
    refine lv_istore_n (lv' := [(3, .int 0), (0, .ref (ad 1)), (1, .int (nI j)), (2, .int 2)]) hx hb d_FB_number_14 rfl hl (by decide) rfl (fun ls hl => ?_)
    refine lv_iload_n hx hb d_FB_number_15 rfl (lv_at hl 3 rfl) ?_
    refine lv_iconst (v := 1) hx hb d_FB_number_16 (by decide) ?_
    refine lv_isub hx hb d_FB_number_17 ?_
    refine xtopi (y := 1) (by decide) ?_
    refine lv_istore (lv' := [(4, .int 1), (3, .int 0), (0, .ref (ad 1)), (1, .int (nI j)), (2, .int 2)]) hx hb d_FB_number_18 hl (by decide) rfl (fun ls hl => ?_)
    refine lv_iload hx hb d_FB_number_20 (lv_at hl 0 rfl) ?_
    refine lv_if_lt (tgt := 50) hx hb d_FB_number_22 (by decide) (fun c_3 => ?_) (fun c_3 => ?_)
    · exact absurd c_3 (by decide)
    · skip
      refine lv_iload_n hx hb d_FB_number_25 rfl (lv_at hl 1 rfl) ?_
      refine lv_bipush (v := 8) hx hb d_FB_number_26 (by decide) ?_
      refine lv_ishl hx hb d_FB_number_28 ?_
      refine lv_aload_n hx hb d_FB_number_29 rfl (lv_at hl 2 rfl) ?_
      refine va_get (D := (dC, dI)) (ci := 1) (v := .ref (ad 2)) (C := R_FB) (T := T_FB) (N := 2) hx hb hts i_FB hown hK hP 1 rfl rfl 0 (by decide) (hts _ wd_41) (fun _ h9 => h9) rfl d_FB_number_30 ?_
      refine lv_iload_n hx hb d_FB_number_33 rfl (lv_at hl 3 rfl) ?_
      refine lv_iload hx hb d_FB_number_34 (lv_at hl 0 rfl) ?_
      refine lv_iadd hx hb d_FB_number_36 ?_
      refine xtopi (y := nI (j + 1)) (nI_add (j) (1)) ?_
      refine xbald (k := j + 1) hx hb hK hP 2 0 rfl rfl (rfl) (by omega) (by decide) d_FB_number_37 ?_
      refine lv_sipush (v := 255) hx hb d_FB_number_38 (by decide) ?_
      refine lv_iand hx hb d_FB_number_41 ?_
      refine lv_ior hx hb d_FB_number_42 ?_
      refine lv_istore_n (lv' := [(3, .int (((0 : Int32) <<< ((8 : Int32) &&& 31)) ||| ((fr (j + 1)) &&& 255))), (4, .int 1), (0, .ref (ad 1)), (1, .int (nI j)), (2, .int 2)]) hx hb d_FB_number_43 rfl hl (by decide) rfl (fun ls hl => ?_)
      refine lv_iinc (v := 0) (lv' := [(4, .int 0), (3, .int (((0 : Int32) <<< ((8 : Int32) &&& 31)) ||| ((fr (j + 1)) &&& 255))), (0, .ref (ad 1)), (1, .int (nI j)), (2, .int 2)]) hx hb d_FB_number_44 hl (k := 1) rfl rfl (by decide) rfl (fun ls hl => ?_)
      refine lv_goto (tgt := 20) hx hb d_FB_number_47 (by decide) ?_
      refine lv_iload hx hb d_FB_number_20 (lv_at hl 0 rfl) ?_
      refine lv_if_lt (tgt := 50) hx hb d_FB_number_22 (by decide) (fun c_4 => ?_) (fun c_4 => ?_)
      · exact absurd c_4 (by decide)
      · skip
        refine lv_iload_n hx hb d_FB_number_25 rfl (lv_at hl 1 rfl) ?_
        refine lv_bipush (v := 8) hx hb d_FB_number_26 (by decide) ?_
        refine lv_ishl hx hb d_FB_number_28 ?_
        refine lv_aload_n hx hb d_FB_number_29 rfl (lv_at hl 2 rfl) ?_
        refine va_get (D := (dC, dI)) (ci := 1) (v := .ref (ad 2)) (C := R_FB) (T := T_FB) (N := 2) hx hb hts i_FB hown hK hP 1 rfl rfl 0 (by decide) (hts _ wd_41) (fun _ h9 => h9) rfl d_FB_number_30 ?_
        refine lv_iload_n hx hb d_FB_number_33 rfl (lv_at hl 3 rfl) ?_
        refine lv_iload hx hb d_FB_number_34 (lv_at hl 0 rfl) ?_
        refine lv_iadd hx hb d_FB_number_36 ?_
        refine xtopi (y := nI (j + 0)) (nI_add (j) (0)) ?_
        refine xbald (k := j + 0) hx hb hK hP 2 0 rfl rfl (rfl) (by omega) (by decide) d_FB_number_37 ?_
        refine lv_sipush (v := 255) hx hb d_FB_number_38 (by decide) ?_
        refine lv_iand hx hb d_FB_number_41 ?_
        refine lv_ior hx hb d_FB_number_42 ?_
        refine lv_istore_n (lv' := [(3, .int (((((0 : Int32) <<< ((8 : Int32) &&& 31)) ||| ((fr (j + 1)) &&& 255)) <<< ((8 : Int32) &&& 31)) ||| ((fr (j + 0)) &&& 255))), (4, .int 0), (0, .ref (ad 1)), (1, .int (nI j)), (2, .int 2)]) hx hb d_FB_number_43 rfl hl (by decide) rfl (fun ls hl => ?_)
        refine lv_iinc (v := (-1)) (lv' := [(4, .int (-1)), (3, .int (((((0 : Int32) <<< ((8 : Int32) &&& 31)) ||| ((fr (j + 1)) &&& 255)) <<< ((8 : Int32) &&& 31)) ||| ((fr (j + 0)) &&& 255))), (0, .ref (ad 1)), (1, .int (nI j)), (2, .int 2)]) hx hb d_FB_number_44 hl (k := 1) rfl rfl (by decide) rfl (fun ls hl => ?_)
        refine lv_goto (tgt := 20) hx hb d_FB_number_47 (by decide) ?_
        refine lv_iload hx hb d_FB_number_20 (lv_at hl 0 rfl) ?_
        refine lv_if_lt (tgt := 50) hx hb d_FB_number_22 (by decide) (fun c_5 => ?_) (fun c_5 => ?_)
        · skip
          refine lv_iload_n hx hb d_FB_number_50 rfl (lv_at hl 1 rfl) ?_
          exact xreti (v := ((((0 : Int32) <<< ((8 : Int32) &&& 31)) ||| ((fr (j + 1)) &&& 255)) <<< ((8 : Int32) &&& 31)) ||| ((fr (j + 0)) &&& 255)) hx hb hr hlocks hK hP hD hS (rfl) (by simp only [fbNum]; rw [if_pos (p_in ej hj hn), ej, nI_toInt (by omega)]; rfl) d_FB_number_51
        · exact absurd c_5 (by decide)
  · skip
    have c_2 := bI_f c_2
    refine lv_iconst (v := 0) hx hb d_FB_number_11 (by decide) ?_
    exact xreti (v := 0) hx hb hr hlocks hK hP hD hS (rfl) (by simp only [fbNum]; rw [if_neg (p_nat2 c_2)]) d_FB_number_12
set_option maxHeartbeats 4000000 in
set_option maxRecDepth 100000 in
theorem c_fb_write4 (l : Launch) (dC : Nat → ClassId) (dI : Nat → Nat → Nat) (ad : Nat → Nat) (ck : Nat → ClassId) (rf : Int32) (n : Nat) (fr : Nat → Int32) (a : Nat) (ar : Nat → Int32) (z : Nat → Nat) (pc : Nat) (pe : Int32) (pt pp : Nat) (pf : Nat → Nat → Int32) (ic : Nat) (ie ip iz ia : Int32) (st rt : Nat → Int32) (pb : Nat → Nat → Int32) (k w : Int32) (hn : n ≤ 65536) (sz : Nat) : Met l y_FB_write w_FB_write { frames := 1, cells := 0, slots := 0, locals := 24 } (va_Pc [.ref (ad 1), .int k, .int 4, .int w] (xP (dC, dI) (tyG ck) (wsG ad ck rf n fr a ar z pc pe pt pp pf ic ie ip iz ia st rt pb) sz)) (xQi (dC, dI) (tyG ck) (va_A (wsG ad ck rf n fr a ar z pc pe pt pp pf ic ie ip iz ia st rt pb) sz) (wsG ad ck rf n (fbWr 4 n fr k w) a ar z pc pe pt pp pf ic ie ip iz ia st rt pb) (fun r => r = bI (0 ≤ k.toInt ∧ k.toInt + ((4 : Nat) : Int) ≤ (n : Int)))) 0 0 (va_A (wsG ad ck rf n fr a ar z pc pe pt pp pf ic ie ip iz ia st rt pb) sz) := by
  refine xof (cc := b_FB_write) (maxL := 5) (ret := (some .boolean)) (own := R_FB) (Qc := fun A => (xQi (dC, dI) (tyG ck) A (wsG ad ck rf n (fbWr 4 n fr k w) a ar z pc pe pt pp pf ic ie ip iz ia st rt pb) (fun r => r = bI (0 ≤ k.toInt ∧ k.toInt + ((4 : Nat) : Int) ≤ (n : Int))))) (by decide) rfl rfl (Nat.le_of_ble_eq_true rfl) ?_ sz
  intro p e s m below meth c A C hnm hK hP hD hA hN hZ hS ls hl
  obtain ⟨hx, hb, hr, hml, hown, hts, hlocks⟩ := C
  have hl : lv_has ls 5 [(0, .ref (ad 1)), (1, .int k), (2, .int 4), (3, .int w)] := hl
  refine lv_aload_n hx hb d_FB_write_0 rfl (lv_at hl 0 rfl) ?_
  refine lv_iload_n hx hb d_FB_write_1 rfl (lv_at hl 1 rfl) ?_
  refine lv_i2l hx hb d_FB_write_2 rfl ?_
  refine lv_iload_n hx hb d_FB_write_3 rfl (lv_at hl 2 rfl) ?_
  refine lv_i2l hx hb d_FB_write_4 rfl ?_
  refine xtopl (y := 4) (by decide) ?_
  refine xcalli (va_runV (As := [.long k.toInt64, .long 4]) (rest := []) ⟨hx, hb, hml, hown, hts⟩ (c_fb_holds l dC dI ad ck rf n fr a ar z pc pe pt pp pf ic ie ip iz ia st rt pb k.toInt64 4 hn s.heap.size) (cwV 2 hts (xgV wd_220 wd_221 wd_222 wd_16 wd_223) rfl rfl rfl (by decide +kernel) ⟨Nat.le_of_ble_eq_true rfl, Nat.le_of_ble_eq_true rfl⟩) (xpreV (q0 := 1) hK hN hZ hA hS hP hD rfl rfl) rfl rfl hl.1 rfl (lv_room (Nat.le_of_ble_eq_true rfl)) d_FB_write_5 ⟨Nat.zero_le _, Nat.zero_le _⟩) hD hS hA (fun r_1 H locs hr_1 hP hD hS => ?_)
  subst hr_1
  refine lv_if_ne (tgt := 13) hx hb d_FB_write_8 (by decide) (fun c_2 => ?_) (fun c_2 => ?_)
  · skip
    have c_2 := bI_t c_2
    obtain ⟨j, ej, hj⟩ := p_at4 c_2
    have hj : j + 4 ≤ n := hj
    rw [ej] at hl
    refine lv_iconst (v := 0) hx hb d_FB_write_13 (by decide) ?_
    refine lv_istore (lv' := [(4, .int 0), (0, .ref (ad 1)), (1, .int (nI j)), (2, .int 4), (3, .int w)]) hx hb d_FB_write_14 hl (by decide) rfl (fun ls hl => ?_)
    refine lv_iload hx hb d_FB_write_16 (lv_at hl 0 rfl) ?_
    refine lv_iload_n hx hb d_FB_write_18 rfl (lv_at hl 3 rfl) ?_
    refine lv_icmp_ge (tgt := 45) hx hb d_FB_write_19 (by decide) (fun c_3 => ?_) (fun c_3 => ?_)
    · exact absurd c_3 (by decide)
    · skip
      refine lv_aload_n hx hb d_FB_write_22 rfl (lv_at hl 1 rfl) ?_
      refine va_get (D := (dC, dI)) (ci := 1) (v := .ref (ad 2)) (C := R_FB) (T := T_FB) (N := 2) hx hb hts i_FB hown hK hP 1 rfl rfl 0 (by decide) (hts _ wd_41) (fun _ h9 => h9) rfl d_FB_write_23 ?_
      refine lv_iload_n hx hb d_FB_write_26 rfl (lv_at hl 2 rfl) ?_
      refine lv_iload hx hb d_FB_write_27 (lv_at hl 0 rfl) ?_
      refine lv_iadd hx hb d_FB_write_29 ?_
      refine xtopi (y := nI (j + 0)) (nI_add (j) (0)) ?_
      refine lv_iload_n hx hb d_FB_write_30 rfl (lv_at hl 4 rfl) ?_
      refine lv_bipush (v := 8) hx hb d_FB_write_31 (by decide) ?_
      refine lv_iload hx hb d_FB_write_33 (lv_at hl 0 rfl) ?_
      refine lv_imul hx hb d_FB_write_35 ?_
      refine lv_ishr hx hb d_FB_write_36 ?_
      refine lv_i2b hx hb d_FB_write_37 rfl ?_
      refine xbast (k := j + 0) (x' := (w >>> ((8 * 0 : Int32) &&& 31)).toInt8.toInt32) (ws1 := wsG ad ck rf n (upd fr (j + 0) ((w >>> ((8 * 0 : Int32) &&& 31)).toInt8.toInt32)) a ar z pc pe pt pp pf ic ie ip iz ia st rt pb) hx hb hK hP hD hS 2 0 rfl rfl (rfl) (by omega) (by decide) (pk_vb _) rfl d_FB_write_38 (fun H locs hP hD hS => ?_)
      refine lv_iinc (v := 1) (lv' := [(4, .int 1), (0, .ref (ad 1)), (1, .int (nI j)), (2, .int 4), (3, .int w)]) hx hb d_FB_write_39 hl (k := 0) rfl rfl (by decide) rfl (fun ls hl => ?_)
      refine lv_goto (tgt := 16) hx hb d_FB_write_42 (by decide) ?_
      refine lv_iload hx hb d_FB_write_16 (lv_at hl 0 rfl) ?_
      refine lv_iload_n hx hb d_FB_write_18 rfl (lv_at hl 3 rfl) ?_
      refine lv_icmp_ge (tgt := 45) hx hb d_FB_write_19 (by decide) (fun c_4 => ?_) (fun c_4 => ?_)
      · exact absurd c_4 (by decide)
      · skip
        refine lv_aload_n hx hb d_FB_write_22 rfl (lv_at hl 1 rfl) ?_
        refine va_get (D := (dC, dI)) (ci := 1) (v := .ref (ad 2)) (C := R_FB) (T := T_FB) (N := 2) hx hb hts i_FB hown hK hP 1 rfl rfl 0 (by decide) (hts _ wd_41) (fun _ h9 => h9) rfl d_FB_write_23 ?_
        refine lv_iload_n hx hb d_FB_write_26 rfl (lv_at hl 2 rfl) ?_
        refine lv_iload hx hb d_FB_write_27 (lv_at hl 0 rfl) ?_
        refine lv_iadd hx hb d_FB_write_29 ?_
        refine xtopi (y := nI (j + 1)) (nI_add (j) (1)) ?_
        refine lv_iload_n hx hb d_FB_write_30 rfl (lv_at hl 4 rfl) ?_
        refine lv_bipush (v := 8) hx hb d_FB_write_31 (by decide) ?_
        refine lv_iload hx hb d_FB_write_33 (lv_at hl 0 rfl) ?_
        refine lv_imul hx hb d_FB_write_35 ?_
        refine lv_ishr hx hb d_FB_write_36 ?_
        refine lv_i2b hx hb d_FB_write_37 rfl ?_
        refine xbast (k := j + 1) (x' := (w >>> ((8 * 1 : Int32) &&& 31)).toInt8.toInt32) (ws1 := wsG ad ck rf n (upd (upd fr (j + 0) ((w >>> ((8 * 0 : Int32) &&& 31)).toInt8.toInt32)) (j + 1) ((w >>> ((8 * 1 : Int32) &&& 31)).toInt8.toInt32)) a ar z pc pe pt pp pf ic ie ip iz ia st rt pb) hx hb hK hP hD hS 2 0 rfl rfl (rfl) (by omega) (by decide) (pk_vb _) rfl d_FB_write_38 (fun H locs hP hD hS => ?_)
        refine lv_iinc (v := 2) (lv' := [(4, .int 2), (0, .ref (ad 1)), (1, .int (nI j)), (2, .int 4), (3, .int w)]) hx hb d_FB_write_39 hl (k := 0) rfl rfl (by decide) rfl (fun ls hl => ?_)
        refine lv_goto (tgt := 16) hx hb d_FB_write_42 (by decide) ?_
        refine lv_iload hx hb d_FB_write_16 (lv_at hl 0 rfl) ?_
        refine lv_iload_n hx hb d_FB_write_18 rfl (lv_at hl 3 rfl) ?_
        refine lv_icmp_ge (tgt := 45) hx hb d_FB_write_19 (by decide) (fun c_5 => ?_) (fun c_5 => ?_)
        · exact absurd c_5 (by decide)
        · skip
          refine lv_aload_n hx hb d_FB_write_22 rfl (lv_at hl 1 rfl) ?_
          refine va_get (D := (dC, dI)) (ci := 1) (v := .ref (ad 2)) (C := R_FB) (T := T_FB) (N := 2) hx hb hts i_FB hown hK hP 1 rfl rfl 0 (by decide) (hts _ wd_41) (fun _ h9 => h9) rfl d_FB_write_23 ?_
          refine lv_iload_n hx hb d_FB_write_26 rfl (lv_at hl 2 rfl) ?_
          refine lv_iload hx hb d_FB_write_27 (lv_at hl 0 rfl) ?_
          refine lv_iadd hx hb d_FB_write_29 ?_
          refine xtopi (y := nI (j + 2)) (nI_add (j) (2)) ?_
          refine lv_iload_n hx hb d_FB_write_30 rfl (lv_at hl 4 rfl) ?_
          refine lv_bipush (v := 8) hx hb d_FB_write_31 (by decide) ?_
          refine lv_iload hx hb d_FB_write_33 (lv_at hl 0 rfl) ?_
          refine lv_imul hx hb d_FB_write_35 ?_
          refine lv_ishr hx hb d_FB_write_36 ?_
          refine lv_i2b hx hb d_FB_write_37 rfl ?_
          refine xbast (k := j + 2) (x' := (w >>> ((8 * 2 : Int32) &&& 31)).toInt8.toInt32) (ws1 := wsG ad ck rf n (upd (upd (upd fr (j + 0) ((w >>> ((8 * 0 : Int32) &&& 31)).toInt8.toInt32)) (j + 1) ((w >>> ((8 * 1 : Int32) &&& 31)).toInt8.toInt32)) (j + 2) ((w >>> ((8 * 2 : Int32) &&& 31)).toInt8.toInt32)) a ar z pc pe pt pp pf ic ie ip iz ia st rt pb) hx hb hK hP hD hS 2 0 rfl rfl (rfl) (by omega) (by decide) (pk_vb _) rfl d_FB_write_38 (fun H locs hP hD hS => ?_)
          refine lv_iinc (v := 3) (lv' := [(4, .int 3), (0, .ref (ad 1)), (1, .int (nI j)), (2, .int 4), (3, .int w)]) hx hb d_FB_write_39 hl (k := 0) rfl rfl (by decide) rfl (fun ls hl => ?_)
          refine lv_goto (tgt := 16) hx hb d_FB_write_42 (by decide) ?_
          refine lv_iload hx hb d_FB_write_16 (lv_at hl 0 rfl) ?_
          refine lv_iload_n hx hb d_FB_write_18 rfl (lv_at hl 3 rfl) ?_
          refine lv_icmp_ge (tgt := 45) hx hb d_FB_write_19 (by decide) (fun c_6 => ?_) (fun c_6 => ?_)
          · exact absurd c_6 (by decide)
          · skip
            refine lv_aload_n hx hb d_FB_write_22 rfl (lv_at hl 1 rfl) ?_
            refine va_get (D := (dC, dI)) (ci := 1) (v := .ref (ad 2)) (C := R_FB) (T := T_FB) (N := 2) hx hb hts i_FB hown hK hP 1 rfl rfl 0 (by decide) (hts _ wd_41) (fun _ h9 => h9) rfl d_FB_write_23 ?_
            refine lv_iload_n hx hb d_FB_write_26 rfl (lv_at hl 2 rfl) ?_
            refine lv_iload hx hb d_FB_write_27 (lv_at hl 0 rfl) ?_
            refine lv_iadd hx hb d_FB_write_29 ?_
            refine xtopi (y := nI (j + 3)) (nI_add (j) (3)) ?_
            refine lv_iload_n hx hb d_FB_write_30 rfl (lv_at hl 4 rfl) ?_
            refine lv_bipush (v := 8) hx hb d_FB_write_31 (by decide) ?_
            refine lv_iload hx hb d_FB_write_33 (lv_at hl 0 rfl) ?_
            refine lv_imul hx hb d_FB_write_35 ?_
            refine lv_ishr hx hb d_FB_write_36 ?_
            refine lv_i2b hx hb d_FB_write_37 rfl ?_
            refine xbast (k := j + 3) (x' := (w >>> ((8 * 3 : Int32) &&& 31)).toInt8.toInt32) (ws1 := wsG ad ck rf n (upd (upd (upd (upd fr (j + 0) ((w >>> ((8 * 0 : Int32) &&& 31)).toInt8.toInt32)) (j + 1) ((w >>> ((8 * 1 : Int32) &&& 31)).toInt8.toInt32)) (j + 2) ((w >>> ((8 * 2 : Int32) &&& 31)).toInt8.toInt32)) (j + 3) ((w >>> ((8 * 3 : Int32) &&& 31)).toInt8.toInt32)) a ar z pc pe pt pp pf ic ie ip iz ia st rt pb) hx hb hK hP hD hS 2 0 rfl rfl (rfl) (by omega) (by decide) (pk_vb _) rfl d_FB_write_38 (fun H locs hP hD hS => ?_)
            refine lv_iinc (v := 4) (lv' := [(4, .int 4), (0, .ref (ad 1)), (1, .int (nI j)), (2, .int 4), (3, .int w)]) hx hb d_FB_write_39 hl (k := 0) rfl rfl (by decide) rfl (fun ls hl => ?_)
            refine lv_goto (tgt := 16) hx hb d_FB_write_42 (by decide) ?_
            refine lv_iload hx hb d_FB_write_16 (lv_at hl 0 rfl) ?_
            refine lv_iload_n hx hb d_FB_write_18 rfl (lv_at hl 3 rfl) ?_
            refine lv_icmp_ge (tgt := 45) hx hb d_FB_write_19 (by decide) (fun c_7 => ?_) (fun c_7 => ?_)
            · skip
              refine lv_iconst (v := 1) hx hb d_FB_write_45 (by decide) ?_
              have hw9 : wsG ad ck rf n (upd (upd (upd (upd fr (j + 0) ((w >>> ((8 * 0 : Int32) &&& 31)).toInt8.toInt32)) (j + 1) ((w >>> ((8 * 1 : Int32) &&& 31)).toInt8.toInt32)) (j + 2) ((w >>> ((8 * 2 : Int32) &&& 31)).toInt8.toInt32)) (j + 3) ((w >>> ((8 * 3 : Int32) &&& 31)).toInt8.toInt32)) a ar z pc pe pt pp pf ic ie ip iz ia st rt pb = wsG ad ck rf n (fbWr 4 n fr k w) a ar z pc pe pt pp pf ic ie ip iz ia st rt pb := by simp only [fbWr]; rw [if_pos (p_in ej hj hn), ej, nI_toInt (by omega)]; rfl
              rw [hw9] at hP hD
              exact xreti (v := 1) hx hb hr hlocks hK hP hD hS (rfl) (bI_1 (p_in ej hj hn)) d_FB_write_46
            · exact absurd c_7 (by decide)
  · skip
    have c_2 := bI_f c_2
    refine lv_iconst (v := 0) hx hb d_FB_write_11 (by decide) ?_
    have hw9 : wsG ad ck rf n fr a ar z pc pe pt pp pf ic ie ip iz ia st rt pb = wsG ad ck rf n (fbWr 4 n fr k w) a ar z pc pe pt pp pf ic ie ip iz ia st rt pb := by simp only [fbWr]; rw [if_neg (p_nat4 c_2)]
    rw [hw9] at hP hD
    exact xreti (v := 0) hx hb hr hlocks hK hP hD hS (rfl) (bI_0 (p_nat4 c_2)) d_FB_write_12
set_option maxHeartbeats 4000000 in
set_option maxRecDepth 100000 in
theorem c_fb_number4 (l : Launch) (dC : Nat → ClassId) (dI : Nat → Nat → Nat) (ad : Nat → Nat) (ck : Nat → ClassId) (rf : Int32) (n : Nat) (fr : Nat → Int32) (a : Nat) (ar : Nat → Int32) (z : Nat → Nat) (pc : Nat) (pe : Int32) (pt pp : Nat) (pf : Nat → Nat → Int32) (ic : Nat) (ie ip iz ia : Int32) (st rt : Nat → Int32) (pb : Nat → Nat → Int32) (k : Int32) (hn : n ≤ 65536) (sz : Nat) : Met l y_FB_number w_FB_number { frames := 1, cells := 0, slots := 0, locals := 24 } (va_Pc [.ref (ad 1), .int k, .int 4] (xP (dC, dI) (tyG ck) (wsG ad ck rf n fr a ar z pc pe pt pp pf ic ie ip iz ia st rt pb) sz)) (xQi (dC, dI) (tyG ck) (va_A (wsG ad ck rf n fr a ar z pc pe pt pp pf ic ie ip iz ia st rt pb) sz) (wsG ad ck rf n fr a ar z pc pe pt pp pf ic ie ip iz ia st rt pb) (fun r => r = fbNum 4 n fr k)) 0 0 (va_A (wsG ad ck rf n fr a ar z pc pe pt pp pf ic ie ip iz ia st rt pb) sz) := by
  refine xof (cc := b_FB_number) (maxL := 5) (ret := (some .int)) (own := R_FB) (Qc := fun A => (xQi (dC, dI) (tyG ck) A (wsG ad ck rf n fr a ar z pc pe pt pp pf ic ie ip iz ia st rt pb) (fun r => r = fbNum 4 n fr k))) (by decide) rfl rfl (Nat.le_of_ble_eq_true rfl) ?_ sz
  intro p e s m below meth c A C hnm hK hP hD hA hN hZ hS ls hl
  obtain ⟨hx, hb, hr, hml, hown, hts, hlocks⟩ := C
  have hl : lv_has ls 5 [(0, .ref (ad 1)), (1, .int k), (2, .int 4)] := hl
  refine lv_aload_n hx hb d_FB_number_0 rfl (lv_at hl 0 rfl) ?_
  refine lv_iload_n hx hb d_FB_number_1 rfl (lv_at hl 1 rfl) ?_
  refine lv_i2l hx hb d_FB_number_2 rfl ?_
  refine lv_iload_n hx hb d_FB_number_3 rfl (lv_at hl 2 rfl) ?_
  refine lv_i2l hx hb d_FB_number_4 rfl ?_
  refine xtopl (y := 4) (by decide) ?_
  refine xcalli (va_runV (As := [.long k.toInt64, .long 4]) (rest := []) ⟨hx, hb, hml, hown, hts⟩ (c_fb_holds l dC dI ad ck rf n fr a ar z pc pe pt pp pf ic ie ip iz ia st rt pb k.toInt64 4 hn s.heap.size) (cwV 2 hts (xgV wd_220 wd_221 wd_222 wd_16 wd_223) rfl rfl rfl (by decide +kernel) ⟨Nat.le_of_ble_eq_true rfl, Nat.le_of_ble_eq_true rfl⟩) (xpreV (q0 := 1) hK hN hZ hA hS hP hD rfl rfl) rfl rfl hl.1 rfl (lv_room (Nat.le_of_ble_eq_true rfl)) d_FB_number_5 ⟨Nat.zero_le _, Nat.zero_le _⟩) hD hS hA (fun r_1 H locs hr_1 hP hD hS => ?_)
  subst hr_1
  refine lv_if_ne (tgt := 13) hx hb d_FB_number_8 (by decide) (fun c_2 => ?_) (fun c_2 => ?_)
  · skip
    have c_2 := bI_t c_2
    obtain ⟨j, ej, hj⟩ := p_at4 c_2
    have hj : j + 4 ≤ n := hj
    rw [ej] at hl
    refine lv_iconst (v := 0) hx hb d_FB_number_13 (by decide) ?_
    refine lv_istore_n (lv' := [(3, .int 0), (0, .ref (ad 1)), (1, .int (nI j)), (2, .int 4)]) hx hb d_FB_number_14 rfl hl (by decide) rfl (fun ls hl => ?_)
    refine lv_iload_n hx hb d_FB_number_15 rfl (lv_at hl 3 rfl) ?_
    refine lv_iconst (v := 1) hx hb d_FB_number_16 (by decide) ?_
    refine lv_isub hx hb d_FB_number_17 ?_
    refine xtopi (y := 3) (by decide) ?_
    refine lv_istore (lv' := [(4, .int 3), (3, .int 0), (0, .ref (ad 1)), (1, .int (nI j)), (2, .int 4)]) hx hb d_FB_number_18 hl (by decide) rfl (fun ls hl => ?_)
    refine lv_iload hx hb d_FB_number_20 (lv_at hl 0 rfl) ?_
    refine lv_if_lt (tgt := 50) hx hb d_FB_number_22 (by decide) (fun c_3 => ?_) (fun c_3 => ?_)
    · exact absurd c_3 (by decide)
    · skip
      refine lv_iload_n hx hb d_FB_number_25 rfl (lv_at hl 1 rfl) ?_
      refine lv_bipush (v := 8) hx hb d_FB_number_26 (by decide) ?_
      refine lv_ishl hx hb d_FB_number_28 ?_
      refine lv_aload_n hx hb d_FB_number_29 rfl (lv_at hl 2 rfl) ?_
      refine va_get (D := (dC, dI)) (ci := 1) (v := .ref (ad 2)) (C := R_FB) (T := T_FB) (N := 2) hx hb hts i_FB hown hK hP 1 rfl rfl 0 (by decide) (hts _ wd_41) (fun _ h9 => h9) rfl d_FB_number_30 ?_
      refine lv_iload_n hx hb d_FB_number_33 rfl (lv_at hl 3 rfl) ?_
      refine lv_iload hx hb d_FB_number_34 (lv_at hl 0 rfl) ?_
      refine lv_iadd hx hb d_FB_number_36 ?_
      refine xtopi (y := nI (j + 3)) (nI_add (j) (3)) ?_
      refine xbald (k := j + 3) hx hb hK hP 2 0 rfl rfl (rfl) (by omega) (by decide) d_FB_number_37 ?_
      refine lv_sipush (v := 255) hx hb d_FB_number_38 (by decide) ?_
      refine lv_iand hx hb d_FB_number_41 ?_
      refine lv_ior hx hb d_FB_number_42 ?_
      refine lv_istore_n (lv' := [(3, .int (((0 : Int32) <<< ((8 : Int32) &&& 31)) ||| ((fr (j + 3)) &&& 255))), (4, .int 3), (0, .ref (ad 1)), (1, .int (nI j)), (2, .int 4)]) hx hb d_FB_number_43 rfl hl (by decide) rfl (fun ls hl => ?_)
      refine lv_iinc (v := 2) (lv' := [(4, .int 2), (3, .int (((0 : Int32) <<< ((8 : Int32) &&& 31)) ||| ((fr (j + 3)) &&& 255))), (0, .ref (ad 1)), (1, .int (nI j)), (2, .int 4)]) hx hb d_FB_number_44 hl (k := 1) rfl rfl (by decide) rfl (fun ls hl => ?_)
      refine lv_goto (tgt := 20) hx hb d_FB_number_47 (by decide) ?_
      refine lv_iload hx hb d_FB_number_20 (lv_at hl 0 rfl) ?_
      refine lv_if_lt (tgt := 50) hx hb d_FB_number_22 (by decide) (fun c_4 => ?_) (fun c_4 => ?_)
      · exact absurd c_4 (by decide)
      · skip
        refine lv_iload_n hx hb d_FB_number_25 rfl (lv_at hl 1 rfl) ?_
        refine lv_bipush (v := 8) hx hb d_FB_number_26 (by decide) ?_
        refine lv_ishl hx hb d_FB_number_28 ?_
        refine lv_aload_n hx hb d_FB_number_29 rfl (lv_at hl 2 rfl) ?_
        refine va_get (D := (dC, dI)) (ci := 1) (v := .ref (ad 2)) (C := R_FB) (T := T_FB) (N := 2) hx hb hts i_FB hown hK hP 1 rfl rfl 0 (by decide) (hts _ wd_41) (fun _ h9 => h9) rfl d_FB_number_30 ?_
        refine lv_iload_n hx hb d_FB_number_33 rfl (lv_at hl 3 rfl) ?_
        refine lv_iload hx hb d_FB_number_34 (lv_at hl 0 rfl) ?_
        refine lv_iadd hx hb d_FB_number_36 ?_
        refine xtopi (y := nI (j + 2)) (nI_add (j) (2)) ?_
        refine xbald (k := j + 2) hx hb hK hP 2 0 rfl rfl (rfl) (by omega) (by decide) d_FB_number_37 ?_
        refine lv_sipush (v := 255) hx hb d_FB_number_38 (by decide) ?_
        refine lv_iand hx hb d_FB_number_41 ?_
        refine lv_ior hx hb d_FB_number_42 ?_
        refine lv_istore_n (lv' := [(3, .int (((((0 : Int32) <<< ((8 : Int32) &&& 31)) ||| ((fr (j + 3)) &&& 255)) <<< ((8 : Int32) &&& 31)) ||| ((fr (j + 2)) &&& 255))), (4, .int 2), (0, .ref (ad 1)), (1, .int (nI j)), (2, .int 4)]) hx hb d_FB_number_43 rfl hl (by decide) rfl (fun ls hl => ?_)
        refine lv_iinc (v := 1) (lv' := [(4, .int 1), (3, .int (((((0 : Int32) <<< ((8 : Int32) &&& 31)) ||| ((fr (j + 3)) &&& 255)) <<< ((8 : Int32) &&& 31)) ||| ((fr (j + 2)) &&& 255))), (0, .ref (ad 1)), (1, .int (nI j)), (2, .int 4)]) hx hb d_FB_number_44 hl (k := 1) rfl rfl (by decide) rfl (fun ls hl => ?_)
        refine lv_goto (tgt := 20) hx hb d_FB_number_47 (by decide) ?_
        refine lv_iload hx hb d_FB_number_20 (lv_at hl 0 rfl) ?_
        refine lv_if_lt (tgt := 50) hx hb d_FB_number_22 (by decide) (fun c_5 => ?_) (fun c_5 => ?_)
        · exact absurd c_5 (by decide)
        · skip
          refine lv_iload_n hx hb d_FB_number_25 rfl (lv_at hl 1 rfl) ?_
          refine lv_bipush (v := 8) hx hb d_FB_number_26 (by decide) ?_
          refine lv_ishl hx hb d_FB_number_28 ?_
          refine lv_aload_n hx hb d_FB_number_29 rfl (lv_at hl 2 rfl) ?_
          refine va_get (D := (dC, dI)) (ci := 1) (v := .ref (ad 2)) (C := R_FB) (T := T_FB) (N := 2) hx hb hts i_FB hown hK hP 1 rfl rfl 0 (by decide) (hts _ wd_41) (fun _ h9 => h9) rfl d_FB_number_30 ?_
          refine lv_iload_n hx hb d_FB_number_33 rfl (lv_at hl 3 rfl) ?_
          refine lv_iload hx hb d_FB_number_34 (lv_at hl 0 rfl) ?_
          refine lv_iadd hx hb d_FB_number_36 ?_
          refine xtopi (y := nI (j + 1)) (nI_add (j) (1)) ?_
          refine xbald (k := j + 1) hx hb hK hP 2 0 rfl rfl (rfl) (by omega) (by decide) d_FB_number_37 ?_
          refine lv_sipush (v := 255) hx hb d_FB_number_38 (by decide) ?_
          refine lv_iand hx hb d_FB_number_41 ?_
          refine lv_ior hx hb d_FB_number_42 ?_
          refine lv_istore_n (lv' := [(3, .int (((((((0 : Int32) <<< ((8 : Int32) &&& 31)) ||| ((fr (j + 3)) &&& 255)) <<< ((8 : Int32) &&& 31)) ||| ((fr (j + 2)) &&& 255)) <<< ((8 : Int32) &&& 31)) ||| ((fr (j + 1)) &&& 255))), (4, .int 1), (0, .ref (ad 1)), (1, .int (nI j)), (2, .int 4)]) hx hb d_FB_number_43 rfl hl (by decide) rfl (fun ls hl => ?_)
          refine lv_iinc (v := 0) (lv' := [(4, .int 0), (3, .int (((((((0 : Int32) <<< ((8 : Int32) &&& 31)) ||| ((fr (j + 3)) &&& 255)) <<< ((8 : Int32) &&& 31)) ||| ((fr (j + 2)) &&& 255)) <<< ((8 : Int32) &&& 31)) ||| ((fr (j + 1)) &&& 255))), (0, .ref (ad 1)), (1, .int (nI j)), (2, .int 4)]) hx hb d_FB_number_44 hl (k := 1) rfl rfl (by decide) rfl (fun ls hl => ?_)
          refine lv_goto (tgt := 20) hx hb d_FB_number_47 (by decide) ?_
          refine lv_iload hx hb d_FB_number_20 (lv_at hl 0 rfl) ?_
          refine lv_if_lt (tgt := 50) hx hb d_FB_number_22 (by decide) (fun c_6 => ?_) (fun c_6 => ?_)
          · exact absurd c_6 (by decide)
          · skip
            refine lv_iload_n hx hb d_FB_number_25 rfl (lv_at hl 1 rfl) ?_
            refine lv_bipush (v := 8) hx hb d_FB_number_26 (by decide) ?_
            refine lv_ishl hx hb d_FB_number_28 ?_
            refine lv_aload_n hx hb d_FB_number_29 rfl (lv_at hl 2 rfl) ?_
            refine va_get (D := (dC, dI)) (ci := 1) (v := .ref (ad 2)) (C := R_FB) (T := T_FB) (N := 2) hx hb hts i_FB hown hK hP 1 rfl rfl 0 (by decide) (hts _ wd_41) (fun _ h9 => h9) rfl d_FB_number_30 ?_
            refine lv_iload_n hx hb d_FB_number_33 rfl (lv_at hl 3 rfl) ?_
            refine lv_iload hx hb d_FB_number_34 (lv_at hl 0 rfl) ?_
            refine lv_iadd hx hb d_FB_number_36 ?_
            refine xtopi (y := nI (j + 0)) (nI_add (j) (0)) ?_
            refine xbald (k := j + 0) hx hb hK hP 2 0 rfl rfl (rfl) (by omega) (by decide) d_FB_number_37 ?_
            refine lv_sipush (v := 255) hx hb d_FB_number_38 (by decide) ?_
            refine lv_iand hx hb d_FB_number_41 ?_
            refine lv_ior hx hb d_FB_number_42 ?_
            refine lv_istore_n (lv' := [(3, .int (((((((((0 : Int32) <<< ((8 : Int32) &&& 31)) ||| ((fr (j + 3)) &&& 255)) <<< ((8 : Int32) &&& 31)) ||| ((fr (j + 2)) &&& 255)) <<< ((8 : Int32) &&& 31)) ||| ((fr (j + 1)) &&& 255)) <<< ((8 : Int32) &&& 31)) ||| ((fr (j + 0)) &&& 255))), (4, .int 0), (0, .ref (ad 1)), (1, .int (nI j)), (2, .int 4)]) hx hb d_FB_number_43 rfl hl (by decide) rfl (fun ls hl => ?_)
            refine lv_iinc (v := (-1)) (lv' := [(4, .int (-1)), (3, .int (((((((((0 : Int32) <<< ((8 : Int32) &&& 31)) ||| ((fr (j + 3)) &&& 255)) <<< ((8 : Int32) &&& 31)) ||| ((fr (j + 2)) &&& 255)) <<< ((8 : Int32) &&& 31)) ||| ((fr (j + 1)) &&& 255)) <<< ((8 : Int32) &&& 31)) ||| ((fr (j + 0)) &&& 255))), (0, .ref (ad 1)), (1, .int (nI j)), (2, .int 4)]) hx hb d_FB_number_44 hl (k := 1) rfl rfl (by decide) rfl (fun ls hl => ?_)
            refine lv_goto (tgt := 20) hx hb d_FB_number_47 (by decide) ?_
            refine lv_iload hx hb d_FB_number_20 (lv_at hl 0 rfl) ?_
            refine lv_if_lt (tgt := 50) hx hb d_FB_number_22 (by decide) (fun c_7 => ?_) (fun c_7 => ?_)
            · skip
              refine lv_iload_n hx hb d_FB_number_50 rfl (lv_at hl 1 rfl) ?_
              exact xreti (v := ((((((((0 : Int32) <<< ((8 : Int32) &&& 31)) ||| ((fr (j + 3)) &&& 255)) <<< ((8 : Int32) &&& 31)) ||| ((fr (j + 2)) &&& 255)) <<< ((8 : Int32) &&& 31)) ||| ((fr (j + 1)) &&& 255)) <<< ((8 : Int32) &&& 31)) ||| ((fr (j + 0)) &&& 255)) hx hb hr hlocks hK hP hD hS (rfl) (by simp only [fbNum]; rw [if_pos (p_in ej hj hn), ej, nI_toInt (by omega)]; rfl) d_FB_number_51
            · exact absurd c_7 (by decide)
  · skip
    have c_2 := bI_f c_2
    refine lv_iconst (v := 0) hx hb d_FB_number_11 (by decide) ?_
    exact xreti (v := 0) hx hb hr hlocks hK hP hD hS (rfl) (by simp only [fbNum]; rw [if_neg (p_nat4 c_2)]) d_FB_number_12
set_option maxHeartbeats 4000000 in
set_option maxRecDepth 100000 in
theorem c_fb_unsigned (l : Launch) (dC : Nat → ClassId) (dI : Nat → Nat → Nat) (ad : Nat → Nat) (ck : Nat → ClassId) (rf : Int32) (n : Nat) (fr : Nat → Int32) (a : Nat) (ar : Nat → Int32) (z : Nat → Nat) (pc : Nat) (pe : Int32) (pt pp : Nat) (pf : Nat → Nat → Int32) (ic : Nat) (ie ip iz ia : Int32) (st rt : Nat → Int32) (pb : Nat → Nat → Int32) (k : Int32) (hn : n ≤ 65536) (sz : Nat) : Met l y_FB_unsigned w_FB_unsigned { frames := 2, cells := 0, slots := 0, locals := 48 } (va_Pc [.ref (ad 1), .int k] (xP (dC, dI) (tyG ck) (wsG ad ck rf n fr a ar z pc pe pt pp pf ic ie ip iz ia st rt pb) sz)) (xQl (dC, dI) (tyG ck) (va_A (wsG ad ck rf n fr a ar z pc pe pt pp pf ic ie ip iz ia st rt pb) sz) (wsG ad ck rf n fr a ar z pc pe pt pp pf ic ie ip iz ia st rt pb) (fun r => r = fbUns n fr k)) 0 0 (va_A (wsG ad ck rf n fr a ar z pc pe pt pp pf ic ie ip iz ia st rt pb) sz) := by
  refine xof (cc := b_FB_unsigned) (maxL := 2) (ret := (some .long)) (own := R_FB) (Qc := fun A => (xQl (dC, dI) (tyG ck) A (wsG ad ck rf n fr a ar z pc pe pt pp pf ic ie ip iz ia st rt pb) (fun r => r = fbUns n fr k))) (by decide) rfl rfl (Nat.le_of_ble_eq_true rfl) ?_ sz
  intro p e s m below meth c A C hnm hK hP hD hA hN hZ hS ls hl
  obtain ⟨hx, hb, hr, hml, hown, hts, hlocks⟩ := C
  have hl : lv_has ls 2 [(0, .ref (ad 1)), (1, .int k)] := hl
  refine lv_aload_n hx hb d_FB_unsigned_0 rfl (lv_at hl 0 rfl) ?_
  refine lv_iload_n hx hb d_FB_unsigned_1 rfl (lv_at hl 1 rfl) ?_
  refine lv_iconst (v := 4) hx hb d_FB_unsigned_2 (by decide) ?_
  refine xcalli (va_runV (As := [.int k, .int 4]) (rest := []) ⟨hx, hb, hml, hown, hts⟩ (c_fb_number4 l dC dI ad ck rf n fr a ar z pc pe pt pp pf ic ie ip iz ia st rt pb k hn s.heap.size) (cwV 2 hts (xgV wd_296 wd_278 wd_279 wd_16 wd_280) rfl rfl rfl (by decide +kernel) ⟨Nat.le_of_ble_eq_true rfl, Nat.le_of_ble_eq_true rfl⟩) (xpreV (q0 := 1) hK hN hZ hA hS hP hD rfl rfl) rfl rfl hl.1 rfl (lv_room (Nat.le_of_ble_eq_true rfl)) d_FB_unsigned_3 ⟨Nat.zero_le _, Nat.zero_le _⟩) hD hS hA (fun r_1 H locs hr_1 hP hD hS => ?_)
  subst hr_1
  refine lv_i2l hx hb d_FB_unsigned_6 rfl ?_
  refine lv_ldc2 (v := 4294967295) hx hb hown (hts _ wd_297) d_FB_unsigned_7 ?_
  refine lv_land hx hb d_FB_unsigned_10 ?_
  exact xretl hx hb hr hlocks hK hP hD hS (rfl) d_FB_unsigned_11
end
section
/-! THE ARGUMENTS: what their methods compute -/
def agN (a : Nat) : Nat := if a < 32 then a + 1 else a
def agZ (a : Nat) (z : Nat → Nat) : Nat → Nat := if a < 32 then upn z a 0 else z
def shv (t : Nat) : Int32 := 56 - 8 * nI t
theorem shv_fin : ∀ t, t < 9 → (shv t < 0 → t = 8) ∧ (¬ shv t < 0 → t < 8) ∧ (t < 8 → shv t + Int32.ofInt (-8) = shv (t + 1)) := by decide
theorem shv_neg {t : Nat} (h : t ≤ 8) (c : shv t < 0) : t = 8 := (shv_fin t (by omega)).1 c
theorem shv_pos {t : Nat} (h : t ≤ 8) (c : ¬ shv t < 0) : t < 8 := (shv_fin t (by omega)).2.1 c
theorem shv_step {t : Nat} (h : t < 8) : shv t + Int32.ofInt (-8) = shv (t + 1) := (shv_fin t (by omega)).2.2 h
def lby (w : Int64) (t : Nat) : Int32 := (w >>> ((shv t).toInt64 &&& 63)).toInt32.toInt8.toInt32
def ltN (w : Int64) : Nat → Nat
  | 0 => 0
  | t + 1 => if lby w t = 0 then ltN w t else ltN w t + 1
theorem ltN_mono (w : Int64) (t d : Nat) : ltN w t ≤ ltN w (t + d) := by
  induction d with
  | zero => exact Nat.le_refl _
  | succ d ih =>
    refine Nat.le_trans ih ?_
    show ltN w (t + d) ≤ ltN w (t + d + 1)
    rw [ltN]
    split <;> omega
theorem ltN_le (w : Int64) (t : Nat) : ltN w t ≤ t := by
  induction t with
  | zero => exact Nat.le_refl _
  | succ t ih =>
    rw [ltN]
    split <;> omega
def tpN (z : Nat → Nat) : Nat → Nat
  | 0 => 4096
  | i + 1 => (tpN z i - z i - 1) / 4 * 4
theorem tpN_le (z : Nat → Nat) (i : Nat) : tpN z i ≤ 4096 := by
  induction i with
  | zero => exact Nat.le_refl _
  | succ i ih =>
    rw [tpN]
    omega
theorem tpN_ge {z : Nat → Nat} (hz : ∀ j, z j ≤ 127) (i : Nat) : 4096 ≤ tpN z i + 128 * i ∧ tpN z i % 4 = 0 := by
  induction i with
  | zero => exact ⟨Nat.le_refl _, by simp [tpN]⟩
  | succ i ih =>
    have := hz i
    rw [tpN]
    omega
def spOf (z : Nat → Nat) (a : Nat) : Int32 := (nI (tpN z a) - nI (4 * (a + 1))) &&& (-16)
theorem p_and4 {x : Nat} (h : x < 2 ^ 31) : nI x &&& (-4) = nI (x / 4 * 4) := by
  apply Int32.toBitVec_inj.mp
  apply BitVec.eq_of_toNat_eq
  rw [Int32.toBitVec_and, BitVec.toNat_and, pk_tn (by omega), pk_tn (by omega)]
  have h4 : (-4 : Int32).toBitVec.toNat = 2 ^ 32 - 4 := rfl
  rw [h4]
  apply Nat.eq_of_testBit_eq
  intro i
  have e : (2 ^ 32 - 4 : Nat) = (2 ^ 30 - 1) * 2 ^ 2 := rfl
  rw [Nat.testBit_and, e, Nat.testBit_mul_two_pow, Nat.testBit_two_pow_sub_one, show x / 4 * 4 = (x / 2 ^ 2) * 2 ^ 2 from rfl, Nat.testBit_mul_two_pow, Nat.testBit_div_two_pow]
  by_cases hi : 2 ≤ i
  · simp only [hi, decide_true, Bool.true_and]
    rw [show i - 2 + 2 = i from by omega]
    by_cases h3 : i - 2 < 30
    · simp [h3]
    · simp only [h3, decide_false, Bool.and_false]
      exact (Nat.testBit_lt_two_pow (Nat.lt_of_lt_of_le h (Nat.pow_le_pow_right (by decide) (by omega)))).symm
  · simp [hi]
theorem upn_self (z : Nat → Nat) (k : Nat) : upn z k (z k) = z := by
  funext j
  by_cases h : j = k <;> simp [upn, h]
theorem upn_eq (z : Nat → Nat) (k x : Nat) : upn z k x k = x := by simp [upn]
theorem upn_ne (z : Nat → Nat) {k j : Nat} (x : Nat) (h : j ≠ k) : upn z k x j = z j := by simp [upn, h]
theorem upn_upn (z : Nat → Nat) (k x y : Nat) : upn (upn z k x) k y = upn z k y := by
  funext j
  by_cases h : j = k <;> simp [upn, h]
def exA (ar : Nat → Int32) (z : Nat → Nat) (b : Nat) (w : Int64) : Nat → Nat → Int32
  | 0 => ar
  | t + 1 => if lby w t = 0 then exA ar z b w t else upd (exA ar z b w t) (b * 127 + (z b + ltN w t)) (lby w t)
def exFA (a : Nat) (ar : Nat → Int32) (z : Nat → Nat) (w : Int64) : Nat → Int32 := if 0 < a ∧ z (a - 1) + ltN w 8 ≤ 127 then exA ar z (a - 1) w 8 else ar
def exFZ (a : Nat) (z : Nat → Nat) (w : Int64) : Nat → Nat := if 0 < a ∧ z (a - 1) + ltN w 8 ≤ 127 then upn z (a - 1) (z (a - 1) + ltN w 8) else z
end
section
theorem d_AG_open_0 : decode b_AG_open 0 = .ok (.aload_n 0, 1) := by decide +kernel
theorem d_AG_open_1 : decode b_AG_open 1 = .ok (.getfield 19, 3) := by decide +kernel
theorem d_AG_open_4 : decode b_AG_open 4 = .ok (.aload_n 0, 1) := by decide +kernel
theorem d_AG_open_5 : decode b_AG_open 5 = .ok (.getfield 15, 3) := by decide +kernel
theorem d_AG_open_8 : decode b_AG_open 8 = .ok (.arraylength, 1) := by decide +kernel
theorem d_AG_open_9 : decode b_AG_open 9 = .ok (.if_icmp .lt 5, 3) := by decide +kernel
theorem d_AG_open_12 : decode b_AG_open 12 = .ok (.iconst 0, 1) := by decide +kernel
theorem d_AG_open_13 : decode b_AG_open 13 = .ok (.ireturn, 1) := by decide +kernel
theorem d_AG_open_14 : decode b_AG_open 14 = .ok (.aload_n 0, 1) := by decide +kernel
theorem d_AG_open_15 : decode b_AG_open 15 = .ok (.getfield 15, 3) := by decide +kernel
theorem d_AG_open_18 : decode b_AG_open 18 = .ok (.aload_n 0, 1) := by decide +kernel
theorem d_AG_open_19 : decode b_AG_open 19 = .ok (.getfield 19, 3) := by decide +kernel
theorem d_AG_open_22 : decode b_AG_open 22 = .ok (.iconst 0, 1) := by decide +kernel
theorem d_AG_open_23 : decode b_AG_open 23 = .ok (.iastore, 1) := by decide +kernel
theorem d_AG_open_24 : decode b_AG_open 24 = .ok (.aload_n 0, 1) := by decide +kernel
theorem d_AG_open_25 : decode b_AG_open 25 = .ok (.dup, 1) := by decide +kernel
theorem d_AG_open_26 : decode b_AG_open 26 = .ok (.getfield 19, 3) := by decide +kernel
theorem d_AG_open_29 : decode b_AG_open 29 = .ok (.iconst 1, 1) := by decide +kernel
theorem d_AG_open_30 : decode b_AG_open 30 = .ok (.iadd, 1) := by decide +kernel
theorem d_AG_open_31 : decode b_AG_open 31 = .ok (.putfield 19, 3) := by decide +kernel
theorem d_AG_open_34 : decode b_AG_open 34 = .ok (.iconst 1, 1) := by decide +kernel
theorem d_AG_open_35 : decode b_AG_open 35 = .ok (.ireturn, 1) := by decide +kernel
theorem d_AG_lettersIn_0 : decode b_AG_lettersIn 0 = .ok (.iconst 0, 1) := by decide +kernel
theorem d_AG_lettersIn_1 : decode b_AG_lettersIn 1 = .ok (.istore_n 2, 1) := by decide +kernel
theorem d_AG_lettersIn_2 : decode b_AG_lettersIn 2 = .ok (.bipush 56, 2) := by decide +kernel
theorem d_AG_lettersIn_4 : decode b_AG_lettersIn 4 = .ok (.istore_n 3, 1) := by decide +kernel
theorem d_AG_lettersIn_5 : decode b_AG_lettersIn 5 = .ok (.iload_n 3, 1) := by decide +kernel
theorem d_AG_lettersIn_6 : decode b_AG_lettersIn 6 = .ok (.ifCond .lt 20, 3) := by decide +kernel
theorem d_AG_lettersIn_9 : decode b_AG_lettersIn 9 = .ok (.lload_n 0, 1) := by decide +kernel
theorem d_AG_lettersIn_10 : decode b_AG_lettersIn 10 = .ok (.iload_n 3, 1) := by decide +kernel
theorem d_AG_lettersIn_11 : decode b_AG_lettersIn 11 = .ok (.lshr, 1) := by decide +kernel
theorem d_AG_lettersIn_12 : decode b_AG_lettersIn 12 = .ok (.l2i, 1) := by decide +kernel
theorem d_AG_lettersIn_13 : decode b_AG_lettersIn 13 = .ok (.i2b, 1) := by decide +kernel
theorem d_AG_lettersIn_14 : decode b_AG_lettersIn 14 = .ok (.ifCond .eq 6, 3) := by decide +kernel
theorem d_AG_lettersIn_17 : decode b_AG_lettersIn 17 = .ok (.iinc 2 1, 3) := by decide +kernel
theorem d_AG_lettersIn_20 : decode b_AG_lettersIn 20 = .ok (.iinc 3 (-8), 3) := by decide +kernel
theorem d_AG_lettersIn_23 : decode b_AG_lettersIn 23 = .ok (.goto (-18), 3) := by decide +kernel
theorem d_AG_lettersIn_26 : decode b_AG_lettersIn 26 = .ok (.iload_n 2, 1) := by decide +kernel
theorem d_AG_lettersIn_27 : decode b_AG_lettersIn 27 = .ok (.ireturn, 1) := by decide +kernel
theorem d_AG_placeBelow_0 : decode b_AG_placeBelow 0 = .ok (.iload_n 2, 1) := by decide +kernel
theorem d_AG_placeBelow_1 : decode b_AG_placeBelow 1 = .ok (.ifCond .lt 21, 3) := by decide +kernel
theorem d_AG_placeBelow_4 : decode b_AG_placeBelow 4 = .ok (.iload_n 2, 1) := by decide +kernel
theorem d_AG_placeBelow_5 : decode b_AG_placeBelow 5 = .ok (.aload_n 0, 1) := by decide +kernel
theorem d_AG_placeBelow_6 : decode b_AG_placeBelow 6 = .ok (.getfield 15, 3) := by decide +kernel
theorem d_AG_placeBelow_9 : decode b_AG_placeBelow 9 = .ok (.arraylength, 1) := by decide +kernel
theorem d_AG_placeBelow_10 : decode b_AG_placeBelow 10 = .ok (.if_icmp .ge 12, 3) := by decide +kernel
theorem d_AG_placeBelow_13 : decode b_AG_placeBelow 13 = .ok (.aload_n 0, 1) := by decide +kernel
theorem d_AG_placeBelow_14 : decode b_AG_placeBelow 14 = .ok (.getfield 15, 3) := by decide +kernel
theorem d_AG_placeBelow_17 : decode b_AG_placeBelow 17 = .ok (.iload_n 2, 1) := by decide +kernel
theorem d_AG_placeBelow_18 : decode b_AG_placeBelow 18 = .ok (.iaload, 1) := by decide +kernel
theorem d_AG_placeBelow_19 : decode b_AG_placeBelow 19 = .ok (.goto 4, 3) := by decide +kernel
theorem d_AG_placeBelow_22 : decode b_AG_placeBelow 22 = .ok (.iconst 0, 1) := by decide +kernel
theorem d_AG_placeBelow_23 : decode b_AG_placeBelow 23 = .ok (.istore_n 3, 1) := by decide +kernel
theorem d_AG_placeBelow_24 : decode b_AG_placeBelow 24 = .ok (.iload_n 1, 1) := by decide +kernel
theorem d_AG_placeBelow_25 : decode b_AG_placeBelow 25 = .ok (.iload_n 3, 1) := by decide +kernel
theorem d_AG_placeBelow_26 : decode b_AG_placeBelow 26 = .ok (.isub, 1) := by decide +kernel
theorem d_AG_placeBelow_27 : decode b_AG_placeBelow 27 = .ok (.iconst 1, 1) := by decide +kernel
theorem d_AG_placeBelow_28 : decode b_AG_placeBelow 28 = .ok (.isub, 1) := by decide +kernel
theorem d_AG_placeBelow_29 : decode b_AG_placeBelow 29 = .ok (.bipush (-4), 2) := by decide +kernel
theorem d_AG_placeBelow_31 : decode b_AG_placeBelow 31 = .ok (.iand, 1) := by decide +kernel
theorem d_AG_placeBelow_32 : decode b_AG_placeBelow 32 = .ok (.ireturn, 1) := by decide +kernel
theorem d_AG_stackPointer_0 : decode b_AG_stackPointer 0 = .ok (.sipush 4096, 3) := by decide +kernel
theorem d_AG_stackPointer_3 : decode b_AG_stackPointer 3 = .ok (.istore_n 1, 1) := by decide +kernel
theorem d_AG_stackPointer_4 : decode b_AG_stackPointer 4 = .ok (.iconst 0, 1) := by decide +kernel
theorem d_AG_stackPointer_5 : decode b_AG_stackPointer 5 = .ok (.istore_n 2, 1) := by decide +kernel
theorem d_AG_stackPointer_6 : decode b_AG_stackPointer 6 = .ok (.iload_n 2, 1) := by decide +kernel
theorem d_AG_stackPointer_7 : decode b_AG_stackPointer 7 = .ok (.aload_n 0, 1) := by decide +kernel
theorem d_AG_stackPointer_8 : decode b_AG_stackPointer 8 = .ok (.getfield 19, 3) := by decide +kernel
theorem d_AG_stackPointer_11 : decode b_AG_stackPointer 11 = .ok (.if_icmp .ge 16, 3) := by decide +kernel
theorem d_AG_stackPointer_14 : decode b_AG_stackPointer 14 = .ok (.aload_n 0, 1) := by decide +kernel
theorem d_AG_stackPointer_15 : decode b_AG_stackPointer 15 = .ok (.iload_n 1, 1) := by decide +kernel
theorem d_AG_stackPointer_16 : decode b_AG_stackPointer 16 = .ok (.iload_n 2, 1) := by decide +kernel
theorem d_AG_stackPointer_17 : decode b_AG_stackPointer 17 = .ok (.invokevirtual 27, 3) := by decide +kernel
theorem d_AG_stackPointer_20 : decode b_AG_stackPointer 20 = .ok (.istore_n 1, 1) := by decide +kernel
theorem d_AG_stackPointer_21 : decode b_AG_stackPointer 21 = .ok (.iinc 2 1, 3) := by decide +kernel
theorem d_AG_stackPointer_24 : decode b_AG_stackPointer 24 = .ok (.goto (-18), 3) := by decide +kernel
theorem d_AG_stackPointer_27 : decode b_AG_stackPointer 27 = .ok (.iload_n 1, 1) := by decide +kernel
theorem d_AG_stackPointer_28 : decode b_AG_stackPointer 28 = .ok (.iconst 4, 1) := by decide +kernel
theorem d_AG_stackPointer_29 : decode b_AG_stackPointer 29 = .ok (.aload_n 0, 1) := by decide +kernel
theorem d_AG_stackPointer_30 : decode b_AG_stackPointer 30 = .ok (.getfield 19, 3) := by decide +kernel
theorem d_AG_stackPointer_33 : decode b_AG_stackPointer 33 = .ok (.iconst 1, 1) := by decide +kernel
theorem d_AG_stackPointer_34 : decode b_AG_stackPointer 34 = .ok (.iadd, 1) := by decide +kernel
theorem d_AG_stackPointer_35 : decode b_AG_stackPointer 35 = .ok (.imul, 1) := by decide +kernel
theorem d_AG_stackPointer_36 : decode b_AG_stackPointer 36 = .ok (.isub, 1) := by decide +kernel
theorem d_AG_stackPointer_37 : decode b_AG_stackPointer 37 = .ok (.bipush (-16), 2) := by decide +kernel
theorem d_AG_stackPointer_39 : decode b_AG_stackPointer 39 = .ok (.iand, 1) := by decide +kernel
theorem d_AG_stackPointer_40 : decode b_AG_stackPointer 40 = .ok (.ireturn, 1) := by decide +kernel
theorem d_AG_extend_0 : decode b_AG_extend 0 = .ok (.aload_n 0, 1) := by decide +kernel
theorem d_AG_extend_1 : decode b_AG_extend 1 = .ok (.getfield 19, 3) := by decide +kernel
theorem d_AG_extend_4 : decode b_AG_extend 4 = .ok (.iconst 1, 1) := by decide +kernel
theorem d_AG_extend_5 : decode b_AG_extend 5 = .ok (.isub, 1) := by decide +kernel
theorem d_AG_extend_6 : decode b_AG_extend 6 = .ok (.istore_n 3, 1) := by decide +kernel
theorem d_AG_extend_7 : decode b_AG_extend 7 = .ok (.iload_n 3, 1) := by decide +kernel
theorem d_AG_extend_8 : decode b_AG_extend 8 = .ok (.ifCond .lt 28, 3) := by decide +kernel
theorem d_AG_extend_11 : decode b_AG_extend 11 = .ok (.iload_n 3, 1) := by decide +kernel
theorem d_AG_extend_12 : decode b_AG_extend 12 = .ok (.aload_n 0, 1) := by decide +kernel
theorem d_AG_extend_13 : decode b_AG_extend 13 = .ok (.getfield 15, 3) := by decide +kernel
theorem d_AG_extend_16 : decode b_AG_extend 16 = .ok (.arraylength, 1) := by decide +kernel
theorem d_AG_extend_17 : decode b_AG_extend 17 = .ok (.if_icmp .ge 19, 3) := by decide +kernel
theorem d_AG_extend_20 : decode b_AG_extend 20 = .ok (.aload_n 0, 1) := by decide +kernel
theorem d_AG_extend_21 : decode b_AG_extend 21 = .ok (.getfield 15, 3) := by decide +kernel
theorem d_AG_extend_24 : decode b_AG_extend 24 = .ok (.iload_n 3, 1) := by decide +kernel
theorem d_AG_extend_25 : decode b_AG_extend 25 = .ok (.iaload, 1) := by decide +kernel
theorem d_AG_extend_26 : decode b_AG_extend 26 = .ok (.lload_n 1, 1) := by decide +kernel
theorem d_AG_extend_27 : decode b_AG_extend 27 = .ok (.invokestatic 23, 3) := by decide +kernel
theorem d_AG_extend_30 : decode b_AG_extend 30 = .ok (.iadd, 1) := by decide +kernel
theorem d_AG_extend_31 : decode b_AG_extend 31 = .ok (.bipush 127, 2) := by decide +kernel
theorem d_AG_extend_33 : decode b_AG_extend 33 = .ok (.if_icmp .le 5, 3) := by decide +kernel
theorem d_AG_extend_36 : decode b_AG_extend 36 = .ok (.iconst 0, 1) := by decide +kernel
theorem d_AG_extend_37 : decode b_AG_extend 37 = .ok (.ireturn, 1) := by decide +kernel
theorem d_AG_extend_38 : decode b_AG_extend 38 = .ok (.bipush 56, 2) := by decide +kernel
theorem d_AG_extend_40 : decode b_AG_extend 40 = .ok (.istore 4, 2) := by decide +kernel
theorem d_AG_extend_42 : decode b_AG_extend 42 = .ok (.iload 4, 2) := by decide +kernel
theorem d_AG_extend_44 : decode b_AG_extend 44 = .ok (.ifCond .lt 50, 3) := by decide +kernel
theorem d_AG_extend_47 : decode b_AG_extend 47 = .ok (.lload_n 1, 1) := by decide +kernel
theorem d_AG_extend_48 : decode b_AG_extend 48 = .ok (.iload 4, 2) := by decide +kernel
theorem d_AG_extend_50 : decode b_AG_extend 50 = .ok (.lshr, 1) := by decide +kernel
theorem d_AG_extend_51 : decode b_AG_extend 51 = .ok (.l2i, 1) := by decide +kernel
theorem d_AG_extend_52 : decode b_AG_extend 52 = .ok (.i2b, 1) := by decide +kernel
theorem d_AG_extend_53 : decode b_AG_extend 53 = .ok (.istore 5, 2) := by decide +kernel
theorem d_AG_extend_55 : decode b_AG_extend 55 = .ok (.iload 5, 2) := by decide +kernel
theorem d_AG_extend_57 : decode b_AG_extend 57 = .ok (.ifCond .eq 31, 3) := by decide +kernel
theorem d_AG_extend_60 : decode b_AG_extend 60 = .ok (.aload_n 0, 1) := by decide +kernel
theorem d_AG_extend_61 : decode b_AG_extend 61 = .ok (.getfield 9, 3) := by decide +kernel
theorem d_AG_extend_64 : decode b_AG_extend 64 = .ok (.iload_n 3, 1) := by decide +kernel
theorem d_AG_extend_65 : decode b_AG_extend 65 = .ok (.bipush 127, 2) := by decide +kernel
theorem d_AG_extend_67 : decode b_AG_extend 67 = .ok (.imul, 1) := by decide +kernel
theorem d_AG_extend_68 : decode b_AG_extend 68 = .ok (.aload_n 0, 1) := by decide +kernel
theorem d_AG_extend_69 : decode b_AG_extend 69 = .ok (.getfield 15, 3) := by decide +kernel
theorem d_AG_extend_72 : decode b_AG_extend 72 = .ok (.iload_n 3, 1) := by decide +kernel
theorem d_AG_extend_73 : decode b_AG_extend 73 = .ok (.iaload, 1) := by decide +kernel
theorem d_AG_extend_74 : decode b_AG_extend 74 = .ok (.iadd, 1) := by decide +kernel
theorem d_AG_extend_75 : decode b_AG_extend 75 = .ok (.iload 5, 2) := by decide +kernel
theorem d_AG_extend_77 : decode b_AG_extend 77 = .ok (.bastore, 1) := by decide +kernel
theorem d_AG_extend_78 : decode b_AG_extend 78 = .ok (.aload_n 0, 1) := by decide +kernel
theorem d_AG_extend_79 : decode b_AG_extend 79 = .ok (.getfield 15, 3) := by decide +kernel
theorem d_AG_extend_82 : decode b_AG_extend 82 = .ok (.iload_n 3, 1) := by decide +kernel
theorem d_AG_extend_83 : decode b_AG_extend 83 = .ok (.dup2, 1) := by decide +kernel
theorem d_AG_extend_84 : decode b_AG_extend 84 = .ok (.iaload, 1) := by decide +kernel
theorem d_AG_extend_85 : decode b_AG_extend 85 = .ok (.iconst 1, 1) := by decide +kernel
theorem d_AG_extend_86 : decode b_AG_extend 86 = .ok (.iadd, 1) := by decide +kernel
theorem d_AG_extend_87 : decode b_AG_extend 87 = .ok (.iastore, 1) := by decide +kernel
theorem d_AG_extend_88 : decode b_AG_extend 88 = .ok (.iinc 4 (-8), 3) := by decide +kernel
theorem d_AG_extend_91 : decode b_AG_extend 91 = .ok (.goto (-49), 3) := by decide +kernel
theorem d_AG_extend_94 : decode b_AG_extend 94 = .ok (.iconst 1, 1) := by decide +kernel
theorem d_AG_extend_95 : decode b_AG_extend 95 = .ok (.ireturn, 1) := by decide +kernel
end
section
set_option maxHeartbeats 4000000 in
set_option maxRecDepth 100000 in
theorem c_ag_open (l : Launch) (dC : Nat → ClassId) (dI : Nat → Nat → Nat) (ad : Nat → Nat) (ck : Nat → ClassId) (rf : Int32) (n : Nat) (fr : Nat → Int32) (a : Nat) (ar : Nat → Int32) (z : Nat → Nat) (pc : Nat) (pe : Int32) (pt pp : Nat) (pf : Nat → Nat → Int32) (ic : Nat) (ie ip iz ia : Int32) (st rt : Nat → Int32) (pb : Nat → Nat → Int32) (ha : a ≤ 32) (sz : Nat) : Met l y_AG_open w_AG_open { frames := 0, cells := 0, slots := 0, locals := 0 } (va_Pc [.ref (ad 3)] (xP (dC, dI) (tyG ck) (wsG ad ck rf n fr a ar z pc pe pt pp pf ic ie ip iz ia st rt pb) sz)) (xQi (dC, dI) (tyG ck) (va_A (wsG ad ck rf n fr a ar z pc pe pt pp pf ic ie ip iz ia st rt pb) sz) (wsG ad ck rf n fr (agN a) ar (agZ a z) pc pe pt pp pf ic ie ip iz ia st rt pb) (fun r => r = bI (a < 32))) 0 0 (va_A (wsG ad ck rf n fr a ar z pc pe pt pp pf ic ie ip iz ia st rt pb) sz) := by
  refine xof (cc := b_AG_open) (maxL := 1) (ret := (some .boolean)) (own := R_AG) (Qc := fun A => (xQi (dC, dI) (tyG ck) A (wsG ad ck rf n fr (agN a) ar (agZ a z) pc pe pt pp pf ic ie ip iz ia st rt pb) (fun r => r = bI (a < 32)))) (by decide) rfl rfl (Nat.le_of_ble_eq_true rfl) ?_ sz
  intro p e s m below meth c A C hnm hK hP hD hA hN hZ hS ls hl
  obtain ⟨hx, hb, hr, hml, hown, hts, hlocks⟩ := C
  have hl : lv_has ls 1 [(0, .ref (ad 3))] := hl
  refine lv_aload_n hx hb d_AG_open_0 rfl (lv_at hl 0 rfl) ?_
  refine va_get (D := (dC, dI)) (ci := 0) (v := .int (nI a)) (C := R_AG) (T := T_AG) (N := 3) hx hb hts i_AG hown hK hP 3 rfl rfl 2 (by decide) (hts _ wd_58) (fun _ h9 => h9) rfl d_AG_open_1 ?_
  refine lv_aload_n hx hb d_AG_open_4 rfl (lv_at hl 0 rfl) ?_
  refine va_get (D := (dC, dI)) (ci := 0) (v := .ref (ad 5)) (C := R_AG) (T := T_AG) (N := 3) hx hb hts i_AG hown hK hP 3 rfl rfl 1 (by decide) (hts _ wd_57) (fun _ h9 => h9) rfl d_AG_open_5 ?_
  refine va_alen (v := 32) hx hb hK hP 5 1 rfl rfl rfl d_AG_open_8 ?_
  refine lv_icmp_lt (tgt := 14) hx hb d_AG_open_9 (by decide) (fun c_1 => ?_) (fun c_1 => ?_)
  · skip
    have c_1 : a < 32 := (nI_ltI (a := a) (b := 32) (by omega) (by omega)).mp c_1
    refine lv_aload_n hx hb d_AG_open_14 rfl (lv_at hl 0 rfl) ?_
    refine va_get (D := (dC, dI)) (ci := 0) (v := .ref (ad 5)) (C := R_AG) (T := T_AG) (N := 3) hx hb hts i_AG hown hK hP 3 rfl rfl 1 (by decide) (hts _ wd_57) (fun _ h9 => h9) rfl d_AG_open_15 ?_
    refine lv_aload_n hx hb d_AG_open_18 rfl (lv_at hl 0 rfl) ?_
    refine va_get (D := (dC, dI)) (ci := 0) (v := .int (nI a)) (C := R_AG) (T := T_AG) (N := 3) hx hb hts i_AG hown hK hP 3 rfl rfl 2 (by decide) (hts _ wd_58) (fun _ h9 => h9) rfl d_AG_open_19 ?_
    refine lv_iconst (v := 0) hx hb d_AG_open_22 (by decide) ?_
    refine xiast (k := a) (ws1 := wsG ad ck rf n fr a ar (upn z a 0) pc pe pt pp pf ic ie ip iz ia st rt pb) hx hb hK hP hD hS 5 1 rfl rfl (rfl) (by omega) (by decide) wsG_putZ d_AG_open_23 (fun H locs hP hD hS => ?_)
    refine lv_aload_n hx hb d_AG_open_24 rfl (lv_at hl 0 rfl) ?_
    refine lv_dup hx hb d_AG_open_25 rfl ?_
    refine va_get (D := (dC, dI)) (ci := 0) (v := .int (nI a)) (C := R_AG) (T := T_AG) (N := 3) hx hb hts i_AG hown hK hP 3 rfl rfl 2 (by decide) (hts _ wd_58) (fun _ h9 => h9) rfl d_AG_open_26 ?_
    refine lv_iconst (v := 1) hx hb d_AG_open_29 (by decide) ?_
    refine lv_iadd hx hb d_AG_open_30 ?_
    refine xtopi (y := nI (a + 1)) (nI_add (a) (1)) ?_
    refine va_put (D := (dC, dI)) (ci := 0) (v := .int (nI (a + 1))) (ty := .int) (C := R_AG) (T := T_AG) (N := 3) hx hb hts i_AG t_AG k_AG n_AG hown hK hP hD hS 3 rfl rfl 2 (by decide) (hts _ wd_58) (fun _ h9 => h9) rfl (by decide +kernel) rfl rfl (Nat.le_of_ble_eq_true rfl) d_AG_open_31 (fun H locs hP hD hS => ?_)
    have hP : va_P (dC, dI) vwCl (wsG ad ck rf n fr (a + 1) ar (upn z a 0) pc pe pt pp pf ic ie ip iz ia st rt pb) H := hP
    have hD : va_D A (wsG ad ck rf n fr (a + 1) ar (upn z a 0) pc pe pt pp pf ic ie ip iz ia st rt pb) := hD
    refine lv_iconst (v := 1) hx hb d_AG_open_34 (by decide) ?_
    have hw9 : wsG ad ck rf n fr (a + 1) ar (upn z a 0) pc pe pt pp pf ic ie ip iz ia st rt pb = wsG ad ck rf n fr (agN a) ar (agZ a z) pc pe pt pp pf ic ie ip iz ia st rt pb := by simp only [agN, agZ]; rw [if_pos c_1, if_pos c_1]
    rw [hw9] at hP hD
    exact xreti (v := 1) hx hb hr hlocks hK hP hD hS (rfl) (bI_1 c_1) d_AG_open_35
  · skip
    have c_1 : ¬ (a < 32) := fun h9 => c_1 ((nI_ltI (a := a) (b := 32) (by omega) (by omega)).mpr h9)
    refine lv_iconst (v := 0) hx hb d_AG_open_12 (by decide) ?_
    have hw9 : wsG ad ck rf n fr a ar z pc pe pt pp pf ic ie ip iz ia st rt pb = wsG ad ck rf n fr (agN a) ar (agZ a z) pc pe pt pp pf ic ie ip iz ia st rt pb := by simp only [agN, agZ]; rw [if_neg c_1, if_neg c_1]
    rw [hw9] at hP hD
    exact xreti (v := 0) hx hb hr hlocks hK hP hD hS (rfl) (bI_0 c_1) d_AG_open_13
set_option maxHeartbeats 4000000 in
set_option maxRecDepth 100000 in
theorem c_ag_lettersIn (l : Launch) (dC : Nat → ClassId) (dI : Nat → Nat → Nat) (ad : Nat → Nat) (ck : Nat → ClassId) (rf : Int32) (n : Nat) (fr : Nat → Int32) (a : Nat) (ar : Nat → Int32) (z : Nat → Nat) (pc : Nat) (pe : Int32) (pt pp : Nat) (pf : Nat → Nat → Int32) (ic : Nat) (ie ip iz ia : Int32) (st rt : Nat → Int32) (pb : Nat → Nat → Int32) (w : Int64) (sz : Nat) : Met l y_AG_lettersIn w_AG_lettersIn { frames := 0, cells := 0, slots := 0, locals := 0 } (va_Pc [.long w] (xP (dC, dI) (tyG ck) (wsG ad ck rf n fr a ar z pc pe pt pp pf ic ie ip iz ia st rt pb) sz)) (xQi (dC, dI) (tyG ck) (va_A (wsG ad ck rf n fr a ar z pc pe pt pp pf ic ie ip iz ia st rt pb) sz) (wsG ad ck rf n fr a ar z pc pe pt pp pf ic ie ip iz ia st rt pb) (fun r => r = nI (ltN w 8))) 0 0 (va_A (wsG ad ck rf n fr a ar z pc pe pt pp pf ic ie ip iz ia st rt pb) sz) := by
  refine xof (cc := b_AG_lettersIn) (maxL := 4) (ret := (some .int)) (own := R_AG) (Qc := fun A => (xQi (dC, dI) (tyG ck) A (wsG ad ck rf n fr a ar z pc pe pt pp pf ic ie ip iz ia st rt pb) (fun r => r = nI (ltN w 8)))) (by decide) rfl rfl (Nat.le_of_ble_eq_true rfl) ?_ sz
  intro p e s m below meth c A C hnm hK hP hD hA hN hZ hS ls hl
  obtain ⟨hx, hb, hr, hml, hown, hts, hlocks⟩ := C
  have hl : lv_has ls 4 [(0, .long w)] := hl
  refine lv_iconst (v := 0) hx hb d_AG_lettersIn_0 (by decide) ?_
  refine lv_istore_n (lv' := [(2, .int 0), (0, .long w)]) hx hb d_AG_lettersIn_1 rfl hl (by decide) rfl (fun ls hl => ?_)
  refine lv_bipush (v := 56) hx hb d_AG_lettersIn_2 (by decide) ?_
  refine lv_istore_n (lv' := [(3, .int 56), (2, .int 0), (0, .long w)]) hx hb d_AG_lettersIn_4 rfl hl (by decide) rfl (fun ls hl => ?_)
  have lp5 : ∀ (fu : Nat) (t : Nat), (8 - t < fu) → (t ≤ 8) → ∀ (H : Heap) (locs : List Loc), va_P (dC, dI) vwCl (wsG ad ck rf n fr a ar z pc pe pt pp pf ic ie ip iz ia st rt pb) H → va_D A (wsG ad ck rf n fr a ar z pc pe pt pp pf ic ie ip iz ia st rt pb) → va_S A s.heap H locs → ∀ ls : Array Slot, lv_has ls 4 [(0, .long w), (2, .int (nI (ltN w t))), (3, .int (shv t))] → W p l e { frames := 0, cells := 0, slots := 0, locals := 0 } s m [.long w].toArray below meth c H locs 0 0 (MQ below (xQi (dC, dI) (tyG ck) A (wsG ad ck rf n fr a ar z pc pe pt pp pf ic ie ip iz ia st rt pb) (fun r => r = nI (ltN w 8))) [.long w].toArray s 0 0 A) (F0 m 5 ls []) := by
    intro fu
    induction fu with
    | zero => intro t hfu; exact absurd hfu (Nat.not_lt_zero _)
    | succ fu ih =>
      intro t hfu ht H locs hP hD hS ls hl
      refine lv_iload_n hx hb d_AG_lettersIn_5 rfl (lv_at hl 2 rfl) ?_
      refine lv_if_lt (tgt := 26) hx hb d_AG_lettersIn_6 (by decide) (fun c_1 => ?_) (fun c_1 => ?_)
      · skip
        have h8 : t = 8 := shv_neg ht c_1
        refine lv_iload_n hx hb d_AG_lettersIn_26 rfl (lv_at hl 1 rfl) ?_
        exact xreti (v := nI (ltN w t)) hx hb hr hlocks hK hP hD hS (rfl) (by rw [h8]) d_AG_lettersIn_27
      · skip
        have h8 : t < 8 := shv_pos ht c_1
        refine lv_lload_n hx hb d_AG_lettersIn_9 rfl (lv_at hl 0 rfl) ?_
        refine lv_iload_n hx hb d_AG_lettersIn_10 rfl (lv_at hl 2 rfl) ?_
        refine lv_lshr hx hb d_AG_lettersIn_11 rfl ?_
        refine lv_l2i hx hb d_AG_lettersIn_12 rfl ?_
        refine lv_i2b hx hb d_AG_lettersIn_13 rfl ?_
        refine lv_if_eq (tgt := 20) hx hb d_AG_lettersIn_14 (by decide) (fun c_2 => ?_) (fun c_2 => ?_)
        · skip
          refine lv_iinc (v := shv (t + 1)) (lv' := [(3, .int (shv (t + 1))), (0, .long w), (2, .int (nI (ltN w t)))]) hx hb d_AG_lettersIn_20 hl (k := 2) rfl (shv_step h8) (by decide) rfl (fun ls hl => ?_)
          refine lv_goto (tgt := 5) hx hb d_AG_lettersIn_23 (by decide) ?_
          have e9 : ltN w t = ltN w (t + 1) := by rw [ltN, if_pos (show lby w t = 0 from c_2)]
          rw [e9] at hl
          exact ih (t + 1) (by omega) (by omega) _ _ hP hD hS _ (lv_sub hl [1, 2, 0] rfl)
        · skip
          refine lv_iinc (v := nI ((ltN w t) + 1)) (lv' := [(2, .int (nI ((ltN w t) + 1))), (0, .long w), (3, .int (shv t))]) hx hb d_AG_lettersIn_17 hl (k := 1) rfl (nI_1 _) (by decide) rfl (fun ls hl => ?_)
          refine lv_iinc (v := shv (t + 1)) (lv' := [(3, .int (shv (t + 1))), (2, .int (nI ((ltN w t) + 1))), (0, .long w)]) hx hb d_AG_lettersIn_20 hl (k := 2) rfl (shv_step h8) (by decide) rfl (fun ls hl => ?_)
          refine lv_goto (tgt := 5) hx hb d_AG_lettersIn_23 (by decide) ?_
          have e9 : ltN w t + 1 = ltN w (t + 1) := by rw [ltN, if_neg (show ¬ lby w t = 0 from c_2)]
          rw [e9] at hl
          exact ih (t + 1) (by omega) (by omega) _ _ hP hD hS _ (lv_sub hl [2, 1, 0] rfl)
  exact lp5 ((8 - 0) + 1) 0 (Nat.lt_succ_self _) (by omega) _ _ hP hD hS _ (lv_sub hl [2, 1, 0] rfl)
set_option maxHeartbeats 4000000 in
set_option maxRecDepth 100000 in
theorem c_ag_placeBelow (l : Launch) (dC : Nat → ClassId) (dI : Nat → Nat → Nat) (ad : Nat → Nat) (ck : Nat → ClassId) (rf : Int32) (n : Nat) (fr : Nat → Int32) (a : Nat) (ar : Nat → Int32) (z : Nat → Nat) (pc : Nat) (pe : Int32) (pt pp : Nat) (pf : Nat → Nat → Int32) (ic : Nat) (ie ip iz ia : Int32) (st rt : Nat → Int32) (pb : Nat → Nat → Int32) (t i : Nat) (hi : i < 32) (ht : t ≤ 4096) (hti : z i + 1 ≤ t) (sz : Nat) : Met l y_AG_placeBelow w_AG_placeBelow { frames := 0, cells := 0, slots := 0, locals := 0 } (va_Pc [.ref (ad 3), .int (nI t), .int (nI i)] (xP (dC, dI) (tyG ck) (wsG ad ck rf n fr a ar z pc pe pt pp pf ic ie ip iz ia st rt pb) sz)) (xQi (dC, dI) (tyG ck) (va_A (wsG ad ck rf n fr a ar z pc pe pt pp pf ic ie ip iz ia st rt pb) sz) (wsG ad ck rf n fr a ar z pc pe pt pp pf ic ie ip iz ia st rt pb) (fun r => r = nI ((t - z i - 1) / 4 * 4))) 0 0 (va_A (wsG ad ck rf n fr a ar z pc pe pt pp pf ic ie ip iz ia st rt pb) sz) := by
  refine xof (cc := b_AG_placeBelow) (maxL := 4) (ret := (some .int)) (own := R_AG) (Qc := fun A => (xQi (dC, dI) (tyG ck) A (wsG ad ck rf n fr a ar z pc pe pt pp pf ic ie ip iz ia st rt pb) (fun r => r = nI ((t - z i - 1) / 4 * 4)))) (by decide) rfl rfl (Nat.le_of_ble_eq_true rfl) ?_ sz
  intro p e s m below meth c A C hnm hK hP hD hA hN hZ hS ls hl
  obtain ⟨hx, hb, hr, hml, hown, hts, hlocks⟩ := C
  have hl : lv_has ls 4 [(0, .ref (ad 3)), (1, .int (nI t)), (2, .int (nI i))] := hl
  refine lv_iload_n hx hb d_AG_placeBelow_0 rfl (lv_at hl 2 rfl) ?_
  refine lv_if_lt (tgt := 22) hx hb d_AG_placeBelow_1 (by decide) (fun c_1 => ?_) (fun c_1 => ?_)
  · skip
    have c_1 : i < 0 := (nI_ltI (a := i) (b := 0) (by omega) (by omega)).mp c_1
    exact absurd c_1 (Nat.not_lt_zero _)
  · skip
    have c_1 : ¬ (i < 0) := fun h9 => c_1 ((nI_ltI (a := i) (b := 0) (by omega) (by omega)).mpr h9)
    refine lv_iload_n hx hb d_AG_placeBelow_4 rfl (lv_at hl 2 rfl) ?_
    refine lv_aload_n hx hb d_AG_placeBelow_5 rfl (lv_at hl 0 rfl) ?_
    refine va_get (D := (dC, dI)) (ci := 0) (v := .ref (ad 5)) (C := R_AG) (T := T_AG) (N := 3) hx hb hts i_AG hown hK hP 3 rfl rfl 1 (by decide) (hts _ wd_57) (fun _ h9 => h9) rfl d_AG_placeBelow_6 ?_
    refine va_alen (v := 32) hx hb hK hP 5 1 rfl rfl rfl d_AG_placeBelow_9 ?_
    refine lv_icmp_ge (tgt := 22) hx hb d_AG_placeBelow_10 (by decide) (fun c_2 => ?_) (fun c_2 => ?_)
    · skip
      have c_2 : 32 ≤ i := (nI_leI (a := 32) (b := i) (by omega) (by omega)).mp c_2
      exact absurd c_2 (by omega)
    · skip
      have c_2 : ¬ (32 ≤ i) := fun h9 => c_2 ((nI_leI (a := 32) (b := i) (by omega) (by omega)).mpr h9)
      refine lv_aload_n hx hb d_AG_placeBelow_13 rfl (lv_at hl 0 rfl) ?_
      refine va_get (D := (dC, dI)) (ci := 0) (v := .ref (ad 5)) (C := R_AG) (T := T_AG) (N := 3) hx hb hts i_AG hown hK hP 3 rfl rfl 1 (by decide) (hts _ wd_57) (fun _ h9 => h9) rfl d_AG_placeBelow_14 ?_
      refine lv_iload_n hx hb d_AG_placeBelow_17 rfl (lv_at hl 2 rfl) ?_
      refine xiald (k := i) hx hb hK hP 5 1 rfl rfl (rfl) (by omega) (by decide) d_AG_placeBelow_18 ?_
      refine lv_goto (tgt := 23) hx hb d_AG_placeBelow_19 (by decide) ?_
      refine lv_istore_n (lv' := [(3, .int (nI (z i))), (0, .ref (ad 3)), (1, .int (nI t)), (2, .int (nI i))]) hx hb d_AG_placeBelow_23 rfl hl (by decide) rfl (fun ls hl => ?_)
      refine lv_iload_n hx hb d_AG_placeBelow_24 rfl (lv_at hl 2 rfl) ?_
      refine lv_iload_n hx hb d_AG_placeBelow_25 rfl (lv_at hl 0 rfl) ?_
      refine lv_isub hx hb d_AG_placeBelow_26 ?_
      refine xtopi (y := nI (t - (z i))) (pk_sub (a := t) (b := z i) (by omega)) ?_
      refine lv_iconst (v := 1) hx hb d_AG_placeBelow_27 (by decide) ?_
      refine lv_isub hx hb d_AG_placeBelow_28 ?_
      refine xtopi (y := nI ((t - (z i)) - 1)) (pk_sub (a := t - (z i)) (b := 1) (by omega)) ?_
      refine lv_bipush (v := (-4)) hx hb d_AG_placeBelow_29 (by decide) ?_
      refine lv_iand hx hb d_AG_placeBelow_31 ?_
      exact xreti (v := (nI ((t - (z i)) - 1)) &&& (-4)) hx hb hr hlocks hK hP hD hS (rfl) (p_and4 (by omega)) d_AG_placeBelow_32
set_option maxHeartbeats 4000000 in
set_option maxRecDepth 100000 in
theorem c_ag_stackPointer (l : Launch) (dC : Nat → ClassId) (dI : Nat → Nat → Nat) (ad : Nat → Nat) (ck : Nat → ClassId) (rf : Int32) (n : Nat) (fr : Nat → Int32) (a : Nat) (ar : Nat → Int32) (z : Nat → Nat) (pc : Nat) (pe : Int32) (pt pp : Nat) (pf : Nat → Nat → Int32) (ic : Nat) (ie ip iz ia : Int32) (st rt : Nat → Int32) (pb : Nat → Nat → Int32) (ha : a ≤ 32) (hz : ∀ j, z j ≤ 127) (sz : Nat) : Met l y_AG_stackPointer w_AG_stackPointer { frames := 1, cells := 0, slots := 0, locals := 23 } (va_Pc [.ref (ad 3)] (xP (dC, dI) (tyG ck) (wsG ad ck rf n fr a ar z pc pe pt pp pf ic ie ip iz ia st rt pb) sz)) (xQi (dC, dI) (tyG ck) (va_A (wsG ad ck rf n fr a ar z pc pe pt pp pf ic ie ip iz ia st rt pb) sz) (wsG ad ck rf n fr a ar z pc pe pt pp pf ic ie ip iz ia st rt pb) (fun r => r = spOf z a)) 0 0 (va_A (wsG ad ck rf n fr a ar z pc pe pt pp pf ic ie ip iz ia st rt pb) sz) := by
  refine xof (cc := b_AG_stackPointer) (maxL := 3) (ret := (some .int)) (own := R_AG) (Qc := fun A => (xQi (dC, dI) (tyG ck) A (wsG ad ck rf n fr a ar z pc pe pt pp pf ic ie ip iz ia st rt pb) (fun r => r = spOf z a))) (by decide) rfl rfl (Nat.le_of_ble_eq_true rfl) ?_ sz
  intro p e s m below meth c A C hnm hK hP hD hA hN hZ hS ls hl
  obtain ⟨hx, hb, hr, hml, hown, hts, hlocks⟩ := C
  have hl : lv_has ls 3 [(0, .ref (ad 3))] := hl
  refine lv_sipush (v := 4096) hx hb d_AG_stackPointer_0 (by decide) ?_
  refine lv_istore_n (lv' := [(1, .int 4096), (0, .ref (ad 3))]) hx hb d_AG_stackPointer_3 rfl hl (by decide) rfl (fun ls hl => ?_)
  refine lv_iconst (v := 0) hx hb d_AG_stackPointer_4 (by decide) ?_
  refine lv_istore_n (lv' := [(2, .int 0), (1, .int 4096), (0, .ref (ad 3))]) hx hb d_AG_stackPointer_5 rfl hl (by decide) rfl (fun ls hl => ?_)
  have lp6 : ∀ (fu : Nat) (i : Nat), (a - i < fu) → (i ≤ a) → ∀ (H : Heap) (locs : List Loc), va_P (dC, dI) vwCl (wsG ad ck rf n fr a ar z pc pe pt pp pf ic ie ip iz ia st rt pb) H → va_D A (wsG ad ck rf n fr a ar z pc pe pt pp pf ic ie ip iz ia st rt pb) → va_S A s.heap H locs → ∀ ls : Array Slot, lv_has ls 3 [(0, .ref (ad 3)), (1, .int (nI (tpN z i))), (2, .int (nI i))] → W p l e { frames := 1, cells := 0, slots := 0, locals := 23 } s m [.ref (ad 3)].toArray below meth c H locs 0 0 (MQ below (xQi (dC, dI) (tyG ck) A (wsG ad ck rf n fr a ar z pc pe pt pp pf ic ie ip iz ia st rt pb) (fun r => r = spOf z a)) [.ref (ad 3)].toArray s 0 0 A) (F0 m 6 ls []) := by
    intro fu
    induction fu with
    | zero => intro i hfu; exact absurd hfu (Nat.not_lt_zero _)
    | succ fu ih =>
      intro i hfu hi H locs hP hD hS ls hl
      refine lv_iload_n hx hb d_AG_stackPointer_6 rfl (lv_at hl 2 rfl) ?_
      refine lv_aload_n hx hb d_AG_stackPointer_7 rfl (lv_at hl 0 rfl) ?_
      refine va_get (D := (dC, dI)) (ci := 0) (v := .int (nI a)) (C := R_AG) (T := T_AG) (N := 3) hx hb hts i_AG hown hK hP 3 rfl rfl 2 (by decide) (hts _ wd_58) (fun _ h9 => h9) rfl d_AG_stackPointer_8 ?_
      refine lv_icmp_ge (tgt := 27) hx hb d_AG_stackPointer_11 (by decide) (fun c_1 => ?_) (fun c_1 => ?_)
      · skip
        have c_1 : a ≤ i := (nI_leI (a := a) (b := i) (by omega) (by omega)).mp c_1
        have hia : i = a := by omega
        refine lv_iload_n hx hb d_AG_stackPointer_27 rfl (lv_at hl 1 rfl) ?_
        refine lv_iconst (v := 4) hx hb d_AG_stackPointer_28 (by decide) ?_
        refine lv_aload_n hx hb d_AG_stackPointer_29 rfl (lv_at hl 0 rfl) ?_
        refine va_get (D := (dC, dI)) (ci := 0) (v := .int (nI a)) (C := R_AG) (T := T_AG) (N := 3) hx hb hts i_AG hown hK hP 3 rfl rfl 2 (by decide) (hts _ wd_58) (fun _ h9 => h9) rfl d_AG_stackPointer_30 ?_
        refine lv_iconst (v := 1) hx hb d_AG_stackPointer_33 (by decide) ?_
        refine lv_iadd hx hb d_AG_stackPointer_34 ?_
        refine xtopi (y := nI (a + 1)) (nI_add (a) (1)) ?_
        refine lv_imul hx hb d_AG_stackPointer_35 ?_
        refine xtopi (y := nI (4 * (a + 1))) (pk_mul (4) (a + 1)) ?_
        refine lv_isub hx hb d_AG_stackPointer_36 ?_
        refine lv_bipush (v := (-16)) hx hb d_AG_stackPointer_37 (by decide) ?_
        refine lv_iand hx hb d_AG_stackPointer_39 ?_
        exact xreti (v := ((nI (tpN z i)) - (nI (4 * (a + 1)))) &&& (-16)) hx hb hr hlocks hK hP hD hS (rfl) (by rw [hia]; rfl) d_AG_stackPointer_40
      · skip
        have c_1 : ¬ (a ≤ i) := fun h9 => c_1 ((nI_leI (a := a) (b := i) (by omega) (by omega)).mpr h9)
        have htp := tpN_ge hz i; have hzi := hz i; have htl := tpN_le z i
        refine lv_aload_n hx hb d_AG_stackPointer_14 rfl (lv_at hl 0 rfl) ?_
        refine lv_iload_n hx hb d_AG_stackPointer_15 rfl (lv_at hl 1 rfl) ?_
        refine lv_iload_n hx hb d_AG_stackPointer_16 rfl (lv_at hl 2 rfl) ?_
        refine xcalli (va_runV (As := [.int (nI (tpN z i)), .int (nI i)]) (rest := []) ⟨hx, hb, hml, hown, hts⟩ (c_ag_placeBelow l dC dI ad ck rf n fr a ar z pc pe pt pp pf ic ie ip iz ia st rt pb (tpN z i) i (by omega) (by omega) (by omega) H.size) (cwV 2 hts (xgV wd_315 wd_316 wd_317 wd_17 wd_318) rfl rfl rfl (by decide +kernel) ⟨Nat.le_of_ble_eq_true rfl, Nat.le_of_ble_eq_true rfl⟩) (xpreV (q0 := 3) hK hN hZ hA hS hP hD rfl rfl) rfl rfl hl.1 rfl (lv_room (Nat.le_of_ble_eq_true rfl)) d_AG_stackPointer_17 ⟨Nat.zero_le _, Nat.zero_le _⟩) hD hS hA (fun r_2 H locs hr_2 hP hD hS => ?_)
        subst hr_2
        refine lv_istore_n (lv' := [(1, .int (nI ((tpN z i - z i - 1) / 4 * 4))), (0, .ref (ad 3)), (2, .int (nI i))]) hx hb d_AG_stackPointer_20 rfl hl (by decide) rfl (fun ls hl => ?_)
        refine lv_iinc (v := nI (i + 1)) (lv' := [(2, .int (nI (i + 1))), (1, .int (nI ((tpN z i - z i - 1) / 4 * 4))), (0, .ref (ad 3))]) hx hb d_AG_stackPointer_21 hl (k := 2) rfl (nI_1 _) (by decide) rfl (fun ls hl => ?_)
        refine lv_goto (tgt := 6) hx hb d_AG_stackPointer_24 (by decide) ?_
        exact ih (i + 1) (by omega) (by omega) _ _ hP hD hS _ (lv_sub hl [2, 1, 0] rfl)
  exact lp6 ((a - 0) + 1) 0 (Nat.lt_succ_self _) (by omega) _ _ hP hD hS _ (lv_sub hl [2, 1, 0] rfl)
set_option maxHeartbeats 4000000 in
set_option maxRecDepth 100000 in
theorem c_ag_extend (l : Launch) (dC : Nat → ClassId) (dI : Nat → Nat → Nat) (ad : Nat → Nat) (ck : Nat → ClassId) (rf : Int32) (n : Nat) (fr : Nat → Int32) (a : Nat) (ar : Nat → Int32) (z : Nat → Nat) (pc : Nat) (pe : Int32) (pt pp : Nat) (pf : Nat → Nat → Int32) (ic : Nat) (ie ip iz ia : Int32) (st rt : Nat → Int32) (pb : Nat → Nat → Int32) (w : Int64) (ha : a ≤ 32) (hz : ∀ j, z j ≤ 127) (sz : Nat) : Met l y_AG_extend w_AG_extend { frames := 1, cells := 0, slots := 0, locals := 23 } (va_Pc [.ref (ad 3), .long w] (xP (dC, dI) (tyG ck) (wsG ad ck rf n fr a ar z pc pe pt pp pf ic ie ip iz ia st rt pb) sz)) (xQi (dC, dI) (tyG ck) (va_A (wsG ad ck rf n fr a ar z pc pe pt pp pf ic ie ip iz ia st rt pb) sz) (wsG ad ck rf n fr a (exFA a ar z w) (exFZ a z w) pc pe pt pp pf ic ie ip iz ia st rt pb) (fun r => r = bI (0 < a ∧ z (a - 1) + ltN w 8 ≤ 127))) 0 0 (va_A (wsG ad ck rf n fr a ar z pc pe pt pp pf ic ie ip iz ia st rt pb) sz) := by
  refine xof (cc := b_AG_extend) (maxL := 6) (ret := (some .boolean)) (own := R_AG) (Qc := fun A => (xQi (dC, dI) (tyG ck) A (wsG ad ck rf n fr a (exFA a ar z w) (exFZ a z w) pc pe pt pp pf ic ie ip iz ia st rt pb) (fun r => r = bI (0 < a ∧ z (a - 1) + ltN w 8 ≤ 127)))) (by decide) rfl rfl (Nat.le_of_ble_eq_true rfl) ?_ sz
  intro p e s m below meth c A C hnm hK hP hD hA hN hZ hS ls hl
  obtain ⟨hx, hb, hr, hml, hown, hts, hlocks⟩ := C
  have hl : lv_has ls 6 [(0, .ref (ad 3)), (1, .long w)] := hl
  refine lv_aload_n hx hb d_AG_extend_0 rfl (lv_at hl 0 rfl) ?_
  refine va_get (D := (dC, dI)) (ci := 0) (v := .int (nI a)) (C := R_AG) (T := T_AG) (N := 3) hx hb hts i_AG hown hK hP 3 rfl rfl 2 (by decide) (hts _ wd_58) (fun _ h9 => h9) rfl d_AG_extend_1 ?_
  refine lv_iconst (v := 1) hx hb d_AG_extend_4 (by decide) ?_
  refine lv_isub hx hb d_AG_extend_5 ?_
  rcases Nat.eq_zero_or_pos a with h0 | h0
  · skip
    refine xtopi (y := (-1)) (by rw [h0]; decide) ?_
    refine lv_istore_n (lv' := [(3, .int (-1)), (0, .ref (ad 3)), (1, .long w)]) hx hb d_AG_extend_6 rfl hl (by decide) rfl (fun ls hl => ?_)
    refine lv_iload_n hx hb d_AG_extend_7 rfl (lv_at hl 0 rfl) ?_
    refine lv_if_lt (tgt := 36) hx hb d_AG_extend_8 (by decide) (fun c_1 => ?_) (fun c_1 => ?_)
    · skip
      refine lv_iconst (v := 0) hx hb d_AG_extend_36 (by decide) ?_
      have hw9 : wsG ad ck rf n fr a ar z pc pe pt pp pf ic ie ip iz ia st rt pb = wsG ad ck rf n fr a (exFA a ar z w) (exFZ a z w) pc pe pt pp pf ic ie ip iz ia st rt pb := by rw [exFA, exFZ, if_neg (show ¬ (0 < a ∧ z (a - 1) + ltN w 8 ≤ 127) from by omega), if_neg (show ¬ (0 < a ∧ z (a - 1) + ltN w 8 ≤ 127) from by omega)]
      rw [hw9] at hP hD
      exact xreti (v := 0) hx hb hr hlocks hK hP hD hS (rfl) (bI_0 (by omega)) d_AG_extend_37
    · exact absurd c_1 (by decide)
  · skip
    refine xtopi (y := nI (a - 1)) (pk_sub (a := a) (b := 1) (by omega)) ?_
    have hzb := hz (a - 1)
    have hl8 := ltN_le w 8
    refine lv_istore_n (lv' := [(3, .int (nI (a - 1))), (0, .ref (ad 3)), (1, .long w)]) hx hb d_AG_extend_6 rfl hl (by decide) rfl (fun ls hl => ?_)
    refine lv_iload_n hx hb d_AG_extend_7 rfl (lv_at hl 0 rfl) ?_
    refine lv_if_lt (tgt := 36) hx hb d_AG_extend_8 (by decide) (fun c_2 => ?_) (fun c_2 => ?_)
    · skip
      have c_2 : a - 1 < 0 := (nI_ltI (a := a - 1) (b := 0) (by omega) (by omega)).mp c_2
      exact absurd c_2 (Nat.not_lt_zero _)
    · skip
      have c_2 : ¬ (a - 1 < 0) := fun h9 => c_2 ((nI_ltI (a := a - 1) (b := 0) (by omega) (by omega)).mpr h9)
      refine lv_iload_n hx hb d_AG_extend_11 rfl (lv_at hl 0 rfl) ?_
      refine lv_aload_n hx hb d_AG_extend_12 rfl (lv_at hl 1 rfl) ?_
      refine va_get (D := (dC, dI)) (ci := 0) (v := .ref (ad 5)) (C := R_AG) (T := T_AG) (N := 3) hx hb hts i_AG hown hK hP 3 rfl rfl 1 (by decide) (hts _ wd_57) (fun _ h9 => h9) rfl d_AG_extend_13 ?_
      refine va_alen (v := 32) hx hb hK hP 5 1 rfl rfl rfl d_AG_extend_16 ?_
      refine lv_icmp_ge (tgt := 36) hx hb d_AG_extend_17 (by decide) (fun c_3 => ?_) (fun c_3 => ?_)
      · skip
        have c_3 : 32 ≤ a - 1 := (nI_leI (a := 32) (b := a - 1) (by omega) (by omega)).mp c_3
        exact absurd c_3 (by omega)
      · skip
        have c_3 : ¬ (32 ≤ a - 1) := fun h9 => c_3 ((nI_leI (a := 32) (b := a - 1) (by omega) (by omega)).mpr h9)
        refine lv_aload_n hx hb d_AG_extend_20 rfl (lv_at hl 1 rfl) ?_
        refine va_get (D := (dC, dI)) (ci := 0) (v := .ref (ad 5)) (C := R_AG) (T := T_AG) (N := 3) hx hb hts i_AG hown hK hP 3 rfl rfl 1 (by decide) (hts _ wd_57) (fun _ h9 => h9) rfl d_AG_extend_21 ?_
        refine lv_iload_n hx hb d_AG_extend_24 rfl (lv_at hl 0 rfl) ?_
        refine xiald (k := a - 1) hx hb hK hP 5 1 rfl rfl (rfl) (by omega) (by decide) d_AG_extend_25 ?_
        refine lv_lload_n hx hb d_AG_extend_26 rfl (lv_at hl 2 rfl) ?_
        refine xcalli (va_runS (As := [.long w]) (rest := [.int (nI (z (a - 1)))]) ⟨hx, hb, hml, hown, hts⟩ (c_ag_lettersIn l dC dI ad ck rf n fr a ar z pc pe pt pp pf ic ie ip iz ia st rt pb w s.heap.size) (cwS 1 hts (xgS wd_248 wd_249 wd_17 wd_250) rfl rfl rfl (by decide +kernel) ⟨Nat.le_of_ble_eq_true rfl, Nat.le_of_ble_eq_true rfl⟩) (xpreS hK hN hZ hA hS hP hD) rfl rfl hl.1 rfl (lv_room (Nat.le_of_ble_eq_true rfl)) d_AG_extend_27 ⟨Nat.zero_le _, Nat.zero_le _⟩) hD hS hA (fun r_4 H locs hr_4 hP hD hS => ?_)
        subst hr_4
        refine lv_iadd hx hb d_AG_extend_30 ?_
        refine xtopi (y := nI ((z (a - 1)) + (ltN w 8))) (nI_add (z (a - 1)) (ltN w 8)) ?_
        refine lv_bipush (v := 127) hx hb d_AG_extend_31 (by decide) ?_
        refine lv_icmp_le (tgt := 38) hx hb d_AG_extend_33 (by decide) (fun c_5 => ?_) (fun c_5 => ?_)
        · skip
          have c_5 : (z (a - 1)) + (ltN w 8) ≤ 127 := (nI_leI (a := (z (a - 1)) + (ltN w 8)) (b := 127) (by omega) (by omega)).mp c_5
          refine lv_bipush (v := 56) hx hb d_AG_extend_38 (by decide) ?_
          refine lv_istore (lv' := [(4, .int 56), (3, .int (nI (a - 1))), (0, .ref (ad 3)), (1, .long w)]) hx hb d_AG_extend_40 hl (by decide) rfl (fun ls hl => ?_)
          have lp42 : ∀ (fu : Nat) (t : Nat), (8 - t < fu) → (t ≤ 8) → ∀ (H : Heap) (locs : List Loc), va_P (dC, dI) vwCl (wsG ad ck rf n fr a (exA ar z (a - 1) w t) (upn z (a - 1) (z (a - 1) + ltN w t)) pc pe pt pp pf ic ie ip iz ia st rt pb) H → va_D A (wsG ad ck rf n fr a (exA ar z (a - 1) w t) (upn z (a - 1) (z (a - 1) + ltN w t)) pc pe pt pp pf ic ie ip iz ia st rt pb) → va_S A s.heap H locs → ∀ ls : Array Slot, lv_has ls 6 [(0, .ref (ad 3)), (1, .long w), (3, .int (nI (a - 1))), (4, .int (shv t))] → W p l e { frames := 1, cells := 0, slots := 0, locals := 23 } s m [.ref (ad 3), .long w].toArray below meth c H locs 0 0 (MQ below (xQi (dC, dI) (tyG ck) A (wsG ad ck rf n fr a (exFA a ar z w) (exFZ a z w) pc pe pt pp pf ic ie ip iz ia st rt pb) (fun r => r = bI (0 < a ∧ z (a - 1) + ltN w 8 ≤ 127))) [.ref (ad 3), .long w].toArray s 0 0 A) (F0 m 42 ls []) := by
            intro fu
            induction fu with
            | zero => intro t hfu; exact absurd hfu (Nat.not_lt_zero _)
            | succ fu ih =>
              intro t hfu ht H locs hP hD hS ls hl
              refine lv_iload hx hb d_AG_extend_42 (lv_at hl 3 rfl) ?_
              refine lv_if_lt (tgt := 94) hx hb d_AG_extend_44 (by decide) (fun c_6 => ?_) (fun c_6 => ?_)
              · skip
                have h8 : t = 8 := shv_neg ht c_6
                refine lv_iconst (v := 1) hx hb d_AG_extend_94 (by decide) ?_
                have hw9 : wsG ad ck rf n fr a (exA ar z (a - 1) w t) (upn z (a - 1) (z (a - 1) + ltN w t)) pc pe pt pp pf ic ie ip iz ia st rt pb = wsG ad ck rf n fr a (exFA a ar z w) (exFZ a z w) pc pe pt pp pf ic ie ip iz ia st rt pb := by rw [exFA, exFZ, if_pos (show 0 < a ∧ z (a - 1) + ltN w 8 ≤ 127 from ⟨h0, by omega⟩), if_pos (show 0 < a ∧ z (a - 1) + ltN w 8 ≤ 127 from ⟨h0, by omega⟩), h8]
                rw [hw9] at hP hD
                exact xreti (v := 1) hx hb hr hlocks hK hP hD hS (rfl) (bI_1 ⟨h0, by omega⟩) d_AG_extend_95
              · skip
                have h8 : t < 8 := shv_pos ht c_6
                have hzt : upn z (a - 1) (z (a - 1) + ltN w t) (a - 1) = z (a - 1) + ltN w t := upn_eq _ _ _
                refine lv_lload_n hx hb d_AG_extend_47 rfl (lv_at hl 1 rfl) ?_
                refine lv_iload hx hb d_AG_extend_48 (lv_at hl 3 rfl) ?_
                refine lv_lshr hx hb d_AG_extend_50 rfl ?_
                refine lv_l2i hx hb d_AG_extend_51 rfl ?_
                refine lv_i2b hx hb d_AG_extend_52 rfl ?_
                refine lv_istore (lv' := [(5, .int (((w >>> ((shv t).toInt64 &&& 63)).toInt32).toInt8.toInt32)), (0, .ref (ad 3)), (1, .long w), (3, .int (nI (a - 1))), (4, .int (shv t))]) hx hb d_AG_extend_53 hl (by decide) rfl (fun ls hl => ?_)
                refine lv_iload hx hb d_AG_extend_55 (lv_at hl 0 rfl) ?_
                refine lv_if_eq (tgt := 88) hx hb d_AG_extend_57 (by decide) (fun c_7 => ?_) (fun c_7 => ?_)
                · skip
                  refine lv_iinc (v := shv (t + 1)) (lv' := [(4, .int (shv (t + 1))), (5, .int (((w >>> ((shv t).toInt64 &&& 63)).toInt32).toInt8.toInt32)), (0, .ref (ad 3)), (1, .long w), (3, .int (nI (a - 1)))]) hx hb d_AG_extend_88 hl (k := 4) rfl (shv_step h8) (by decide) rfl (fun ls hl => ?_)
                  refine lv_goto (tgt := 42) hx hb d_AG_extend_91 (by decide) ?_
                  have hc9 : lby w t = 0 := c_7
                  have hw9 : wsG ad ck rf n fr a (exA ar z (a - 1) w t) (upn z (a - 1) (z (a - 1) + ltN w t)) pc pe pt pp pf ic ie ip iz ia st rt pb = wsG ad ck rf n fr a (exA ar z (a - 1) w (t + 1)) (upn z (a - 1) (z (a - 1) + ltN w (t + 1))) pc pe pt pp pf ic ie ip iz ia st rt pb := by rw [exA, ltN, if_pos hc9, if_pos hc9]
                  rw [hw9] at hP hD
                  exact ih (t + 1) (by omega) (by omega) _ _ hP hD hS _ (lv_sub hl [2, 3, 4, 0] rfl)
                · skip
                  have hc8 : ¬ lby w t = 0 := c_7
                  have hm8 := ltN_mono w (t + 1) (8 - (t + 1))
                  rw [show t + 1 + (8 - (t + 1)) = 8 from by omega, ltN, if_neg hc8] at hm8
                  refine lv_aload_n hx hb d_AG_extend_60 rfl (lv_at hl 1 rfl) ?_
                  refine va_get (D := (dC, dI)) (ci := 0) (v := .ref (ad 4)) (C := R_AG) (T := T_AG) (N := 3) hx hb hts i_AG hown hK hP 3 rfl rfl 0 (by decide) (hts _ wd_56) (fun _ h9 => h9) rfl d_AG_extend_61 ?_
                  refine lv_iload_n hx hb d_AG_extend_64 rfl (lv_at hl 3 rfl) ?_
                  refine lv_bipush (v := 127) hx hb d_AG_extend_65 (by decide) ?_
                  refine lv_imul hx hb d_AG_extend_67 ?_
                  refine xtopi (y := nI ((a - 1) * 127)) (pk_mul (a - 1) (127)) ?_
                  refine lv_aload_n hx hb d_AG_extend_68 rfl (lv_at hl 1 rfl) ?_
                  refine va_get (D := (dC, dI)) (ci := 0) (v := .ref (ad 5)) (C := R_AG) (T := T_AG) (N := 3) hx hb hts i_AG hown hK hP 3 rfl rfl 1 (by decide) (hts _ wd_57) (fun _ h9 => h9) rfl d_AG_extend_69 ?_
                  refine lv_iload_n hx hb d_AG_extend_72 rfl (lv_at hl 3 rfl) ?_
                  refine xiald (k := a - 1) hx hb hK hP 5 1 rfl rfl (rfl) (by omega) (by decide) d_AG_extend_73 ?_
                  refine lv_iadd hx hb d_AG_extend_74 ?_
                  refine xtopi (y := nI (((a - 1) * 127) + ((upn z (a - 1) (z (a - 1) + ltN w t)) (a - 1)))) (nI_add ((a - 1) * 127) ((upn z (a - 1) (z (a - 1) + ltN w t)) (a - 1))) ?_
                  refine lv_iload hx hb d_AG_extend_75 (lv_at hl 0 rfl) ?_
                  refine xbast (k := ((a - 1) * 127) + ((upn z (a - 1) (z (a - 1) + ltN w t)) (a - 1))) (x' := ((w >>> ((shv t).toInt64 &&& 63)).toInt32).toInt8.toInt32) (ws1 := wsG ad ck rf n fr a (upd (exA ar z (a - 1) w t) (((a - 1) * 127) + ((upn z (a - 1) (z (a - 1) + ltN w t)) (a - 1))) (((w >>> ((shv t).toInt64 &&& 63)).toInt32).toInt8.toInt32)) (upn z (a - 1) (z (a - 1) + ltN w t)) pc pe pt pp pf ic ie ip iz ia st rt pb) hx hb hK hP hD hS 4 0 rfl rfl (rfl) (by omega) (by decide) (pk_vb _) rfl d_AG_extend_77 (fun H locs hP hD hS => ?_)
                  refine lv_aload_n hx hb d_AG_extend_78 rfl (lv_at hl 1 rfl) ?_
                  refine va_get (D := (dC, dI)) (ci := 0) (v := .ref (ad 5)) (C := R_AG) (T := T_AG) (N := 3) hx hb hts i_AG hown hK hP 3 rfl rfl 1 (by decide) (hts _ wd_57) (fun _ h9 => h9) rfl d_AG_extend_79 ?_
                  refine lv_iload_n hx hb d_AG_extend_82 rfl (lv_at hl 3 rfl) ?_
                  refine lv_dup2_11 hx hb d_AG_extend_83 rfl rfl ?_
                  refine xiald (k := a - 1) hx hb hK hP 5 1 rfl rfl (rfl) (by omega) (by decide) d_AG_extend_84 ?_
                  refine lv_iconst (v := 1) hx hb d_AG_extend_85 (by decide) ?_
                  refine lv_iadd hx hb d_AG_extend_86 ?_
                  refine xtopi (y := nI (((upn z (a - 1) (z (a - 1) + ltN w t)) (a - 1)) + 1)) (nI_add ((upn z (a - 1) (z (a - 1) + ltN w t)) (a - 1)) (1)) ?_
                  refine xiast (k := a - 1) (ws1 := wsG ad ck rf n fr a (upd (exA ar z (a - 1) w t) (((a - 1) * 127) + ((upn z (a - 1) (z (a - 1) + ltN w t)) (a - 1))) (((w >>> ((shv t).toInt64 &&& 63)).toInt32).toInt8.toInt32)) (upn (upn z (a - 1) (z (a - 1) + ltN w t)) (a - 1) (((upn z (a - 1) (z (a - 1) + ltN w t)) (a - 1)) + 1)) pc pe pt pp pf ic ie ip iz ia st rt pb) hx hb hK hP hD hS 5 1 rfl rfl (rfl) (by omega) (by decide) wsG_putZ d_AG_extend_87 (fun H locs hP hD hS => ?_)
                  refine lv_iinc (v := shv (t + 1)) (lv' := [(4, .int (shv (t + 1))), (5, .int (((w >>> ((shv t).toInt64 &&& 63)).toInt32).toInt8.toInt32)), (0, .ref (ad 3)), (1, .long w), (3, .int (nI (a - 1)))]) hx hb d_AG_extend_88 hl (k := 4) rfl (shv_step h8) (by decide) rfl (fun ls hl => ?_)
                  refine lv_goto (tgt := 42) hx hb d_AG_extend_91 (by decide) ?_
                  have hc9 : ¬ lby w t = 0 := c_7
                  have hw9 : wsG ad ck rf n fr a (upd (exA ar z (a - 1) w t) (((a - 1) * 127) + ((upn z (a - 1) (z (a - 1) + ltN w t)) (a - 1))) (((w >>> ((shv t).toInt64 &&& 63)).toInt32).toInt8.toInt32)) (upn (upn z (a - 1) (z (a - 1) + ltN w t)) (a - 1) (((upn z (a - 1) (z (a - 1) + ltN w t)) (a - 1)) + 1)) pc pe pt pp pf ic ie ip iz ia st rt pb = wsG ad ck rf n fr a (exA ar z (a - 1) w (t + 1)) (upn z (a - 1) (z (a - 1) + ltN w (t + 1))) pc pe pt pp pf ic ie ip iz ia st rt pb := by rw [exA, ltN, if_neg hc9, if_neg hc9, hzt, upn_upn, Nat.add_assoc]; rfl
                  rw [hw9] at hP hD
                  exact ih (t + 1) (by omega) (by omega) _ _ hP hD hS _ (lv_sub hl [2, 3, 4, 0] rfl)
          have ez0 : upn z (a - 1) (z (a - 1) + ltN w 0) = z := upn_self z (a - 1)
          have hP : va_P (dC, dI) vwCl (wsG ad ck rf n fr a ar (upn z (a - 1) (z (a - 1) + ltN w 0)) pc pe pt pp pf ic ie ip iz ia st rt pb) H := by rw [ez0]; exact hP
          have hD : va_D A (wsG ad ck rf n fr a ar (upn z (a - 1) (z (a - 1) + ltN w 0)) pc pe pt pp pf ic ie ip iz ia st rt pb) := by rw [ez0]; exact hD
          exact lp42 ((8 - 0) + 1) 0 (Nat.lt_succ_self _) (by omega) _ _ hP hD hS _ (lv_sub hl [2, 3, 1, 0] rfl)
        · skip
          have c_5 : ¬ ((z (a - 1)) + (ltN w 8) ≤ 127) := fun h9 => c_5 ((nI_leI (a := (z (a - 1)) + (ltN w 8)) (b := 127) (by omega) (by omega)).mpr h9)
          refine lv_iconst (v := 0) hx hb d_AG_extend_36 (by decide) ?_
          have hw9 : wsG ad ck rf n fr a ar z pc pe pt pp pf ic ie ip iz ia st rt pb = wsG ad ck rf n fr a (exFA a ar z w) (exFZ a z w) pc pe pt pp pf ic ie ip iz ia st rt pb := by rw [exFA, exFZ, if_neg (show ¬ (0 < a ∧ z (a - 1) + ltN w 8 ≤ 127) from by omega), if_neg (show ¬ (0 < a ∧ z (a - 1) + ltN w 8 ≤ 127) from by omega)]
          rw [hw9] at hP hD
          exact xreti (v := 0) hx hb hr hlocks hK hP hD hS (rfl) (bI_0 (by omega)) d_AG_extend_37
end
section
/-! PAGES: what their methods compute -/
def zf (j : Nat) (f : Nat → Int32) : Nat → Int32 := fun k => if k < j then 0 else f k
theorem zf_step (j : Nat) (f : Nat → Int32) : upd (zf j f) j 0 = zf (j + 1) f := by
  funext k
  by_cases h : k = j
  · simp [upd, zf, h]
  · by_cases h2 : k < j
    · simp [upd, zf, h, h2, Nat.lt_succ_of_lt h2]
    · simp [upd, zf, h, h2, show ¬ k < j + 1 from by omega]
theorem zf_0 (f : Nat → Int32) : zf 0 f = f := by
  funext k
  simp [zf]
theorem upr_self (pb : Nat → Nat → Int32) (i : Nat) : upr pb i (pb i) = pb := by
  funext j
  by_cases h : j = i <;> simp [upr, h]
theorem upr_upr (pb : Nat → Nat → Int32) (i : Nat) (f g : Nat → Int32) : upr (upr pb i f) i g = upr pb i g := by
  funext j
  by_cases h : j = i <;> simp [upr, h]
def rdB (f : Nat → Int32) (k : Int32) : Int32 := if 0 ≤ k.toInt ∧ k.toInt < 4096 then f k.toInt.toNat &&& 255 else -1
theorem p_h2 {k m n : Nat} (hk : k < 2 ^ 31) (hkm : k + m ≤ n) (hn : n ≤ 65536) : 0 ≤ (nI k).toInt64.toInt ∧ 0 ≤ (nI m).toInt64.toInt ∧ (nI k).toInt64.toInt + (nI m).toInt64.toInt ≤ (n : Int) := by
  rw [Int32.toInt_toInt64, Int32.toInt_toInt64, nI_toInt hk, nI_toInt (by omega)]
  omega
end
section
theorem d_AR_fill_0 : decode b_AR_fill 0 = .ok (.iconst 0, 1) := by decide +kernel
theorem d_AR_fill_1 : decode b_AR_fill 1 = .ok (.istore_n 2, 1) := by decide +kernel
theorem d_AR_fill_2 : decode b_AR_fill 2 = .ok (.aload_n 0, 1) := by decide +kernel
theorem d_AR_fill_3 : decode b_AR_fill 3 = .ok (.arraylength, 1) := by decide +kernel
theorem d_AR_fill_4 : decode b_AR_fill 4 = .ok (.istore_n 3, 1) := by decide +kernel
theorem d_AR_fill_5 : decode b_AR_fill 5 = .ok (.iload_n 2, 1) := by decide +kernel
theorem d_AR_fill_6 : decode b_AR_fill 6 = .ok (.iload_n 3, 1) := by decide +kernel
theorem d_AR_fill_7 : decode b_AR_fill 7 = .ok (.if_icmp .ge 13, 3) := by decide +kernel
theorem d_AR_fill_10 : decode b_AR_fill 10 = .ok (.aload_n 0, 1) := by decide +kernel
theorem d_AR_fill_11 : decode b_AR_fill 11 = .ok (.iload_n 2, 1) := by decide +kernel
theorem d_AR_fill_12 : decode b_AR_fill 12 = .ok (.iload_n 1, 1) := by decide +kernel
theorem d_AR_fill_13 : decode b_AR_fill 13 = .ok (.bastore, 1) := by decide +kernel
theorem d_AR_fill_14 : decode b_AR_fill 14 = .ok (.iinc 2 1, 3) := by decide +kernel
theorem d_AR_fill_17 : decode b_AR_fill 17 = .ok (.goto (-12), 3) := by decide +kernel
theorem d_AR_fill_20 : decode b_AR_fill 20 = .ok (.return_, 1) := by decide +kernel
theorem d_PG_clear_0 : decode b_PG_clear 0 = .ok (.aload_n 0, 1) := by decide +kernel
theorem d_PG_clear_1 : decode b_PG_clear 1 = .ok (.iload_n 1, 1) := by decide +kernel
theorem d_PG_clear_2 : decode b_PG_clear 2 = .ok (.putfield 15, 3) := by decide +kernel
theorem d_PG_clear_5 : decode b_PG_clear 5 = .ok (.aload_n 0, 1) := by decide +kernel
theorem d_PG_clear_6 : decode b_PG_clear 6 = .ok (.iload_n 2, 1) := by decide +kernel
theorem d_PG_clear_7 : decode b_PG_clear 7 = .ok (.putfield 19, 3) := by decide +kernel
theorem d_PG_clear_10 : decode b_PG_clear 10 = .ok (.aload_n 0, 1) := by decide +kernel
theorem d_PG_clear_11 : decode b_PG_clear 11 = .ok (.getfield 9, 3) := by decide +kernel
theorem d_PG_clear_14 : decode b_PG_clear 14 = .ok (.iconst 0, 1) := by decide +kernel
theorem d_PG_clear_15 : decode b_PG_clear 15 = .ok (.invokestatic 22, 3) := by decide +kernel
theorem d_PG_clear_18 : decode b_PG_clear 18 = .ok (.return_, 1) := by decide +kernel
theorem d_PG_read_0 : decode b_PG_read 0 = .ok (.iload_n 1, 1) := by decide +kernel
theorem d_PG_read_1 : decode b_PG_read 1 = .ok (.ifCond .lt 25, 3) := by decide +kernel
theorem d_PG_read_4 : decode b_PG_read 4 = .ok (.iload_n 1, 1) := by decide +kernel
theorem d_PG_read_5 : decode b_PG_read 5 = .ok (.aload_n 0, 1) := by decide +kernel
theorem d_PG_read_6 : decode b_PG_read 6 = .ok (.getfield 9, 3) := by decide +kernel
theorem d_PG_read_9 : decode b_PG_read 9 = .ok (.arraylength, 1) := by decide +kernel
theorem d_PG_read_10 : decode b_PG_read 10 = .ok (.if_icmp .ge 16, 3) := by decide +kernel
theorem d_PG_read_13 : decode b_PG_read 13 = .ok (.aload_n 0, 1) := by decide +kernel
theorem d_PG_read_14 : decode b_PG_read 14 = .ok (.getfield 9, 3) := by decide +kernel
theorem d_PG_read_17 : decode b_PG_read 17 = .ok (.iload_n 1, 1) := by decide +kernel
theorem d_PG_read_18 : decode b_PG_read 18 = .ok (.baload, 1) := by decide +kernel
theorem d_PG_read_19 : decode b_PG_read 19 = .ok (.sipush 255, 3) := by decide +kernel
theorem d_PG_read_22 : decode b_PG_read 22 = .ok (.iand, 1) := by decide +kernel
theorem d_PG_read_23 : decode b_PG_read 23 = .ok (.goto 4, 3) := by decide +kernel
theorem d_PG_read_26 : decode b_PG_read 26 = .ok (.iconst (-1), 1) := by decide +kernel
theorem d_PG_read_27 : decode b_PG_read 27 = .ok (.ireturn, 1) := by decide +kernel
theorem d_PG_writeNumber_0 : decode b_PG_writeNumber 0 = .ok (.iload_n 1, 1) := by decide +kernel
theorem d_PG_writeNumber_1 : decode b_PG_writeNumber 1 = .ok (.ifCond .lt 14, 3) := by decide +kernel
theorem d_PG_writeNumber_4 : decode b_PG_writeNumber 4 = .ok (.iload_n 1, 1) := by decide +kernel
theorem d_PG_writeNumber_5 : decode b_PG_writeNumber 5 = .ok (.aload_n 0, 1) := by decide +kernel
theorem d_PG_writeNumber_6 : decode b_PG_writeNumber 6 = .ok (.getfield 9, 3) := by decide +kernel
theorem d_PG_writeNumber_9 : decode b_PG_writeNumber 9 = .ok (.arraylength, 1) := by decide +kernel
theorem d_PG_writeNumber_10 : decode b_PG_writeNumber 10 = .ok (.iconst 4, 1) := by decide +kernel
theorem d_PG_writeNumber_11 : decode b_PG_writeNumber 11 = .ok (.isub, 1) := by decide +kernel
theorem d_PG_writeNumber_12 : decode b_PG_writeNumber 12 = .ok (.if_icmp .le 4, 3) := by decide +kernel
theorem d_PG_writeNumber_15 : decode b_PG_writeNumber 15 = .ok (.return_, 1) := by decide +kernel
theorem d_PG_writeNumber_16 : decode b_PG_writeNumber 16 = .ok (.iconst 0, 1) := by decide +kernel
theorem d_PG_writeNumber_17 : decode b_PG_writeNumber 17 = .ok (.istore_n 3, 1) := by decide +kernel
theorem d_PG_writeNumber_18 : decode b_PG_writeNumber 18 = .ok (.iload_n 3, 1) := by decide +kernel
theorem d_PG_writeNumber_19 : decode b_PG_writeNumber 19 = .ok (.iconst 4, 1) := by decide +kernel
theorem d_PG_writeNumber_20 : decode b_PG_writeNumber 20 = .ok (.if_icmp .ge 24, 3) := by decide +kernel
theorem d_PG_writeNumber_23 : decode b_PG_writeNumber 23 = .ok (.aload_n 0, 1) := by decide +kernel
theorem d_PG_writeNumber_24 : decode b_PG_writeNumber 24 = .ok (.getfield 9, 3) := by decide +kernel
theorem d_PG_writeNumber_27 : decode b_PG_writeNumber 27 = .ok (.iload_n 1, 1) := by decide +kernel
theorem d_PG_writeNumber_28 : decode b_PG_writeNumber 28 = .ok (.iload_n 3, 1) := by decide +kernel
theorem d_PG_writeNumber_29 : decode b_PG_writeNumber 29 = .ok (.iadd, 1) := by decide +kernel
theorem d_PG_writeNumber_30 : decode b_PG_writeNumber 30 = .ok (.iload_n 2, 1) := by decide +kernel
theorem d_PG_writeNumber_31 : decode b_PG_writeNumber 31 = .ok (.bipush 8, 2) := by decide +kernel
theorem d_PG_writeNumber_33 : decode b_PG_writeNumber 33 = .ok (.iload_n 3, 1) := by decide +kernel
theorem d_PG_writeNumber_34 : decode b_PG_writeNumber 34 = .ok (.imul, 1) := by decide +kernel
theorem d_PG_writeNumber_35 : decode b_PG_writeNumber 35 = .ok (.ishr, 1) := by decide +kernel
theorem d_PG_writeNumber_36 : decode b_PG_writeNumber 36 = .ok (.i2b, 1) := by decide +kernel
theorem d_PG_writeNumber_37 : decode b_PG_writeNumber 37 = .ok (.bastore, 1) := by decide +kernel
theorem d_PG_writeNumber_38 : decode b_PG_writeNumber 38 = .ok (.iinc 3 1, 3) := by decide +kernel
theorem d_PG_writeNumber_41 : decode b_PG_writeNumber 41 = .ok (.goto (-23), 3) := by decide +kernel
theorem d_PG_writeNumber_44 : decode b_PG_writeNumber 44 = .ok (.return_, 1) := by decide +kernel
theorem d_FB_copyTo_0 : decode b_FB_copyTo 0 = .ok (.iload_n 3, 1) := by decide +kernel
theorem d_FB_copyTo_1 : decode b_FB_copyTo 1 = .ok (.aload_n 1, 1) := by decide +kernel
theorem d_FB_copyTo_2 : decode b_FB_copyTo 2 = .ok (.getfield 30, 3) := by decide +kernel
theorem d_FB_copyTo_5 : decode b_FB_copyTo 5 = .ok (.arraylength, 1) := by decide +kernel
theorem d_FB_copyTo_6 : decode b_FB_copyTo 6 = .ok (.if_icmp .gt 28, 3) := by decide +kernel
theorem d_FB_copyTo_9 : decode b_FB_copyTo 9 = .ok (.aload_n 0, 1) := by decide +kernel
theorem d_FB_copyTo_10 : decode b_FB_copyTo 10 = .ok (.iload_n 2, 1) := by decide +kernel
theorem d_FB_copyTo_11 : decode b_FB_copyTo 11 = .ok (.i2l, 1) := by decide +kernel
theorem d_FB_copyTo_12 : decode b_FB_copyTo 12 = .ok (.iload_n 3, 1) := by decide +kernel
theorem d_FB_copyTo_13 : decode b_FB_copyTo 13 = .ok (.i2l, 1) := by decide +kernel
theorem d_FB_copyTo_14 : decode b_FB_copyTo 14 = .ok (.invokevirtual 20, 3) := by decide +kernel
theorem d_FB_copyTo_17 : decode b_FB_copyTo 17 = .ok (.ifCond .eq 17, 3) := by decide +kernel
theorem d_FB_copyTo_20 : decode b_FB_copyTo 20 = .ok (.aload_n 0, 1) := by decide +kernel
theorem d_FB_copyTo_21 : decode b_FB_copyTo 21 = .ok (.getfield 10, 3) := by decide +kernel
theorem d_FB_copyTo_24 : decode b_FB_copyTo 24 = .ok (.iload_n 2, 1) := by decide +kernel
theorem d_FB_copyTo_25 : decode b_FB_copyTo 25 = .ok (.aload_n 1, 1) := by decide +kernel
theorem d_FB_copyTo_26 : decode b_FB_copyTo 26 = .ok (.getfield 30, 3) := by decide +kernel
theorem d_FB_copyTo_29 : decode b_FB_copyTo 29 = .ok (.iconst 0, 1) := by decide +kernel
theorem d_FB_copyTo_30 : decode b_FB_copyTo 30 = .ok (.iload_n 3, 1) := by decide +kernel
theorem d_FB_copyTo_31 : decode b_FB_copyTo 31 = .ok (.invokestatic 35, 3) := by decide +kernel
theorem d_FB_copyTo_34 : decode b_FB_copyTo 34 = .ok (.return_, 1) := by decide +kernel
theorem d_AG_copyTo_0 : decode b_AG_copyTo 0 = .ok (.iload_n 3, 1) := by decide +kernel
theorem d_AG_copyTo_1 : decode b_AG_copyTo 1 = .ok (.ifCond .lt 32, 3) := by decide +kernel
theorem d_AG_copyTo_4 : decode b_AG_copyTo 4 = .ok (.iload_n 3, 1) := by decide +kernel
theorem d_AG_copyTo_5 : decode b_AG_copyTo 5 = .ok (.aload_n 0, 1) := by decide +kernel
theorem d_AG_copyTo_6 : decode b_AG_copyTo 6 = .ok (.getfield 15, 3) := by decide +kernel
theorem d_AG_copyTo_9 : decode b_AG_copyTo 9 = .ok (.arraylength, 1) := by decide +kernel
theorem d_AG_copyTo_10 : decode b_AG_copyTo 10 = .ok (.if_icmp .ge 23, 3) := by decide +kernel
theorem d_AG_copyTo_13 : decode b_AG_copyTo 13 = .ok (.iload_n 2, 1) := by decide +kernel
theorem d_AG_copyTo_14 : decode b_AG_copyTo 14 = .ok (.ifCond .lt 19, 3) := by decide +kernel
theorem d_AG_copyTo_17 : decode b_AG_copyTo 17 = .ok (.iload_n 2, 1) := by decide +kernel
theorem d_AG_copyTo_18 : decode b_AG_copyTo 18 = .ok (.aload_n 1, 1) := by decide +kernel
theorem d_AG_copyTo_19 : decode b_AG_copyTo 19 = .ok (.getfield 31, 3) := by decide +kernel
theorem d_AG_copyTo_22 : decode b_AG_copyTo 22 = .ok (.arraylength, 1) := by decide +kernel
theorem d_AG_copyTo_23 : decode b_AG_copyTo 23 = .ok (.aload_n 0, 1) := by decide +kernel
theorem d_AG_copyTo_24 : decode b_AG_copyTo 24 = .ok (.getfield 15, 3) := by decide +kernel
theorem d_AG_copyTo_27 : decode b_AG_copyTo 27 = .ok (.iload_n 3, 1) := by decide +kernel
theorem d_AG_copyTo_28 : decode b_AG_copyTo 28 = .ok (.iaload, 1) := by decide +kernel
theorem d_AG_copyTo_29 : decode b_AG_copyTo 29 = .ok (.isub, 1) := by decide +kernel
theorem d_AG_copyTo_30 : decode b_AG_copyTo 30 = .ok (.if_icmp .le 4, 3) := by decide +kernel
theorem d_AG_copyTo_33 : decode b_AG_copyTo 33 = .ok (.return_, 1) := by decide +kernel
theorem d_AG_copyTo_34 : decode b_AG_copyTo 34 = .ok (.aload_n 0, 1) := by decide +kernel
theorem d_AG_copyTo_35 : decode b_AG_copyTo 35 = .ok (.getfield 9, 3) := by decide +kernel
theorem d_AG_copyTo_38 : decode b_AG_copyTo 38 = .ok (.iload_n 3, 1) := by decide +kernel
theorem d_AG_copyTo_39 : decode b_AG_copyTo 39 = .ok (.bipush 127, 2) := by decide +kernel
theorem d_AG_copyTo_41 : decode b_AG_copyTo 41 = .ok (.imul, 1) := by decide +kernel
theorem d_AG_copyTo_42 : decode b_AG_copyTo 42 = .ok (.aload_n 1, 1) := by decide +kernel
theorem d_AG_copyTo_43 : decode b_AG_copyTo 43 = .ok (.getfield 31, 3) := by decide +kernel
theorem d_AG_copyTo_46 : decode b_AG_copyTo 46 = .ok (.iload_n 2, 1) := by decide +kernel
theorem d_AG_copyTo_47 : decode b_AG_copyTo 47 = .ok (.aload_n 0, 1) := by decide +kernel
theorem d_AG_copyTo_48 : decode b_AG_copyTo 48 = .ok (.getfield 15, 3) := by decide +kernel
theorem d_AG_copyTo_51 : decode b_AG_copyTo 51 = .ok (.iload_n 3, 1) := by decide +kernel
theorem d_AG_copyTo_52 : decode b_AG_copyTo 52 = .ok (.iaload, 1) := by decide +kernel
theorem d_AG_copyTo_53 : decode b_AG_copyTo 53 = .ok (.invokestatic 36, 3) := by decide +kernel
theorem d_AG_copyTo_56 : decode b_AG_copyTo 56 = .ok (.return_, 1) := by decide +kernel
end
section
set_option maxHeartbeats 4000000 in
set_option maxRecDepth 100000 in
theorem c_ar_fill (l : Launch) (dC : Nat → ClassId) (dI : Nat → Nat → Nat) (ad : Nat → Nat) (ck : Nat → ClassId) (rf : Int32) (n : Nat) (fr : Nat → Int32) (a : Nat) (ar : Nat → Int32) (z : Nat → Nat) (pc : Nat) (pe : Int32) (pt pp : Nat) (pf : Nat → Nat → Int32) (ic : Nat) (ie ip iz ia : Int32) (st rt : Nat → Int32) (pb : Nat → Nat → Int32) (i : Nat) (hi : i < 32) (sz : Nat) : Met l y_AR_fill w_AR_fill { frames := 0, cells := 0, slots := 0, locals := 0 } (va_Pc [.ref (ad (i + 60)), .int 0] (xP (dC, dI) (tyG ck) (wsG ad ck rf n fr a ar z pc pe pt pp pf ic ie ip iz ia st rt pb) sz)) (xQv (dC, dI) (tyG ck) (va_A (wsG ad ck rf n fr a ar z pc pe pt pp pf ic ie ip iz ia st rt pb) sz) (wsG ad ck rf n fr a ar z pc pe pt pp pf ic ie ip iz ia st rt (upr pb i (zf 4096 (pb i))))) 0 0 (va_A (wsG ad ck rf n fr a ar z pc pe pt pp pf ic ie ip iz ia st rt pb) sz) := by
  refine xof (cc := b_AR_fill) (maxL := 4) (ret := none) (own := R_AR) (Qc := fun A => (xQv (dC, dI) (tyG ck) A (wsG ad ck rf n fr a ar z pc pe pt pp pf ic ie ip iz ia st rt (upr pb i (zf 4096 (pb i)))))) (by decide) rfl rfl (Nat.le_of_ble_eq_true rfl) ?_ sz
  intro p e s m below meth c A C hnm hK hP hD hA hN hZ hS ls hl
  obtain ⟨hx, hb, hr, hml, hown, hts, hlocks⟩ := C
  have hl : lv_has ls 4 [(0, .ref (ad (i + 60))), (1, .int 0)] := hl
  refine lv_iconst (v := 0) hx hb d_AR_fill_0 (by decide) ?_
  refine lv_istore_n (lv' := [(2, .int 0), (0, .ref (ad (i + 60))), (1, .int 0)]) hx hb d_AR_fill_1 rfl hl (by decide) rfl (fun ls hl => ?_)
  refine lv_aload_n hx hb d_AR_fill_2 rfl (lv_at hl 1 rfl) ?_
  refine va_alen (v := 4096) hx hb hK hP (i + 50) 0 (wsG_pb hi) rfl rfl d_AR_fill_3 ?_
  refine lv_istore_n (lv' := [(3, .int 4096), (2, .int 0), (0, .ref (ad (i + 60))), (1, .int 0)]) hx hb d_AR_fill_4 rfl hl (by decide) rfl (fun ls hl => ?_)
  have lp5 : ∀ (fu : Nat) (t : Nat), (4096 - t < fu) → (t ≤ 4096) → ∀ (H : Heap) (locs : List Loc), va_P (dC, dI) vwCl (wsG ad ck rf n fr a ar z pc pe pt pp pf ic ie ip iz ia st rt (upr pb i (zf t (pb i)))) H → va_D A (wsG ad ck rf n fr a ar z pc pe pt pp pf ic ie ip iz ia st rt (upr pb i (zf t (pb i)))) → va_S A s.heap H locs → ∀ ls : Array Slot, lv_has ls 4 [(0, .ref (ad (i + 60))), (1, .int 0), (2, .int (nI t)), (3, .int 4096)] → W p l e { frames := 0, cells := 0, slots := 0, locals := 0 } s m [.ref (ad (i + 60)), .int 0].toArray below meth c H locs 0 0 (MQ below (xQv (dC, dI) (tyG ck) A (wsG ad ck rf n fr a ar z pc pe pt pp pf ic ie ip iz ia st rt (upr pb i (zf 4096 (pb i))))) [.ref (ad (i + 60)), .int 0].toArray s 0 0 A) (F0 m 5 ls []) := by
    intro fu
    induction fu with
    | zero => intro t hfu; exact absurd hfu (Nat.not_lt_zero _)
    | succ fu ih =>
      intro t hfu ht H locs hP hD hS ls hl
      refine lv_iload_n hx hb d_AR_fill_5 rfl (lv_at hl 2 rfl) ?_
      refine lv_iload_n hx hb d_AR_fill_6 rfl (lv_at hl 3 rfl) ?_
      refine lv_icmp_ge (tgt := 20) hx hb d_AR_fill_7 (by decide) (fun c_1 => ?_) (fun c_1 => ?_)
      · skip
        have c_1 : 4096 ≤ t := (nI_leI (a := 4096) (b := t) (by omega) (by omega)).mp c_1
        have h9 : t = 4096 := by omega
        have hw9 : wsG ad ck rf n fr a ar z pc pe pt pp pf ic ie ip iz ia st rt (upr pb i (zf t (pb i))) = wsG ad ck rf n fr a ar z pc pe pt pp pf ic ie ip iz ia st rt (upr pb i (zf 4096 (pb i))) := by rw [h9]
        rw [hw9] at hP hD
        exact xretv hx hb hr hlocks hK hP hD hS d_AR_fill_20
      · skip
        have c_1 : ¬ (4096 ≤ t) := fun h9 => c_1 ((nI_leI (a := 4096) (b := t) (by omega) (by omega)).mpr h9)
        refine lv_aload_n hx hb d_AR_fill_10 rfl (lv_at hl 0 rfl) ?_
        refine lv_iload_n hx hb d_AR_fill_11 rfl (lv_at hl 2 rfl) ?_
        refine lv_iload_n hx hb d_AR_fill_12 rfl (lv_at hl 1 rfl) ?_
        refine xbast (k := t) (x' := 0) (ws1 := wsG ad ck rf n fr a ar z pc pe pt pp pf ic ie ip iz ia st rt (upr (upr pb i (zf t (pb i))) i (upd ((upr pb i (zf t (pb i))) i) t 0))) hx hb hK hP hD hS (i + 50) 0 (wsG_pb hi) rfl (rfl) (by omega) (by decide) (rfl) (wsG_putB hi) d_AR_fill_13 (fun H locs hP hD hS => ?_)
        refine lv_iinc (v := nI (t + 1)) (lv' := [(2, .int (nI (t + 1))), (0, .ref (ad (i + 60))), (1, .int 0), (3, .int 4096)]) hx hb d_AR_fill_14 hl (k := 2) rfl (nI_1 _) (by decide) rfl (fun ls hl => ?_)
        refine lv_goto (tgt := 5) hx hb d_AR_fill_17 (by decide) ?_
        have hw9 : wsG ad ck rf n fr a ar z pc pe pt pp pf ic ie ip iz ia st rt (upr (upr pb i (zf t (pb i))) i (upd ((upr pb i (zf t (pb i))) i) t 0)) = wsG ad ck rf n fr a ar z pc pe pt pp pf ic ie ip iz ia st rt (upr pb i (zf (t + 1) (pb i))) := by rw [upr_eq, zf_step, upr_upr]
        rw [hw9] at hP hD
        exact ih (t + 1) (by omega) (by omega) _ _ hP hD hS _ (lv_sub hl [1, 2, 0, 3] rfl)
  have e0 : upr pb i (zf 0 (pb i)) = pb := by rw [zf_0, upr_self]
  have hP : va_P (dC, dI) vwCl (wsG ad ck rf n fr a ar z pc pe pt pp pf ic ie ip iz ia st rt (upr pb i (zf 0 (pb i)))) s.heap := by rw [e0]; exact hP
  have hD : va_D A (wsG ad ck rf n fr a ar z pc pe pt pp pf ic ie ip iz ia st rt (upr pb i (zf 0 (pb i)))) := by rw [e0]; exact hD
  exact lp5 ((4096 - 0) + 1) 0 (Nat.lt_succ_self _) (by omega) _ _ hP hD hS _ (lv_sub hl [2, 3, 1, 0] rfl)
set_option maxHeartbeats 4000000 in
set_option maxRecDepth 100000 in
theorem c_pg_clear (l : Launch) (dC : Nat → ClassId) (dI : Nat → Nat → Nat) (ad : Nat → Nat) (ck : Nat → ClassId) (rf : Int32) (n : Nat) (fr : Nat → Int32) (a : Nat) (ar : Nat → Int32) (z : Nat → Nat) (pc : Nat) (pe : Int32) (pt pp : Nat) (pf : Nat → Nat → Int32) (ic : Nat) (ie ip iz ia : Int32) (st rt : Nat → Int32) (pb : Nat → Nat → Int32) (i : Nat) (s0 r0 : Int32) (hi : i < 32) (sz : Nat) : Met l y_PG_clear w_PG_clear { frames := 1, cells := 0, slots := 0, locals := 23 } (va_Pc [.ref (ad (i + 20)), .int s0, .int r0] (xP (dC, dI) (tyG ck) (wsG ad ck rf n fr a ar z pc pe pt pp pf ic ie ip iz ia st rt pb) sz)) (xQv (dC, dI) (tyG ck) (va_A (wsG ad ck rf n fr a ar z pc pe pt pp pf ic ie ip iz ia st rt pb) sz) (wsG ad ck rf n fr a ar z pc pe pt pp pf ic ie ip iz ia (upd st i s0) (upd rt i r0) (upr pb i (zf 4096 (pb i))))) 0 0 (va_A (wsG ad ck rf n fr a ar z pc pe pt pp pf ic ie ip iz ia st rt pb) sz) := by
  refine xof (cc := b_PG_clear) (maxL := 3) (ret := none) (own := R_PG) (Qc := fun A => (xQv (dC, dI) (tyG ck) A (wsG ad ck rf n fr a ar z pc pe pt pp pf ic ie ip iz ia (upd st i s0) (upd rt i r0) (upr pb i (zf 4096 (pb i)))))) (by decide) rfl rfl (Nat.le_of_ble_eq_true rfl) ?_ sz
  intro p e s m below meth c A C hnm hK hP hD hA hN hZ hS ls hl
  obtain ⟨hx, hb, hr, hml, hown, hts, hlocks⟩ := C
  have hl : lv_has ls 3 [(0, .ref (ad (i + 20))), (1, .int s0), (2, .int r0)] := hl
  refine lv_aload_n hx hb d_PG_clear_0 rfl (lv_at hl 0 rfl) ?_
  refine lv_iload_n hx hb d_PG_clear_1 rfl (lv_at hl 1 rfl) ?_
  refine va_put (D := (dC, dI)) (ci := 3) (v := .int s0) (ty := .int) (C := R_PG) (T := T_PG) (N := 3) hx hb hts i_PG t_PG k_PG n_PG hown hK hP hD hS (i + 18) (wsG_page hi) rfl 1 (by decide) (hts _ wd_140) (fun _ h9 => h9) rfl (by decide +kernel) rfl rfl (Nat.le_of_ble_eq_true rfl) d_PG_clear_2 (fun H locs hP hD hS => ?_)
  have hP : va_P (dC, dI) vwCl (wsG ad ck rf n fr a ar z pc pe pt pp pf ic ie ip iz ia (upd st i s0) rt pb) H := by rw [wsG_putQ1 hi] at hP; exact hP
  have hD : va_D A (wsG ad ck rf n fr a ar z pc pe pt pp pf ic ie ip iz ia (upd st i s0) rt pb) := by rw [wsG_putQ1 hi] at hD; exact hD
  refine lv_aload_n hx hb d_PG_clear_5 rfl (lv_at hl 0 rfl) ?_
  refine lv_iload_n hx hb d_PG_clear_6 rfl (lv_at hl 2 rfl) ?_
  refine va_put (D := (dC, dI)) (ci := 3) (v := .int r0) (ty := .int) (C := R_PG) (T := T_PG) (N := 3) hx hb hts i_PG t_PG k_PG n_PG hown hK hP hD hS (i + 18) (wsG_page hi) rfl 2 (by decide) (hts _ wd_143) (fun _ h9 => h9) rfl (by decide +kernel) rfl rfl (Nat.le_of_ble_eq_true rfl) d_PG_clear_7 (fun H locs hP hD hS => ?_)
  have hP : va_P (dC, dI) vwCl (wsG ad ck rf n fr a ar z pc pe pt pp pf ic ie ip iz ia (upd st i s0) (upd rt i r0) pb) H := by rw [wsG_putQ2 hi] at hP; exact hP
  have hD : va_D A (wsG ad ck rf n fr a ar z pc pe pt pp pf ic ie ip iz ia (upd st i s0) (upd rt i r0) pb) := by rw [wsG_putQ2 hi] at hD; exact hD
  refine lv_aload_n hx hb d_PG_clear_10 rfl (lv_at hl 0 rfl) ?_
  refine va_get (D := (dC, dI)) (ci := 3) (v := .ref (ad (i + 60))) (C := R_PG) (T := T_PG) (N := 3) hx hb hts i_PG hown hK hP (i + 18) (wsG_page hi) rfl 0 (by decide) (hts _ wd_137) (fun _ h9 => h9) rfl d_PG_clear_11 ?_
  refine lv_iconst (v := 0) hx hb d_PG_clear_14 (by decide) ?_
  refine xcallv (va_runS (As := [.ref (ad (i + 60)), .int 0]) (rest := []) ⟨hx, hb, hml, hown, hts⟩ (c_ar_fill l dC dI ad ck rf n fr a ar z pc pe pt pp pf ic ie ip iz ia (upd st i s0) (upd rt i r0) pb i hi H.size) (va_cwS 2 hts (xgT wd_335 wd_336 wd_24 wd_337) rfl rfl rfl (by decide +kernel) ⟨Nat.le_of_ble_eq_true rfl, Nat.le_of_ble_eq_true rfl⟩) (xpreS hK hN hZ hA hS hP hD) rfl rfl hl.1 rfl (lv_room (Nat.le_of_ble_eq_true rfl)) d_PG_clear_15 ⟨Nat.zero_le _, Nat.zero_le _⟩) hD hS hA (fun H locs hP hD hS => ?_)
  exact xretv hx hb hr hlocks hK hP hD hS d_PG_clear_18
set_option maxHeartbeats 4000000 in
set_option maxRecDepth 100000 in
theorem c_pg_read (l : Launch) (dC : Nat → ClassId) (dI : Nat → Nat → Nat) (ad : Nat → Nat) (ck : Nat → ClassId) (rf : Int32) (n : Nat) (fr : Nat → Int32) (a : Nat) (ar : Nat → Int32) (z : Nat → Nat) (pc : Nat) (pe : Int32) (pt pp : Nat) (pf : Nat → Nat → Int32) (ic : Nat) (ie ip iz ia : Int32) (st rt : Nat → Int32) (pb : Nat → Nat → Int32) (i : Nat) (k : Int32) (hi : i < 32) (sz : Nat) : Met l y_PG_read w_PG_read { frames := 0, cells := 0, slots := 0, locals := 0 } (va_Pc [.ref (ad (i + 20)), .int k] (xP (dC, dI) (tyG ck) (wsG ad ck rf n fr a ar z pc pe pt pp pf ic ie ip iz ia st rt pb) sz)) (xQi (dC, dI) (tyG ck) (va_A (wsG ad ck rf n fr a ar z pc pe pt pp pf ic ie ip iz ia st rt pb) sz) (wsG ad ck rf n fr a ar z pc pe pt pp pf ic ie ip iz ia st rt pb) (fun r => r = rdB (pb i) k)) 0 0 (va_A (wsG ad ck rf n fr a ar z pc pe pt pp pf ic ie ip iz ia st rt pb) sz) := by
  refine xof (cc := b_PG_read) (maxL := 2) (ret := (some .int)) (own := R_PG) (Qc := fun A => (xQi (dC, dI) (tyG ck) A (wsG ad ck rf n fr a ar z pc pe pt pp pf ic ie ip iz ia st rt pb) (fun r => r = rdB (pb i) k))) (by decide) rfl rfl (Nat.le_of_ble_eq_true rfl) ?_ sz
  intro p e s m below meth c A C hnm hK hP hD hA hN hZ hS ls hl
  obtain ⟨hx, hb, hr, hml, hown, hts, hlocks⟩ := C
  have hl : lv_has ls 2 [(0, .ref (ad (i + 20))), (1, .int k)] := hl
  refine lv_iload_n hx hb d_PG_read_0 rfl (lv_at hl 1 rfl) ?_
  refine lv_if_lt (tgt := 26) hx hb d_PG_read_1 (by decide) (fun c_1 => ?_) (fun c_1 => ?_)
  · skip
    refine lv_iconst (v := (-1)) hx hb d_PG_read_26 (by decide) ?_
    exact xreti (v := (-1)) hx hb hr hlocks hK hP hD hS (rfl) (by rw [rdB, if_neg (fun h9 => absurd c_1 (p_nneg h9.1))]) d_PG_read_27
  · skip
    obtain ⟨j, hj, ej⟩ := nI_of c_1
    rw [ej] at hl
    refine lv_iload_n hx hb d_PG_read_4 rfl (lv_at hl 1 rfl) ?_
    refine lv_aload_n hx hb d_PG_read_5 rfl (lv_at hl 0 rfl) ?_
    refine va_get (D := (dC, dI)) (ci := 3) (v := .ref (ad (i + 60))) (C := R_PG) (T := T_PG) (N := 3) hx hb hts i_PG hown hK hP (i + 18) (wsG_page hi) rfl 0 (by decide) (hts _ wd_137) (fun _ h9 => h9) rfl d_PG_read_6 ?_
    refine va_alen (v := 4096) hx hb hK hP (i + 50) 0 (wsG_pb hi) rfl rfl d_PG_read_9 ?_
    refine lv_icmp_ge (tgt := 26) hx hb d_PG_read_10 (by decide) (fun c_2 => ?_) (fun c_2 => ?_)
    · skip
      have c_2 : 4096 ≤ j := (nI_leI (a := 4096) (b := j) (by omega) (by omega)).mp c_2
      refine lv_iconst (v := (-1)) hx hb d_PG_read_26 (by decide) ?_
      exact xreti (v := (-1)) hx hb hr hlocks hK hP hD hS (rfl) (by rw [rdB, if_neg (by rw [ej, nI_toInt hj]; omega)]) d_PG_read_27
    · skip
      have c_2 : ¬ (4096 ≤ j) := fun h9 => c_2 ((nI_leI (a := 4096) (b := j) (by omega) (by omega)).mpr h9)
      refine lv_aload_n hx hb d_PG_read_13 rfl (lv_at hl 0 rfl) ?_
      refine va_get (D := (dC, dI)) (ci := 3) (v := .ref (ad (i + 60))) (C := R_PG) (T := T_PG) (N := 3) hx hb hts i_PG hown hK hP (i + 18) (wsG_page hi) rfl 0 (by decide) (hts _ wd_137) (fun _ h9 => h9) rfl d_PG_read_14 ?_
      refine lv_iload_n hx hb d_PG_read_17 rfl (lv_at hl 1 rfl) ?_
      refine xbald (k := j) hx hb hK hP (i + 50) 0 (wsG_pb hi) rfl (rfl) (by omega) (by decide) d_PG_read_18 ?_
      refine lv_sipush (v := 255) hx hb d_PG_read_19 (by decide) ?_
      refine lv_iand hx hb d_PG_read_22 ?_
      refine lv_goto (tgt := 27) hx hb d_PG_read_23 (by decide) ?_
      exact xreti (v := ((pb i) j) &&& 255) hx hb hr hlocks hK hP hD hS (rfl) (by rw [rdB, if_pos (by rw [ej, nI_toInt hj]; omega), ej, nI_toInt hj]; rfl) d_PG_read_27
set_option maxHeartbeats 4000000 in
set_option maxRecDepth 100000 in
theorem c_pg_writeNumber (l : Launch) (dC : Nat → ClassId) (dI : Nat → Nat → Nat) (ad : Nat → Nat) (ck : Nat → ClassId) (rf : Int32) (n : Nat) (fr : Nat → Int32) (a : Nat) (ar : Nat → Int32) (z : Nat → Nat) (pc : Nat) (pe : Int32) (pt pp : Nat) (pf : Nat → Nat → Int32) (ic : Nat) (ie ip iz ia : Int32) (st rt : Nat → Int32) (pb : Nat → Nat → Int32) (i k : Nat) (w : Int32) (hi : i < 32) (hk : k + 4 ≤ 4096) (sz : Nat) : Met l y_PG_writeNumber w_PG_writeNumber { frames := 0, cells := 0, slots := 0, locals := 0 } (va_Pc [.ref (ad (i + 20)), .int (nI k), .int w] (xP (dC, dI) (tyG ck) (wsG ad ck rf n fr a ar z pc pe pt pp pf ic ie ip iz ia st rt pb) sz)) (xQv (dC, dI) (tyG ck) (va_A (wsG ad ck rf n fr a ar z pc pe pt pp pf ic ie ip iz ia st rt pb) sz) (wsG ad ck rf n fr a ar z pc pe pt pp pf ic ie ip iz ia st rt (upr pb i (wrN (pb i) k w 4)))) 0 0 (va_A (wsG ad ck rf n fr a ar z pc pe pt pp pf ic ie ip iz ia st rt pb) sz) := by
  refine xof (cc := b_PG_writeNumber) (maxL := 4) (ret := none) (own := R_PG) (Qc := fun A => (xQv (dC, dI) (tyG ck) A (wsG ad ck rf n fr a ar z pc pe pt pp pf ic ie ip iz ia st rt (upr pb i (wrN (pb i) k w 4))))) (by decide) rfl rfl (Nat.le_of_ble_eq_true rfl) ?_ sz
  intro p e s m below meth c A C hnm hK hP hD hA hN hZ hS ls hl
  obtain ⟨hx, hb, hr, hml, hown, hts, hlocks⟩ := C
  have hl : lv_has ls 4 [(0, .ref (ad (i + 20))), (1, .int (nI k)), (2, .int w)] := hl
  refine lv_iload_n hx hb d_PG_writeNumber_0 rfl (lv_at hl 1 rfl) ?_
  refine lv_if_lt (tgt := 15) hx hb d_PG_writeNumber_1 (by decide) (fun c_1 => ?_) (fun c_1 => ?_)
  · skip
    have c_1 : k < 0 := (nI_ltI (a := k) (b := 0) (by omega) (by omega)).mp c_1
    exact absurd c_1 (Nat.not_lt_zero _)
  · skip
    have c_1 : ¬ (k < 0) := fun h9 => c_1 ((nI_ltI (a := k) (b := 0) (by omega) (by omega)).mpr h9)
    refine lv_iload_n hx hb d_PG_writeNumber_4 rfl (lv_at hl 1 rfl) ?_
    refine lv_aload_n hx hb d_PG_writeNumber_5 rfl (lv_at hl 0 rfl) ?_
    refine va_get (D := (dC, dI)) (ci := 3) (v := .ref (ad (i + 60))) (C := R_PG) (T := T_PG) (N := 3) hx hb hts i_PG hown hK hP (i + 18) (wsG_page hi) rfl 0 (by decide) (hts _ wd_137) (fun _ h9 => h9) rfl d_PG_writeNumber_6 ?_
    refine va_alen (v := 4096) hx hb hK hP (i + 50) 0 (wsG_pb hi) rfl rfl d_PG_writeNumber_9 ?_
    refine lv_iconst (v := 4) hx hb d_PG_writeNumber_10 (by decide) ?_
    refine lv_isub hx hb d_PG_writeNumber_11 ?_
    refine xtopi (y := 4092) (by decide) ?_
    refine lv_icmp_le (tgt := 16) hx hb d_PG_writeNumber_12 (by decide) (fun c_2 => ?_) (fun c_2 => ?_)
    · skip
      have c_2 : k ≤ 4092 := (nI_leI (a := k) (b := 4092) (by omega) (by omega)).mp c_2
      refine lv_iconst (v := 0) hx hb d_PG_writeNumber_16 (by decide) ?_
      refine lv_istore_n (lv' := [(3, .int 0), (0, .ref (ad (i + 20))), (1, .int (nI k)), (2, .int w)]) hx hb d_PG_writeNumber_17 rfl hl (by decide) rfl (fun ls hl => ?_)
      refine lv_iload_n hx hb d_PG_writeNumber_18 rfl (lv_at hl 0 rfl) ?_
      refine lv_iconst (v := 4) hx hb d_PG_writeNumber_19 (by decide) ?_
      refine lv_icmp_ge (tgt := 44) hx hb d_PG_writeNumber_20 (by decide) (fun c_3 => ?_) (fun c_3 => ?_)
      · exact absurd c_3 (by decide)
      · skip
        refine lv_aload_n hx hb d_PG_writeNumber_23 rfl (lv_at hl 1 rfl) ?_
        refine va_get (D := (dC, dI)) (ci := 3) (v := .ref (ad (i + 60))) (C := R_PG) (T := T_PG) (N := 3) hx hb hts i_PG hown hK hP (i + 18) (wsG_page hi) rfl 0 (by decide) (hts _ wd_137) (fun _ h9 => h9) rfl d_PG_writeNumber_24 ?_
        refine lv_iload_n hx hb d_PG_writeNumber_27 rfl (lv_at hl 2 rfl) ?_
        refine lv_iload_n hx hb d_PG_writeNumber_28 rfl (lv_at hl 0 rfl) ?_
        refine lv_iadd hx hb d_PG_writeNumber_29 ?_
        refine xtopi (y := nI (k + 0)) (nI_add (k) (0)) ?_
        refine lv_iload_n hx hb d_PG_writeNumber_30 rfl (lv_at hl 3 rfl) ?_
        refine lv_bipush (v := 8) hx hb d_PG_writeNumber_31 (by decide) ?_
        refine lv_iload_n hx hb d_PG_writeNumber_33 rfl (lv_at hl 0 rfl) ?_
        refine lv_imul hx hb d_PG_writeNumber_34 ?_
        refine lv_ishr hx hb d_PG_writeNumber_35 ?_
        refine lv_i2b hx hb d_PG_writeNumber_36 rfl ?_
        refine xbast (k := k + 0) (x' := (w >>> ((8 * 0 : Int32) &&& 31)).toInt8.toInt32) (ws1 := wsG ad ck rf n fr a ar z pc pe pt pp pf ic ie ip iz ia st rt (upr pb i (upd (pb i) (k + 0) ((w >>> ((8 * 0 : Int32) &&& 31)).toInt8.toInt32)))) hx hb hK hP hD hS (i + 50) 0 (wsG_pb hi) rfl (rfl) (by omega) (by decide) (pk_vb _) (wsG_putB hi) d_PG_writeNumber_37 (fun H locs hP hD hS => ?_)
        refine lv_iinc (v := 1) (lv' := [(3, .int 1), (0, .ref (ad (i + 20))), (1, .int (nI k)), (2, .int w)]) hx hb d_PG_writeNumber_38 hl (k := 0) rfl rfl (by decide) rfl (fun ls hl => ?_)
        refine lv_goto (tgt := 18) hx hb d_PG_writeNumber_41 (by decide) ?_
        refine lv_iload_n hx hb d_PG_writeNumber_18 rfl (lv_at hl 0 rfl) ?_
        refine lv_iconst (v := 4) hx hb d_PG_writeNumber_19 (by decide) ?_
        refine lv_icmp_ge (tgt := 44) hx hb d_PG_writeNumber_20 (by decide) (fun c_4 => ?_) (fun c_4 => ?_)
        · exact absurd c_4 (by decide)
        · skip
          refine lv_aload_n hx hb d_PG_writeNumber_23 rfl (lv_at hl 1 rfl) ?_
          refine va_get (D := (dC, dI)) (ci := 3) (v := .ref (ad (i + 60))) (C := R_PG) (T := T_PG) (N := 3) hx hb hts i_PG hown hK hP (i + 18) (wsG_page hi) rfl 0 (by decide) (hts _ wd_137) (fun _ h9 => h9) rfl d_PG_writeNumber_24 ?_
          refine lv_iload_n hx hb d_PG_writeNumber_27 rfl (lv_at hl 2 rfl) ?_
          refine lv_iload_n hx hb d_PG_writeNumber_28 rfl (lv_at hl 0 rfl) ?_
          refine lv_iadd hx hb d_PG_writeNumber_29 ?_
          refine xtopi (y := nI (k + 1)) (nI_add (k) (1)) ?_
          refine lv_iload_n hx hb d_PG_writeNumber_30 rfl (lv_at hl 3 rfl) ?_
          refine lv_bipush (v := 8) hx hb d_PG_writeNumber_31 (by decide) ?_
          refine lv_iload_n hx hb d_PG_writeNumber_33 rfl (lv_at hl 0 rfl) ?_
          refine lv_imul hx hb d_PG_writeNumber_34 ?_
          refine lv_ishr hx hb d_PG_writeNumber_35 ?_
          refine lv_i2b hx hb d_PG_writeNumber_36 rfl ?_
          refine xbast (k := k + 1) (x' := (w >>> ((8 * 1 : Int32) &&& 31)).toInt8.toInt32) (ws1 := wsG ad ck rf n fr a ar z pc pe pt pp pf ic ie ip iz ia st rt (upr (upr pb i (upd (pb i) (k + 0) ((w >>> ((8 * 0 : Int32) &&& 31)).toInt8.toInt32))) i (upd ((upr pb i (upd (pb i) (k + 0) ((w >>> ((8 * 0 : Int32) &&& 31)).toInt8.toInt32))) i) (k + 1) ((w >>> ((8 * 1 : Int32) &&& 31)).toInt8.toInt32)))) hx hb hK hP hD hS (i + 50) 0 (wsG_pb hi) rfl (rfl) (by omega) (by decide) (pk_vb _) (wsG_putB hi) d_PG_writeNumber_37 (fun H locs hP hD hS => ?_)
          refine lv_iinc (v := 2) (lv' := [(3, .int 2), (0, .ref (ad (i + 20))), (1, .int (nI k)), (2, .int w)]) hx hb d_PG_writeNumber_38 hl (k := 0) rfl rfl (by decide) rfl (fun ls hl => ?_)
          refine lv_goto (tgt := 18) hx hb d_PG_writeNumber_41 (by decide) ?_
          refine lv_iload_n hx hb d_PG_writeNumber_18 rfl (lv_at hl 0 rfl) ?_
          refine lv_iconst (v := 4) hx hb d_PG_writeNumber_19 (by decide) ?_
          refine lv_icmp_ge (tgt := 44) hx hb d_PG_writeNumber_20 (by decide) (fun c_5 => ?_) (fun c_5 => ?_)
          · exact absurd c_5 (by decide)
          · skip
            refine lv_aload_n hx hb d_PG_writeNumber_23 rfl (lv_at hl 1 rfl) ?_
            refine va_get (D := (dC, dI)) (ci := 3) (v := .ref (ad (i + 60))) (C := R_PG) (T := T_PG) (N := 3) hx hb hts i_PG hown hK hP (i + 18) (wsG_page hi) rfl 0 (by decide) (hts _ wd_137) (fun _ h9 => h9) rfl d_PG_writeNumber_24 ?_
            refine lv_iload_n hx hb d_PG_writeNumber_27 rfl (lv_at hl 2 rfl) ?_
            refine lv_iload_n hx hb d_PG_writeNumber_28 rfl (lv_at hl 0 rfl) ?_
            refine lv_iadd hx hb d_PG_writeNumber_29 ?_
            refine xtopi (y := nI (k + 2)) (nI_add (k) (2)) ?_
            refine lv_iload_n hx hb d_PG_writeNumber_30 rfl (lv_at hl 3 rfl) ?_
            refine lv_bipush (v := 8) hx hb d_PG_writeNumber_31 (by decide) ?_
            refine lv_iload_n hx hb d_PG_writeNumber_33 rfl (lv_at hl 0 rfl) ?_
            refine lv_imul hx hb d_PG_writeNumber_34 ?_
            refine lv_ishr hx hb d_PG_writeNumber_35 ?_
            refine lv_i2b hx hb d_PG_writeNumber_36 rfl ?_
            refine xbast (k := k + 2) (x' := (w >>> ((8 * 2 : Int32) &&& 31)).toInt8.toInt32) (ws1 := wsG ad ck rf n fr a ar z pc pe pt pp pf ic ie ip iz ia st rt (upr (upr (upr pb i (upd (pb i) (k + 0) ((w >>> ((8 * 0 : Int32) &&& 31)).toInt8.toInt32))) i (upd ((upr pb i (upd (pb i) (k + 0) ((w >>> ((8 * 0 : Int32) &&& 31)).toInt8.toInt32))) i) (k + 1) ((w >>> ((8 * 1 : Int32) &&& 31)).toInt8.toInt32))) i (upd ((upr (upr pb i (upd (pb i) (k + 0) ((w >>> ((8 * 0 : Int32) &&& 31)).toInt8.toInt32))) i (upd ((upr pb i (upd (pb i) (k + 0) ((w >>> ((8 * 0 : Int32) &&& 31)).toInt8.toInt32))) i) (k + 1) ((w >>> ((8 * 1 : Int32) &&& 31)).toInt8.toInt32))) i) (k + 2) ((w >>> ((8 * 2 : Int32) &&& 31)).toInt8.toInt32)))) hx hb hK hP hD hS (i + 50) 0 (wsG_pb hi) rfl (rfl) (by omega) (by decide) (pk_vb _) (wsG_putB hi) d_PG_writeNumber_37 (fun H locs hP hD hS => ?_)
            refine lv_iinc (v := 3) (lv' := [(3, .int 3), (0, .ref (ad (i + 20))), (1, .int (nI k)), (2, .int w)]) hx hb d_PG_writeNumber_38 hl (k := 0) rfl rfl (by decide) rfl (fun ls hl => ?_)
            refine lv_goto (tgt := 18) hx hb d_PG_writeNumber_41 (by decide) ?_
            refine lv_iload_n hx hb d_PG_writeNumber_18 rfl (lv_at hl 0 rfl) ?_
            refine lv_iconst (v := 4) hx hb d_PG_writeNumber_19 (by decide) ?_
            refine lv_icmp_ge (tgt := 44) hx hb d_PG_writeNumber_20 (by decide) (fun c_6 => ?_) (fun c_6 => ?_)
            · exact absurd c_6 (by decide)
            · skip
              refine lv_aload_n hx hb d_PG_writeNumber_23 rfl (lv_at hl 1 rfl) ?_
              refine va_get (D := (dC, dI)) (ci := 3) (v := .ref (ad (i + 60))) (C := R_PG) (T := T_PG) (N := 3) hx hb hts i_PG hown hK hP (i + 18) (wsG_page hi) rfl 0 (by decide) (hts _ wd_137) (fun _ h9 => h9) rfl d_PG_writeNumber_24 ?_
              refine lv_iload_n hx hb d_PG_writeNumber_27 rfl (lv_at hl 2 rfl) ?_
              refine lv_iload_n hx hb d_PG_writeNumber_28 rfl (lv_at hl 0 rfl) ?_
              refine lv_iadd hx hb d_PG_writeNumber_29 ?_
              refine xtopi (y := nI (k + 3)) (nI_add (k) (3)) ?_
              refine lv_iload_n hx hb d_PG_writeNumber_30 rfl (lv_at hl 3 rfl) ?_
              refine lv_bipush (v := 8) hx hb d_PG_writeNumber_31 (by decide) ?_
              refine lv_iload_n hx hb d_PG_writeNumber_33 rfl (lv_at hl 0 rfl) ?_
              refine lv_imul hx hb d_PG_writeNumber_34 ?_
              refine lv_ishr hx hb d_PG_writeNumber_35 ?_
              refine lv_i2b hx hb d_PG_writeNumber_36 rfl ?_
              refine xbast (k := k + 3) (x' := (w >>> ((8 * 3 : Int32) &&& 31)).toInt8.toInt32) (ws1 := wsG ad ck rf n fr a ar z pc pe pt pp pf ic ie ip iz ia st rt (upr (upr (upr (upr pb i (upd (pb i) (k + 0) ((w >>> ((8 * 0 : Int32) &&& 31)).toInt8.toInt32))) i (upd ((upr pb i (upd (pb i) (k + 0) ((w >>> ((8 * 0 : Int32) &&& 31)).toInt8.toInt32))) i) (k + 1) ((w >>> ((8 * 1 : Int32) &&& 31)).toInt8.toInt32))) i (upd ((upr (upr pb i (upd (pb i) (k + 0) ((w >>> ((8 * 0 : Int32) &&& 31)).toInt8.toInt32))) i (upd ((upr pb i (upd (pb i) (k + 0) ((w >>> ((8 * 0 : Int32) &&& 31)).toInt8.toInt32))) i) (k + 1) ((w >>> ((8 * 1 : Int32) &&& 31)).toInt8.toInt32))) i) (k + 2) ((w >>> ((8 * 2 : Int32) &&& 31)).toInt8.toInt32))) i (upd ((upr (upr (upr pb i (upd (pb i) (k + 0) ((w >>> ((8 * 0 : Int32) &&& 31)).toInt8.toInt32))) i (upd ((upr pb i (upd (pb i) (k + 0) ((w >>> ((8 * 0 : Int32) &&& 31)).toInt8.toInt32))) i) (k + 1) ((w >>> ((8 * 1 : Int32) &&& 31)).toInt8.toInt32))) i (upd ((upr (upr pb i (upd (pb i) (k + 0) ((w >>> ((8 * 0 : Int32) &&& 31)).toInt8.toInt32))) i (upd ((upr pb i (upd (pb i) (k + 0) ((w >>> ((8 * 0 : Int32) &&& 31)).toInt8.toInt32))) i) (k + 1) ((w >>> ((8 * 1 : Int32) &&& 31)).toInt8.toInt32))) i) (k + 2) ((w >>> ((8 * 2 : Int32) &&& 31)).toInt8.toInt32))) i) (k + 3) ((w >>> ((8 * 3 : Int32) &&& 31)).toInt8.toInt32)))) hx hb hK hP hD hS (i + 50) 0 (wsG_pb hi) rfl (rfl) (by omega) (by decide) (pk_vb _) (wsG_putB hi) d_PG_writeNumber_37 (fun H locs hP hD hS => ?_)
              refine lv_iinc (v := 4) (lv' := [(3, .int 4), (0, .ref (ad (i + 20))), (1, .int (nI k)), (2, .int w)]) hx hb d_PG_writeNumber_38 hl (k := 0) rfl rfl (by decide) rfl (fun ls hl => ?_)
              refine lv_goto (tgt := 18) hx hb d_PG_writeNumber_41 (by decide) ?_
              refine lv_iload_n hx hb d_PG_writeNumber_18 rfl (lv_at hl 0 rfl) ?_
              refine lv_iconst (v := 4) hx hb d_PG_writeNumber_19 (by decide) ?_
              refine lv_icmp_ge (tgt := 44) hx hb d_PG_writeNumber_20 (by decide) (fun c_7 => ?_) (fun c_7 => ?_)
              · skip
                have hw9 : wsG ad ck rf n fr a ar z pc pe pt pp pf ic ie ip iz ia st rt (upr (upr (upr (upr pb i (upd (pb i) (k + 0) ((w >>> ((8 * 0 : Int32) &&& 31)).toInt8.toInt32))) i (upd ((upr pb i (upd (pb i) (k + 0) ((w >>> ((8 * 0 : Int32) &&& 31)).toInt8.toInt32))) i) (k + 1) ((w >>> ((8 * 1 : Int32) &&& 31)).toInt8.toInt32))) i (upd ((upr (upr pb i (upd (pb i) (k + 0) ((w >>> ((8 * 0 : Int32) &&& 31)).toInt8.toInt32))) i (upd ((upr pb i (upd (pb i) (k + 0) ((w >>> ((8 * 0 : Int32) &&& 31)).toInt8.toInt32))) i) (k + 1) ((w >>> ((8 * 1 : Int32) &&& 31)).toInt8.toInt32))) i) (k + 2) ((w >>> ((8 * 2 : Int32) &&& 31)).toInt8.toInt32))) i (upd ((upr (upr (upr pb i (upd (pb i) (k + 0) ((w >>> ((8 * 0 : Int32) &&& 31)).toInt8.toInt32))) i (upd ((upr pb i (upd (pb i) (k + 0) ((w >>> ((8 * 0 : Int32) &&& 31)).toInt8.toInt32))) i) (k + 1) ((w >>> ((8 * 1 : Int32) &&& 31)).toInt8.toInt32))) i (upd ((upr (upr pb i (upd (pb i) (k + 0) ((w >>> ((8 * 0 : Int32) &&& 31)).toInt8.toInt32))) i (upd ((upr pb i (upd (pb i) (k + 0) ((w >>> ((8 * 0 : Int32) &&& 31)).toInt8.toInt32))) i) (k + 1) ((w >>> ((8 * 1 : Int32) &&& 31)).toInt8.toInt32))) i) (k + 2) ((w >>> ((8 * 2 : Int32) &&& 31)).toInt8.toInt32))) i) (k + 3) ((w >>> ((8 * 3 : Int32) &&& 31)).toInt8.toInt32))) = wsG ad ck rf n fr a ar z pc pe pt pp pf ic ie ip iz ia st rt (upr pb i (wrN (pb i) k w 4)) := by simp only [upr_eq, upr_upr]; rfl
                rw [hw9] at hP hD
                exact xretv hx hb hr hlocks hK hP hD hS d_PG_writeNumber_44
              · exact absurd c_7 (by decide)
    · skip
      have c_2 : ¬ (k ≤ 4092) := fun h9 => c_2 ((nI_leI (a := k) (b := 4092) (by omega) (by omega)).mpr h9)
      exact absurd c_2 (by omega)
set_option maxHeartbeats 4000000 in
set_option maxRecDepth 100000 in
theorem c_fb_copyTo (l : Launch) (dC : Nat → ClassId) (dI : Nat → Nat → Nat) (ad : Nat → Nat) (ck : Nat → ClassId) (rf : Int32) (n : Nat) (fr : Nat → Int32) (a : Nat) (ar : Nat → Int32) (z : Nat → Nat) (pc : Nat) (pe : Int32) (pt pp : Nat) (pf : Nat → Nat → Int32) (ic : Nat) (ie ip iz ia : Int32) (st rt : Nat → Int32) (pb : Nat → Nat → Int32) (i k mm : Nat) (hi : i < 32) (hm : mm ≤ 4096) (hkm : k + mm ≤ n) (hFr : sb_Fit fr) (hn : n ≤ 65536) (sz : Nat) : Met l y_FB_copyTo w_FB_copyTo { frames := 1, cells := 0, slots := 0, locals := 60 } (va_Pc [.ref (ad 1), .ref (ad (i + 20)), .int (nI k), .int (nI mm)] (xP (dC, dI) (tyG ck) (wsG ad ck rf n fr a ar z pc pe pt pp pf ic ie ip iz ia st rt pb) sz)) (xQv (dC, dI) (tyG ck) (va_A (wsG ad ck rf n fr a ar z pc pe pt pp pf ic ie ip iz ia st rt pb) sz) (wsG ad ck rf n fr a ar z pc pe pt pp pf ic ie ip iz ia st rt (upr pb i (va_cpy fr (pb i) k 0 mm)))) 0 0 (va_A (wsG ad ck rf n fr a ar z pc pe pt pp pf ic ie ip iz ia st rt pb) sz) := by
  refine xof (cc := b_FB_copyTo) (maxL := 4) (ret := none) (own := R_FB) (Qc := fun A => (xQv (dC, dI) (tyG ck) A (wsG ad ck rf n fr a ar z pc pe pt pp pf ic ie ip iz ia st rt (upr pb i (va_cpy fr (pb i) k 0 mm))))) (by decide) rfl rfl (Nat.le_of_ble_eq_true rfl) ?_ sz
  intro p e s m below meth c A C hnm hK hP hD hA hN hZ hS ls hl
  obtain ⟨hx, hb, hr, hml, hown, hts, hlocks⟩ := C
  have hl : lv_has ls 4 [(0, .ref (ad 1)), (1, .ref (ad (i + 20))), (2, .int (nI k)), (3, .int (nI mm))] := hl
  refine lv_iload_n hx hb d_FB_copyTo_0 rfl (lv_at hl 3 rfl) ?_
  refine lv_aload_n hx hb d_FB_copyTo_1 rfl (lv_at hl 1 rfl) ?_
  refine va_getN (D := (dC, dI)) (ci := 3) (v := .ref (ad (i + 60))) (C := R_PG) (T := T_PG) (N := 3) hx hb hts i_PG hown hK hP (i + 18) (wsG_page hi) rfl 0 (by decide) (hN.use wd_139) (fun _ h9 => h9) rfl d_FB_copyTo_2 ?_
  refine va_alen (v := 4096) hx hb hK hP (i + 50) 0 (wsG_pb hi) rfl rfl d_FB_copyTo_5 ?_
  refine lv_icmp_gt (tgt := 34) hx hb d_FB_copyTo_6 (by decide) (fun c_1 => ?_) (fun c_1 => ?_)
  · skip
    have c_1 : 4096 < mm := (nI_ltI (a := 4096) (b := mm) (by omega) (by omega)).mp c_1
    exact absurd c_1 (by omega)
  · skip
    have c_1 : ¬ (4096 < mm) := fun h9 => c_1 ((nI_ltI (a := 4096) (b := mm) (by omega) (by omega)).mpr h9)
    refine lv_aload_n hx hb d_FB_copyTo_9 rfl (lv_at hl 0 rfl) ?_
    refine lv_iload_n hx hb d_FB_copyTo_10 rfl (lv_at hl 2 rfl) ?_
    refine lv_i2l hx hb d_FB_copyTo_11 rfl ?_
    refine lv_iload_n hx hb d_FB_copyTo_12 rfl (lv_at hl 3 rfl) ?_
    refine lv_i2l hx hb d_FB_copyTo_13 rfl ?_
    refine xcalli (va_runV (As := [.long ((nI k).toInt64), .long ((nI mm).toInt64)]) (rest := []) ⟨hx, hb, hml, hown, hts⟩ (c_fb_holds l dC dI ad ck rf n fr a ar z pc pe pt pp pf ic ie ip iz ia st rt pb ((nI k).toInt64) ((nI mm).toInt64) hn s.heap.size) (cwV 2 hts (xgV wd_220 wd_221 wd_222 wd_16 wd_223) rfl rfl rfl (by decide +kernel) ⟨Nat.le_of_ble_eq_true rfl, Nat.le_of_ble_eq_true rfl⟩) (xpreV (q0 := 1) hK hN hZ hA hS hP hD rfl rfl) rfl rfl hl.1 rfl (lv_room (Nat.le_of_ble_eq_true rfl)) d_FB_copyTo_14 ⟨Nat.zero_le _, Nat.zero_le _⟩) hD hS hA (fun r_2 H locs hr_2 hP hD hS => ?_)
    subst hr_2
    refine lv_if_eq (tgt := 34) hx hb d_FB_copyTo_17 (by decide) (fun c_3 => ?_) (fun c_3 => ?_)
    · skip
      have c_3 := bI_f c_3
      exact absurd (p_h2 (k := k) (m := mm) (n := n) (by omega) hkm hn) c_3
    · skip
      have c_3 := bI_t c_3
      refine lv_aload_n hx hb d_FB_copyTo_20 rfl (lv_at hl 0 rfl) ?_
      refine va_get (D := (dC, dI)) (ci := 1) (v := .ref (ad 2)) (C := R_FB) (T := T_FB) (N := 2) hx hb hts i_FB hown hK hP 1 rfl rfl 0 (by decide) (hts _ wd_41) (fun _ h9 => h9) rfl d_FB_copyTo_21 ?_
      refine lv_iload_n hx hb d_FB_copyTo_24 rfl (lv_at hl 2 rfl) ?_
      refine lv_aload_n hx hb d_FB_copyTo_25 rfl (lv_at hl 1 rfl) ?_
      refine va_getN (D := (dC, dI)) (ci := 3) (v := .ref (ad (i + 60))) (C := R_PG) (T := T_PG) (N := 3) hx hb hts i_PG hown hK hP (i + 18) (wsG_page hi) rfl 0 (by decide) (hN.use wd_139) (fun _ h9 => h9) rfl d_FB_copyTo_26 ?_
      refine lv_iconst (v := 0) hx hb d_FB_copyTo_29 (by decide) ?_
      refine lv_iload_n hx hb d_FB_copyTo_30 rfl (lv_at hl 3 rfl) ?_
      refine xcopyb (rest := []) (sp := k) (dp := 0) (n := mm) (ws1 := wsG ad ck rf n fr a ar z pc pe pt pp pf ic ie ip iz ia st rt (upr pb i (va_cpy fr (pb i) k 0 mm))) hx hb (hml.trans hl.1.symm) hown (hts _ wd_343) (hts _ wd_345) (hts _ wd_344) (hts _ wd_25) hK hP hD hS 2 (i + 50) 0 0 rfl (wsG_pb hi) rfl rfl rfl rfl rfl (by omega) (by omega) (by decide) (by decide) hFr (Nat.le_of_ble_eq_true rfl) (Nat.le_of_ble_eq_true rfl) (wsG_putB hi) d_FB_copyTo_31 (fun H locs hP hD hS => ?_)
      exact xretv hx hb hr hlocks hK hP hD hS d_FB_copyTo_34
set_option maxHeartbeats 4000000 in
set_option maxRecDepth 100000 in
theorem c_ag_copyTo (l : Launch) (dC : Nat → ClassId) (dI : Nat → Nat → Nat) (ad : Nat → Nat) (ck : Nat → ClassId) (rf : Int32) (n : Nat) (fr : Nat → Int32) (a : Nat) (ar : Nat → Int32) (z : Nat → Nat) (pc : Nat) (pe : Int32) (pt pp : Nat) (pf : Nat → Nat → Int32) (ic : Nat) (ie ip iz ia : Int32) (st rt : Nat → Int32) (pb : Nat → Nat → Int32) (i k q : Nat) (hi : i < 32) (hq : q < 32) (hkz : k + z q ≤ 4096) (hzq : z q ≤ 127) (hAr : sb_Fit ar) (sz : Nat) : Met l y_AG_copyTo w_AG_copyTo { frames := 1, cells := 0, slots := 0, locals := 60 } (va_Pc [.ref (ad 3), .ref (ad (i + 20)), .int (nI k), .int (nI q)] (xP (dC, dI) (tyG ck) (wsG ad ck rf n fr a ar z pc pe pt pp pf ic ie ip iz ia st rt pb) sz)) (xQv (dC, dI) (tyG ck) (va_A (wsG ad ck rf n fr a ar z pc pe pt pp pf ic ie ip iz ia st rt pb) sz) (wsG ad ck rf n fr a ar z pc pe pt pp pf ic ie ip iz ia st rt (upr pb i (va_cpy ar (pb i) (q * 127) k (z q))))) 0 0 (va_A (wsG ad ck rf n fr a ar z pc pe pt pp pf ic ie ip iz ia st rt pb) sz) := by
  refine xof (cc := b_AG_copyTo) (maxL := 4) (ret := none) (own := R_AG) (Qc := fun A => (xQv (dC, dI) (tyG ck) A (wsG ad ck rf n fr a ar z pc pe pt pp pf ic ie ip iz ia st rt (upr pb i (va_cpy ar (pb i) (q * 127) k (z q)))))) (by decide) rfl rfl (Nat.le_of_ble_eq_true rfl) ?_ sz
  intro p e s m below meth c A C hnm hK hP hD hA hN hZ hS ls hl
  obtain ⟨hx, hb, hr, hml, hown, hts, hlocks⟩ := C
  have hl : lv_has ls 4 [(0, .ref (ad 3)), (1, .ref (ad (i + 20))), (2, .int (nI k)), (3, .int (nI q))] := hl
  refine lv_iload_n hx hb d_AG_copyTo_0 rfl (lv_at hl 3 rfl) ?_
  refine lv_if_lt (tgt := 33) hx hb d_AG_copyTo_1 (by decide) (fun c_1 => ?_) (fun c_1 => ?_)
  · skip
    have c_1 : q < 0 := (nI_ltI (a := q) (b := 0) (by omega) (by omega)).mp c_1
    exact absurd c_1 (Nat.not_lt_zero _)
  · skip
    have c_1 : ¬ (q < 0) := fun h9 => c_1 ((nI_ltI (a := q) (b := 0) (by omega) (by omega)).mpr h9)
    refine lv_iload_n hx hb d_AG_copyTo_4 rfl (lv_at hl 3 rfl) ?_
    refine lv_aload_n hx hb d_AG_copyTo_5 rfl (lv_at hl 0 rfl) ?_
    refine va_get (D := (dC, dI)) (ci := 0) (v := .ref (ad 5)) (C := R_AG) (T := T_AG) (N := 3) hx hb hts i_AG hown hK hP 3 rfl rfl 1 (by decide) (hts _ wd_57) (fun _ h9 => h9) rfl d_AG_copyTo_6 ?_
    refine va_alen (v := 32) hx hb hK hP 5 1 rfl rfl rfl d_AG_copyTo_9 ?_
    refine lv_icmp_ge (tgt := 33) hx hb d_AG_copyTo_10 (by decide) (fun c_2 => ?_) (fun c_2 => ?_)
    · skip
      have c_2 : 32 ≤ q := (nI_leI (a := 32) (b := q) (by omega) (by omega)).mp c_2
      exact absurd c_2 (by omega)
    · skip
      have c_2 : ¬ (32 ≤ q) := fun h9 => c_2 ((nI_leI (a := 32) (b := q) (by omega) (by omega)).mpr h9)
      refine lv_iload_n hx hb d_AG_copyTo_13 rfl (lv_at hl 2 rfl) ?_
      refine lv_if_lt (tgt := 33) hx hb d_AG_copyTo_14 (by decide) (fun c_3 => ?_) (fun c_3 => ?_)
      · skip
        have c_3 : k < 0 := (nI_ltI (a := k) (b := 0) (by omega) (by omega)).mp c_3
        exact absurd c_3 (Nat.not_lt_zero _)
      · skip
        have c_3 : ¬ (k < 0) := fun h9 => c_3 ((nI_ltI (a := k) (b := 0) (by omega) (by omega)).mpr h9)
        refine lv_iload_n hx hb d_AG_copyTo_17 rfl (lv_at hl 2 rfl) ?_
        refine lv_aload_n hx hb d_AG_copyTo_18 rfl (lv_at hl 1 rfl) ?_
        refine va_getN (D := (dC, dI)) (ci := 3) (v := .ref (ad (i + 60))) (C := R_PG) (T := T_PG) (N := 3) hx hb hts i_PG hown hK hP (i + 18) (wsG_page hi) rfl 0 (by decide) (hN.use wd_138) (fun _ h9 => h9) rfl d_AG_copyTo_19 ?_
        refine va_alen (v := 4096) hx hb hK hP (i + 50) 0 (wsG_pb hi) rfl rfl d_AG_copyTo_22 ?_
        refine lv_aload_n hx hb d_AG_copyTo_23 rfl (lv_at hl 0 rfl) ?_
        refine va_get (D := (dC, dI)) (ci := 0) (v := .ref (ad 5)) (C := R_AG) (T := T_AG) (N := 3) hx hb hts i_AG hown hK hP 3 rfl rfl 1 (by decide) (hts _ wd_57) (fun _ h9 => h9) rfl d_AG_copyTo_24 ?_
        refine lv_iload_n hx hb d_AG_copyTo_27 rfl (lv_at hl 3 rfl) ?_
        refine xiald (k := q) hx hb hK hP 5 1 rfl rfl (rfl) (by omega) (by decide) d_AG_copyTo_28 ?_
        refine lv_isub hx hb d_AG_copyTo_29 ?_
        refine xtopi (y := nI (4096 - (z q))) (pk_sub (a := 4096) (b := z q) (by omega)) ?_
        refine lv_icmp_le (tgt := 34) hx hb d_AG_copyTo_30 (by decide) (fun c_4 => ?_) (fun c_4 => ?_)
        · skip
          have c_4 : k ≤ 4096 - (z q) := (nI_leI (a := k) (b := 4096 - (z q)) (by omega) (by omega)).mp c_4
          refine lv_aload_n hx hb d_AG_copyTo_34 rfl (lv_at hl 0 rfl) ?_
          refine va_get (D := (dC, dI)) (ci := 0) (v := .ref (ad 4)) (C := R_AG) (T := T_AG) (N := 3) hx hb hts i_AG hown hK hP 3 rfl rfl 0 (by decide) (hts _ wd_56) (fun _ h9 => h9) rfl d_AG_copyTo_35 ?_
          refine lv_iload_n hx hb d_AG_copyTo_38 rfl (lv_at hl 3 rfl) ?_
          refine lv_bipush (v := 127) hx hb d_AG_copyTo_39 (by decide) ?_
          refine lv_imul hx hb d_AG_copyTo_41 ?_
          refine xtopi (y := nI (q * 127)) (pk_mul (q) (127)) ?_
          refine lv_aload_n hx hb d_AG_copyTo_42 rfl (lv_at hl 1 rfl) ?_
          refine va_getN (D := (dC, dI)) (ci := 3) (v := .ref (ad (i + 60))) (C := R_PG) (T := T_PG) (N := 3) hx hb hts i_PG hown hK hP (i + 18) (wsG_page hi) rfl 0 (by decide) (hN.use wd_138) (fun _ h9 => h9) rfl d_AG_copyTo_43 ?_
          refine lv_iload_n hx hb d_AG_copyTo_46 rfl (lv_at hl 2 rfl) ?_
          refine lv_aload_n hx hb d_AG_copyTo_47 rfl (lv_at hl 0 rfl) ?_
          refine va_get (D := (dC, dI)) (ci := 0) (v := .ref (ad 5)) (C := R_AG) (T := T_AG) (N := 3) hx hb hts i_AG hown hK hP 3 rfl rfl 1 (by decide) (hts _ wd_57) (fun _ h9 => h9) rfl d_AG_copyTo_48 ?_
          refine lv_iload_n hx hb d_AG_copyTo_51 rfl (lv_at hl 3 rfl) ?_
          refine xiald (k := q) hx hb hK hP 5 1 rfl rfl (rfl) (by omega) (by decide) d_AG_copyTo_52 ?_
          refine xcopyb (rest := []) (sp := q * 127) (dp := k) (n := z q) (ws1 := wsG ad ck rf n fr a ar z pc pe pt pp pf ic ie ip iz ia st rt (upr pb i (va_cpy ar (pb i) (q * 127) k (z q)))) hx hb (hml.trans hl.1.symm) hown (hts _ wd_356) (hts _ wd_345) (hts _ wd_344) (hts _ wd_25) hK hP hD hS 4 (i + 50) 0 0 rfl (wsG_pb hi) rfl rfl rfl rfl rfl (by omega) (by omega) (by decide) (by decide) hAr (Nat.le_of_ble_eq_true rfl) (Nat.le_of_ble_eq_true rfl) (wsG_putB hi) d_AG_copyTo_53 (fun H locs hP hD hS => ?_)
          exact xretv hx hb hr hlocks hK hP hD hS d_AG_copyTo_56
        · skip
          have c_4 : ¬ (k ≤ 4096 - (z q)) := fun h9 => c_4 ((nI_leI (a := k) (b := 4096 - (z q)) (by omega) (by omega)).mpr h9)
          exact absurd c_4 (by omega)
end
section
/-! THE PLAN: the numbers of a file as Nats, headers, what a reading of them lays down -/
def b8 (x : Int32) : Nat := x.toBitVec.toNat % 256
def nbN (f : Nat → Int32) (q : Nat) : Nat → Nat
  | 0 => 0
  | i + 1 => b8 (f q) + 256 * nbN f (q + 1) i
theorem b8_lt (x : Int32) : b8 x < 256 := Nat.mod_lt _ (by decide)
theorem nbN_lt1 (f : Nat → Int32) (q : Nat) : nbN f q 1 < 256 := by
  have := b8_lt (f q)
  simp only [nbN]
  omega
theorem nbN_lt2 (f : Nat → Int32) (q : Nat) : nbN f q 2 < 65536 := by
  have := b8_lt (f q)
  have := b8_lt (f (q + 1))
  simp only [nbN]
  omega
theorem nbN_lt4 (f : Nat → Int32) (q : Nat) : nbN f q 4 < 4294967296 := by
  have := b8_lt (f q)
  have := b8_lt (f (q + 1))
  have := b8_lt (f (q + 1 + 1))
  have := b8_lt (f (q + 1 + 1 + 1))
  simp only [nbN]
  omega
theorem num_step (a : Nat) (x : Int32) : (nI a <<< ((8 : Int32) &&& 31)) ||| (x &&& 255) = nI (b8 x + 256 * a) := by
  apply Int32.toBitVec_inj.mp
  apply BitVec.eq_of_toNat_eq
  rw [Int32.toBitVec_or, BitVec.toNat_or, pk_shl (nI a) _ 8 (by decide), pk_and x 8 (by decide)]
  have h1 : (nI (x.toBitVec.toNat % 2 ^ 8)).toBitVec.toNat = b8 x := pk_tn (by have := b8_lt x; unfold b8 at this; omega)
  have h2 : (nI a).toBitVec.toNat = a % 2 ^ 32 := rfl
  have h3 : (nI (b8 x + 256 * a)).toBitVec.toNat = (b8 x + 256 * a) % 2 ^ 32 := rfl
  rw [h1, h2, h3]
  have h4 : a % 2 ^ 32 * 2 ^ 8 % 2 ^ 32 = 2 ^ 8 * (a % 2 ^ 24) := by omega
  have hb := b8_lt x
  rw [h4, ← Nat.two_pow_add_eq_or_of_lt (i := 8) (by omega)]
  omega
theorem numI_nb (f : Nat → Int32) (i : Nat) : ∀ q, numI f q i = nI (nbN f q i) := by
  induction i with
  | zero => intro q; rfl
  | succ i ih =>
    intro q
    rw [numI, nbN, ih (q + 1), num_step]
theorem p_num {fr : Nat → Int32} {M n q : Nat} (hq : q + M ≤ n) (hn : n ≤ 65536) : fbNum M n fr (nI q) = nI (nbN fr q M) := by
  rw [fbNum, if_pos (p_in rfl hq hn), nI_toInt (by omega)]
  exact numI_nb fr M q
theorem p_mask {x : Nat} (h : x < 4294967296) : (nI x).toInt64 &&& 4294967295 = lN x := by
  apply Int64.toBitVec_inj.mp
  apply BitVec.eq_of_getLsbD_eq
  intro i hi
  have e1 : ((nI x).toInt64 &&& 4294967295).toBitVec = (BitVec.ofNat 32 x).signExtend 64 &&& BitVec.ofNat 64 (2 ^ 32 - 1) := rfl
  have e2 : (lN x).toBitVec = BitVec.ofNat 64 x := rfl
  rw [e1, e2]
  simp only [BitVec.getLsbD_and, BitVec.getLsbD_signExtend, BitVec.getLsbD_ofNat, Nat.testBit_two_pow_sub_one]
  by_cases h32 : i < 32
  · simp [hi, h32]
  · have hz : x.testBit i = false := Nat.testBit_lt_two_pow (Nat.lt_of_lt_of_le h (by
      have : (2 : Nat) ^ 32 ≤ 2 ^ i := Nat.pow_le_pow_right (by decide) (by omega)
      exact this))
    simp [hi, h32, hz]
theorem p_uns {fr : Nat → Int32} {n q : Nat} (hq : q + 4 ≤ n) (hn : n ≤ 65536) : fbUns n fr (nI q) = lN (nbN fr q 4) := by
  rw [fbUns, p_num hq hn]
  exact p_mask (nbN_lt4 fr q)
theorem nI_inj32 {a b : Nat} (ha : a < 4294967296) (hb : b < 4294967296) (h : nI a = nI b) : a = b := by
  have := congrArg (fun x : Int32 => x.toBitVec.toNat) h
  simp only [pk_tn ha, pk_tn hb] at this
  exact this
theorem p_hl {a b n : Nat} (ha : a < 4294967296) (hb : b < 4294967296) : (0 ≤ (lN a).toInt ∧ 0 ≤ (lN b).toInt ∧ (lN a).toInt + (lN b).toInt ≤ (n : Int)) ↔ a + b ≤ n := by
  rw [pk_lT (by omega), pk_lT (by omega)]
  omega
def rgO (w : Int32) : Int32 := ((8 ||| (if w &&& 4 = 0 then 0 else 1)) ||| (if w &&& 2 = 0 then 0 else 2)) ||| (if w &&& 1 = 0 then 0 else 4)
abbrev hdK (f : Nat → Int32) (q : Nat) : Nat := nbN f q 4
abbrev hdF (f : Nat → Int32) (q : Nat) : Nat := nbN f (q + 4) 4
abbrev hdA (f : Nat → Int32) (q : Nat) : Nat := nbN f (q + 8) 4
abbrev hdB (f : Nat → Int32) (q : Nat) : Nat := nbN f (q + 16) 4
abbrev hdS (f : Nat → Int32) (q : Nat) : Nat := nbN f (q + 20) 4
abbrev hdW (f : Nat → Int32) (q : Nat) : Nat := nbN f (q + 24) 4
abbrev hdP (f : Nat → Int32) (q : Nat) : Nat := (hdS f q + 4096 - 1) / 4096
abbrev hdSkip (f : Nat → Int32) (q : Nat) : Prop := ¬ hdK f q = 1 ∨ hdS f q = 0
abbrev hdGood (f : Nat → Int32) (n t q : Nat) : Prop := hdA f q % 4096 = 0 ∧ t ≤ hdA f q ∧ hdA f q + hdS f q ≤ 1073733632 ∧ hdB f q ≤ hdS f q ∧ hdF f q + hdB f q ≤ n
abbrev PS : Type := Nat × Nat × Nat × (Nat → Nat → Int32)
def pfSet (pf : Nat → Nat → Int32) (i : Nat) (a0 a1 a2 a3 a4 : Int32) : Nat → Nat → Int32 := upp (upp (upp (upp (upp pf i 0 a0) i 1 a1) i 2 a2) i 3 a3) i 4 a4
def psPush (f : Nat → Int32) (q : Nat) (s : PS) : PS := (s.1 + 1, hdA f q + hdP f q * 4096, s.2.2.1 + hdP f q, pfSet s.2.2.2 s.1 (nI (hdF f q)) (nI (hdB f q)) (nI (hdA f q)) (nI (hdP f q)) (rgO (nI (hdW f q))))
def psStep (f : Nat → Int32) (n q : Nat) (s : PS) : PS := if hdSkip f q then s else if hdGood f n s.2.1 q then psPush f q s else s
theorem psStep_skip {f : Nat → Int32} {n q : Nat} {s : PS} (h : hdSkip f q) : psStep f n q s = s := by rw [psStep, if_pos h]
theorem psStep_good {f : Nat → Int32} {n q : Nat} {s : PS} (h : ¬ hdSkip f q) (h2 : hdGood f n s.2.1 q) : psStep f n q s = psPush f q s := by rw [psStep, if_neg h, if_pos h2]
theorem psStep_bad {f : Nat → Int32} {n q : Nat} {s : PS} (h2 : ¬ hdGood f n s.2.1 q) : psStep f n q s = s := by
  unfold psStep
  by_cases h1 : hdSkip f q
  · rw [if_pos h1]
  · rw [if_neg h1, if_neg h2]
/-- all headers, one after the other, from the j-th on: is each as it must be, and what stands in the plan at the end or at the first that isn't -/
def plRun (f : Nat → Int32) (n b : Nat) : Nat → Nat → PS → Bool × PS
  | 0, _, s => (true, s)
  | k + 1, j, s => if hdSkip f (b + j * 32) ∨ hdGood f n s.2.1 (b + j * 32) then plRun f n b k (j + 1) (psStep f n (b + j * 32) s) else (false, s)
abbrev nHd (f : Nat → Int32) : Nat := nbN f 44 2
abbrev kindOK (f : Nat → Int32) : Prop := nbN f 16 2 = 2 ∧ nbN f 18 2 = 243 ∧ nbN f 20 4 = 1 ∧ nbN f 42 2 = 32 ∧ nbN f 44 2 ≤ 8
abbrev hdsIn (f : Nat → Int32) (n : Nat) : Prop := nHd f = 0 ∨ nbN f 28 4 + nHd f * 32 ≤ n
abbrev plAll (f : Nat → Int32) (n : Nat) (pf : Nat → Nat → Int32) : Bool × PS := plRun f n (nbN f 28 4) (nHd f) 0 (0, 0, 2, pf)
theorem psStep_top {f : Nat → Int32} {n q : Nat} {s : PS} (h : s.2.1 ≤ 1073733632) : (psStep f n q s).2.1 ≤ 1073733632 := by
  rw [psStep]
  split
  · exact h
  · split
    · rename_i h1 h2
      have a1 : nbN f (q + 8) 4 % 4096 = 0 := h2.1
      have a3 : nbN f (q + 8) 4 + nbN f (q + 20) 4 ≤ 1073733632 := h2.2.2.1
      show nbN f (q + 8) 4 + (nbN f (q + 20) 4 + 4096 - 1) / 4096 * 4096 ≤ 1073733632
      omega
    · exact h
theorem psStep_cnt {f : Nat → Int32} {n q : Nat} {s : PS} : (psStep f n q s).1 ≤ s.1 + 1 := by
  rw [psStep]
  split
  · omega
  · split
    · exact Nat.le_refl _
    · omega
end
section
theorem d_PL_headerCount_0 : decode b_PL_headerCount 0 = .ok (.aload_n 0, 1) := by decide +kernel
theorem d_PL_headerCount_1 : decode b_PL_headerCount 1 = .ok (.bipush 44, 2) := by decide +kernel
theorem d_PL_headerCount_3 : decode b_PL_headerCount 3 = .ok (.iconst 2, 1) := by decide +kernel
theorem d_PL_headerCount_4 : decode b_PL_headerCount 4 = .ok (.invokevirtual 30, 3) := by decide +kernel
theorem d_PL_headerCount_7 : decode b_PL_headerCount 7 = .ok (.ireturn, 1) := by decide +kernel
theorem d_PL_rightsOf_0 : decode b_PL_rightsOf 0 = .ok (.bipush 8, 2) := by decide +kernel
theorem d_PL_rightsOf_2 : decode b_PL_rightsOf 2 = .ok (.iload_n 0, 1) := by decide +kernel
theorem d_PL_rightsOf_3 : decode b_PL_rightsOf 3 = .ok (.iconst 4, 1) := by decide +kernel
theorem d_PL_rightsOf_4 : decode b_PL_rightsOf 4 = .ok (.iand, 1) := by decide +kernel
theorem d_PL_rightsOf_5 : decode b_PL_rightsOf 5 = .ok (.ifCond .eq 7, 3) := by decide +kernel
theorem d_PL_rightsOf_8 : decode b_PL_rightsOf 8 = .ok (.iconst 1, 1) := by decide +kernel
theorem d_PL_rightsOf_9 : decode b_PL_rightsOf 9 = .ok (.goto 4, 3) := by decide +kernel
theorem d_PL_rightsOf_12 : decode b_PL_rightsOf 12 = .ok (.iconst 0, 1) := by decide +kernel
theorem d_PL_rightsOf_13 : decode b_PL_rightsOf 13 = .ok (.ior, 1) := by decide +kernel
theorem d_PL_rightsOf_14 : decode b_PL_rightsOf 14 = .ok (.iload_n 0, 1) := by decide +kernel
theorem d_PL_rightsOf_15 : decode b_PL_rightsOf 15 = .ok (.iconst 2, 1) := by decide +kernel
theorem d_PL_rightsOf_16 : decode b_PL_rightsOf 16 = .ok (.iand, 1) := by decide +kernel
theorem d_PL_rightsOf_17 : decode b_PL_rightsOf 17 = .ok (.ifCond .eq 7, 3) := by decide +kernel
theorem d_PL_rightsOf_20 : decode b_PL_rightsOf 20 = .ok (.iconst 2, 1) := by decide +kernel
theorem d_PL_rightsOf_21 : decode b_PL_rightsOf 21 = .ok (.goto 4, 3) := by decide +kernel
theorem d_PL_rightsOf_24 : decode b_PL_rightsOf 24 = .ok (.iconst 0, 1) := by decide +kernel
theorem d_PL_rightsOf_25 : decode b_PL_rightsOf 25 = .ok (.ior, 1) := by decide +kernel
theorem d_PL_rightsOf_26 : decode b_PL_rightsOf 26 = .ok (.iload_n 0, 1) := by decide +kernel
theorem d_PL_rightsOf_27 : decode b_PL_rightsOf 27 = .ok (.iconst 1, 1) := by decide +kernel
theorem d_PL_rightsOf_28 : decode b_PL_rightsOf 28 = .ok (.iand, 1) := by decide +kernel
theorem d_PL_rightsOf_29 : decode b_PL_rightsOf 29 = .ok (.ifCond .eq 7, 3) := by decide +kernel
theorem d_PL_rightsOf_32 : decode b_PL_rightsOf 32 = .ok (.iconst 4, 1) := by decide +kernel
theorem d_PL_rightsOf_33 : decode b_PL_rightsOf 33 = .ok (.goto 4, 3) := by decide +kernel
theorem d_PL_rightsOf_36 : decode b_PL_rightsOf 36 = .ok (.iconst 0, 1) := by decide +kernel
theorem d_PL_rightsOf_37 : decode b_PL_rightsOf 37 = .ok (.ior, 1) := by decide +kernel
theorem d_PL_rightsOf_38 : decode b_PL_rightsOf 38 = .ok (.ireturn, 1) := by decide +kernel
theorem d_PL_isOfOurKind_0 : decode b_PL_isOfOurKind 0 = .ok (.aload_n 1, 1) := by decide +kernel
theorem d_PL_isOfOurKind_1 : decode b_PL_isOfOurKind 1 = .ok (.bipush 16, 2) := by decide +kernel
theorem d_PL_isOfOurKind_3 : decode b_PL_isOfOurKind 3 = .ok (.iconst 2, 1) := by decide +kernel
theorem d_PL_isOfOurKind_4 : decode b_PL_isOfOurKind 4 = .ok (.invokevirtual 30, 3) := by decide +kernel
theorem d_PL_isOfOurKind_7 : decode b_PL_isOfOurKind 7 = .ok (.iconst 2, 1) := by decide +kernel
theorem d_PL_isOfOurKind_8 : decode b_PL_isOfOurKind 8 = .ok (.if_icmp .ne 52, 3) := by decide +kernel
theorem d_PL_isOfOurKind_11 : decode b_PL_isOfOurKind 11 = .ok (.aload_n 1, 1) := by decide +kernel
theorem d_PL_isOfOurKind_12 : decode b_PL_isOfOurKind 12 = .ok (.bipush 18, 2) := by decide +kernel
theorem d_PL_isOfOurKind_14 : decode b_PL_isOfOurKind 14 = .ok (.iconst 2, 1) := by decide +kernel
theorem d_PL_isOfOurKind_15 : decode b_PL_isOfOurKind 15 = .ok (.invokevirtual 30, 3) := by decide +kernel
theorem d_PL_isOfOurKind_18 : decode b_PL_isOfOurKind 18 = .ok (.sipush 243, 3) := by decide +kernel
theorem d_PL_isOfOurKind_21 : decode b_PL_isOfOurKind 21 = .ok (.if_icmp .ne 39, 3) := by decide +kernel
theorem d_PL_isOfOurKind_24 : decode b_PL_isOfOurKind 24 = .ok (.aload_n 1, 1) := by decide +kernel
theorem d_PL_isOfOurKind_25 : decode b_PL_isOfOurKind 25 = .ok (.bipush 20, 2) := by decide +kernel
theorem d_PL_isOfOurKind_27 : decode b_PL_isOfOurKind 27 = .ok (.iconst 4, 1) := by decide +kernel
theorem d_PL_isOfOurKind_28 : decode b_PL_isOfOurKind 28 = .ok (.invokevirtual 30, 3) := by decide +kernel
theorem d_PL_isOfOurKind_31 : decode b_PL_isOfOurKind 31 = .ok (.iconst 1, 1) := by decide +kernel
theorem d_PL_isOfOurKind_32 : decode b_PL_isOfOurKind 32 = .ok (.if_icmp .ne 28, 3) := by decide +kernel
theorem d_PL_isOfOurKind_35 : decode b_PL_isOfOurKind 35 = .ok (.aload_n 1, 1) := by decide +kernel
theorem d_PL_isOfOurKind_36 : decode b_PL_isOfOurKind 36 = .ok (.bipush 42, 2) := by decide +kernel
theorem d_PL_isOfOurKind_38 : decode b_PL_isOfOurKind 38 = .ok (.iconst 2, 1) := by decide +kernel
theorem d_PL_isOfOurKind_39 : decode b_PL_isOfOurKind 39 = .ok (.invokevirtual 30, 3) := by decide +kernel
theorem d_PL_isOfOurKind_42 : decode b_PL_isOfOurKind 42 = .ok (.bipush 32, 2) := by decide +kernel
theorem d_PL_isOfOurKind_44 : decode b_PL_isOfOurKind 44 = .ok (.if_icmp .ne 16, 3) := by decide +kernel
theorem d_PL_isOfOurKind_47 : decode b_PL_isOfOurKind 47 = .ok (.aload_n 1, 1) := by decide +kernel
theorem d_PL_isOfOurKind_48 : decode b_PL_isOfOurKind 48 = .ok (.invokestatic 34, 3) := by decide +kernel
theorem d_PL_isOfOurKind_51 : decode b_PL_isOfOurKind 51 = .ok (.bipush 8, 2) := by decide +kernel
theorem d_PL_isOfOurKind_53 : decode b_PL_isOfOurKind 53 = .ok (.if_icmp .gt 7, 3) := by decide +kernel
theorem d_PL_isOfOurKind_56 : decode b_PL_isOfOurKind 56 = .ok (.iconst 1, 1) := by decide +kernel
theorem d_PL_isOfOurKind_57 : decode b_PL_isOfOurKind 57 = .ok (.goto 4, 3) := by decide +kernel
theorem d_PL_isOfOurKind_60 : decode b_PL_isOfOurKind 60 = .ok (.iconst 0, 1) := by decide +kernel
theorem d_PL_isOfOurKind_61 : decode b_PL_isOfOurKind 61 = .ok (.ireturn, 1) := by decide +kernel
theorem d_PL_hasAllHeaders_0 : decode b_PL_hasAllHeaders 0 = .ok (.aload_n 1, 1) := by decide +kernel
theorem d_PL_hasAllHeaders_1 : decode b_PL_hasAllHeaders 1 = .ok (.invokestatic 34, 3) := by decide +kernel
theorem d_PL_hasAllHeaders_4 : decode b_PL_hasAllHeaders 4 = .ok (.istore_n 2, 1) := by decide +kernel
theorem d_PL_hasAllHeaders_5 : decode b_PL_hasAllHeaders 5 = .ok (.iload_n 2, 1) := by decide +kernel
theorem d_PL_hasAllHeaders_6 : decode b_PL_hasAllHeaders 6 = .ok (.ifCond .eq 21, 3) := by decide +kernel
theorem d_PL_hasAllHeaders_9 : decode b_PL_hasAllHeaders 9 = .ok (.aload_n 1, 1) := by decide +kernel
theorem d_PL_hasAllHeaders_10 : decode b_PL_hasAllHeaders 10 = .ok (.aload_n 1, 1) := by decide +kernel
theorem d_PL_hasAllHeaders_11 : decode b_PL_hasAllHeaders 11 = .ok (.bipush 28, 2) := by decide +kernel
theorem d_PL_hasAllHeaders_13 : decode b_PL_hasAllHeaders 13 = .ok (.invokevirtual 38, 3) := by decide +kernel
theorem d_PL_hasAllHeaders_16 : decode b_PL_hasAllHeaders 16 = .ok (.iload_n 2, 1) := by decide +kernel
theorem d_PL_hasAllHeaders_17 : decode b_PL_hasAllHeaders 17 = .ok (.bipush 32, 2) := by decide +kernel
theorem d_PL_hasAllHeaders_19 : decode b_PL_hasAllHeaders 19 = .ok (.imul, 1) := by decide +kernel
theorem d_PL_hasAllHeaders_20 : decode b_PL_hasAllHeaders 20 = .ok (.i2l, 1) := by decide +kernel
theorem d_PL_hasAllHeaders_21 : decode b_PL_hasAllHeaders 21 = .ok (.invokevirtual 20, 3) := by decide +kernel
theorem d_PL_hasAllHeaders_24 : decode b_PL_hasAllHeaders 24 = .ok (.ifCond .eq 7, 3) := by decide +kernel
theorem d_PL_hasAllHeaders_27 : decode b_PL_hasAllHeaders 27 = .ok (.iconst 1, 1) := by decide +kernel
theorem d_PL_hasAllHeaders_28 : decode b_PL_hasAllHeaders 28 = .ok (.goto 4, 3) := by decide +kernel
theorem d_PL_hasAllHeaders_31 : decode b_PL_hasAllHeaders 31 = .ok (.iconst 0, 1) := by decide +kernel
theorem d_PL_hasAllHeaders_32 : decode b_PL_hasAllHeaders 32 = .ok (.ireturn, 1) := by decide +kernel
theorem d_PL_readHeader_0 : decode b_PL_readHeader 0 = .ok (.aload_n 1, 1) := by decide +kernel
theorem d_PL_readHeader_1 : decode b_PL_readHeader 1 = .ok (.iload_n 2, 1) := by decide +kernel
theorem d_PL_readHeader_2 : decode b_PL_readHeader 2 = .ok (.iconst 4, 1) := by decide +kernel
theorem d_PL_readHeader_3 : decode b_PL_readHeader 3 = .ok (.iadd, 1) := by decide +kernel
theorem d_PL_readHeader_4 : decode b_PL_readHeader 4 = .ok (.invokevirtual 38, 3) := by decide +kernel
theorem d_PL_readHeader_7 : decode b_PL_readHeader 7 = .ok (.lstore_n 3, 1) := by decide +kernel
theorem d_PL_readHeader_8 : decode b_PL_readHeader 8 = .ok (.aload_n 1, 1) := by decide +kernel
theorem d_PL_readHeader_9 : decode b_PL_readHeader 9 = .ok (.iload_n 2, 1) := by decide +kernel
theorem d_PL_readHeader_10 : decode b_PL_readHeader 10 = .ok (.bipush 8, 2) := by decide +kernel
theorem d_PL_readHeader_12 : decode b_PL_readHeader 12 = .ok (.iadd, 1) := by decide +kernel
theorem d_PL_readHeader_13 : decode b_PL_readHeader 13 = .ok (.invokevirtual 38, 3) := by decide +kernel
theorem d_PL_readHeader_16 : decode b_PL_readHeader 16 = .ok (.lstore 5, 2) := by decide +kernel
theorem d_PL_readHeader_18 : decode b_PL_readHeader 18 = .ok (.aload_n 1, 1) := by decide +kernel
theorem d_PL_readHeader_19 : decode b_PL_readHeader 19 = .ok (.iload_n 2, 1) := by decide +kernel
theorem d_PL_readHeader_20 : decode b_PL_readHeader 20 = .ok (.bipush 16, 2) := by decide +kernel
theorem d_PL_readHeader_22 : decode b_PL_readHeader 22 = .ok (.iadd, 1) := by decide +kernel
theorem d_PL_readHeader_23 : decode b_PL_readHeader 23 = .ok (.invokevirtual 38, 3) := by decide +kernel
theorem d_PL_readHeader_26 : decode b_PL_readHeader 26 = .ok (.lstore 7, 2) := by decide +kernel
theorem d_PL_readHeader_28 : decode b_PL_readHeader 28 = .ok (.aload_n 1, 1) := by decide +kernel
theorem d_PL_readHeader_29 : decode b_PL_readHeader 29 = .ok (.iload_n 2, 1) := by decide +kernel
theorem d_PL_readHeader_30 : decode b_PL_readHeader 30 = .ok (.bipush 20, 2) := by decide +kernel
theorem d_PL_readHeader_32 : decode b_PL_readHeader 32 = .ok (.iadd, 1) := by decide +kernel
theorem d_PL_readHeader_33 : decode b_PL_readHeader 33 = .ok (.invokevirtual 38, 3) := by decide +kernel
theorem d_PL_readHeader_36 : decode b_PL_readHeader 36 = .ok (.lstore 9, 2) := by decide +kernel
theorem d_PL_readHeader_38 : decode b_PL_readHeader 38 = .ok (.aload_n 1, 1) := by decide +kernel
theorem d_PL_readHeader_39 : decode b_PL_readHeader 39 = .ok (.iload_n 2, 1) := by decide +kernel
theorem d_PL_readHeader_40 : decode b_PL_readHeader 40 = .ok (.iconst 4, 1) := by decide +kernel
theorem d_PL_readHeader_41 : decode b_PL_readHeader 41 = .ok (.invokevirtual 30, 3) := by decide +kernel
theorem d_PL_readHeader_44 : decode b_PL_readHeader 44 = .ok (.iconst 1, 1) := by decide +kernel
theorem d_PL_readHeader_45 : decode b_PL_readHeader 45 = .ok (.if_icmp .ne 10, 3) := by decide +kernel
theorem d_PL_readHeader_48 : decode b_PL_readHeader 48 = .ok (.lload 9, 2) := by decide +kernel
theorem d_PL_readHeader_50 : decode b_PL_readHeader 50 = .ok (.lconst 0, 1) := by decide +kernel
theorem d_PL_readHeader_51 : decode b_PL_readHeader 51 = .ok (.lcmp, 1) := by decide +kernel
theorem d_PL_readHeader_52 : decode b_PL_readHeader 52 = .ok (.ifCond .ne 5, 3) := by decide +kernel
theorem d_PL_readHeader_55 : decode b_PL_readHeader 55 = .ok (.iconst 1, 1) := by decide +kernel
theorem d_PL_readHeader_56 : decode b_PL_readHeader 56 = .ok (.ireturn, 1) := by decide +kernel
theorem d_PL_readHeader_57 : decode b_PL_readHeader 57 = .ok (.lload 5, 2) := by decide +kernel
theorem d_PL_readHeader_59 : decode b_PL_readHeader 59 = .ok (.ldc2_w 59, 3) := by decide +kernel
theorem d_PL_readHeader_62 : decode b_PL_readHeader 62 = .ok (.lrem, 1) := by decide +kernel
theorem d_PL_readHeader_63 : decode b_PL_readHeader 63 = .ok (.lconst 0, 1) := by decide +kernel
theorem d_PL_readHeader_64 : decode b_PL_readHeader 64 = .ok (.lcmp, 1) := by decide +kernel
theorem d_PL_readHeader_65 : decode b_PL_readHeader 65 = .ok (.ifCond .ne 26, 3) := by decide +kernel
theorem d_PL_readHeader_68 : decode b_PL_readHeader 68 = .ok (.lload 5, 2) := by decide +kernel
theorem d_PL_readHeader_70 : decode b_PL_readHeader 70 = .ok (.aload_n 0, 1) := by decide +kernel
theorem d_PL_readHeader_71 : decode b_PL_readHeader 71 = .ok (.getfield 49, 3) := by decide +kernel
theorem d_PL_readHeader_74 : decode b_PL_readHeader 74 = .ok (.i2l, 1) := by decide +kernel
theorem d_PL_readHeader_75 : decode b_PL_readHeader 75 = .ok (.lcmp, 1) := by decide +kernel
theorem d_PL_readHeader_76 : decode b_PL_readHeader 76 = .ok (.ifCond .lt 15, 3) := by decide +kernel
theorem d_PL_readHeader_79 : decode b_PL_readHeader 79 = .ok (.lload 5, 2) := by decide +kernel
theorem d_PL_readHeader_81 : decode b_PL_readHeader 81 = .ok (.lload 9, 2) := by decide +kernel
theorem d_PL_readHeader_83 : decode b_PL_readHeader 83 = .ok (.ladd, 1) := by decide +kernel
theorem d_PL_readHeader_84 : decode b_PL_readHeader 84 = .ok (.ldc2_w 61, 3) := by decide +kernel
theorem d_PL_readHeader_87 : decode b_PL_readHeader 87 = .ok (.lcmp, 1) := by decide +kernel
theorem d_PL_readHeader_88 : decode b_PL_readHeader 88 = .ok (.ifCond .le 5, 3) := by decide +kernel
theorem d_PL_readHeader_91 : decode b_PL_readHeader 91 = .ok (.iconst 0, 1) := by decide +kernel
theorem d_PL_readHeader_92 : decode b_PL_readHeader 92 = .ok (.ireturn, 1) := by decide +kernel
theorem d_PL_readHeader_93 : decode b_PL_readHeader 93 = .ok (.lload 7, 2) := by decide +kernel
theorem d_PL_readHeader_95 : decode b_PL_readHeader 95 = .ok (.lload 9, 2) := by decide +kernel
theorem d_PL_readHeader_97 : decode b_PL_readHeader 97 = .ok (.lcmp, 1) := by decide +kernel
theorem d_PL_readHeader_98 : decode b_PL_readHeader 98 = .ok (.ifCond .gt 25, 3) := by decide +kernel
theorem d_PL_readHeader_101 : decode b_PL_readHeader 101 = .ok (.aload_n 1, 1) := by decide +kernel
theorem d_PL_readHeader_102 : decode b_PL_readHeader 102 = .ok (.lload_n 3, 1) := by decide +kernel
theorem d_PL_readHeader_103 : decode b_PL_readHeader 103 = .ok (.lload 7, 2) := by decide +kernel
theorem d_PL_readHeader_105 : decode b_PL_readHeader 105 = .ok (.invokevirtual 20, 3) := by decide +kernel
theorem d_PL_readHeader_108 : decode b_PL_readHeader 108 = .ok (.ifCond .eq 15, 3) := by decide +kernel
theorem d_PL_readHeader_111 : decode b_PL_readHeader 111 = .ok (.aload_n 0, 1) := by decide +kernel
theorem d_PL_readHeader_112 : decode b_PL_readHeader 112 = .ok (.getfield 42, 3) := by decide +kernel
theorem d_PL_readHeader_115 : decode b_PL_readHeader 115 = .ok (.aload_n 0, 1) := by decide +kernel
theorem d_PL_readHeader_116 : decode b_PL_readHeader 116 = .ok (.getfield 11, 3) := by decide +kernel
theorem d_PL_readHeader_119 : decode b_PL_readHeader 119 = .ok (.arraylength, 1) := by decide +kernel
theorem d_PL_readHeader_120 : decode b_PL_readHeader 120 = .ok (.if_icmp .lt 5, 3) := by decide +kernel
theorem d_PL_readHeader_123 : decode b_PL_readHeader 123 = .ok (.iconst 0, 1) := by decide +kernel
theorem d_PL_readHeader_124 : decode b_PL_readHeader 124 = .ok (.ireturn, 1) := by decide +kernel
theorem d_PL_readHeader_125 : decode b_PL_readHeader 125 = .ok (.aload_n 0, 1) := by decide +kernel
theorem d_PL_readHeader_126 : decode b_PL_readHeader 126 = .ok (.getfield 11, 3) := by decide +kernel
theorem d_PL_readHeader_129 : decode b_PL_readHeader 129 = .ok (.aload_n 0, 1) := by decide +kernel
theorem d_PL_readHeader_130 : decode b_PL_readHeader 130 = .ok (.getfield 42, 3) := by decide +kernel
theorem d_PL_readHeader_133 : decode b_PL_readHeader 133 = .ok (.aaload, 1) := by decide +kernel
theorem d_PL_readHeader_134 : decode b_PL_readHeader 134 = .ok (.astore 11, 2) := by decide +kernel
theorem d_PL_readHeader_136 : decode b_PL_readHeader 136 = .ok (.aload 11, 2) := by decide +kernel
theorem d_PL_readHeader_138 : decode b_PL_readHeader 138 = .ok (.lload_n 3, 1) := by decide +kernel
theorem d_PL_readHeader_139 : decode b_PL_readHeader 139 = .ok (.l2i, 1) := by decide +kernel
theorem d_PL_readHeader_140 : decode b_PL_readHeader 140 = .ok (.putfield 63, 3) := by decide +kernel
theorem d_PL_readHeader_143 : decode b_PL_readHeader 143 = .ok (.aload 11, 2) := by decide +kernel
theorem d_PL_readHeader_145 : decode b_PL_readHeader 145 = .ok (.lload 7, 2) := by decide +kernel
theorem d_PL_readHeader_147 : decode b_PL_readHeader 147 = .ok (.l2i, 1) := by decide +kernel
theorem d_PL_readHeader_148 : decode b_PL_readHeader 148 = .ok (.putfield 66, 3) := by decide +kernel
theorem d_PL_readHeader_151 : decode b_PL_readHeader 151 = .ok (.aload 11, 2) := by decide +kernel
theorem d_PL_readHeader_153 : decode b_PL_readHeader 153 = .ok (.lload 5, 2) := by decide +kernel
theorem d_PL_readHeader_155 : decode b_PL_readHeader 155 = .ok (.l2i, 1) := by decide +kernel
theorem d_PL_readHeader_156 : decode b_PL_readHeader 156 = .ok (.putfield 69, 3) := by decide +kernel
theorem d_PL_readHeader_159 : decode b_PL_readHeader 159 = .ok (.aload 11, 2) := by decide +kernel
theorem d_PL_readHeader_161 : decode b_PL_readHeader 161 = .ok (.lload 9, 2) := by decide +kernel
theorem d_PL_readHeader_163 : decode b_PL_readHeader 163 = .ok (.ldc2_w 59, 3) := by decide +kernel
theorem d_PL_readHeader_166 : decode b_PL_readHeader 166 = .ok (.ladd, 1) := by decide +kernel
theorem d_PL_readHeader_167 : decode b_PL_readHeader 167 = .ok (.lconst 1, 1) := by decide +kernel
theorem d_PL_readHeader_168 : decode b_PL_readHeader 168 = .ok (.lsub, 1) := by decide +kernel
theorem d_PL_readHeader_169 : decode b_PL_readHeader 169 = .ok (.ldc2_w 59, 3) := by decide +kernel
theorem d_PL_readHeader_172 : decode b_PL_readHeader 172 = .ok (.ldiv, 1) := by decide +kernel
theorem d_PL_readHeader_173 : decode b_PL_readHeader 173 = .ok (.l2i, 1) := by decide +kernel
theorem d_PL_readHeader_174 : decode b_PL_readHeader 174 = .ok (.putfield 72, 3) := by decide +kernel
theorem d_PL_readHeader_177 : decode b_PL_readHeader 177 = .ok (.aload 11, 2) := by decide +kernel
theorem d_PL_readHeader_179 : decode b_PL_readHeader 179 = .ok (.aload_n 1, 1) := by decide +kernel
theorem d_PL_readHeader_180 : decode b_PL_readHeader 180 = .ok (.iload_n 2, 1) := by decide +kernel
theorem d_PL_readHeader_181 : decode b_PL_readHeader 181 = .ok (.bipush 24, 2) := by decide +kernel
theorem d_PL_readHeader_183 : decode b_PL_readHeader 183 = .ok (.iadd, 1) := by decide +kernel
theorem d_PL_readHeader_184 : decode b_PL_readHeader 184 = .ok (.iconst 4, 1) := by decide +kernel
theorem d_PL_readHeader_185 : decode b_PL_readHeader 185 = .ok (.invokevirtual 30, 3) := by decide +kernel
theorem d_PL_readHeader_188 : decode b_PL_readHeader 188 = .ok (.invokestatic 73, 3) := by decide +kernel
theorem d_PL_readHeader_191 : decode b_PL_readHeader 191 = .ok (.putfield 77, 3) := by decide +kernel
theorem d_PL_readHeader_194 : decode b_PL_readHeader 194 = .ok (.aload_n 0, 1) := by decide +kernel
theorem d_PL_readHeader_195 : decode b_PL_readHeader 195 = .ok (.dup, 1) := by decide +kernel
theorem d_PL_readHeader_196 : decode b_PL_readHeader 196 = .ok (.getfield 42, 3) := by decide +kernel
theorem d_PL_readHeader_199 : decode b_PL_readHeader 199 = .ok (.iconst 1, 1) := by decide +kernel
theorem d_PL_readHeader_200 : decode b_PL_readHeader 200 = .ok (.iadd, 1) := by decide +kernel
theorem d_PL_readHeader_201 : decode b_PL_readHeader 201 = .ok (.putfield 42, 3) := by decide +kernel
theorem d_PL_readHeader_204 : decode b_PL_readHeader 204 = .ok (.aload_n 0, 1) := by decide +kernel
theorem d_PL_readHeader_205 : decode b_PL_readHeader 205 = .ok (.aload 11, 2) := by decide +kernel
theorem d_PL_readHeader_207 : decode b_PL_readHeader 207 = .ok (.getfield 69, 3) := by decide +kernel
theorem d_PL_readHeader_210 : decode b_PL_readHeader 210 = .ok (.aload 11, 2) := by decide +kernel
theorem d_PL_readHeader_212 : decode b_PL_readHeader 212 = .ok (.getfield 72, 3) := by decide +kernel
theorem d_PL_readHeader_215 : decode b_PL_readHeader 215 = .ok (.sipush 4096, 3) := by decide +kernel
theorem d_PL_readHeader_218 : decode b_PL_readHeader 218 = .ok (.imul, 1) := by decide +kernel
theorem d_PL_readHeader_219 : decode b_PL_readHeader 219 = .ok (.iadd, 1) := by decide +kernel
theorem d_PL_readHeader_220 : decode b_PL_readHeader 220 = .ok (.putfield 49, 3) := by decide +kernel
theorem d_PL_readHeader_223 : decode b_PL_readHeader 223 = .ok (.aload_n 0, 1) := by decide +kernel
theorem d_PL_readHeader_224 : decode b_PL_readHeader 224 = .ok (.dup, 1) := by decide +kernel
theorem d_PL_readHeader_225 : decode b_PL_readHeader 225 = .ok (.getfield 52, 3) := by decide +kernel
theorem d_PL_readHeader_228 : decode b_PL_readHeader 228 = .ok (.aload 11, 2) := by decide +kernel
theorem d_PL_readHeader_230 : decode b_PL_readHeader 230 = .ok (.getfield 72, 3) := by decide +kernel
theorem d_PL_readHeader_233 : decode b_PL_readHeader 233 = .ok (.iadd, 1) := by decide +kernel
theorem d_PL_readHeader_234 : decode b_PL_readHeader 234 = .ok (.putfield 52, 3) := by decide +kernel
theorem d_PL_readHeader_237 : decode b_PL_readHeader 237 = .ok (.iconst 1, 1) := by decide +kernel
theorem d_PL_readHeader_238 : decode b_PL_readHeader 238 = .ok (.ireturn, 1) := by decide +kernel
end
section
set_option maxHeartbeats 4000000 in
set_option maxRecDepth 100000 in
theorem c_pl_headerCount (l : Launch) (dC : Nat → ClassId) (dI : Nat → Nat → Nat) (ad : Nat → Nat) (ck : Nat → ClassId) (rf : Int32) (n : Nat) (fr : Nat → Int32) (a : Nat) (ar : Nat → Int32) (z : Nat → Nat) (pc : Nat) (pe : Int32) (pt pp : Nat) (pf : Nat → Nat → Int32) (ic : Nat) (ie ip iz ia : Int32) (st rt : Nat → Int32) (pb : Nat → Nat → Int32) (h52 : 52 ≤ n) (hn : n ≤ 65536) (sz : Nat) : Met l y_PL_headerCount w_PL_headerCount { frames := 2, cells := 0, slots := 0, locals := 48 } (va_Pc [.ref (ad 1)] (xP (dC, dI) (tyG ck) (wsG ad ck rf n fr a ar z pc pe pt pp pf ic ie ip iz ia st rt pb) sz)) (xQi (dC, dI) (tyG ck) (va_A (wsG ad ck rf n fr a ar z pc pe pt pp pf ic ie ip iz ia st rt pb) sz) (wsG ad ck rf n fr a ar z pc pe pt pp pf ic ie ip iz ia st rt pb) (fun r => r = nI (nHd fr))) 0 0 (va_A (wsG ad ck rf n fr a ar z pc pe pt pp pf ic ie ip iz ia st rt pb) sz) := by
  refine xof (cc := b_PL_headerCount) (maxL := 1) (ret := (some .int)) (own := R_PL) (Qc := fun A => (xQi (dC, dI) (tyG ck) A (wsG ad ck rf n fr a ar z pc pe pt pp pf ic ie ip iz ia st rt pb) (fun r => r = nI (nHd fr)))) (by decide) rfl rfl (Nat.le_of_ble_eq_true rfl) ?_ sz
  intro p e s m below meth c A C hnm hK hP hD hA hN hZ hS ls hl
  obtain ⟨hx, hb, hr, hml, hown, hts, hlocks⟩ := C
  have hl : lv_has ls 1 [(0, .ref (ad 1))] := hl
  refine lv_aload_n hx hb d_PL_headerCount_0 rfl (lv_at hl 0 rfl) ?_
  refine lv_bipush (v := 44) hx hb d_PL_headerCount_1 (by decide) ?_
  refine lv_iconst (v := 2) hx hb d_PL_headerCount_3 (by decide) ?_
  refine xcalli (va_runV (As := [.int 44, .int 2]) (rest := []) ⟨hx, hb, hml, hown, hts⟩ (c_fb_number2 l dC dI ad ck rf n fr a ar z pc pe pt pp pf ic ie ip iz ia st rt pb 44 hn s.heap.size) (cwV 2 hts (xgV wd_277 wd_278 wd_279 wd_16 wd_280) rfl rfl rfl (by decide +kernel) ⟨Nat.le_of_ble_eq_true rfl, Nat.le_of_ble_eq_true rfl⟩) (xpreV (q0 := 1) hK hN hZ hA hS hP hD rfl rfl) rfl rfl hl.1 rfl (lv_room (Nat.le_of_ble_eq_true rfl)) d_PL_headerCount_4 ⟨Nat.zero_le _, Nat.zero_le _⟩) hD hS hA (fun r_1 H locs hr_1 hP hD hS => ?_)
  subst hr_1
  refine xtopi (y := nI (nbN fr 44 2)) (p_num (q := 44) (by omega) hn) ?_
  exact xreti (v := nI (nbN fr 44 2)) hx hb hr hlocks hK hP hD hS (rfl) (rfl) d_PL_headerCount_7
set_option maxHeartbeats 4000000 in
set_option maxRecDepth 100000 in
theorem c_pl_rightsOf (l : Launch) (dC : Nat → ClassId) (dI : Nat → Nat → Nat) (ad : Nat → Nat) (ck : Nat → ClassId) (rf : Int32) (n : Nat) (fr : Nat → Int32) (a : Nat) (ar : Nat → Int32) (z : Nat → Nat) (pc : Nat) (pe : Int32) (pt pp : Nat) (pf : Nat → Nat → Int32) (ic : Nat) (ie ip iz ia : Int32) (st rt : Nat → Int32) (pb : Nat → Nat → Int32) (w : Int32) (sz : Nat) : Met l y_PL_rightsOf w_PL_rightsOf { frames := 0, cells := 0, slots := 0, locals := 0 } (va_Pc [.int w] (xP (dC, dI) (tyG ck) (wsG ad ck rf n fr a ar z pc pe pt pp pf ic ie ip iz ia st rt pb) sz)) (xQi (dC, dI) (tyG ck) (va_A (wsG ad ck rf n fr a ar z pc pe pt pp pf ic ie ip iz ia st rt pb) sz) (wsG ad ck rf n fr a ar z pc pe pt pp pf ic ie ip iz ia st rt pb) (fun r => r = rgO w)) 0 0 (va_A (wsG ad ck rf n fr a ar z pc pe pt pp pf ic ie ip iz ia st rt pb) sz) := by
  refine xof (cc := b_PL_rightsOf) (maxL := 1) (ret := (some .int)) (own := R_PL) (Qc := fun A => (xQi (dC, dI) (tyG ck) A (wsG ad ck rf n fr a ar z pc pe pt pp pf ic ie ip iz ia st rt pb) (fun r => r = rgO w))) (by decide) rfl rfl (Nat.le_of_ble_eq_true rfl) ?_ sz
  intro p e s m below meth c A C hnm hK hP hD hA hN hZ hS ls hl
  obtain ⟨hx, hb, hr, hml, hown, hts, hlocks⟩ := C
  have hl : lv_has ls 1 [(0, .int w)] := hl
  refine lv_bipush (v := 8) hx hb d_PL_rightsOf_0 (by decide) ?_
  refine lv_iload_n hx hb d_PL_rightsOf_2 rfl (lv_at hl 0 rfl) ?_
  refine lv_iconst (v := 4) hx hb d_PL_rightsOf_3 (by decide) ?_
  refine lv_iand hx hb d_PL_rightsOf_4 ?_
  refine lv_if_eq (tgt := 12) hx hb d_PL_rightsOf_5 (by decide) (fun c_1 => ?_) (fun c_1 => ?_)
  · skip
    refine lv_iconst (v := 0) hx hb d_PL_rightsOf_12 (by decide) ?_
    refine lv_ior hx hb d_PL_rightsOf_13 ?_
    refine lv_iload_n hx hb d_PL_rightsOf_14 rfl (lv_at hl 0 rfl) ?_
    refine lv_iconst (v := 2) hx hb d_PL_rightsOf_15 (by decide) ?_
    refine lv_iand hx hb d_PL_rightsOf_16 ?_
    refine lv_if_eq (tgt := 24) hx hb d_PL_rightsOf_17 (by decide) (fun c_2 => ?_) (fun c_2 => ?_)
    · skip
      refine lv_iconst (v := 0) hx hb d_PL_rightsOf_24 (by decide) ?_
      refine lv_ior hx hb d_PL_rightsOf_25 ?_
      refine lv_iload_n hx hb d_PL_rightsOf_26 rfl (lv_at hl 0 rfl) ?_
      refine lv_iconst (v := 1) hx hb d_PL_rightsOf_27 (by decide) ?_
      refine lv_iand hx hb d_PL_rightsOf_28 ?_
      refine lv_if_eq (tgt := 36) hx hb d_PL_rightsOf_29 (by decide) (fun c_3 => ?_) (fun c_3 => ?_)
      · skip
        refine lv_iconst (v := 0) hx hb d_PL_rightsOf_36 (by decide) ?_
        refine lv_ior hx hb d_PL_rightsOf_37 ?_
        exact xreti (v := ((8 ||| 0) ||| 0) ||| 0) hx hb hr hlocks hK hP hD hS (rfl) (by rw [rgO, if_pos c_1, if_pos c_2, if_pos c_3]) d_PL_rightsOf_38
      · skip
        refine lv_iconst (v := 4) hx hb d_PL_rightsOf_32 (by decide) ?_
        refine lv_goto (tgt := 37) hx hb d_PL_rightsOf_33 (by decide) ?_
        refine lv_ior hx hb d_PL_rightsOf_37 ?_
        exact xreti (v := ((8 ||| 0) ||| 0) ||| 4) hx hb hr hlocks hK hP hD hS (rfl) (by rw [rgO, if_pos c_1, if_pos c_2, if_neg c_3]) d_PL_rightsOf_38
    · skip
      refine lv_iconst (v := 2) hx hb d_PL_rightsOf_20 (by decide) ?_
      refine lv_goto (tgt := 25) hx hb d_PL_rightsOf_21 (by decide) ?_
      refine lv_ior hx hb d_PL_rightsOf_25 ?_
      refine lv_iload_n hx hb d_PL_rightsOf_26 rfl (lv_at hl 0 rfl) ?_
      refine lv_iconst (v := 1) hx hb d_PL_rightsOf_27 (by decide) ?_
      refine lv_iand hx hb d_PL_rightsOf_28 ?_
      refine lv_if_eq (tgt := 36) hx hb d_PL_rightsOf_29 (by decide) (fun c_4 => ?_) (fun c_4 => ?_)
      · skip
        refine lv_iconst (v := 0) hx hb d_PL_rightsOf_36 (by decide) ?_
        refine lv_ior hx hb d_PL_rightsOf_37 ?_
        exact xreti (v := ((8 ||| 0) ||| 2) ||| 0) hx hb hr hlocks hK hP hD hS (rfl) (by rw [rgO, if_pos c_1, if_neg c_2, if_pos c_4]) d_PL_rightsOf_38
      · skip
        refine lv_iconst (v := 4) hx hb d_PL_rightsOf_32 (by decide) ?_
        refine lv_goto (tgt := 37) hx hb d_PL_rightsOf_33 (by decide) ?_
        refine lv_ior hx hb d_PL_rightsOf_37 ?_
        exact xreti (v := ((8 ||| 0) ||| 2) ||| 4) hx hb hr hlocks hK hP hD hS (rfl) (by rw [rgO, if_pos c_1, if_neg c_2, if_neg c_4]) d_PL_rightsOf_38
  · skip
    refine lv_iconst (v := 1) hx hb d_PL_rightsOf_8 (by decide) ?_
    refine lv_goto (tgt := 13) hx hb d_PL_rightsOf_9 (by decide) ?_
    refine lv_ior hx hb d_PL_rightsOf_13 ?_
    refine lv_iload_n hx hb d_PL_rightsOf_14 rfl (lv_at hl 0 rfl) ?_
    refine lv_iconst (v := 2) hx hb d_PL_rightsOf_15 (by decide) ?_
    refine lv_iand hx hb d_PL_rightsOf_16 ?_
    refine lv_if_eq (tgt := 24) hx hb d_PL_rightsOf_17 (by decide) (fun c_5 => ?_) (fun c_5 => ?_)
    · skip
      refine lv_iconst (v := 0) hx hb d_PL_rightsOf_24 (by decide) ?_
      refine lv_ior hx hb d_PL_rightsOf_25 ?_
      refine lv_iload_n hx hb d_PL_rightsOf_26 rfl (lv_at hl 0 rfl) ?_
      refine lv_iconst (v := 1) hx hb d_PL_rightsOf_27 (by decide) ?_
      refine lv_iand hx hb d_PL_rightsOf_28 ?_
      refine lv_if_eq (tgt := 36) hx hb d_PL_rightsOf_29 (by decide) (fun c_6 => ?_) (fun c_6 => ?_)
      · skip
        refine lv_iconst (v := 0) hx hb d_PL_rightsOf_36 (by decide) ?_
        refine lv_ior hx hb d_PL_rightsOf_37 ?_
        exact xreti (v := ((8 ||| 1) ||| 0) ||| 0) hx hb hr hlocks hK hP hD hS (rfl) (by rw [rgO, if_neg c_1, if_pos c_5, if_pos c_6]) d_PL_rightsOf_38
      · skip
        refine lv_iconst (v := 4) hx hb d_PL_rightsOf_32 (by decide) ?_
        refine lv_goto (tgt := 37) hx hb d_PL_rightsOf_33 (by decide) ?_
        refine lv_ior hx hb d_PL_rightsOf_37 ?_
        exact xreti (v := ((8 ||| 1) ||| 0) ||| 4) hx hb hr hlocks hK hP hD hS (rfl) (by rw [rgO, if_neg c_1, if_pos c_5, if_neg c_6]) d_PL_rightsOf_38
    · skip
      refine lv_iconst (v := 2) hx hb d_PL_rightsOf_20 (by decide) ?_
      refine lv_goto (tgt := 25) hx hb d_PL_rightsOf_21 (by decide) ?_
      refine lv_ior hx hb d_PL_rightsOf_25 ?_
      refine lv_iload_n hx hb d_PL_rightsOf_26 rfl (lv_at hl 0 rfl) ?_
      refine lv_iconst (v := 1) hx hb d_PL_rightsOf_27 (by decide) ?_
      refine lv_iand hx hb d_PL_rightsOf_28 ?_
      refine lv_if_eq (tgt := 36) hx hb d_PL_rightsOf_29 (by decide) (fun c_7 => ?_) (fun c_7 => ?_)
      · skip
        refine lv_iconst (v := 0) hx hb d_PL_rightsOf_36 (by decide) ?_
        refine lv_ior hx hb d_PL_rightsOf_37 ?_
        exact xreti (v := ((8 ||| 1) ||| 2) ||| 0) hx hb hr hlocks hK hP hD hS (rfl) (by rw [rgO, if_neg c_1, if_neg c_5, if_pos c_7]) d_PL_rightsOf_38
      · skip
        refine lv_iconst (v := 4) hx hb d_PL_rightsOf_32 (by decide) ?_
        refine lv_goto (tgt := 37) hx hb d_PL_rightsOf_33 (by decide) ?_
        refine lv_ior hx hb d_PL_rightsOf_37 ?_
        exact xreti (v := ((8 ||| 1) ||| 2) ||| 4) hx hb hr hlocks hK hP hD hS (rfl) (by rw [rgO, if_neg c_1, if_neg c_5, if_neg c_7]) d_PL_rightsOf_38
set_option maxHeartbeats 4000000 in
set_option maxRecDepth 100000 in
theorem c_pl_isOfOurKind (l : Launch) (dC : Nat → ClassId) (dI : Nat → Nat → Nat) (ad : Nat → Nat) (ck : Nat → ClassId) (rf : Int32) (n : Nat) (fr : Nat → Int32) (a : Nat) (ar : Nat → Int32) (z : Nat → Nat) (pc : Nat) (pe : Int32) (pt pp : Nat) (pf : Nat → Nat → Int32) (ic : Nat) (ie ip iz ia : Int32) (st rt : Nat → Int32) (pb : Nat → Nat → Int32) (h52 : 52 ≤ n) (hn : n ≤ 65536) (sz : Nat) : Met l y_PL_isOfOurKind w_PL_isOfOurKind { frames := 3, cells := 0, slots := 0, locals := 76 } (va_Pc [.ref (ad 6), .ref (ad 1)] (xP (dC, dI) (tyG ck) (wsG ad ck rf n fr a ar z pc pe pt pp pf ic ie ip iz ia st rt pb) sz)) (xQi (dC, dI) (tyG ck) (va_A (wsG ad ck rf n fr a ar z pc pe pt pp pf ic ie ip iz ia st rt pb) sz) (wsG ad ck rf n fr a ar z pc pe pt pp pf ic ie ip iz ia st rt pb) (fun r => r = bI (kindOK fr))) 0 0 (va_A (wsG ad ck rf n fr a ar z pc pe pt pp pf ic ie ip iz ia st rt pb) sz) := by
  refine xof (cc := b_PL_isOfOurKind) (maxL := 2) (ret := (some .boolean)) (own := R_PL) (Qc := fun A => (xQi (dC, dI) (tyG ck) A (wsG ad ck rf n fr a ar z pc pe pt pp pf ic ie ip iz ia st rt pb) (fun r => r = bI (kindOK fr)))) (by decide) rfl rfl (Nat.le_of_ble_eq_true rfl) ?_ sz
  intro p e s m below meth c A C hnm hK hP hD hA hN hZ hS ls hl
  obtain ⟨hx, hb, hr, hml, hown, hts, hlocks⟩ := C
  have hl : lv_has ls 2 [(0, .ref (ad 6)), (1, .ref (ad 1))] := hl
  have b1 := nbN_lt2 fr 16
  have b2 := nbN_lt2 fr 18
  have b3 := nbN_lt2 fr 42
  have b4 := nbN_lt2 fr 44
  refine lv_aload_n hx hb d_PL_isOfOurKind_0 rfl (lv_at hl 1 rfl) ?_
  refine lv_bipush (v := 16) hx hb d_PL_isOfOurKind_1 (by decide) ?_
  refine lv_iconst (v := 2) hx hb d_PL_isOfOurKind_3 (by decide) ?_
  refine xcalli (va_runV (As := [.int 16, .int 2]) (rest := []) ⟨hx, hb, hml, hown, hts⟩ (c_fb_number2 l dC dI ad ck rf n fr a ar z pc pe pt pp pf ic ie ip iz ia st rt pb 16 hn s.heap.size) (cwV 2 hts (xgV wd_277 wd_278 wd_279 wd_16 wd_280) rfl rfl rfl (by decide +kernel) ⟨Nat.le_of_ble_eq_true rfl, Nat.le_of_ble_eq_true rfl⟩) (xpreV (q0 := 1) hK hN hZ hA hS hP hD rfl rfl) rfl rfl hl.1 rfl (lv_room (Nat.le_of_ble_eq_true rfl)) d_PL_isOfOurKind_4 ⟨Nat.zero_le _, Nat.zero_le _⟩) hD hS hA (fun r_1 H locs hr_1 hP hD hS => ?_)
  subst hr_1
  refine xtopi (y := nI (nbN fr 16 2)) (p_num (q := 16) (by omega) hn) ?_
  refine lv_iconst (v := 2) hx hb d_PL_isOfOurKind_7 (by decide) ?_
  refine lv_icmp_ne (tgt := 60) hx hb d_PL_isOfOurKind_8 (by decide) (fun c_2 => ?_) (fun c_2 => ?_)
  · skip
    have c_2 : ¬ (nbN fr 16 2 = 2) := fun h9 => c_2 ((nI_eq (a := nbN fr 16 2) (b := 2) (by omega) (by omega)).mpr h9)
    refine lv_iconst (v := 0) hx hb d_PL_isOfOurKind_60 (by decide) ?_
    exact xreti (v := 0) hx hb hr hlocks hK hP hD hS (rfl) (bI_0 (fun h9 => absurd h9.1 (c_2))) d_PL_isOfOurKind_61
  · skip
    have c_2 : nbN fr 16 2 = 2 := (nI_eq (a := nbN fr 16 2) (b := 2) (by omega) (by omega)).mp c_2
    refine lv_aload_n hx hb d_PL_isOfOurKind_11 rfl (lv_at hl 1 rfl) ?_
    refine lv_bipush (v := 18) hx hb d_PL_isOfOurKind_12 (by decide) ?_
    refine lv_iconst (v := 2) hx hb d_PL_isOfOurKind_14 (by decide) ?_
    refine xcalli (va_runV (As := [.int 18, .int 2]) (rest := []) ⟨hx, hb, hml, hown, hts⟩ (c_fb_number2 l dC dI ad ck rf n fr a ar z pc pe pt pp pf ic ie ip iz ia st rt pb 18 hn H.size) (cwV 2 hts (xgV wd_277 wd_278 wd_279 wd_16 wd_280) rfl rfl rfl (by decide +kernel) ⟨Nat.le_of_ble_eq_true rfl, Nat.le_of_ble_eq_true rfl⟩) (xpreV (q0 := 1) hK hN hZ hA hS hP hD rfl rfl) rfl rfl hl.1 rfl (lv_room (Nat.le_of_ble_eq_true rfl)) d_PL_isOfOurKind_15 ⟨Nat.zero_le _, Nat.zero_le _⟩) hD hS hA (fun r_3 H locs hr_3 hP hD hS => ?_)
    subst hr_3
    refine xtopi (y := nI (nbN fr 18 2)) (p_num (q := 18) (by omega) hn) ?_
    refine lv_sipush (v := 243) hx hb d_PL_isOfOurKind_18 (by decide) ?_
    refine lv_icmp_ne (tgt := 60) hx hb d_PL_isOfOurKind_21 (by decide) (fun c_4 => ?_) (fun c_4 => ?_)
    · skip
      have c_4 : ¬ (nbN fr 18 2 = 243) := fun h9 => c_4 ((nI_eq (a := nbN fr 18 2) (b := 243) (by omega) (by omega)).mpr h9)
      refine lv_iconst (v := 0) hx hb d_PL_isOfOurKind_60 (by decide) ?_
      exact xreti (v := 0) hx hb hr hlocks hK hP hD hS (rfl) (bI_0 (fun h9 => absurd h9.2.1 (c_4))) d_PL_isOfOurKind_61
    · skip
      have c_4 : nbN fr 18 2 = 243 := (nI_eq (a := nbN fr 18 2) (b := 243) (by omega) (by omega)).mp c_4
      refine lv_aload_n hx hb d_PL_isOfOurKind_24 rfl (lv_at hl 1 rfl) ?_
      refine lv_bipush (v := 20) hx hb d_PL_isOfOurKind_25 (by decide) ?_
      refine lv_iconst (v := 4) hx hb d_PL_isOfOurKind_27 (by decide) ?_
      refine xcalli (va_runV (As := [.int 20, .int 4]) (rest := []) ⟨hx, hb, hml, hown, hts⟩ (c_fb_number4 l dC dI ad ck rf n fr a ar z pc pe pt pp pf ic ie ip iz ia st rt pb 20 hn H.size) (cwV 2 hts (xgV wd_277 wd_278 wd_279 wd_16 wd_280) rfl rfl rfl (by decide +kernel) ⟨Nat.le_of_ble_eq_true rfl, Nat.le_of_ble_eq_true rfl⟩) (xpreV (q0 := 1) hK hN hZ hA hS hP hD rfl rfl) rfl rfl hl.1 rfl (lv_room (Nat.le_of_ble_eq_true rfl)) d_PL_isOfOurKind_28 ⟨Nat.zero_le _, Nat.zero_le _⟩) hD hS hA (fun r_5 H locs hr_5 hP hD hS => ?_)
      subst hr_5
      refine xtopi (y := nI (nbN fr 20 4)) (p_num (q := 20) (by omega) hn) ?_
      refine lv_iconst (v := 1) hx hb d_PL_isOfOurKind_31 (by decide) ?_
      refine lv_icmp_ne (tgt := 60) hx hb d_PL_isOfOurKind_32 (by decide) (fun c_6 => ?_) (fun c_6 => ?_)
      · skip
        have c_6 : ¬ nbN fr 20 4 = 1 := fun h9 => c_6 (by rw [h9]; rfl)
        refine lv_iconst (v := 0) hx hb d_PL_isOfOurKind_60 (by decide) ?_
        exact xreti (v := 0) hx hb hr hlocks hK hP hD hS (rfl) (bI_0 (fun h9 => absurd h9.2.2.1 (c_6))) d_PL_isOfOurKind_61
      · skip
        have c_6 := nI_inj32 (b := 1) (nbN_lt4 _ _) (by decide) c_6
        refine lv_aload_n hx hb d_PL_isOfOurKind_35 rfl (lv_at hl 1 rfl) ?_
        refine lv_bipush (v := 42) hx hb d_PL_isOfOurKind_36 (by decide) ?_
        refine lv_iconst (v := 2) hx hb d_PL_isOfOurKind_38 (by decide) ?_
        refine xcalli (va_runV (As := [.int 42, .int 2]) (rest := []) ⟨hx, hb, hml, hown, hts⟩ (c_fb_number2 l dC dI ad ck rf n fr a ar z pc pe pt pp pf ic ie ip iz ia st rt pb 42 hn H.size) (cwV 2 hts (xgV wd_277 wd_278 wd_279 wd_16 wd_280) rfl rfl rfl (by decide +kernel) ⟨Nat.le_of_ble_eq_true rfl, Nat.le_of_ble_eq_true rfl⟩) (xpreV (q0 := 1) hK hN hZ hA hS hP hD rfl rfl) rfl rfl hl.1 rfl (lv_room (Nat.le_of_ble_eq_true rfl)) d_PL_isOfOurKind_39 ⟨Nat.zero_le _, Nat.zero_le _⟩) hD hS hA (fun r_7 H locs hr_7 hP hD hS => ?_)
        subst hr_7
        refine xtopi (y := nI (nbN fr 42 2)) (p_num (q := 42) (by omega) hn) ?_
        refine lv_bipush (v := 32) hx hb d_PL_isOfOurKind_42 (by decide) ?_
        refine lv_icmp_ne (tgt := 60) hx hb d_PL_isOfOurKind_44 (by decide) (fun c_8 => ?_) (fun c_8 => ?_)
        · skip
          have c_8 : ¬ (nbN fr 42 2 = 32) := fun h9 => c_8 ((nI_eq (a := nbN fr 42 2) (b := 32) (by omega) (by omega)).mpr h9)
          refine lv_iconst (v := 0) hx hb d_PL_isOfOurKind_60 (by decide) ?_
          exact xreti (v := 0) hx hb hr hlocks hK hP hD hS (rfl) (bI_0 (fun h9 => absurd h9.2.2.2.1 (c_8))) d_PL_isOfOurKind_61
        · skip
          have c_8 : nbN fr 42 2 = 32 := (nI_eq (a := nbN fr 42 2) (b := 32) (by omega) (by omega)).mp c_8
          refine lv_aload_n hx hb d_PL_isOfOurKind_47 rfl (lv_at hl 1 rfl) ?_
          refine xcalli (va_runS (As := [.ref (ad 1)]) (rest := []) ⟨hx, hb, hml, hown, hts⟩ (c_pl_headerCount l dC dI ad ck rf n fr a ar z pc pe pt pp pf ic ie ip iz ia st rt pb h52 hn H.size) (cwS 1 hts (xgS wd_285 wd_286 wd_18 wd_287) rfl rfl rfl (by decide +kernel) ⟨Nat.le_of_ble_eq_true rfl, Nat.le_of_ble_eq_true rfl⟩) (xpreS hK hN hZ hA hS hP hD) rfl rfl hl.1 rfl (lv_room (Nat.le_of_ble_eq_true rfl)) d_PL_isOfOurKind_48 ⟨Nat.zero_le _, Nat.zero_le _⟩) hD hS hA (fun r_9 H locs hr_9 hP hD hS => ?_)
          subst hr_9
          refine lv_bipush (v := 8) hx hb d_PL_isOfOurKind_51 (by decide) ?_
          refine lv_icmp_gt (tgt := 60) hx hb d_PL_isOfOurKind_53 (by decide) (fun c_10 => ?_) (fun c_10 => ?_)
          · skip
            have c_10 : 8 < nbN fr 44 2 := (nI_ltI (a := 8) (b := nbN fr 44 2) (by omega) (by omega)).mp c_10
            refine lv_iconst (v := 0) hx hb d_PL_isOfOurKind_60 (by decide) ?_
            exact xreti (v := 0) hx hb hr hlocks hK hP hD hS (rfl) (bI_0 (fun h9 => absurd h9.2.2.2.2 (by omega))) d_PL_isOfOurKind_61
          · skip
            have c_10 : ¬ (8 < nbN fr 44 2) := fun h9 => c_10 ((nI_ltI (a := 8) (b := nbN fr 44 2) (by omega) (by omega)).mpr h9)
            refine lv_iconst (v := 1) hx hb d_PL_isOfOurKind_56 (by decide) ?_
            refine lv_goto (tgt := 61) hx hb d_PL_isOfOurKind_57 (by decide) ?_
            exact xreti (v := 1) hx hb hr hlocks hK hP hD hS (rfl) (bI_1 ⟨c_2, c_4, c_6, c_8, by omega⟩) d_PL_isOfOurKind_61
set_option maxHeartbeats 4000000 in
set_option maxRecDepth 100000 in
theorem c_pl_hasAllHeaders (l : Launch) (dC : Nat → ClassId) (dI : Nat → Nat → Nat) (ad : Nat → Nat) (ck : Nat → ClassId) (rf : Int32) (n : Nat) (fr : Nat → Int32) (a : Nat) (ar : Nat → Int32) (z : Nat → Nat) (pc : Nat) (pe : Int32) (pt pp : Nat) (pf : Nat → Nat → Int32) (ic : Nat) (ie ip iz ia : Int32) (st rt : Nat → Int32) (pb : Nat → Nat → Int32) (hk8 : nbN fr 44 2 ≤ 8) (h52 : 52 ≤ n) (hn : n ≤ 65536) (sz : Nat) : Met l y_PL_hasAllHeaders w_PL_hasAllHeaders { frames := 3, cells := 0, slots := 0, locals := 77 } (va_Pc [.ref (ad 6), .ref (ad 1)] (xP (dC, dI) (tyG ck) (wsG ad ck rf n fr a ar z pc pe pt pp pf ic ie ip iz ia st rt pb) sz)) (xQi (dC, dI) (tyG ck) (va_A (wsG ad ck rf n fr a ar z pc pe pt pp pf ic ie ip iz ia st rt pb) sz) (wsG ad ck rf n fr a ar z pc pe pt pp pf ic ie ip iz ia st rt pb) (fun r => r = bI (hdsIn fr n))) 0 0 (va_A (wsG ad ck rf n fr a ar z pc pe pt pp pf ic ie ip iz ia st rt pb) sz) := by
  refine xof (cc := b_PL_hasAllHeaders) (maxL := 3) (ret := (some .boolean)) (own := R_PL) (Qc := fun A => (xQi (dC, dI) (tyG ck) A (wsG ad ck rf n fr a ar z pc pe pt pp pf ic ie ip iz ia st rt pb) (fun r => r = bI (hdsIn fr n)))) (by decide) rfl rfl (Nat.le_of_ble_eq_true rfl) ?_ sz
  intro p e s m below meth c A C hnm hK hP hD hA hN hZ hS ls hl
  obtain ⟨hx, hb, hr, hml, hown, hts, hlocks⟩ := C
  have hl : lv_has ls 3 [(0, .ref (ad 6)), (1, .ref (ad 1))] := hl
  have b1 := nbN_lt4 fr 28
  refine lv_aload_n hx hb d_PL_hasAllHeaders_0 rfl (lv_at hl 1 rfl) ?_
  refine xcalli (va_runS (As := [.ref (ad 1)]) (rest := []) ⟨hx, hb, hml, hown, hts⟩ (c_pl_headerCount l dC dI ad ck rf n fr a ar z pc pe pt pp pf ic ie ip iz ia st rt pb h52 hn s.heap.size) (cwS 1 hts (xgS wd_285 wd_286 wd_18 wd_287) rfl rfl rfl (by decide +kernel) ⟨Nat.le_of_ble_eq_true rfl, Nat.le_of_ble_eq_true rfl⟩) (xpreS hK hN hZ hA hS hP hD) rfl rfl hl.1 rfl (lv_room (Nat.le_of_ble_eq_true rfl)) d_PL_hasAllHeaders_1 ⟨Nat.zero_le _, Nat.zero_le _⟩) hD hS hA (fun r_1 H locs hr_1 hP hD hS => ?_)
  subst hr_1
  refine lv_istore_n (lv' := [(2, .int (nI (nbN fr 44 2))), (0, .ref (ad 6)), (1, .ref (ad 1))]) hx hb d_PL_hasAllHeaders_4 rfl hl (by decide) rfl (fun ls hl => ?_)
  refine lv_iload_n hx hb d_PL_hasAllHeaders_5 rfl (lv_at hl 0 rfl) ?_
  refine lv_if_eq (tgt := 27) hx hb d_PL_hasAllHeaders_6 (by decide) (fun c_2 => ?_) (fun c_2 => ?_)
  · skip
    have c_2 : nbN fr 44 2 = 0 := (nI_eq (a := nbN fr 44 2) (b := 0) (by omega) (by omega)).mp c_2
    refine lv_iconst (v := 1) hx hb d_PL_hasAllHeaders_27 (by decide) ?_
    refine lv_goto (tgt := 32) hx hb d_PL_hasAllHeaders_28 (by decide) ?_
    exact xreti (v := 1) hx hb hr hlocks hK hP hD hS (rfl) (bI_1 (Or.inl c_2)) d_PL_hasAllHeaders_32
  · skip
    have c_2 : ¬ (nbN fr 44 2 = 0) := fun h9 => c_2 ((nI_eq (a := nbN fr 44 2) (b := 0) (by omega) (by omega)).mpr h9)
    refine lv_aload_n hx hb d_PL_hasAllHeaders_9 rfl (lv_at hl 2 rfl) ?_
    refine lv_aload_n hx hb d_PL_hasAllHeaders_10 rfl (lv_at hl 2 rfl) ?_
    refine lv_bipush (v := 28) hx hb d_PL_hasAllHeaders_11 (by decide) ?_
    refine xcalll (va_runV (As := [.int 28]) (rest := [.ref (ad 1)]) ⟨hx, hb, hml, hown, hts⟩ (c_fb_unsigned l dC dI ad ck rf n fr a ar z pc pe pt pp pf ic ie ip iz ia st rt pb 28 hn H.size) (cwV 1 hts (xgV wd_292 wd_293 wd_294 wd_16 wd_295) rfl rfl rfl (by decide +kernel) ⟨Nat.le_of_ble_eq_true rfl, Nat.le_of_ble_eq_true rfl⟩) (xpreV (q0 := 1) hK hN hZ hA hS hP hD rfl rfl) rfl rfl hl.1 rfl (lv_room (Nat.le_of_ble_eq_true rfl)) d_PL_hasAllHeaders_13 ⟨Nat.zero_le _, Nat.zero_le _⟩) hD hS hA (fun r_3 H locs hr_3 hP hD hS => ?_)
    subst hr_3
    refine xtopl (y := lN (nbN fr 28 4)) (p_uns (q := 28) (by omega) hn) ?_
    refine lv_iload_n hx hb d_PL_hasAllHeaders_16 rfl (lv_at hl 0 rfl) ?_
    refine lv_bipush (v := 32) hx hb d_PL_hasAllHeaders_17 (by decide) ?_
    refine lv_imul hx hb d_PL_hasAllHeaders_19 ?_
    refine xtopi (y := nI ((nbN fr 44 2) * 32)) (pk_mul (nbN fr 44 2) (32)) ?_
    refine lv_i2l hx hb d_PL_hasAllHeaders_20 rfl ?_
    refine xtopl (y := lN ((nbN fr 44 2) * 32)) (nI_l (n := (nbN fr 44 2) * 32) (by omega)) ?_
    refine xcalli (va_runV (As := [.long (lN (nbN fr 28 4)), .long (lN ((nbN fr 44 2) * 32))]) (rest := []) ⟨hx, hb, hml, hown, hts⟩ (c_fb_holds l dC dI ad ck rf n fr a ar z pc pe pt pp pf ic ie ip iz ia st rt pb (lN (nbN fr 28 4)) (lN ((nbN fr 44 2) * 32)) hn H.size) (cwV 2 hts (xgV wd_274 wd_221 wd_222 wd_16 wd_223) rfl rfl rfl (by decide +kernel) ⟨Nat.le_of_ble_eq_true rfl, Nat.le_of_ble_eq_true rfl⟩) (xpreV (q0 := 1) hK hN hZ hA hS hP hD rfl rfl) rfl rfl hl.1 rfl (lv_room (Nat.le_of_ble_eq_true rfl)) d_PL_hasAllHeaders_21 ⟨Nat.zero_le _, Nat.zero_le _⟩) hD hS hA (fun r_4 H locs hr_4 hP hD hS => ?_)
    subst hr_4
    refine lv_if_eq (tgt := 31) hx hb d_PL_hasAllHeaders_24 (by decide) (fun c_5 => ?_) (fun c_5 => ?_)
    · skip
      have c_5 := bI_f c_5
      have c_5 : ¬ (nbN fr 28 4 + nbN fr 44 2 * 32 ≤ n) := fun h9 => c_5 ((p_hl (by omega) (by omega)).mpr h9)
      refine lv_iconst (v := 0) hx hb d_PL_hasAllHeaders_31 (by decide) ?_
      exact xreti (v := 0) hx hb hr hlocks hK hP hD hS (rfl) (bI_0 (fun h9 => h9.elim c_2 c_5)) d_PL_hasAllHeaders_32
    · skip
      have c_5 := bI_t c_5
      have c_5 := (p_hl (by omega) (by omega)).mp c_5
      refine lv_iconst (v := 1) hx hb d_PL_hasAllHeaders_27 (by decide) ?_
      refine lv_goto (tgt := 32) hx hb d_PL_hasAllHeaders_28 (by decide) ?_
      exact xreti (v := 1) hx hb hr hlocks hK hP hD hS (rfl) (bI_1 (Or.inr c_5)) d_PL_hasAllHeaders_32
set_option maxHeartbeats 4000000 in
set_option maxRecDepth 100000 in
theorem c_pl_readHeader (l : Launch) (dC : Nat → ClassId) (dI : Nat → Nat → Nat) (ad : Nat → Nat) (ck : Nat → ClassId) (rf : Int32) (n : Nat) (fr : Nat → Int32) (a : Nat) (ar : Nat → Int32) (z : Nat → Nat) (pc : Nat) (pe : Int32) (pt pp : Nat) (pf : Nat → Nat → Int32) (ic : Nat) (ie ip iz ia : Int32) (st rt : Nat → Int32) (pb : Nat → Nat → Int32) (q : Nat) (hq : q + 32 ≤ n) (hpc : pc < 8) (hpt : pt ≤ 1073733632) (hn : n ≤ 65536) (sz : Nat) : Met l y_PL_readHeader w_PL_readHeader { frames := 3, cells := 0, slots := 0, locals := 79 } (va_Pc [.ref (ad 6), .ref (ad 1), .int (nI q)] (xP (dC, dI) (tyG ck) (wsG ad ck rf n fr a ar z pc pe pt pp pf ic ie ip iz ia st rt pb) sz)) (xQi (dC, dI) (tyG ck) (va_A (wsG ad ck rf n fr a ar z pc pe pt pp pf ic ie ip iz ia st rt pb) sz) (wsG ad ck rf n fr a ar z ((psStep fr n q (pc, pt, pp, pf)).1) pe ((psStep fr n q (pc, pt, pp, pf)).2.1) ((psStep fr n q (pc, pt, pp, pf)).2.2.1) ((psStep fr n q (pc, pt, pp, pf)).2.2.2) ic ie ip iz ia st rt pb) (fun r => r = bI (hdSkip fr q ∨ hdGood fr n pt q))) 0 0 (va_A (wsG ad ck rf n fr a ar z pc pe pt pp pf ic ie ip iz ia st rt pb) sz) := by
  refine xof (cc := b_PL_readHeader) (maxL := 12) (ret := (some .boolean)) (own := R_PL) (Qc := fun A => (xQi (dC, dI) (tyG ck) A (wsG ad ck rf n fr a ar z ((psStep fr n q (pc, pt, pp, pf)).1) pe ((psStep fr n q (pc, pt, pp, pf)).2.1) ((psStep fr n q (pc, pt, pp, pf)).2.2.1) ((psStep fr n q (pc, pt, pp, pf)).2.2.2) ic ie ip iz ia st rt pb) (fun r => r = bI (hdSkip fr q ∨ hdGood fr n pt q)))) (by decide) rfl rfl (Nat.le_of_ble_eq_true rfl) ?_ sz
  intro p e s m below meth c A C hnm hK hP hD hA hN hZ hS ls hl
  obtain ⟨hx, hb, hr, hml, hown, hts, hlocks⟩ := C
  have hl : lv_has ls 12 [(0, .ref (ad 6)), (1, .ref (ad 1)), (2, .int (nI q))] := hl
  have b1 := nbN_lt4 fr (q + 4)
  have b2 := nbN_lt4 fr (q + 8)
  have b3 := nbN_lt4 fr (q + 16)
  have b4 := nbN_lt4 fr (q + 20)
  refine lv_aload_n hx hb d_PL_readHeader_0 rfl (lv_at hl 1 rfl) ?_
  refine lv_iload_n hx hb d_PL_readHeader_1 rfl (lv_at hl 2 rfl) ?_
  refine lv_iconst (v := 4) hx hb d_PL_readHeader_2 (by decide) ?_
  refine lv_iadd hx hb d_PL_readHeader_3 ?_
  refine xtopi (y := nI (q + 4)) (nI_add (q) (4)) ?_
  refine xcalll (va_runV (As := [.int (nI (q + 4))]) (rest := []) ⟨hx, hb, hml, hown, hts⟩ (c_fb_unsigned l dC dI ad ck rf n fr a ar z pc pe pt pp pf ic ie ip iz ia st rt pb (nI (q + 4)) hn s.heap.size) (cwV 1 hts (xgV wd_292 wd_293 wd_294 wd_16 wd_295) rfl rfl rfl (by decide +kernel) ⟨Nat.le_of_ble_eq_true rfl, Nat.le_of_ble_eq_true rfl⟩) (xpreV (q0 := 1) hK hN hZ hA hS hP hD rfl rfl) rfl rfl hl.1 rfl (lv_room (Nat.le_of_ble_eq_true rfl)) d_PL_readHeader_4 ⟨Nat.zero_le _, Nat.zero_le _⟩) hD hS hA (fun r_1 H locs hr_1 hP hD hS => ?_)
  subst hr_1
  refine xtopl (y := lN (nbN fr (q + 4) 4)) (p_uns (q := q + 4) (by omega) hn) ?_
  refine lv_lstore_n (lv' := [(3, .long (lN (nbN fr (q + 4) 4))), (0, .ref (ad 6)), (1, .ref (ad 1)), (2, .int (nI q))]) hx hb d_PL_readHeader_7 rfl hl (by decide) rfl (fun ls hl => ?_)
  refine lv_aload_n hx hb d_PL_readHeader_8 rfl (lv_at hl 2 rfl) ?_
  refine lv_iload_n hx hb d_PL_readHeader_9 rfl (lv_at hl 3 rfl) ?_
  refine lv_bipush (v := 8) hx hb d_PL_readHeader_10 (by decide) ?_
  refine lv_iadd hx hb d_PL_readHeader_12 ?_
  refine xtopi (y := nI (q + 8)) (nI_add (q) (8)) ?_
  refine xcalll (va_runV (As := [.int (nI (q + 8))]) (rest := []) ⟨hx, hb, hml, hown, hts⟩ (c_fb_unsigned l dC dI ad ck rf n fr a ar z pc pe pt pp pf ic ie ip iz ia st rt pb (nI (q + 8)) hn H.size) (cwV 1 hts (xgV wd_292 wd_293 wd_294 wd_16 wd_295) rfl rfl rfl (by decide +kernel) ⟨Nat.le_of_ble_eq_true rfl, Nat.le_of_ble_eq_true rfl⟩) (xpreV (q0 := 1) hK hN hZ hA hS hP hD rfl rfl) rfl rfl hl.1 rfl (lv_room (Nat.le_of_ble_eq_true rfl)) d_PL_readHeader_13 ⟨Nat.zero_le _, Nat.zero_le _⟩) hD hS hA (fun r_2 H locs hr_2 hP hD hS => ?_)
  subst hr_2
  refine xtopl (y := lN (nbN fr (q + 8) 4)) (p_uns (q := q + 8) (by omega) hn) ?_
  refine lv_lstore (lv' := [(5, .long (lN (nbN fr (q + 8) 4))), (3, .long (lN (nbN fr (q + 4) 4))), (0, .ref (ad 6)), (1, .ref (ad 1)), (2, .int (nI q))]) hx hb d_PL_readHeader_16 hl (by decide) rfl (fun ls hl => ?_)
  refine lv_aload_n hx hb d_PL_readHeader_18 rfl (lv_at hl 3 rfl) ?_
  refine lv_iload_n hx hb d_PL_readHeader_19 rfl (lv_at hl 4 rfl) ?_
  refine lv_bipush (v := 16) hx hb d_PL_readHeader_20 (by decide) ?_
  refine lv_iadd hx hb d_PL_readHeader_22 ?_
  refine xtopi (y := nI (q + 16)) (nI_add (q) (16)) ?_
  refine xcalll (va_runV (As := [.int (nI (q + 16))]) (rest := []) ⟨hx, hb, hml, hown, hts⟩ (c_fb_unsigned l dC dI ad ck rf n fr a ar z pc pe pt pp pf ic ie ip iz ia st rt pb (nI (q + 16)) hn H.size) (cwV 1 hts (xgV wd_292 wd_293 wd_294 wd_16 wd_295) rfl rfl rfl (by decide +kernel) ⟨Nat.le_of_ble_eq_true rfl, Nat.le_of_ble_eq_true rfl⟩) (xpreV (q0 := 1) hK hN hZ hA hS hP hD rfl rfl) rfl rfl hl.1 rfl (lv_room (Nat.le_of_ble_eq_true rfl)) d_PL_readHeader_23 ⟨Nat.zero_le _, Nat.zero_le _⟩) hD hS hA (fun r_3 H locs hr_3 hP hD hS => ?_)
  subst hr_3
  refine xtopl (y := lN (nbN fr (q + 16) 4)) (p_uns (q := q + 16) (by omega) hn) ?_
  refine lv_lstore (lv' := [(7, .long (lN (nbN fr (q + 16) 4))), (5, .long (lN (nbN fr (q + 8) 4))), (3, .long (lN (nbN fr (q + 4) 4))), (0, .ref (ad 6)), (1, .ref (ad 1)), (2, .int (nI q))]) hx hb d_PL_readHeader_26 hl (by decide) rfl (fun ls hl => ?_)
  refine lv_aload_n hx hb d_PL_readHeader_28 rfl (lv_at hl 4 rfl) ?_
  refine lv_iload_n hx hb d_PL_readHeader_29 rfl (lv_at hl 5 rfl) ?_
  refine lv_bipush (v := 20) hx hb d_PL_readHeader_30 (by decide) ?_
  refine lv_iadd hx hb d_PL_readHeader_32 ?_
  refine xtopi (y := nI (q + 20)) (nI_add (q) (20)) ?_
  refine xcalll (va_runV (As := [.int (nI (q + 20))]) (rest := []) ⟨hx, hb, hml, hown, hts⟩ (c_fb_unsigned l dC dI ad ck rf n fr a ar z pc pe pt pp pf ic ie ip iz ia st rt pb (nI (q + 20)) hn H.size) (cwV 1 hts (xgV wd_292 wd_293 wd_294 wd_16 wd_295) rfl rfl rfl (by decide +kernel) ⟨Nat.le_of_ble_eq_true rfl, Nat.le_of_ble_eq_true rfl⟩) (xpreV (q0 := 1) hK hN hZ hA hS hP hD rfl rfl) rfl rfl hl.1 rfl (lv_room (Nat.le_of_ble_eq_true rfl)) d_PL_readHeader_33 ⟨Nat.zero_le _, Nat.zero_le _⟩) hD hS hA (fun r_4 H locs hr_4 hP hD hS => ?_)
  subst hr_4
  refine xtopl (y := lN (nbN fr (q + 20) 4)) (p_uns (q := q + 20) (by omega) hn) ?_
  refine lv_lstore (lv' := [(9, .long (lN (nbN fr (q + 20) 4))), (7, .long (lN (nbN fr (q + 16) 4))), (5, .long (lN (nbN fr (q + 8) 4))), (3, .long (lN (nbN fr (q + 4) 4))), (0, .ref (ad 6)), (1, .ref (ad 1)), (2, .int (nI q))]) hx hb d_PL_readHeader_36 hl (by decide) rfl (fun ls hl => ?_)
  refine lv_aload_n hx hb d_PL_readHeader_38 rfl (lv_at hl 5 rfl) ?_
  refine lv_iload_n hx hb d_PL_readHeader_39 rfl (lv_at hl 6 rfl) ?_
  refine lv_iconst (v := 4) hx hb d_PL_readHeader_40 (by decide) ?_
  refine xcalli (va_runV (As := [.int (nI q), .int 4]) (rest := []) ⟨hx, hb, hml, hown, hts⟩ (c_fb_number4 l dC dI ad ck rf n fr a ar z pc pe pt pp pf ic ie ip iz ia st rt pb (nI q) hn H.size) (cwV 2 hts (xgV wd_277 wd_278 wd_279 wd_16 wd_280) rfl rfl rfl (by decide +kernel) ⟨Nat.le_of_ble_eq_true rfl, Nat.le_of_ble_eq_true rfl⟩) (xpreV (q0 := 1) hK hN hZ hA hS hP hD rfl rfl) rfl rfl hl.1 rfl (lv_room (Nat.le_of_ble_eq_true rfl)) d_PL_readHeader_41 ⟨Nat.zero_le _, Nat.zero_le _⟩) hD hS hA (fun r_5 H locs hr_5 hP hD hS => ?_)
  subst hr_5
  refine xtopi (y := nI (nbN fr q 4)) (p_num (q := q) (by omega) hn) ?_
  refine lv_iconst (v := 1) hx hb d_PL_readHeader_44 (by decide) ?_
  refine lv_icmp_ne (tgt := 55) hx hb d_PL_readHeader_45 (by decide) (fun c_6 => ?_) (fun c_6 => ?_)
  · skip
    have c_6 : ¬ hdK fr q = 1 := fun h9 => c_6 (by show nI (hdK fr q) = 1; rw [h9]; rfl)
    refine lv_iconst (v := 1) hx hb d_PL_readHeader_55 (by decide) ?_
    have hw9 : wsG ad ck rf n fr a ar z pc pe pt pp pf ic ie ip iz ia st rt pb = wsG ad ck rf n fr a ar z ((psStep fr n q (pc, pt, pp, pf)).1) pe ((psStep fr n q (pc, pt, pp, pf)).2.1) ((psStep fr n q (pc, pt, pp, pf)).2.2.1) ((psStep fr n q (pc, pt, pp, pf)).2.2.2) ic ie ip iz ia st rt pb := by rw [psStep_skip (Or.inl c_6)]
    rw [hw9] at hP hD
    exact xreti (v := 1) hx hb hr hlocks hK hP hD hS (rfl) (bI_1 (Or.inl (Or.inl c_6))) d_PL_readHeader_56
  · skip
    have c_6 := nI_inj32 (b := 1) (nbN_lt4 _ _) (by decide) c_6
    refine lv_lload hx hb d_PL_readHeader_48 (lv_at hl 0 rfl) ?_
    refine lv_lconst (v := 0) hx hb d_PL_readHeader_50 (by decide) ?_
    refine W.lcmp hx hb d_PL_readHeader_51 ?_
    refine lv_if_ne (tgt := 57) hx hb d_PL_readHeader_52 (by decide) (fun c_7 => ?_) (fun c_7 => ?_)
    · skip
      rw [lg_cmp_eq] at c_7
      have c_7 : ¬ (nbN fr (q + 20) 4 = 0) := fun h9 => c_7 ((pk_lEQ (a := nbN fr (q + 20) 4) (b := 0) (by omega) (by omega)).mpr h9)
      have hskip : ¬ hdSkip fr q := fun h9 => h9.elim (fun h8 => h8 c_6) c_7
      refine lv_lload hx hb d_PL_readHeader_57 (lv_at hl 2 rfl) ?_
      refine lv_ldc2 (v := 4096) hx hb hown (hts _ wd_306) d_PL_readHeader_59 ?_
      refine lv_lrem hx hb d_PL_readHeader_62 (by decide) ?_
      refine xtopl (y := lN ((nbN fr (q + 8) 4) % 4096)) (pk_lRem (a := nbN fr (q + 8) 4) (b := 4096) (by omega) (by omega) (by omega)) ?_
      refine lv_lconst (v := 0) hx hb d_PL_readHeader_63 (by decide) ?_
      refine W.lcmp hx hb d_PL_readHeader_64 ?_
      refine lv_if_ne (tgt := 91) hx hb d_PL_readHeader_65 (by decide) (fun c_8 => ?_) (fun c_8 => ?_)
      · skip
        rw [lg_cmp_eq] at c_8
        have c_8 : ¬ ((nbN fr (q + 8) 4) % 4096 = 0) := fun h9 => c_8 ((pk_lEQ (a := (nbN fr (q + 8) 4) % 4096) (b := 0) (by omega) (by omega)).mpr h9)
        have hgood : ¬ hdGood fr n pt q := fun h9 => absurd (show nbN fr (q + 8) 4 % 4096 = 0 from h9.1) (by omega)
        refine lv_iconst (v := 0) hx hb d_PL_readHeader_91 (by decide) ?_
        have hw9 : wsG ad ck rf n fr a ar z pc pe pt pp pf ic ie ip iz ia st rt pb = wsG ad ck rf n fr a ar z ((psStep fr n q (pc, pt, pp, pf)).1) pe ((psStep fr n q (pc, pt, pp, pf)).2.1) ((psStep fr n q (pc, pt, pp, pf)).2.2.1) ((psStep fr n q (pc, pt, pp, pf)).2.2.2) ic ie ip iz ia st rt pb := by rw [psStep_bad hgood]
        rw [hw9] at hP hD
        exact xreti (v := 0) hx hb hr hlocks hK hP hD hS (rfl) (bI_0 (fun h9 => h9.elim hskip hgood)) d_PL_readHeader_92
      · skip
        rw [lg_cmp_eq] at c_8
        have c_8 : (nbN fr (q + 8) 4) % 4096 = 0 := (pk_lEQ (a := (nbN fr (q + 8) 4) % 4096) (b := 0) (by omega) (by omega)).mp c_8
        refine lv_lload hx hb d_PL_readHeader_68 (lv_at hl 2 rfl) ?_
        refine lv_aload_n hx hb d_PL_readHeader_70 rfl (lv_at hl 4 rfl) ?_
        refine va_get (D := (dC, dI)) (ci := 5) (v := .int (nI pt)) (C := R_PL) (T := T_PL) (N := 5) hx hb hts i_PL hown hK hP 6 rfl rfl 3 (by decide) (hts _ wd_110) (fun _ h9 => h9) rfl d_PL_readHeader_71 ?_
        refine lv_i2l hx hb d_PL_readHeader_74 rfl ?_
        refine xtopl (y := lN pt) (nI_l (n := pt) (by omega)) ?_
        refine W.lcmp hx hb d_PL_readHeader_75 ?_
        refine lv_if_lt (tgt := 91) hx hb d_PL_readHeader_76 (by decide) (fun c_9 => ?_) (fun c_9 => ?_)
        · skip
          rw [lg_cmp_lt] at c_9
          have c_9 : nbN fr (q + 8) 4 < pt := (pk_lLT (a := nbN fr (q + 8) 4) (b := pt) (by omega) (by omega)).mp c_9
          have hgood : ¬ hdGood fr n pt q := fun h9 => absurd (show pt ≤ nbN fr (q + 8) 4 from h9.2.1) (by omega)
          refine lv_iconst (v := 0) hx hb d_PL_readHeader_91 (by decide) ?_
          have hw9 : wsG ad ck rf n fr a ar z pc pe pt pp pf ic ie ip iz ia st rt pb = wsG ad ck rf n fr a ar z ((psStep fr n q (pc, pt, pp, pf)).1) pe ((psStep fr n q (pc, pt, pp, pf)).2.1) ((psStep fr n q (pc, pt, pp, pf)).2.2.1) ((psStep fr n q (pc, pt, pp, pf)).2.2.2) ic ie ip iz ia st rt pb := by rw [psStep_bad hgood]
          rw [hw9] at hP hD
          exact xreti (v := 0) hx hb hr hlocks hK hP hD hS (rfl) (bI_0 (fun h9 => h9.elim hskip hgood)) d_PL_readHeader_92
        · skip
          rw [lg_cmp_lt] at c_9
          have c_9 : ¬ (nbN fr (q + 8) 4 < pt) := fun h9 => c_9 ((pk_lLT (a := nbN fr (q + 8) 4) (b := pt) (by omega) (by omega)).mpr h9)
          refine lv_lload hx hb d_PL_readHeader_79 (lv_at hl 2 rfl) ?_
          refine lv_lload hx hb d_PL_readHeader_81 (lv_at hl 0 rfl) ?_
          refine lv_ladd hx hb d_PL_readHeader_83 ?_
          refine xtopl (y := lN ((nbN fr (q + 8) 4) + (nbN fr (q + 20) 4))) (lN_add (nbN fr (q + 8) 4) (nbN fr (q + 20) 4)) ?_
          refine lv_ldc2 (v := 1073733632) hx hb hown (hts _ wd_307) d_PL_readHeader_84 ?_
          refine W.lcmp hx hb d_PL_readHeader_87 ?_
          refine lv_if_le (tgt := 93) hx hb d_PL_readHeader_88 (by decide) (fun c_10 => ?_) (fun c_10 => ?_)
          · skip
            rw [lg_cmp_le] at c_10
            have c_10 : (nbN fr (q + 8) 4) + (nbN fr (q + 20) 4) ≤ 1073733632 := (pk_lLE (a := (nbN fr (q + 8) 4) + (nbN fr (q + 20) 4)) (b := 1073733632) (by omega) (by omega)).mp c_10
            refine lv_lload hx hb d_PL_readHeader_93 (lv_at hl 1 rfl) ?_
            refine lv_lload hx hb d_PL_readHeader_95 (lv_at hl 0 rfl) ?_
            refine W.lcmp hx hb d_PL_readHeader_97 ?_
            refine lv_if_gt (tgt := 123) hx hb d_PL_readHeader_98 (by decide) (fun c_11 => ?_) (fun c_11 => ?_)
            · skip
              rw [lg_cmp_gt] at c_11
              have c_11 : nbN fr (q + 20) 4 < nbN fr (q + 16) 4 := (pk_lLT (a := nbN fr (q + 20) 4) (b := nbN fr (q + 16) 4) (by omega) (by omega)).mp c_11
              have hgood : ¬ hdGood fr n pt q := fun h9 => absurd (show nbN fr (q + 16) 4 ≤ nbN fr (q + 20) 4 from h9.2.2.2.1) (by omega)
              refine lv_iconst (v := 0) hx hb d_PL_readHeader_123 (by decide) ?_
              have hw9 : wsG ad ck rf n fr a ar z pc pe pt pp pf ic ie ip iz ia st rt pb = wsG ad ck rf n fr a ar z ((psStep fr n q (pc, pt, pp, pf)).1) pe ((psStep fr n q (pc, pt, pp, pf)).2.1) ((psStep fr n q (pc, pt, pp, pf)).2.2.1) ((psStep fr n q (pc, pt, pp, pf)).2.2.2) ic ie ip iz ia st rt pb := by rw [psStep_bad hgood]
              rw [hw9] at hP hD
              exact xreti (v := 0) hx hb hr hlocks hK hP hD hS (rfl) (bI_0 (fun h9 => h9.elim hskip hgood)) d_PL_readHeader_124
            · skip
              rw [lg_cmp_gt] at c_11
              have c_11 : ¬ (nbN fr (q + 20) 4 < nbN fr (q + 16) 4) := fun h9 => c_11 ((pk_lLT (a := nbN fr (q + 20) 4) (b := nbN fr (q + 16) 4) (by omega) (by omega)).mpr h9)
              refine lv_aload_n hx hb d_PL_readHeader_101 rfl (lv_at hl 5 rfl) ?_
              refine lv_lload_n hx hb d_PL_readHeader_102 rfl (lv_at hl 3 rfl) ?_
              refine lv_lload hx hb d_PL_readHeader_103 (lv_at hl 1 rfl) ?_
              refine xcalli (va_runV (As := [.long (lN (nbN fr (q + 4) 4)), .long (lN (nbN fr (q + 16) 4))]) (rest := []) ⟨hx, hb, hml, hown, hts⟩ (c_fb_holds l dC dI ad ck rf n fr a ar z pc pe pt pp pf ic ie ip iz ia st rt pb (lN (nbN fr (q + 4) 4)) (lN (nbN fr (q + 16) 4)) hn H.size) (cwV 2 hts (xgV wd_274 wd_221 wd_222 wd_16 wd_223) rfl rfl rfl (by decide +kernel) ⟨Nat.le_of_ble_eq_true rfl, Nat.le_of_ble_eq_true rfl⟩) (xpreV (q0 := 1) hK hN hZ hA hS hP hD rfl rfl) rfl rfl hl.1 rfl (lv_room (Nat.le_of_ble_eq_true rfl)) d_PL_readHeader_105 ⟨Nat.zero_le _, Nat.zero_le _⟩) hD hS hA (fun r_12 H locs hr_12 hP hD hS => ?_)
              subst hr_12
              refine lv_if_eq (tgt := 123) hx hb d_PL_readHeader_108 (by decide) (fun c_13 => ?_) (fun c_13 => ?_)
              · skip
                have c_13 := bI_f c_13
                have c_13 : ¬ (nbN fr (q + 4) 4 + nbN fr (q + 16) 4 ≤ n) := fun h9 => c_13 ((p_hl (nbN_lt4 _ _) (nbN_lt4 _ _)).mpr h9)
                have hgood : ¬ hdGood fr n pt q := fun h9 => absurd (show nbN fr (q + 4) 4 + nbN fr (q + 16) 4 ≤ n from h9.2.2.2.2) (by omega)
                refine lv_iconst (v := 0) hx hb d_PL_readHeader_123 (by decide) ?_
                have hw9 : wsG ad ck rf n fr a ar z pc pe pt pp pf ic ie ip iz ia st rt pb = wsG ad ck rf n fr a ar z ((psStep fr n q (pc, pt, pp, pf)).1) pe ((psStep fr n q (pc, pt, pp, pf)).2.1) ((psStep fr n q (pc, pt, pp, pf)).2.2.1) ((psStep fr n q (pc, pt, pp, pf)).2.2.2) ic ie ip iz ia st rt pb := by rw [psStep_bad hgood]
                rw [hw9] at hP hD
                exact xreti (v := 0) hx hb hr hlocks hK hP hD hS (rfl) (bI_0 (fun h9 => h9.elim hskip hgood)) d_PL_readHeader_124
              · skip
                have c_13 := bI_t c_13
                have c_13 := (p_hl (nbN_lt4 _ _) (nbN_lt4 _ _)).mp c_13
                refine lv_aload_n hx hb d_PL_readHeader_111 rfl (lv_at hl 4 rfl) ?_
                refine va_get (D := (dC, dI)) (ci := 5) (v := .int (nI pc)) (C := R_PL) (T := T_PL) (N := 5) hx hb hts i_PL hown hK hP 6 rfl rfl 1 (by decide) (hts _ wd_106) (fun _ h9 => h9) rfl d_PL_readHeader_112 ?_
                refine lv_aload_n hx hb d_PL_readHeader_115 rfl (lv_at hl 4 rfl) ?_
                refine va_get (D := (dC, dI)) (ci := 5) (v := .ref (ad 7)) (C := R_PL) (T := T_PL) (N := 5) hx hb hts i_PL hown hK hP 6 rfl rfl 0 (by decide) (hts _ wd_103) (fun _ h9 => h9) rfl d_PL_readHeader_116 ?_
                refine va_alen (v := 8) hx hb hK hP 7 2 rfl rfl rfl d_PL_readHeader_119 ?_
                refine lv_icmp_lt (tgt := 125) hx hb d_PL_readHeader_120 (by decide) (fun c_14 => ?_) (fun c_14 => ?_)
                · skip
                  have c_14 : pc < 8 := (nI_ltI (a := pc) (b := 8) (by omega) (by omega)).mp c_14
                  have hgood : hdGood fr n pt q := ⟨by show nbN fr (q + 8) 4 % 4096 = 0; omega, by show pt ≤ nbN fr (q + 8) 4; omega, by show nbN fr (q + 8) 4 + nbN fr (q + 20) 4 ≤ 1073733632; omega, by show nbN fr (q + 16) 4 ≤ nbN fr (q + 20) 4; omega, by show nbN fr (q + 4) 4 + nbN fr (q + 16) 4 ≤ n; omega⟩
                  refine lv_aload_n hx hb d_PL_readHeader_125 rfl (lv_at hl 4 rfl) ?_
                  refine va_get (D := (dC, dI)) (ci := 5) (v := .ref (ad 7)) (C := R_PL) (T := T_PL) (N := 5) hx hb hts i_PL hown hK hP 6 rfl rfl 0 (by decide) (hts _ wd_103) (fun _ h9 => h9) rfl d_PL_readHeader_126 ?_
                  refine lv_aload_n hx hb d_PL_readHeader_129 rfl (lv_at hl 4 rfl) ?_
                  refine va_get (D := (dC, dI)) (ci := 5) (v := .int (nI pc)) (C := R_PL) (T := T_PL) (N := 5) hx hb hts i_PL hown hK hP 6 rfl rfl 1 (by decide) (hts _ wd_106) (fun _ h9 => h9) rfl d_PL_readHeader_130 ?_
                  refine xaald (b := ad (pc + 10)) (k := pc) hx hb hK hP 7 2 rfl rfl (rfl) (by omega) (by decide) rfl d_PL_readHeader_133 ?_
                  refine lv_astore (lv' := [(11, .ref (ad (pc + 10))), (9, .long (lN (nbN fr (q + 20) 4))), (7, .long (lN (nbN fr (q + 16) 4))), (5, .long (lN (nbN fr (q + 8) 4))), (3, .long (lN (nbN fr (q + 4) 4))), (0, .ref (ad 6)), (1, .ref (ad 1)), (2, .int (nI q))]) hx hb d_PL_readHeader_134 hl (by decide) rfl (fun ls hl => ?_)
                  refine lv_aload hx hb d_PL_readHeader_136 (lv_at hl 0 rfl) ?_
                  refine lv_lload_n hx hb d_PL_readHeader_138 rfl (lv_at hl 4 rfl) ?_
                  refine lv_l2i hx hb d_PL_readHeader_139 rfl ?_
                  refine xtopi (y := nI (nbN fr (q + 4) 4)) (lN_i (nbN fr (q + 4) 4)) ?_
                  refine va_putN (D := (dC, dI)) (ci := 4) (v := .int (nI (nbN fr (q + 4) 4))) (ty := .int) (C := R_PT) (T := T_PT) (N := 5) hx hb hts i_PT t_PT k_PT n_PT hown hK hP hD hS (pc + 10) (wsG_part hpc) rfl 0 (by decide) (hN.use wd_83) (fun _ h9 => h9) rfl (by decide +kernel) rfl rfl (Nat.le_of_ble_eq_true rfl) d_PL_readHeader_140 (fun H locs hP hD hS => ?_)
                  have hP : va_P (dC, dI) vwCl (wsG ad ck rf n fr a ar z pc pe pt pp (upp pf pc 0 (nI (nbN fr (q + 4) 4))) ic ie ip iz ia st rt pb) H := by rw [wsG_putP0 hpc] at hP; exact hP
                  have hD : va_D A (wsG ad ck rf n fr a ar z pc pe pt pp (upp pf pc 0 (nI (nbN fr (q + 4) 4))) ic ie ip iz ia st rt pb) := by rw [wsG_putP0 hpc] at hD; exact hD
                  refine lv_aload hx hb d_PL_readHeader_143 (lv_at hl 0 rfl) ?_
                  refine lv_lload hx hb d_PL_readHeader_145 (lv_at hl 2 rfl) ?_
                  refine lv_l2i hx hb d_PL_readHeader_147 rfl ?_
                  refine xtopi (y := nI (nbN fr (q + 16) 4)) (lN_i (nbN fr (q + 16) 4)) ?_
                  refine va_putN (D := (dC, dI)) (ci := 4) (v := .int (nI (nbN fr (q + 16) 4))) (ty := .int) (C := R_PT) (T := T_PT) (N := 5) hx hb hts i_PT t_PT k_PT n_PT hown hK hP hD hS (pc + 10) (wsG_part hpc) rfl 1 (by decide) (hN.use wd_85) (fun _ h9 => h9) rfl (by decide +kernel) rfl rfl (Nat.le_of_ble_eq_true rfl) d_PL_readHeader_148 (fun H locs hP hD hS => ?_)
                  have hP : va_P (dC, dI) vwCl (wsG ad ck rf n fr a ar z pc pe pt pp (upp (upp pf pc 0 (nI (nbN fr (q + 4) 4))) pc 1 (nI (nbN fr (q + 16) 4))) ic ie ip iz ia st rt pb) H := by rw [wsG_putP1 hpc] at hP; exact hP
                  have hD : va_D A (wsG ad ck rf n fr a ar z pc pe pt pp (upp (upp pf pc 0 (nI (nbN fr (q + 4) 4))) pc 1 (nI (nbN fr (q + 16) 4))) ic ie ip iz ia st rt pb) := by rw [wsG_putP1 hpc] at hD; exact hD
                  refine lv_aload hx hb d_PL_readHeader_151 (lv_at hl 0 rfl) ?_
                  refine lv_lload hx hb d_PL_readHeader_153 (lv_at hl 3 rfl) ?_
                  refine lv_l2i hx hb d_PL_readHeader_155 rfl ?_
                  refine xtopi (y := nI (nbN fr (q + 8) 4)) (lN_i (nbN fr (q + 8) 4)) ?_
                  refine va_putN (D := (dC, dI)) (ci := 4) (v := .int (nI (nbN fr (q + 8) 4))) (ty := .int) (C := R_PT) (T := T_PT) (N := 5) hx hb hts i_PT t_PT k_PT n_PT hown hK hP hD hS (pc + 10) (wsG_part hpc) rfl 2 (by decide) (hN.use wd_87) (fun _ h9 => h9) rfl (by decide +kernel) rfl rfl (Nat.le_of_ble_eq_true rfl) d_PL_readHeader_156 (fun H locs hP hD hS => ?_)
                  have hP : va_P (dC, dI) vwCl (wsG ad ck rf n fr a ar z pc pe pt pp (upp (upp (upp pf pc 0 (nI (nbN fr (q + 4) 4))) pc 1 (nI (nbN fr (q + 16) 4))) pc 2 (nI (nbN fr (q + 8) 4))) ic ie ip iz ia st rt pb) H := by rw [wsG_putP2 hpc] at hP; exact hP
                  have hD : va_D A (wsG ad ck rf n fr a ar z pc pe pt pp (upp (upp (upp pf pc 0 (nI (nbN fr (q + 4) 4))) pc 1 (nI (nbN fr (q + 16) 4))) pc 2 (nI (nbN fr (q + 8) 4))) ic ie ip iz ia st rt pb) := by rw [wsG_putP2 hpc] at hD; exact hD
                  refine lv_aload hx hb d_PL_readHeader_159 (lv_at hl 0 rfl) ?_
                  refine lv_lload hx hb d_PL_readHeader_161 (lv_at hl 1 rfl) ?_
                  refine lv_ldc2 (v := 4096) hx hb hown (hts _ wd_306) d_PL_readHeader_163 ?_
                  refine lv_ladd hx hb d_PL_readHeader_166 ?_
                  refine xtopl (y := lN ((nbN fr (q + 20) 4) + 4096)) (lN_add (nbN fr (q + 20) 4) (4096)) ?_
                  refine lv_lconst (v := 1) hx hb d_PL_readHeader_167 (by decide) ?_
                  refine lv_lsub hx hb d_PL_readHeader_168 ?_
                  refine xtopl (y := lN (((nbN fr (q + 20) 4) + 4096) - 1)) (lN_sub (a := (nbN fr (q + 20) 4) + 4096) (b := 1) (by omega)) ?_
                  refine lv_ldc2 (v := 4096) hx hb hown (hts _ wd_306) d_PL_readHeader_169 ?_
                  refine lv_ldiv hx hb d_PL_readHeader_172 (by decide) ?_
                  refine xtopl (y := lN ((((nbN fr (q + 20) 4) + 4096) - 1) / 4096)) (pk_lDiv (a := ((nbN fr (q + 20) 4) + 4096) - 1) (b := 4096) (by omega) (by omega) (by omega)) ?_
                  refine lv_l2i hx hb d_PL_readHeader_173 rfl ?_
                  refine xtopi (y := nI ((((nbN fr (q + 20) 4) + 4096) - 1) / 4096)) (lN_i ((((nbN fr (q + 20) 4) + 4096) - 1) / 4096)) ?_
                  refine va_putN (D := (dC, dI)) (ci := 4) (v := .int (nI ((((nbN fr (q + 20) 4) + 4096) - 1) / 4096))) (ty := .int) (C := R_PT) (T := T_PT) (N := 5) hx hb hts i_PT t_PT k_PT n_PT hown hK hP hD hS (pc + 10) (wsG_part hpc) rfl 3 (by decide) (hN.use wd_89) (fun _ h9 => h9) rfl (by decide +kernel) rfl rfl (Nat.le_of_ble_eq_true rfl) d_PL_readHeader_174 (fun H locs hP hD hS => ?_)
                  have hP : va_P (dC, dI) vwCl (wsG ad ck rf n fr a ar z pc pe pt pp (upp (upp (upp (upp pf pc 0 (nI (nbN fr (q + 4) 4))) pc 1 (nI (nbN fr (q + 16) 4))) pc 2 (nI (nbN fr (q + 8) 4))) pc 3 (nI ((((nbN fr (q + 20) 4) + 4096) - 1) / 4096))) ic ie ip iz ia st rt pb) H := by rw [wsG_putP3 hpc] at hP; exact hP
                  have hD : va_D A (wsG ad ck rf n fr a ar z pc pe pt pp (upp (upp (upp (upp pf pc 0 (nI (nbN fr (q + 4) 4))) pc 1 (nI (nbN fr (q + 16) 4))) pc 2 (nI (nbN fr (q + 8) 4))) pc 3 (nI ((((nbN fr (q + 20) 4) + 4096) - 1) / 4096))) ic ie ip iz ia st rt pb) := by rw [wsG_putP3 hpc] at hD; exact hD
                  refine lv_aload hx hb d_PL_readHeader_177 (lv_at hl 0 rfl) ?_
                  refine lv_aload_n hx hb d_PL_readHeader_179 rfl (lv_at hl 6 rfl) ?_
                  refine lv_iload_n hx hb d_PL_readHeader_180 rfl (lv_at hl 7 rfl) ?_
                  refine lv_bipush (v := 24) hx hb d_PL_readHeader_181 (by decide) ?_
                  refine lv_iadd hx hb d_PL_readHeader_183 ?_
                  refine xtopi (y := nI (q + 24)) (nI_add (q) (24)) ?_
                  refine lv_iconst (v := 4) hx hb d_PL_readHeader_184 (by decide) ?_
                  refine xcalli (va_runV (As := [.int (nI (q + 24)), .int 4]) (rest := [.ref (ad (pc + 10))]) ⟨hx, hb, hml, hown, hts⟩ (c_fb_number4 l dC dI ad ck rf n fr a ar z pc pe pt pp (upp (upp (upp (upp pf pc 0 (nI (nbN fr (q + 4) 4))) pc 1 (nI (nbN fr (q + 16) 4))) pc 2 (nI (nbN fr (q + 8) 4))) pc 3 (nI ((((nbN fr (q + 20) 4) + 4096) - 1) / 4096))) ic ie ip iz ia st rt pb (nI (q + 24)) hn H.size) (cwV 2 hts (xgV wd_277 wd_278 wd_279 wd_16 wd_280) rfl rfl rfl (by decide +kernel) ⟨Nat.le_of_ble_eq_true rfl, Nat.le_of_ble_eq_true rfl⟩) (xpreV (q0 := 1) hK hN hZ hA hS hP hD rfl rfl) rfl rfl hl.1 rfl (lv_room (Nat.le_of_ble_eq_true rfl)) d_PL_readHeader_185 ⟨Nat.zero_le _, Nat.zero_le _⟩) hD hS hA (fun r_15 H locs hr_15 hP hD hS => ?_)
                  subst hr_15
                  refine xtopi (y := nI (nbN fr (q + 24) 4)) (p_num (q := q + 24) (by omega) hn) ?_
                  refine xcalli (va_runS (As := [.int (nI (nbN fr (q + 24) 4))]) (rest := [.ref (ad (pc + 10))]) ⟨hx, hb, hml, hown, hts⟩ (c_pl_rightsOf l dC dI ad ck rf n fr a ar z pc pe pt pp (upp (upp (upp (upp pf pc 0 (nI (nbN fr (q + 4) 4))) pc 1 (nI (nbN fr (q + 16) 4))) pc 2 (nI (nbN fr (q + 8) 4))) pc 3 (nI ((((nbN fr (q + 20) 4) + 4096) - 1) / 4096))) ic ie ip iz ia st rt pb (nI (nbN fr (q + 24) 4)) H.size) (cwS 1 hts (xgS wd_308 wd_309 wd_18 wd_310) rfl rfl rfl (by decide +kernel) ⟨Nat.le_of_ble_eq_true rfl, Nat.le_of_ble_eq_true rfl⟩) (xpreS hK hN hZ hA hS hP hD) rfl rfl hl.1 rfl (lv_room (Nat.le_of_ble_eq_true rfl)) d_PL_readHeader_188 ⟨Nat.zero_le _, Nat.zero_le _⟩) hD hS hA (fun r_16 H locs hr_16 hP hD hS => ?_)
                  subst hr_16
                  refine va_putN (D := (dC, dI)) (ci := 4) (v := .int (rgO (nI (nbN fr (q + 24) 4)))) (ty := .int) (C := R_PT) (T := T_PT) (N := 5) hx hb hts i_PT t_PT k_PT n_PT hown hK hP hD hS (pc + 10) (wsG_part hpc) rfl 4 (by decide) (hN.use wd_91) (fun _ h9 => h9) rfl (by decide +kernel) rfl rfl (Nat.le_of_ble_eq_true rfl) d_PL_readHeader_191 (fun H locs hP hD hS => ?_)
                  have hP : va_P (dC, dI) vwCl (wsG ad ck rf n fr a ar z pc pe pt pp (upp (upp (upp (upp (upp pf pc 0 (nI (nbN fr (q + 4) 4))) pc 1 (nI (nbN fr (q + 16) 4))) pc 2 (nI (nbN fr (q + 8) 4))) pc 3 (nI ((((nbN fr (q + 20) 4) + 4096) - 1) / 4096))) pc 4 (rgO (nI (nbN fr (q + 24) 4)))) ic ie ip iz ia st rt pb) H := by rw [wsG_putP4 hpc] at hP; exact hP
                  have hD : va_D A (wsG ad ck rf n fr a ar z pc pe pt pp (upp (upp (upp (upp (upp pf pc 0 (nI (nbN fr (q + 4) 4))) pc 1 (nI (nbN fr (q + 16) 4))) pc 2 (nI (nbN fr (q + 8) 4))) pc 3 (nI ((((nbN fr (q + 20) 4) + 4096) - 1) / 4096))) pc 4 (rgO (nI (nbN fr (q + 24) 4)))) ic ie ip iz ia st rt pb) := by rw [wsG_putP4 hpc] at hD; exact hD
                  refine lv_aload_n hx hb d_PL_readHeader_194 rfl (lv_at hl 5 rfl) ?_
                  refine lv_dup hx hb d_PL_readHeader_195 rfl ?_
                  refine va_get (D := (dC, dI)) (ci := 5) (v := .int (nI pc)) (C := R_PL) (T := T_PL) (N := 5) hx hb hts i_PL hown hK hP 6 rfl rfl 1 (by decide) (hts _ wd_106) (fun _ h9 => h9) rfl d_PL_readHeader_196 ?_
                  refine lv_iconst (v := 1) hx hb d_PL_readHeader_199 (by decide) ?_
                  refine lv_iadd hx hb d_PL_readHeader_200 ?_
                  refine xtopi (y := nI (pc + 1)) (nI_add (pc) (1)) ?_
                  refine va_put (D := (dC, dI)) (ci := 5) (v := .int (nI (pc + 1))) (ty := .int) (C := R_PL) (T := T_PL) (N := 5) hx hb hts i_PL t_PL k_PL n_PL hown hK hP hD hS 6 rfl rfl 1 (by decide) (hts _ wd_106) (fun _ h9 => h9) rfl (by decide +kernel) rfl rfl (Nat.le_of_ble_eq_true rfl) d_PL_readHeader_201 (fun H locs hP hD hS => ?_)
                  have hP : va_P (dC, dI) vwCl (wsG ad ck rf n fr a ar z (pc + 1) pe pt pp (upp (upp (upp (upp (upp pf pc 0 (nI (nbN fr (q + 4) 4))) pc 1 (nI (nbN fr (q + 16) 4))) pc 2 (nI (nbN fr (q + 8) 4))) pc 3 (nI ((((nbN fr (q + 20) 4) + 4096) - 1) / 4096))) pc 4 (rgO (nI (nbN fr (q + 24) 4)))) ic ie ip iz ia st rt pb) H := hP
                  have hD : va_D A (wsG ad ck rf n fr a ar z (pc + 1) pe pt pp (upp (upp (upp (upp (upp pf pc 0 (nI (nbN fr (q + 4) 4))) pc 1 (nI (nbN fr (q + 16) 4))) pc 2 (nI (nbN fr (q + 8) 4))) pc 3 (nI ((((nbN fr (q + 20) 4) + 4096) - 1) / 4096))) pc 4 (rgO (nI (nbN fr (q + 24) 4)))) ic ie ip iz ia st rt pb) := hD
                  refine lv_aload_n hx hb d_PL_readHeader_204 rfl (lv_at hl 5 rfl) ?_
                  refine lv_aload hx hb d_PL_readHeader_205 (lv_at hl 0 rfl) ?_
                  refine va_getN (D := (dC, dI)) (ci := 4) (v := .int ((upp (upp (upp (upp (upp pf pc 0 (nI (nbN fr (q + 4) 4))) pc 1 (nI (nbN fr (q + 16) 4))) pc 2 (nI (nbN fr (q + 8) 4))) pc 3 (nI ((((nbN fr (q + 20) 4) + 4096) - 1) / 4096))) pc 4 (rgO (nI (nbN fr (q + 24) 4)))) pc 2)) (C := R_PT) (T := T_PT) (N := 5) hx hb hts i_PT hown hK hP (pc + 10) (wsG_part hpc) rfl 2 (by decide) (hN.use wd_87) (fun _ h9 => h9) rfl d_PL_readHeader_207 ?_
                  refine xtopi (y := nI (nbN fr (q + 8) 4)) (by simp [upp, upd]) ?_
                  refine lv_aload hx hb d_PL_readHeader_210 (lv_at hl 0 rfl) ?_
                  refine va_getN (D := (dC, dI)) (ci := 4) (v := .int ((upp (upp (upp (upp (upp pf pc 0 (nI (nbN fr (q + 4) 4))) pc 1 (nI (nbN fr (q + 16) 4))) pc 2 (nI (nbN fr (q + 8) 4))) pc 3 (nI ((((nbN fr (q + 20) 4) + 4096) - 1) / 4096))) pc 4 (rgO (nI (nbN fr (q + 24) 4)))) pc 3)) (C := R_PT) (T := T_PT) (N := 5) hx hb hts i_PT hown hK hP (pc + 10) (wsG_part hpc) rfl 3 (by decide) (hN.use wd_89) (fun _ h9 => h9) rfl d_PL_readHeader_212 ?_
                  refine xtopi (y := nI ((nbN fr (q + 20) 4 + 4096 - 1) / 4096)) (by simp [upp, upd]) ?_
                  refine lv_sipush (v := 4096) hx hb d_PL_readHeader_215 (by decide) ?_
                  refine lv_imul hx hb d_PL_readHeader_218 ?_
                  refine xtopi (y := nI (((nbN fr (q + 20) 4 + 4096 - 1) / 4096) * 4096)) (pk_mul ((nbN fr (q + 20) 4 + 4096 - 1) / 4096) (4096)) ?_
                  refine lv_iadd hx hb d_PL_readHeader_219 ?_
                  refine xtopi (y := nI ((nbN fr (q + 8) 4) + (((nbN fr (q + 20) 4 + 4096 - 1) / 4096) * 4096))) (nI_add (nbN fr (q + 8) 4) (((nbN fr (q + 20) 4 + 4096 - 1) / 4096) * 4096)) ?_
                  refine va_put (D := (dC, dI)) (ci := 5) (v := .int (nI ((nbN fr (q + 8) 4) + (((nbN fr (q + 20) 4 + 4096 - 1) / 4096) * 4096)))) (ty := .int) (C := R_PL) (T := T_PL) (N := 5) hx hb hts i_PL t_PL k_PL n_PL hown hK hP hD hS 6 rfl rfl 3 (by decide) (hts _ wd_110) (fun _ h9 => h9) rfl (by decide +kernel) rfl rfl (Nat.le_of_ble_eq_true rfl) d_PL_readHeader_220 (fun H locs hP hD hS => ?_)
                  have hP : va_P (dC, dI) vwCl (wsG ad ck rf n fr a ar z (pc + 1) pe ((nbN fr (q + 8) 4) + (((nbN fr (q + 20) 4 + 4096 - 1) / 4096) * 4096)) pp (upp (upp (upp (upp (upp pf pc 0 (nI (nbN fr (q + 4) 4))) pc 1 (nI (nbN fr (q + 16) 4))) pc 2 (nI (nbN fr (q + 8) 4))) pc 3 (nI ((((nbN fr (q + 20) 4) + 4096) - 1) / 4096))) pc 4 (rgO (nI (nbN fr (q + 24) 4)))) ic ie ip iz ia st rt pb) H := hP
                  have hD : va_D A (wsG ad ck rf n fr a ar z (pc + 1) pe ((nbN fr (q + 8) 4) + (((nbN fr (q + 20) 4 + 4096 - 1) / 4096) * 4096)) pp (upp (upp (upp (upp (upp pf pc 0 (nI (nbN fr (q + 4) 4))) pc 1 (nI (nbN fr (q + 16) 4))) pc 2 (nI (nbN fr (q + 8) 4))) pc 3 (nI ((((nbN fr (q + 20) 4) + 4096) - 1) / 4096))) pc 4 (rgO (nI (nbN fr (q + 24) 4)))) ic ie ip iz ia st rt pb) := hD
                  refine lv_aload_n hx hb d_PL_readHeader_223 rfl (lv_at hl 5 rfl) ?_
                  refine lv_dup hx hb d_PL_readHeader_224 rfl ?_
                  refine va_get (D := (dC, dI)) (ci := 5) (v := .int (nI pp)) (C := R_PL) (T := T_PL) (N := 5) hx hb hts i_PL hown hK hP 6 rfl rfl 4 (by decide) (hts _ wd_111) (fun _ h9 => h9) rfl d_PL_readHeader_225 ?_
                  refine lv_aload hx hb d_PL_readHeader_228 (lv_at hl 0 rfl) ?_
                  refine va_getN (D := (dC, dI)) (ci := 4) (v := .int ((upp (upp (upp (upp (upp pf pc 0 (nI (nbN fr (q + 4) 4))) pc 1 (nI (nbN fr (q + 16) 4))) pc 2 (nI (nbN fr (q + 8) 4))) pc 3 (nI ((((nbN fr (q + 20) 4) + 4096) - 1) / 4096))) pc 4 (rgO (nI (nbN fr (q + 24) 4)))) pc 3)) (C := R_PT) (T := T_PT) (N := 5) hx hb hts i_PT hown hK hP (pc + 10) (wsG_part hpc) rfl 3 (by decide) (hN.use wd_89) (fun _ h9 => h9) rfl d_PL_readHeader_230 ?_
                  refine xtopi (y := nI ((nbN fr (q + 20) 4 + 4096 - 1) / 4096)) (by simp [upp, upd]) ?_
                  refine lv_iadd hx hb d_PL_readHeader_233 ?_
                  refine xtopi (y := nI (pp + ((nbN fr (q + 20) 4 + 4096 - 1) / 4096))) (nI_add (pp) ((nbN fr (q + 20) 4 + 4096 - 1) / 4096)) ?_
                  refine va_put (D := (dC, dI)) (ci := 5) (v := .int (nI (pp + ((nbN fr (q + 20) 4 + 4096 - 1) / 4096)))) (ty := .int) (C := R_PL) (T := T_PL) (N := 5) hx hb hts i_PL t_PL k_PL n_PL hown hK hP hD hS 6 rfl rfl 4 (by decide) (hts _ wd_111) (fun _ h9 => h9) rfl (by decide +kernel) rfl rfl (Nat.le_of_ble_eq_true rfl) d_PL_readHeader_234 (fun H locs hP hD hS => ?_)
                  have hP : va_P (dC, dI) vwCl (wsG ad ck rf n fr a ar z (pc + 1) pe ((nbN fr (q + 8) 4) + (((nbN fr (q + 20) 4 + 4096 - 1) / 4096) * 4096)) (pp + ((nbN fr (q + 20) 4 + 4096 - 1) / 4096)) (upp (upp (upp (upp (upp pf pc 0 (nI (nbN fr (q + 4) 4))) pc 1 (nI (nbN fr (q + 16) 4))) pc 2 (nI (nbN fr (q + 8) 4))) pc 3 (nI ((((nbN fr (q + 20) 4) + 4096) - 1) / 4096))) pc 4 (rgO (nI (nbN fr (q + 24) 4)))) ic ie ip iz ia st rt pb) H := hP
                  have hD : va_D A (wsG ad ck rf n fr a ar z (pc + 1) pe ((nbN fr (q + 8) 4) + (((nbN fr (q + 20) 4 + 4096 - 1) / 4096) * 4096)) (pp + ((nbN fr (q + 20) 4 + 4096 - 1) / 4096)) (upp (upp (upp (upp (upp pf pc 0 (nI (nbN fr (q + 4) 4))) pc 1 (nI (nbN fr (q + 16) 4))) pc 2 (nI (nbN fr (q + 8) 4))) pc 3 (nI ((((nbN fr (q + 20) 4) + 4096) - 1) / 4096))) pc 4 (rgO (nI (nbN fr (q + 24) 4)))) ic ie ip iz ia st rt pb) := hD
                  refine lv_iconst (v := 1) hx hb d_PL_readHeader_237 (by decide) ?_
                  have hw9 : wsG ad ck rf n fr a ar z (pc + 1) pe ((nbN fr (q + 8) 4) + (((nbN fr (q + 20) 4 + 4096 - 1) / 4096) * 4096)) (pp + ((nbN fr (q + 20) 4 + 4096 - 1) / 4096)) (upp (upp (upp (upp (upp pf pc 0 (nI (nbN fr (q + 4) 4))) pc 1 (nI (nbN fr (q + 16) 4))) pc 2 (nI (nbN fr (q + 8) 4))) pc 3 (nI ((((nbN fr (q + 20) 4) + 4096) - 1) / 4096))) pc 4 (rgO (nI (nbN fr (q + 24) 4)))) ic ie ip iz ia st rt pb = wsG ad ck rf n fr a ar z ((psStep fr n q (pc, pt, pp, pf)).1) pe ((psStep fr n q (pc, pt, pp, pf)).2.1) ((psStep fr n q (pc, pt, pp, pf)).2.2.1) ((psStep fr n q (pc, pt, pp, pf)).2.2.2) ic ie ip iz ia st rt pb := by rw [psStep_good hskip hgood]; rfl
                  rw [hw9] at hP hD
                  exact xreti (v := 1) hx hb hr hlocks hK hP hD hS (rfl) (bI_1 (Or.inr hgood)) d_PL_readHeader_238
                · skip
                  have c_14 : ¬ (pc < 8) := fun h9 => c_14 ((nI_ltI (a := pc) (b := 8) (by omega) (by omega)).mpr h9)
                  exact absurd c_14 (by omega)
          · skip
            rw [lg_cmp_le] at c_10
            have c_10 : ¬ ((nbN fr (q + 8) 4) + (nbN fr (q + 20) 4) ≤ 1073733632) := fun h9 => c_10 ((pk_lLE (a := (nbN fr (q + 8) 4) + (nbN fr (q + 20) 4)) (b := 1073733632) (by omega) (by omega)).mpr h9)
            have hgood : ¬ hdGood fr n pt q := fun h9 => absurd (show nbN fr (q + 8) 4 + nbN fr (q + 20) 4 ≤ 1073733632 from h9.2.2.1) (by omega)
            refine lv_iconst (v := 0) hx hb d_PL_readHeader_91 (by decide) ?_
            have hw9 : wsG ad ck rf n fr a ar z pc pe pt pp pf ic ie ip iz ia st rt pb = wsG ad ck rf n fr a ar z ((psStep fr n q (pc, pt, pp, pf)).1) pe ((psStep fr n q (pc, pt, pp, pf)).2.1) ((psStep fr n q (pc, pt, pp, pf)).2.2.1) ((psStep fr n q (pc, pt, pp, pf)).2.2.2) ic ie ip iz ia st rt pb := by rw [psStep_bad hgood]
            rw [hw9] at hP hD
            exact xreti (v := 0) hx hb hr hlocks hK hP hD hS (rfl) (bI_0 (fun h9 => h9.elim hskip hgood)) d_PL_readHeader_92
    · skip
      rw [lg_cmp_eq] at c_7
      have c_7 : nbN fr (q + 20) 4 = 0 := (pk_lEQ (a := nbN fr (q + 20) 4) (b := 0) (by omega) (by omega)).mp c_7
      refine lv_iconst (v := 1) hx hb d_PL_readHeader_55 (by decide) ?_
      have hw9 : wsG ad ck rf n fr a ar z pc pe pt pp pf ic ie ip iz ia st rt pb = wsG ad ck rf n fr a ar z ((psStep fr n q (pc, pt, pp, pf)).1) pe ((psStep fr n q (pc, pt, pp, pf)).2.1) ((psStep fr n q (pc, pt, pp, pf)).2.2.1) ((psStep fr n q (pc, pt, pp, pf)).2.2.2) ic ie ip iz ia st rt pb := by rw [psStep_skip (Or.inr c_7)]
      rw [hw9] at hP hD
      exact xreti (v := 1) hx hb hr hlocks hK hP hD hS (rfl) (bI_1 (Or.inl (Or.inr c_7))) d_PL_readHeader_56
end
section
theorem p_52 {n : Nat} : (0 ≤ (0 : Int64).toInt ∧ 0 ≤ (52 : Int64).toInt ∧ (0 : Int64).toInt + (52 : Int64).toInt ≤ (n : Int)) ↔ 52 ≤ n := by
  have h1 : (0 : Int64).toInt = 0 := rfl
  have h2 : (52 : Int64).toInt = 52 := rfl
  rw [h1, h2]
  omega
abbrev marked (f : Nat → Int32) : Prop := nbN f 0 1 = 127 ∧ nbN f 1 1 = 69 ∧ nbN f 2 1 = 76 ∧ nbN f 3 1 = 70 ∧ nbN f 4 1 = 1 ∧ nbN f 5 1 = 1 ∧ nbN f 6 1 = 1
end
section
theorem d_PL_beginsAsImage_0 : decode b_PL_beginsAsImage 0 = .ok (.aload_n 1, 1) := by decide +kernel
theorem d_PL_beginsAsImage_1 : decode b_PL_beginsAsImage 1 = .ok (.lconst 0, 1) := by decide +kernel
theorem d_PL_beginsAsImage_2 : decode b_PL_beginsAsImage 2 = .ok (.ldc2_w 18, 3) := by decide +kernel
theorem d_PL_beginsAsImage_5 : decode b_PL_beginsAsImage 5 = .ok (.invokevirtual 20, 3) := by decide +kernel
theorem d_PL_beginsAsImage_8 : decode b_PL_beginsAsImage 8 = .ok (.ifCond .ne 5, 3) := by decide +kernel
theorem d_PL_beginsAsImage_11 : decode b_PL_beginsAsImage 11 = .ok (.iconst 0, 1) := by decide +kernel
theorem d_PL_beginsAsImage_12 : decode b_PL_beginsAsImage 12 = .ok (.ireturn, 1) := by decide +kernel
theorem d_PL_beginsAsImage_13 : decode b_PL_beginsAsImage 13 = .ok (.iconst 0, 1) := by decide +kernel
theorem d_PL_beginsAsImage_14 : decode b_PL_beginsAsImage 14 = .ok (.istore_n 2, 1) := by decide +kernel
theorem d_PL_beginsAsImage_15 : decode b_PL_beginsAsImage 15 = .ok (.iload_n 2, 1) := by decide +kernel
theorem d_PL_beginsAsImage_16 : decode b_PL_beginsAsImage 16 = .ok (.getstatic 26, 3) := by decide +kernel
theorem d_PL_beginsAsImage_19 : decode b_PL_beginsAsImage 19 = .ok (.arraylength, 1) := by decide +kernel
theorem d_PL_beginsAsImage_20 : decode b_PL_beginsAsImage 20 = .ok (.if_icmp .ge 25, 3) := by decide +kernel
theorem d_PL_beginsAsImage_23 : decode b_PL_beginsAsImage 23 = .ok (.aload_n 1, 1) := by decide +kernel
theorem d_PL_beginsAsImage_24 : decode b_PL_beginsAsImage 24 = .ok (.iload_n 2, 1) := by decide +kernel
theorem d_PL_beginsAsImage_25 : decode b_PL_beginsAsImage 25 = .ok (.iconst 1, 1) := by decide +kernel
theorem d_PL_beginsAsImage_26 : decode b_PL_beginsAsImage 26 = .ok (.invokevirtual 30, 3) := by decide +kernel
theorem d_PL_beginsAsImage_29 : decode b_PL_beginsAsImage 29 = .ok (.getstatic 26, 3) := by decide +kernel
theorem d_PL_beginsAsImage_32 : decode b_PL_beginsAsImage 32 = .ok (.iload_n 2, 1) := by decide +kernel
theorem d_PL_beginsAsImage_33 : decode b_PL_beginsAsImage 33 = .ok (.baload, 1) := by decide +kernel
theorem d_PL_beginsAsImage_34 : decode b_PL_beginsAsImage 34 = .ok (.if_icmp .eq 5, 3) := by decide +kernel
theorem d_PL_beginsAsImage_37 : decode b_PL_beginsAsImage 37 = .ok (.iconst 0, 1) := by decide +kernel
theorem d_PL_beginsAsImage_38 : decode b_PL_beginsAsImage 38 = .ok (.ireturn, 1) := by decide +kernel
theorem d_PL_beginsAsImage_39 : decode b_PL_beginsAsImage 39 = .ok (.iinc 2 1, 3) := by decide +kernel
theorem d_PL_beginsAsImage_42 : decode b_PL_beginsAsImage 42 = .ok (.goto (-27), 3) := by decide +kernel
theorem d_PL_beginsAsImage_45 : decode b_PL_beginsAsImage 45 = .ok (.iconst 1, 1) := by decide +kernel
theorem d_PL_beginsAsImage_46 : decode b_PL_beginsAsImage 46 = .ok (.ireturn, 1) := by decide +kernel
theorem d_PL_readParts_0 : decode b_PL_readParts 0 = .ok (.aload_n 0, 1) := by decide +kernel
theorem d_PL_readParts_1 : decode b_PL_readParts 1 = .ok (.iconst 0, 1) := by decide +kernel
theorem d_PL_readParts_2 : decode b_PL_readParts 2 = .ok (.putfield 42, 3) := by decide +kernel
theorem d_PL_readParts_5 : decode b_PL_readParts 5 = .ok (.aload_n 0, 1) := by decide +kernel
theorem d_PL_readParts_6 : decode b_PL_readParts 6 = .ok (.aload_n 1, 1) := by decide +kernel
theorem d_PL_readParts_7 : decode b_PL_readParts 7 = .ok (.bipush 24, 2) := by decide +kernel
theorem d_PL_readParts_9 : decode b_PL_readParts 9 = .ok (.iconst 4, 1) := by decide +kernel
theorem d_PL_readParts_10 : decode b_PL_readParts 10 = .ok (.invokevirtual 30, 3) := by decide +kernel
theorem d_PL_readParts_13 : decode b_PL_readParts 13 = .ok (.putfield 46, 3) := by decide +kernel
theorem d_PL_readParts_16 : decode b_PL_readParts 16 = .ok (.aload_n 0, 1) := by decide +kernel
theorem d_PL_readParts_17 : decode b_PL_readParts 17 = .ok (.iconst 0, 1) := by decide +kernel
theorem d_PL_readParts_18 : decode b_PL_readParts 18 = .ok (.putfield 49, 3) := by decide +kernel
theorem d_PL_readParts_21 : decode b_PL_readParts 21 = .ok (.aload_n 0, 1) := by decide +kernel
theorem d_PL_readParts_22 : decode b_PL_readParts 22 = .ok (.iconst 2, 1) := by decide +kernel
theorem d_PL_readParts_23 : decode b_PL_readParts 23 = .ok (.putfield 52, 3) := by decide +kernel
theorem d_PL_readParts_26 : decode b_PL_readParts 26 = .ok (.aload_n 1, 1) := by decide +kernel
theorem d_PL_readParts_27 : decode b_PL_readParts 27 = .ok (.bipush 28, 2) := by decide +kernel
theorem d_PL_readParts_29 : decode b_PL_readParts 29 = .ok (.iconst 4, 1) := by decide +kernel
theorem d_PL_readParts_30 : decode b_PL_readParts 30 = .ok (.invokevirtual 30, 3) := by decide +kernel
theorem d_PL_readParts_33 : decode b_PL_readParts 33 = .ok (.istore_n 2, 1) := by decide +kernel
theorem d_PL_readParts_34 : decode b_PL_readParts 34 = .ok (.aload_n 1, 1) := by decide +kernel
theorem d_PL_readParts_35 : decode b_PL_readParts 35 = .ok (.invokestatic 34, 3) := by decide +kernel
theorem d_PL_readParts_38 : decode b_PL_readParts 38 = .ok (.istore_n 3, 1) := by decide +kernel
theorem d_PL_readParts_39 : decode b_PL_readParts 39 = .ok (.iconst 0, 1) := by decide +kernel
theorem d_PL_readParts_40 : decode b_PL_readParts 40 = .ok (.istore 4, 2) := by decide +kernel
theorem d_PL_readParts_42 : decode b_PL_readParts 42 = .ok (.iload 4, 2) := by decide +kernel
theorem d_PL_readParts_44 : decode b_PL_readParts 44 = .ok (.iload_n 3, 1) := by decide +kernel
theorem d_PL_readParts_45 : decode b_PL_readParts 45 = .ok (.if_icmp .ge 26, 3) := by decide +kernel
theorem d_PL_readParts_48 : decode b_PL_readParts 48 = .ok (.aload_n 0, 1) := by decide +kernel
theorem d_PL_readParts_49 : decode b_PL_readParts 49 = .ok (.aload_n 1, 1) := by decide +kernel
theorem d_PL_readParts_50 : decode b_PL_readParts 50 = .ok (.iload_n 2, 1) := by decide +kernel
theorem d_PL_readParts_51 : decode b_PL_readParts 51 = .ok (.iload 4, 2) := by decide +kernel
theorem d_PL_readParts_53 : decode b_PL_readParts 53 = .ok (.bipush 32, 2) := by decide +kernel
theorem d_PL_readParts_55 : decode b_PL_readParts 55 = .ok (.imul, 1) := by decide +kernel
theorem d_PL_readParts_56 : decode b_PL_readParts 56 = .ok (.iadd, 1) := by decide +kernel
theorem d_PL_readParts_57 : decode b_PL_readParts 57 = .ok (.invokevirtual 55, 3) := by decide +kernel
theorem d_PL_readParts_60 : decode b_PL_readParts 60 = .ok (.ifCond .ne 5, 3) := by decide +kernel
theorem d_PL_readParts_63 : decode b_PL_readParts 63 = .ok (.iconst 0, 1) := by decide +kernel
theorem d_PL_readParts_64 : decode b_PL_readParts 64 = .ok (.ireturn, 1) := by decide +kernel
theorem d_PL_readParts_65 : decode b_PL_readParts 65 = .ok (.iinc 4 1, 3) := by decide +kernel
theorem d_PL_readParts_68 : decode b_PL_readParts 68 = .ok (.goto (-26), 3) := by decide +kernel
theorem d_PL_readParts_71 : decode b_PL_readParts 71 = .ok (.iconst 1, 1) := by decide +kernel
theorem d_PL_readParts_72 : decode b_PL_readParts 72 = .ok (.ireturn, 1) := by decide +kernel
end
section
set_option maxHeartbeats 4000000 in
set_option maxRecDepth 100000 in
theorem c_pl_beginsAsImage (l : Launch) (dC : Nat → ClassId) (dI : Nat → Nat → Nat) (ad : Nat → Nat) (ck : Nat → ClassId) (rf : Int32) (n : Nat) (fr : Nat → Int32) (a : Nat) (ar : Nat → Int32) (z : Nat → Nat) (pc : Nat) (pe : Int32) (pt pp : Nat) (pf : Nat → Nat → Int32) (ic : Nat) (ie ip iz ia : Int32) (st rt : Nat → Int32) (pb : Nat → Nat → Int32) (hn : n ≤ 65536) (sz : Nat) : Met l y_PL_beginsAsImage w_PL_beginsAsImage { frames := 2, cells := 0, slots := 0, locals := 56 } (va_Pc [.ref (ad 6), .ref (ad 1)] (xP (dC, dI) (tyG ck) (wsG ad ck rf n fr a ar z pc pe pt pp pf ic ie ip iz ia st rt pb) sz)) (xQi (dC, dI) (tyG ck) (va_A (wsG ad ck rf n fr a ar z pc pe pt pp pf ic ie ip iz ia st rt pb) sz) (wsG ad ck rf n fr a ar z pc pe pt pp pf ic ie ip iz ia st rt pb) (fun r => r = bI (52 ≤ n ∧ marked fr))) 0 0 (va_A (wsG ad ck rf n fr a ar z pc pe pt pp pf ic ie ip iz ia st rt pb) sz) := by
  refine xof (cc := b_PL_beginsAsImage) (maxL := 3) (ret := (some .boolean)) (own := R_PL) (Qc := fun A => (xQi (dC, dI) (tyG ck) A (wsG ad ck rf n fr a ar z pc pe pt pp pf ic ie ip iz ia st rt pb) (fun r => r = bI (52 ≤ n ∧ marked fr)))) (by decide) rfl rfl (Nat.le_of_ble_eq_true rfl) ?_ sz
  intro p e s m below meth c A C hnm hK hP hD hA hN hZ hS ls hl
  obtain ⟨hx, hb, hr, hml, hown, hts, hlocks⟩ := C
  have hl : lv_has ls 3 [(0, .ref (ad 6)), (1, .ref (ad 1))] := hl
  obtain ⟨t7, hZ1, hT1⟩ := id hZ
  have b0 := nbN_lt1 fr 0
  have b1 := nbN_lt1 fr 1
  have b2 := nbN_lt1 fr 2
  have b3 := nbN_lt1 fr 3
  have b4 := nbN_lt1 fr 4
  have b5 := nbN_lt1 fr 5
  have b6 := nbN_lt1 fr 6
  refine lv_aload_n hx hb d_PL_beginsAsImage_0 rfl (lv_at hl 1 rfl) ?_
  refine lv_lconst (v := 0) hx hb d_PL_beginsAsImage_1 (by decide) ?_
  refine lv_ldc2 (v := 52) hx hb hown (hts _ wd_273) d_PL_beginsAsImage_2 ?_
  refine xcalli (va_runV (As := [.long 0, .long 52]) (rest := []) ⟨hx, hb, hml, hown, hts⟩ (c_fb_holds l dC dI ad ck rf n fr a ar z pc pe pt pp pf ic ie ip iz ia st rt pb 0 52 hn s.heap.size) (cwV 2 hts (xgV wd_274 wd_221 wd_222 wd_16 wd_223) rfl rfl rfl (by decide +kernel) ⟨Nat.le_of_ble_eq_true rfl, Nat.le_of_ble_eq_true rfl⟩) (xpreV (q0 := 1) hK hN hZ hA hS hP hD rfl rfl) rfl rfl hl.1 rfl (lv_room (Nat.le_of_ble_eq_true rfl)) d_PL_beginsAsImage_5 ⟨Nat.zero_le _, Nat.zero_le _⟩) hD hS hA (fun r_1 H locs hr_1 hP hD hS => ?_)
  subst hr_1
  refine lv_if_ne (tgt := 13) hx hb d_PL_beginsAsImage_8 (by decide) (fun c_2 => ?_) (fun c_2 => ?_)
  · skip
    have c_2 := bI_t c_2
    have c_2 := p_52.mp c_2
    refine lv_iconst (v := 0) hx hb d_PL_beginsAsImage_13 (by decide) ?_
    refine lv_istore_n (lv' := [(2, .int 0), (0, .ref (ad 6)), (1, .ref (ad 1))]) hx hb d_PL_beginsAsImage_14 rfl hl (by decide) rfl (fun ls hl => ?_)
    refine lv_iload_n hx hb d_PL_beginsAsImage_15 rfl (lv_at hl 0 rfl) ?_
    refine va_getsN hx hb hZ1 hS hown (hN.use wd_275) (fun _ h9 => h9) d_PL_beginsAsImage_16 ?_
    refine va_tlen (v := 7) hx hb hT1 hS rfl d_PL_beginsAsImage_19 ?_
    refine lv_icmp_ge (tgt := 45) hx hb d_PL_beginsAsImage_20 (by decide) (fun c_3 => ?_) (fun c_3 => ?_)
    · exact absurd c_3 (by decide)
    · skip
      refine lv_aload_n hx hb d_PL_beginsAsImage_23 rfl (lv_at hl 2 rfl) ?_
      refine lv_iload_n hx hb d_PL_beginsAsImage_24 rfl (lv_at hl 0 rfl) ?_
      refine lv_iconst (v := 1) hx hb d_PL_beginsAsImage_25 (by decide) ?_
      refine xcalli (va_runV (As := [.int 0, .int 1]) (rest := []) ⟨hx, hb, hml, hown, hts⟩ (c_fb_number1 l dC dI ad ck rf n fr a ar z pc pe pt pp pf ic ie ip iz ia st rt pb 0 hn H.size) (cwV 2 hts (xgV wd_277 wd_278 wd_279 wd_16 wd_280) rfl rfl rfl (by decide +kernel) ⟨Nat.le_of_ble_eq_true rfl, Nat.le_of_ble_eq_true rfl⟩) (xpreV (q0 := 1) hK hN hZ hA hS hP hD rfl rfl) rfl rfl hl.1 rfl (lv_room (Nat.le_of_ble_eq_true rfl)) d_PL_beginsAsImage_26 ⟨Nat.zero_le _, Nat.zero_le _⟩) hD hS hA (fun r_4 H locs hr_4 hP hD hS => ?_)
      subst hr_4
      refine xtopi (y := nI (nbN fr 0 1)) (p_num (q := 0) (by omega) hn) ?_
      refine va_getsN hx hb hZ1 hS hown (hN.use wd_275) (fun _ h9 => h9) d_PL_beginsAsImage_29 ?_
      refine lv_iload_n hx hb d_PL_beginsAsImage_32 rfl (lv_at hl 0 rfl) ?_
      refine va_tb (v := .int 127) (i := 0) hx hb hT1 hS (vp_in_nI (n := 0) (by decide) (by decide)) rfl d_PL_beginsAsImage_33 ?_
      refine lv_icmp_eq (tgt := 39) hx hb d_PL_beginsAsImage_34 (by decide) (fun c_5 => ?_) (fun c_5 => ?_)
      · skip
        have c_5 : nbN fr 0 1 = 127 := (nI_eq (a := nbN fr 0 1) (b := 127) (by omega) (by omega)).mp c_5
        refine lv_iinc (v := 1) (lv' := [(2, .int 1), (0, .ref (ad 6)), (1, .ref (ad 1))]) hx hb d_PL_beginsAsImage_39 hl (k := 0) rfl rfl (by decide) rfl (fun ls hl => ?_)
        refine lv_goto (tgt := 15) hx hb d_PL_beginsAsImage_42 (by decide) ?_
        refine lv_iload_n hx hb d_PL_beginsAsImage_15 rfl (lv_at hl 0 rfl) ?_
        refine va_getsN hx hb hZ1 hS hown (hN.use wd_275) (fun _ h9 => h9) d_PL_beginsAsImage_16 ?_
        refine va_tlen (v := 7) hx hb hT1 hS rfl d_PL_beginsAsImage_19 ?_
        refine lv_icmp_ge (tgt := 45) hx hb d_PL_beginsAsImage_20 (by decide) (fun c_6 => ?_) (fun c_6 => ?_)
        · exact absurd c_6 (by decide)
        · skip
          refine lv_aload_n hx hb d_PL_beginsAsImage_23 rfl (lv_at hl 2 rfl) ?_
          refine lv_iload_n hx hb d_PL_beginsAsImage_24 rfl (lv_at hl 0 rfl) ?_
          refine lv_iconst (v := 1) hx hb d_PL_beginsAsImage_25 (by decide) ?_
          refine xcalli (va_runV (As := [.int 1, .int 1]) (rest := []) ⟨hx, hb, hml, hown, hts⟩ (c_fb_number1 l dC dI ad ck rf n fr a ar z pc pe pt pp pf ic ie ip iz ia st rt pb 1 hn H.size) (cwV 2 hts (xgV wd_277 wd_278 wd_279 wd_16 wd_280) rfl rfl rfl (by decide +kernel) ⟨Nat.le_of_ble_eq_true rfl, Nat.le_of_ble_eq_true rfl⟩) (xpreV (q0 := 1) hK hN hZ hA hS hP hD rfl rfl) rfl rfl hl.1 rfl (lv_room (Nat.le_of_ble_eq_true rfl)) d_PL_beginsAsImage_26 ⟨Nat.zero_le _, Nat.zero_le _⟩) hD hS hA (fun r_7 H locs hr_7 hP hD hS => ?_)
          subst hr_7
          refine xtopi (y := nI (nbN fr 1 1)) (p_num (q := 1) (by omega) hn) ?_
          refine va_getsN hx hb hZ1 hS hown (hN.use wd_275) (fun _ h9 => h9) d_PL_beginsAsImage_29 ?_
          refine lv_iload_n hx hb d_PL_beginsAsImage_32 rfl (lv_at hl 0 rfl) ?_
          refine va_tb (v := .int 69) (i := 1) hx hb hT1 hS (vp_in_nI (n := 1) (by decide) (by decide)) rfl d_PL_beginsAsImage_33 ?_
          refine lv_icmp_eq (tgt := 39) hx hb d_PL_beginsAsImage_34 (by decide) (fun c_8 => ?_) (fun c_8 => ?_)
          · skip
            have c_8 : nbN fr 1 1 = 69 := (nI_eq (a := nbN fr 1 1) (b := 69) (by omega) (by omega)).mp c_8
            refine lv_iinc (v := 2) (lv' := [(2, .int 2), (0, .ref (ad 6)), (1, .ref (ad 1))]) hx hb d_PL_beginsAsImage_39 hl (k := 0) rfl rfl (by decide) rfl (fun ls hl => ?_)
            refine lv_goto (tgt := 15) hx hb d_PL_beginsAsImage_42 (by decide) ?_
            refine lv_iload_n hx hb d_PL_beginsAsImage_15 rfl (lv_at hl 0 rfl) ?_
            refine va_getsN hx hb hZ1 hS hown (hN.use wd_275) (fun _ h9 => h9) d_PL_beginsAsImage_16 ?_
            refine va_tlen (v := 7) hx hb hT1 hS rfl d_PL_beginsAsImage_19 ?_
            refine lv_icmp_ge (tgt := 45) hx hb d_PL_beginsAsImage_20 (by decide) (fun c_9 => ?_) (fun c_9 => ?_)
            · exact absurd c_9 (by decide)
            · skip
              refine lv_aload_n hx hb d_PL_beginsAsImage_23 rfl (lv_at hl 2 rfl) ?_
              refine lv_iload_n hx hb d_PL_beginsAsImage_24 rfl (lv_at hl 0 rfl) ?_
              refine lv_iconst (v := 1) hx hb d_PL_beginsAsImage_25 (by decide) ?_
              refine xcalli (va_runV (As := [.int 2, .int 1]) (rest := []) ⟨hx, hb, hml, hown, hts⟩ (c_fb_number1 l dC dI ad ck rf n fr a ar z pc pe pt pp pf ic ie ip iz ia st rt pb 2 hn H.size) (cwV 2 hts (xgV wd_277 wd_278 wd_279 wd_16 wd_280) rfl rfl rfl (by decide +kernel) ⟨Nat.le_of_ble_eq_true rfl, Nat.le_of_ble_eq_true rfl⟩) (xpreV (q0 := 1) hK hN hZ hA hS hP hD rfl rfl) rfl rfl hl.1 rfl (lv_room (Nat.le_of_ble_eq_true rfl)) d_PL_beginsAsImage_26 ⟨Nat.zero_le _, Nat.zero_le _⟩) hD hS hA (fun r_10 H locs hr_10 hP hD hS => ?_)
              subst hr_10
              refine xtopi (y := nI (nbN fr 2 1)) (p_num (q := 2) (by omega) hn) ?_
              refine va_getsN hx hb hZ1 hS hown (hN.use wd_275) (fun _ h9 => h9) d_PL_beginsAsImage_29 ?_
              refine lv_iload_n hx hb d_PL_beginsAsImage_32 rfl (lv_at hl 0 rfl) ?_
              refine va_tb (v := .int 76) (i := 2) hx hb hT1 hS (vp_in_nI (n := 2) (by decide) (by decide)) rfl d_PL_beginsAsImage_33 ?_
              refine lv_icmp_eq (tgt := 39) hx hb d_PL_beginsAsImage_34 (by decide) (fun c_11 => ?_) (fun c_11 => ?_)
              · skip
                have c_11 : nbN fr 2 1 = 76 := (nI_eq (a := nbN fr 2 1) (b := 76) (by omega) (by omega)).mp c_11
                refine lv_iinc (v := 3) (lv' := [(2, .int 3), (0, .ref (ad 6)), (1, .ref (ad 1))]) hx hb d_PL_beginsAsImage_39 hl (k := 0) rfl rfl (by decide) rfl (fun ls hl => ?_)
                refine lv_goto (tgt := 15) hx hb d_PL_beginsAsImage_42 (by decide) ?_
                refine lv_iload_n hx hb d_PL_beginsAsImage_15 rfl (lv_at hl 0 rfl) ?_
                refine va_getsN hx hb hZ1 hS hown (hN.use wd_275) (fun _ h9 => h9) d_PL_beginsAsImage_16 ?_
                refine va_tlen (v := 7) hx hb hT1 hS rfl d_PL_beginsAsImage_19 ?_
                refine lv_icmp_ge (tgt := 45) hx hb d_PL_beginsAsImage_20 (by decide) (fun c_12 => ?_) (fun c_12 => ?_)
                · exact absurd c_12 (by decide)
                · skip
                  refine lv_aload_n hx hb d_PL_beginsAsImage_23 rfl (lv_at hl 2 rfl) ?_
                  refine lv_iload_n hx hb d_PL_beginsAsImage_24 rfl (lv_at hl 0 rfl) ?_
                  refine lv_iconst (v := 1) hx hb d_PL_beginsAsImage_25 (by decide) ?_
                  refine xcalli (va_runV (As := [.int 3, .int 1]) (rest := []) ⟨hx, hb, hml, hown, hts⟩ (c_fb_number1 l dC dI ad ck rf n fr a ar z pc pe pt pp pf ic ie ip iz ia st rt pb 3 hn H.size) (cwV 2 hts (xgV wd_277 wd_278 wd_279 wd_16 wd_280) rfl rfl rfl (by decide +kernel) ⟨Nat.le_of_ble_eq_true rfl, Nat.le_of_ble_eq_true rfl⟩) (xpreV (q0 := 1) hK hN hZ hA hS hP hD rfl rfl) rfl rfl hl.1 rfl (lv_room (Nat.le_of_ble_eq_true rfl)) d_PL_beginsAsImage_26 ⟨Nat.zero_le _, Nat.zero_le _⟩) hD hS hA (fun r_13 H locs hr_13 hP hD hS => ?_)
                  subst hr_13
                  refine xtopi (y := nI (nbN fr 3 1)) (p_num (q := 3) (by omega) hn) ?_
                  refine va_getsN hx hb hZ1 hS hown (hN.use wd_275) (fun _ h9 => h9) d_PL_beginsAsImage_29 ?_
                  refine lv_iload_n hx hb d_PL_beginsAsImage_32 rfl (lv_at hl 0 rfl) ?_
                  refine va_tb (v := .int 70) (i := 3) hx hb hT1 hS (vp_in_nI (n := 3) (by decide) (by decide)) rfl d_PL_beginsAsImage_33 ?_
                  refine lv_icmp_eq (tgt := 39) hx hb d_PL_beginsAsImage_34 (by decide) (fun c_14 => ?_) (fun c_14 => ?_)
                  · skip
                    have c_14 : nbN fr 3 1 = 70 := (nI_eq (a := nbN fr 3 1) (b := 70) (by omega) (by omega)).mp c_14
                    refine lv_iinc (v := 4) (lv' := [(2, .int 4), (0, .ref (ad 6)), (1, .ref (ad 1))]) hx hb d_PL_beginsAsImage_39 hl (k := 0) rfl rfl (by decide) rfl (fun ls hl => ?_)
                    refine lv_goto (tgt := 15) hx hb d_PL_beginsAsImage_42 (by decide) ?_
                    refine lv_iload_n hx hb d_PL_beginsAsImage_15 rfl (lv_at hl 0 rfl) ?_
                    refine va_getsN hx hb hZ1 hS hown (hN.use wd_275) (fun _ h9 => h9) d_PL_beginsAsImage_16 ?_
                    refine va_tlen (v := 7) hx hb hT1 hS rfl d_PL_beginsAsImage_19 ?_
                    refine lv_icmp_ge (tgt := 45) hx hb d_PL_beginsAsImage_20 (by decide) (fun c_15 => ?_) (fun c_15 => ?_)
                    · exact absurd c_15 (by decide)
                    · skip
                      refine lv_aload_n hx hb d_PL_beginsAsImage_23 rfl (lv_at hl 2 rfl) ?_
                      refine lv_iload_n hx hb d_PL_beginsAsImage_24 rfl (lv_at hl 0 rfl) ?_
                      refine lv_iconst (v := 1) hx hb d_PL_beginsAsImage_25 (by decide) ?_
                      refine xcalli (va_runV (As := [.int 4, .int 1]) (rest := []) ⟨hx, hb, hml, hown, hts⟩ (c_fb_number1 l dC dI ad ck rf n fr a ar z pc pe pt pp pf ic ie ip iz ia st rt pb 4 hn H.size) (cwV 2 hts (xgV wd_277 wd_278 wd_279 wd_16 wd_280) rfl rfl rfl (by decide +kernel) ⟨Nat.le_of_ble_eq_true rfl, Nat.le_of_ble_eq_true rfl⟩) (xpreV (q0 := 1) hK hN hZ hA hS hP hD rfl rfl) rfl rfl hl.1 rfl (lv_room (Nat.le_of_ble_eq_true rfl)) d_PL_beginsAsImage_26 ⟨Nat.zero_le _, Nat.zero_le _⟩) hD hS hA (fun r_16 H locs hr_16 hP hD hS => ?_)
                      subst hr_16
                      refine xtopi (y := nI (nbN fr 4 1)) (p_num (q := 4) (by omega) hn) ?_
                      refine va_getsN hx hb hZ1 hS hown (hN.use wd_275) (fun _ h9 => h9) d_PL_beginsAsImage_29 ?_
                      refine lv_iload_n hx hb d_PL_beginsAsImage_32 rfl (lv_at hl 0 rfl) ?_
                      refine va_tb (v := .int 1) (i := 4) hx hb hT1 hS (vp_in_nI (n := 4) (by decide) (by decide)) rfl d_PL_beginsAsImage_33 ?_
                      refine lv_icmp_eq (tgt := 39) hx hb d_PL_beginsAsImage_34 (by decide) (fun c_17 => ?_) (fun c_17 => ?_)
                      · skip
                        have c_17 : nbN fr 4 1 = 1 := (nI_eq (a := nbN fr 4 1) (b := 1) (by omega) (by omega)).mp c_17
                        refine lv_iinc (v := 5) (lv' := [(2, .int 5), (0, .ref (ad 6)), (1, .ref (ad 1))]) hx hb d_PL_beginsAsImage_39 hl (k := 0) rfl rfl (by decide) rfl (fun ls hl => ?_)
                        refine lv_goto (tgt := 15) hx hb d_PL_beginsAsImage_42 (by decide) ?_
                        refine lv_iload_n hx hb d_PL_beginsAsImage_15 rfl (lv_at hl 0 rfl) ?_
                        refine va_getsN hx hb hZ1 hS hown (hN.use wd_275) (fun _ h9 => h9) d_PL_beginsAsImage_16 ?_
                        refine va_tlen (v := 7) hx hb hT1 hS rfl d_PL_beginsAsImage_19 ?_
                        refine lv_icmp_ge (tgt := 45) hx hb d_PL_beginsAsImage_20 (by decide) (fun c_18 => ?_) (fun c_18 => ?_)
                        · exact absurd c_18 (by decide)
                        · skip
                          refine lv_aload_n hx hb d_PL_beginsAsImage_23 rfl (lv_at hl 2 rfl) ?_
                          refine lv_iload_n hx hb d_PL_beginsAsImage_24 rfl (lv_at hl 0 rfl) ?_
                          refine lv_iconst (v := 1) hx hb d_PL_beginsAsImage_25 (by decide) ?_
                          refine xcalli (va_runV (As := [.int 5, .int 1]) (rest := []) ⟨hx, hb, hml, hown, hts⟩ (c_fb_number1 l dC dI ad ck rf n fr a ar z pc pe pt pp pf ic ie ip iz ia st rt pb 5 hn H.size) (cwV 2 hts (xgV wd_277 wd_278 wd_279 wd_16 wd_280) rfl rfl rfl (by decide +kernel) ⟨Nat.le_of_ble_eq_true rfl, Nat.le_of_ble_eq_true rfl⟩) (xpreV (q0 := 1) hK hN hZ hA hS hP hD rfl rfl) rfl rfl hl.1 rfl (lv_room (Nat.le_of_ble_eq_true rfl)) d_PL_beginsAsImage_26 ⟨Nat.zero_le _, Nat.zero_le _⟩) hD hS hA (fun r_19 H locs hr_19 hP hD hS => ?_)
                          subst hr_19
                          refine xtopi (y := nI (nbN fr 5 1)) (p_num (q := 5) (by omega) hn) ?_
                          refine va_getsN hx hb hZ1 hS hown (hN.use wd_275) (fun _ h9 => h9) d_PL_beginsAsImage_29 ?_
                          refine lv_iload_n hx hb d_PL_beginsAsImage_32 rfl (lv_at hl 0 rfl) ?_
                          refine va_tb (v := .int 1) (i := 5) hx hb hT1 hS (vp_in_nI (n := 5) (by decide) (by decide)) rfl d_PL_beginsAsImage_33 ?_
                          refine lv_icmp_eq (tgt := 39) hx hb d_PL_beginsAsImage_34 (by decide) (fun c_20 => ?_) (fun c_20 => ?_)
                          · skip
                            have c_20 : nbN fr 5 1 = 1 := (nI_eq (a := nbN fr 5 1) (b := 1) (by omega) (by omega)).mp c_20
                            refine lv_iinc (v := 6) (lv' := [(2, .int 6), (0, .ref (ad 6)), (1, .ref (ad 1))]) hx hb d_PL_beginsAsImage_39 hl (k := 0) rfl rfl (by decide) rfl (fun ls hl => ?_)
                            refine lv_goto (tgt := 15) hx hb d_PL_beginsAsImage_42 (by decide) ?_
                            refine lv_iload_n hx hb d_PL_beginsAsImage_15 rfl (lv_at hl 0 rfl) ?_
                            refine va_getsN hx hb hZ1 hS hown (hN.use wd_275) (fun _ h9 => h9) d_PL_beginsAsImage_16 ?_
                            refine va_tlen (v := 7) hx hb hT1 hS rfl d_PL_beginsAsImage_19 ?_
                            refine lv_icmp_ge (tgt := 45) hx hb d_PL_beginsAsImage_20 (by decide) (fun c_21 => ?_) (fun c_21 => ?_)
                            · exact absurd c_21 (by decide)
                            · skip
                              refine lv_aload_n hx hb d_PL_beginsAsImage_23 rfl (lv_at hl 2 rfl) ?_
                              refine lv_iload_n hx hb d_PL_beginsAsImage_24 rfl (lv_at hl 0 rfl) ?_
                              refine lv_iconst (v := 1) hx hb d_PL_beginsAsImage_25 (by decide) ?_
                              refine xcalli (va_runV (As := [.int 6, .int 1]) (rest := []) ⟨hx, hb, hml, hown, hts⟩ (c_fb_number1 l dC dI ad ck rf n fr a ar z pc pe pt pp pf ic ie ip iz ia st rt pb 6 hn H.size) (cwV 2 hts (xgV wd_277 wd_278 wd_279 wd_16 wd_280) rfl rfl rfl (by decide +kernel) ⟨Nat.le_of_ble_eq_true rfl, Nat.le_of_ble_eq_true rfl⟩) (xpreV (q0 := 1) hK hN hZ hA hS hP hD rfl rfl) rfl rfl hl.1 rfl (lv_room (Nat.le_of_ble_eq_true rfl)) d_PL_beginsAsImage_26 ⟨Nat.zero_le _, Nat.zero_le _⟩) hD hS hA (fun r_22 H locs hr_22 hP hD hS => ?_)
                              subst hr_22
                              refine xtopi (y := nI (nbN fr 6 1)) (p_num (q := 6) (by omega) hn) ?_
                              refine va_getsN hx hb hZ1 hS hown (hN.use wd_275) (fun _ h9 => h9) d_PL_beginsAsImage_29 ?_
                              refine lv_iload_n hx hb d_PL_beginsAsImage_32 rfl (lv_at hl 0 rfl) ?_
                              refine va_tb (v := .int 1) (i := 6) hx hb hT1 hS (vp_in_nI (n := 6) (by decide) (by decide)) rfl d_PL_beginsAsImage_33 ?_
                              refine lv_icmp_eq (tgt := 39) hx hb d_PL_beginsAsImage_34 (by decide) (fun c_23 => ?_) (fun c_23 => ?_)
                              · skip
                                have c_23 : nbN fr 6 1 = 1 := (nI_eq (a := nbN fr 6 1) (b := 1) (by omega) (by omega)).mp c_23
                                refine lv_iinc (v := 7) (lv' := [(2, .int 7), (0, .ref (ad 6)), (1, .ref (ad 1))]) hx hb d_PL_beginsAsImage_39 hl (k := 0) rfl rfl (by decide) rfl (fun ls hl => ?_)
                                refine lv_goto (tgt := 15) hx hb d_PL_beginsAsImage_42 (by decide) ?_
                                refine lv_iload_n hx hb d_PL_beginsAsImage_15 rfl (lv_at hl 0 rfl) ?_
                                refine va_getsN hx hb hZ1 hS hown (hN.use wd_275) (fun _ h9 => h9) d_PL_beginsAsImage_16 ?_
                                refine va_tlen (v := 7) hx hb hT1 hS rfl d_PL_beginsAsImage_19 ?_
                                refine lv_icmp_ge (tgt := 45) hx hb d_PL_beginsAsImage_20 (by decide) (fun c_24 => ?_) (fun c_24 => ?_)
                                · skip
                                  refine lv_iconst (v := 1) hx hb d_PL_beginsAsImage_45 (by decide) ?_
                                  exact xreti (v := 1) hx hb hr hlocks hK hP hD hS (rfl) (bI_1 ⟨c_2, c_5, c_8, c_11, c_14, c_17, c_20, c_23⟩) d_PL_beginsAsImage_46
                                · exact absurd c_24 (by decide)
                              · skip
                                have c_23 : ¬ (nbN fr 6 1 = 1) := fun h9 => c_23 ((nI_eq (a := nbN fr 6 1) (b := 1) (by omega) (by omega)).mpr h9)
                                refine lv_iconst (v := 0) hx hb d_PL_beginsAsImage_37 (by decide) ?_
                                exact xreti (v := 0) hx hb hr hlocks hK hP hD hS (rfl) (bI_0 (fun h9 => c_23 h9.2.2.2.2.2.2.2)) d_PL_beginsAsImage_38
                          · skip
                            have c_20 : ¬ (nbN fr 5 1 = 1) := fun h9 => c_20 ((nI_eq (a := nbN fr 5 1) (b := 1) (by omega) (by omega)).mpr h9)
                            refine lv_iconst (v := 0) hx hb d_PL_beginsAsImage_37 (by decide) ?_
                            exact xreti (v := 0) hx hb hr hlocks hK hP hD hS (rfl) (bI_0 (fun h9 => c_20 h9.2.2.2.2.2.2.1)) d_PL_beginsAsImage_38
                      · skip
                        have c_17 : ¬ (nbN fr 4 1 = 1) := fun h9 => c_17 ((nI_eq (a := nbN fr 4 1) (b := 1) (by omega) (by omega)).mpr h9)
                        refine lv_iconst (v := 0) hx hb d_PL_beginsAsImage_37 (by decide) ?_
                        exact xreti (v := 0) hx hb hr hlocks hK hP hD hS (rfl) (bI_0 (fun h9 => c_17 h9.2.2.2.2.2.1)) d_PL_beginsAsImage_38
                  · skip
                    have c_14 : ¬ (nbN fr 3 1 = 70) := fun h9 => c_14 ((nI_eq (a := nbN fr 3 1) (b := 70) (by omega) (by omega)).mpr h9)
                    refine lv_iconst (v := 0) hx hb d_PL_beginsAsImage_37 (by decide) ?_
                    exact xreti (v := 0) hx hb hr hlocks hK hP hD hS (rfl) (bI_0 (fun h9 => c_14 h9.2.2.2.2.1)) d_PL_beginsAsImage_38
              · skip
                have c_11 : ¬ (nbN fr 2 1 = 76) := fun h9 => c_11 ((nI_eq (a := nbN fr 2 1) (b := 76) (by omega) (by omega)).mpr h9)
                refine lv_iconst (v := 0) hx hb d_PL_beginsAsImage_37 (by decide) ?_
                exact xreti (v := 0) hx hb hr hlocks hK hP hD hS (rfl) (bI_0 (fun h9 => c_11 h9.2.2.2.1)) d_PL_beginsAsImage_38
          · skip
            have c_8 : ¬ (nbN fr 1 1 = 69) := fun h9 => c_8 ((nI_eq (a := nbN fr 1 1) (b := 69) (by omega) (by omega)).mpr h9)
            refine lv_iconst (v := 0) hx hb d_PL_beginsAsImage_37 (by decide) ?_
            exact xreti (v := 0) hx hb hr hlocks hK hP hD hS (rfl) (bI_0 (fun h9 => c_8 h9.2.2.1)) d_PL_beginsAsImage_38
      · skip
        have c_5 : ¬ (nbN fr 0 1 = 127) := fun h9 => c_5 ((nI_eq (a := nbN fr 0 1) (b := 127) (by omega) (by omega)).mpr h9)
        refine lv_iconst (v := 0) hx hb d_PL_beginsAsImage_37 (by decide) ?_
        exact xreti (v := 0) hx hb hr hlocks hK hP hD hS (rfl) (bI_0 (fun h9 => c_5 h9.2.1)) d_PL_beginsAsImage_38
  · skip
    have c_2 := bI_f c_2
    have c_2 : ¬ 52 ≤ n := fun h9 => c_2 (p_52.mpr h9)
    refine lv_iconst (v := 0) hx hb d_PL_beginsAsImage_11 (by decide) ?_
    exact xreti (v := 0) hx hb hr hlocks hK hP hD hS (rfl) (bI_0 (fun h9 => c_2 h9.1)) d_PL_beginsAsImage_12
set_option maxHeartbeats 4000000 in
set_option maxRecDepth 100000 in
theorem c_pl_readParts (l : Launch) (dC : Nat → ClassId) (dI : Nat → Nat → Nat) (ad : Nat → Nat) (ck : Nat → ClassId) (rf : Int32) (n : Nat) (fr : Nat → Int32) (a : Nat) (ar : Nat → Int32) (z : Nat → Nat) (pc : Nat) (pe : Int32) (pt pp : Nat) (pf : Nat → Nat → Int32) (ic : Nat) (ie ip iz ia : Int32) (st rt : Nat → Int32) (pb : Nat → Nat → Int32) (hin : hdsIn fr n) (hk8 : nbN fr 44 2 ≤ 8) (h52 : 52 ≤ n) (hn : n ≤ 65536) (sz : Nat) : Met l y_PL_readParts w_PL_readParts { frames := 4, cells := 0, slots := 0, locals := 110 } (va_Pc [.ref (ad 6), .ref (ad 1)] (xP (dC, dI) (tyG ck) (wsG ad ck rf n fr a ar z pc pe pt pp pf ic ie ip iz ia st rt pb) sz)) (xQi (dC, dI) (tyG ck) (va_A (wsG ad ck rf n fr a ar z pc pe pt pp pf ic ie ip iz ia st rt pb) sz) (wsG ad ck rf n fr a ar z ((plAll fr n pf).2.1) (nI (nbN fr 24 4)) ((plAll fr n pf).2.2.1) ((plAll fr n pf).2.2.2.1) ((plAll fr n pf).2.2.2.2) ic ie ip iz ia st rt pb) (fun r => r = bI ((plAll fr n pf).1 = true))) 0 0 (va_A (wsG ad ck rf n fr a ar z pc pe pt pp pf ic ie ip iz ia st rt pb) sz) := by
  refine xof (cc := b_PL_readParts) (maxL := 5) (ret := (some .boolean)) (own := R_PL) (Qc := fun A => (xQi (dC, dI) (tyG ck) A (wsG ad ck rf n fr a ar z ((plAll fr n pf).2.1) (nI (nbN fr 24 4)) ((plAll fr n pf).2.2.1) ((plAll fr n pf).2.2.2.1) ((plAll fr n pf).2.2.2.2) ic ie ip iz ia st rt pb) (fun r => r = bI ((plAll fr n pf).1 = true)))) (by decide) rfl rfl (Nat.le_of_ble_eq_true rfl) ?_ sz
  intro p e s m below meth c A C hnm hK hP hD hA hN hZ hS ls hl
  obtain ⟨hx, hb, hr, hml, hown, hts, hlocks⟩ := C
  have hl : lv_has ls 5 [(0, .ref (ad 6)), (1, .ref (ad 1))] := hl
  have hin2 : nbN fr 44 2 = 0 ∨ nbN fr 28 4 + nbN fr 44 2 * 32 ≤ n := hin
  have b1 := nbN_lt4 fr 28
  refine lv_aload_n hx hb d_PL_readParts_0 rfl (lv_at hl 0 rfl) ?_
  refine lv_iconst (v := 0) hx hb d_PL_readParts_1 (by decide) ?_
  refine va_put (D := (dC, dI)) (ci := 5) (v := .int 0) (ty := .int) (C := R_PL) (T := T_PL) (N := 5) hx hb hts i_PL t_PL k_PL n_PL hown hK hP hD hS 6 rfl rfl 1 (by decide) (hts _ wd_106) (fun _ h9 => h9) rfl (by decide +kernel) rfl rfl (Nat.le_of_ble_eq_true rfl) d_PL_readParts_2 (fun H locs hP hD hS => ?_)
  have hP : va_P (dC, dI) vwCl (wsG ad ck rf n fr a ar z 0 pe pt pp pf ic ie ip iz ia st rt pb) H := hP
  have hD : va_D A (wsG ad ck rf n fr a ar z 0 pe pt pp pf ic ie ip iz ia st rt pb) := hD
  refine lv_aload_n hx hb d_PL_readParts_5 rfl (lv_at hl 0 rfl) ?_
  refine lv_aload_n hx hb d_PL_readParts_6 rfl (lv_at hl 1 rfl) ?_
  refine lv_bipush (v := 24) hx hb d_PL_readParts_7 (by decide) ?_
  refine lv_iconst (v := 4) hx hb d_PL_readParts_9 (by decide) ?_
  refine xcalli (va_runV (As := [.int 24, .int 4]) (rest := [.ref (ad 6)]) ⟨hx, hb, hml, hown, hts⟩ (c_fb_number4 l dC dI ad ck rf n fr a ar z 0 pe pt pp pf ic ie ip iz ia st rt pb 24 hn H.size) (cwV 2 hts (xgV wd_277 wd_278 wd_279 wd_16 wd_280) rfl rfl rfl (by decide +kernel) ⟨Nat.le_of_ble_eq_true rfl, Nat.le_of_ble_eq_true rfl⟩) (xpreV (q0 := 1) hK hN hZ hA hS hP hD rfl rfl) rfl rfl hl.1 rfl (lv_room (Nat.le_of_ble_eq_true rfl)) d_PL_readParts_10 ⟨Nat.zero_le _, Nat.zero_le _⟩) hD hS hA (fun r_1 H locs hr_1 hP hD hS => ?_)
  subst hr_1
  refine xtopi (y := nI (nbN fr 24 4)) (p_num (q := 24) (by omega) hn) ?_
  refine va_put (D := (dC, dI)) (ci := 5) (v := .int (nI (nbN fr 24 4))) (ty := .int) (C := R_PL) (T := T_PL) (N := 5) hx hb hts i_PL t_PL k_PL n_PL hown hK hP hD hS 6 rfl rfl 2 (by decide) (hts _ wd_108) (fun _ h9 => h9) rfl (by decide +kernel) rfl rfl (Nat.le_of_ble_eq_true rfl) d_PL_readParts_13 (fun H locs hP hD hS => ?_)
  have hP : va_P (dC, dI) vwCl (wsG ad ck rf n fr a ar z 0 (nI (nbN fr 24 4)) pt pp pf ic ie ip iz ia st rt pb) H := hP
  have hD : va_D A (wsG ad ck rf n fr a ar z 0 (nI (nbN fr 24 4)) pt pp pf ic ie ip iz ia st rt pb) := hD
  refine lv_aload_n hx hb d_PL_readParts_16 rfl (lv_at hl 0 rfl) ?_
  refine lv_iconst (v := 0) hx hb d_PL_readParts_17 (by decide) ?_
  refine va_put (D := (dC, dI)) (ci := 5) (v := .int 0) (ty := .int) (C := R_PL) (T := T_PL) (N := 5) hx hb hts i_PL t_PL k_PL n_PL hown hK hP hD hS 6 rfl rfl 3 (by decide) (hts _ wd_110) (fun _ h9 => h9) rfl (by decide +kernel) rfl rfl (Nat.le_of_ble_eq_true rfl) d_PL_readParts_18 (fun H locs hP hD hS => ?_)
  have hP : va_P (dC, dI) vwCl (wsG ad ck rf n fr a ar z 0 (nI (nbN fr 24 4)) 0 pp pf ic ie ip iz ia st rt pb) H := hP
  have hD : va_D A (wsG ad ck rf n fr a ar z 0 (nI (nbN fr 24 4)) 0 pp pf ic ie ip iz ia st rt pb) := hD
  refine lv_aload_n hx hb d_PL_readParts_21 rfl (lv_at hl 0 rfl) ?_
  refine lv_iconst (v := 2) hx hb d_PL_readParts_22 (by decide) ?_
  refine va_put (D := (dC, dI)) (ci := 5) (v := .int 2) (ty := .int) (C := R_PL) (T := T_PL) (N := 5) hx hb hts i_PL t_PL k_PL n_PL hown hK hP hD hS 6 rfl rfl 4 (by decide) (hts _ wd_111) (fun _ h9 => h9) rfl (by decide +kernel) rfl rfl (Nat.le_of_ble_eq_true rfl) d_PL_readParts_23 (fun H locs hP hD hS => ?_)
  have hP : va_P (dC, dI) vwCl (wsG ad ck rf n fr a ar z 0 (nI (nbN fr 24 4)) 0 2 pf ic ie ip iz ia st rt pb) H := hP
  have hD : va_D A (wsG ad ck rf n fr a ar z 0 (nI (nbN fr 24 4)) 0 2 pf ic ie ip iz ia st rt pb) := hD
  refine lv_aload_n hx hb d_PL_readParts_26 rfl (lv_at hl 1 rfl) ?_
  refine lv_bipush (v := 28) hx hb d_PL_readParts_27 (by decide) ?_
  refine lv_iconst (v := 4) hx hb d_PL_readParts_29 (by decide) ?_
  refine xcalli (va_runV (As := [.int 28, .int 4]) (rest := []) ⟨hx, hb, hml, hown, hts⟩ (c_fb_number4 l dC dI ad ck rf n fr a ar z 0 (nI (nbN fr 24 4)) 0 2 pf ic ie ip iz ia st rt pb 28 hn H.size) (cwV 2 hts (xgV wd_277 wd_278 wd_279 wd_16 wd_280) rfl rfl rfl (by decide +kernel) ⟨Nat.le_of_ble_eq_true rfl, Nat.le_of_ble_eq_true rfl⟩) (xpreV (q0 := 1) hK hN hZ hA hS hP hD rfl rfl) rfl rfl hl.1 rfl (lv_room (Nat.le_of_ble_eq_true rfl)) d_PL_readParts_30 ⟨Nat.zero_le _, Nat.zero_le _⟩) hD hS hA (fun r_2 H locs hr_2 hP hD hS => ?_)
  subst hr_2
  refine xtopi (y := nI (nbN fr 28 4)) (p_num (q := 28) (by omega) hn) ?_
  refine lv_istore_n (lv' := [(2, .int (nI (nbN fr 28 4))), (0, .ref (ad 6)), (1, .ref (ad 1))]) hx hb d_PL_readParts_33 rfl hl (by decide) rfl (fun ls hl => ?_)
  refine lv_aload_n hx hb d_PL_readParts_34 rfl (lv_at hl 2 rfl) ?_
  refine xcalli (va_runS (As := [.ref (ad 1)]) (rest := []) ⟨hx, hb, hml, hown, hts⟩ (c_pl_headerCount l dC dI ad ck rf n fr a ar z 0 (nI (nbN fr 24 4)) 0 2 pf ic ie ip iz ia st rt pb h52 hn H.size) (cwS 1 hts (xgS wd_285 wd_286 wd_18 wd_287) rfl rfl rfl (by decide +kernel) ⟨Nat.le_of_ble_eq_true rfl, Nat.le_of_ble_eq_true rfl⟩) (xpreS hK hN hZ hA hS hP hD) rfl rfl hl.1 rfl (lv_room (Nat.le_of_ble_eq_true rfl)) d_PL_readParts_35 ⟨Nat.zero_le _, Nat.zero_le _⟩) hD hS hA (fun r_3 H locs hr_3 hP hD hS => ?_)
  subst hr_3
  refine lv_istore_n (lv' := [(3, .int (nI (nbN fr 44 2))), (2, .int (nI (nbN fr 28 4))), (0, .ref (ad 6)), (1, .ref (ad 1))]) hx hb d_PL_readParts_38 rfl hl (by decide) rfl (fun ls hl => ?_)
  refine lv_iconst (v := 0) hx hb d_PL_readParts_39 (by decide) ?_
  refine lv_istore (lv' := [(4, .int 0), (3, .int (nI (nbN fr 44 2))), (2, .int (nI (nbN fr 28 4))), (0, .ref (ad 6)), (1, .ref (ad 1))]) hx hb d_PL_readParts_40 hl (by decide) rfl (fun ls hl => ?_)
  have lp42 : ∀ (fu : Nat) (j c1 t1 g1 : Nat) (f1 : Nat → Nat → Int32), (nbN fr 44 2 - j < fu) → (j ≤ nbN fr 44 2) → (c1 ≤ j) → (t1 ≤ 1073733632) → (plRun fr n (nbN fr 28 4) (nbN fr 44 2 - j) j (c1, t1, g1, f1) = plAll fr n pf) → ∀ (H : Heap) (locs : List Loc), va_P (dC, dI) vwCl (wsG ad ck rf n fr a ar z c1 (nI (nbN fr 24 4)) t1 g1 f1 ic ie ip iz ia st rt pb) H → va_D A (wsG ad ck rf n fr a ar z c1 (nI (nbN fr 24 4)) t1 g1 f1 ic ie ip iz ia st rt pb) → va_S A s.heap H locs → ∀ ls : Array Slot, lv_has ls 5 [(0, .ref (ad 6)), (1, .ref (ad 1)), (2, .int (nI (nbN fr 28 4))), (3, .int (nI (nbN fr 44 2))), (4, .int (nI j))] → W p l e { frames := 4, cells := 0, slots := 0, locals := 110 } s m [.ref (ad 6), .ref (ad 1)].toArray below meth c H locs 0 0 (MQ below (xQi (dC, dI) (tyG ck) A (wsG ad ck rf n fr a ar z ((plAll fr n pf).2.1) (nI (nbN fr 24 4)) ((plAll fr n pf).2.2.1) ((plAll fr n pf).2.2.2.1) ((plAll fr n pf).2.2.2.2) ic ie ip iz ia st rt pb) (fun r => r = bI ((plAll fr n pf).1 = true))) [.ref (ad 6), .ref (ad 1)].toArray s 0 0 A) (F0 m 42 ls []) := by
    intro fu
    induction fu with
    | zero => intro j c1 t1 g1 f1 hfu; exact absurd hfu (Nat.not_lt_zero _)
    | succ fu ih =>
      intro j c1 t1 g1 f1 hfu hj hc1 ht1 heq H locs hP hD hS ls hl
      refine lv_iload hx hb d_PL_readParts_42 (lv_at hl 4 rfl) ?_
      refine lv_iload_n hx hb d_PL_readParts_44 rfl (lv_at hl 3 rfl) ?_
      refine lv_icmp_ge (tgt := 71) hx hb d_PL_readParts_45 (by decide) (fun c_4 => ?_) (fun c_4 => ?_)
      · skip
        have c_4 : nbN fr 44 2 ≤ j := (nI_leI (a := nbN fr 44 2) (b := j) (by omega) (by omega)).mp c_4
        have e9 : plAll fr n pf = (true, c1, t1, g1, f1) := by rw [← heq, show nbN fr 44 2 - j = 0 from by omega]; rfl
        refine lv_iconst (v := 1) hx hb d_PL_readParts_71 (by decide) ?_
        have hw9 : wsG ad ck rf n fr a ar z c1 (nI (nbN fr 24 4)) t1 g1 f1 ic ie ip iz ia st rt pb = wsG ad ck rf n fr a ar z ((plAll fr n pf).2.1) (nI (nbN fr 24 4)) ((plAll fr n pf).2.2.1) ((plAll fr n pf).2.2.2.1) ((plAll fr n pf).2.2.2.2) ic ie ip iz ia st rt pb := by rw [e9]
        rw [hw9] at hP hD
        exact xreti (v := 1) hx hb hr hlocks hK hP hD hS (rfl) (bI_1 (by rw [e9])) d_PL_readParts_72
      · skip
        have c_4 : ¬ (nbN fr 44 2 ≤ j) := fun h9 => c_4 ((nI_leI (a := nbN fr 44 2) (b := j) (by omega) (by omega)).mpr h9)
        refine lv_aload_n hx hb d_PL_readParts_48 rfl (lv_at hl 0 rfl) ?_
        refine lv_aload_n hx hb d_PL_readParts_49 rfl (lv_at hl 1 rfl) ?_
        refine lv_iload_n hx hb d_PL_readParts_50 rfl (lv_at hl 2 rfl) ?_
        refine lv_iload hx hb d_PL_readParts_51 (lv_at hl 4 rfl) ?_
        refine lv_bipush (v := 32) hx hb d_PL_readParts_53 (by decide) ?_
        refine lv_imul hx hb d_PL_readParts_55 ?_
        refine xtopi (y := nI (j * 32)) (pk_mul (j) (32)) ?_
        refine lv_iadd hx hb d_PL_readParts_56 ?_
        refine xtopi (y := nI ((nbN fr 28 4) + (j * 32))) (nI_add (nbN fr 28 4) (j * 32)) ?_
        refine xcalli (va_runV (As := [.ref (ad 1), .int (nI ((nbN fr 28 4) + (j * 32)))]) (rest := []) ⟨hx, hb, hml, hown, hts⟩ (c_pl_readHeader l dC dI ad ck rf n fr a ar z c1 (nI (nbN fr 24 4)) t1 g1 f1 ic ie ip iz ia st rt pb ((nbN fr 28 4) + (j * 32)) (by omega) (by omega) (by omega) hn H.size) (cwV 2 hts (xgV wd_302 wd_304 wd_1 wd_18 wd_305) rfl rfl rfl (by decide +kernel) ⟨Nat.le_of_ble_eq_true rfl, Nat.le_of_ble_eq_true rfl⟩) (xpreV (q0 := 6) hK hN hZ hA hS hP hD rfl rfl) rfl rfl hl.1 rfl (lv_room (Nat.le_of_ble_eq_true rfl)) d_PL_readParts_57 ⟨Nat.zero_le _, Nat.zero_le _⟩) hD hS hA (fun r_5 H locs hr_5 hP hD hS => ?_)
        subst hr_5
        refine lv_if_ne (tgt := 65) hx hb d_PL_readParts_60 (by decide) (fun c_6 => ?_) (fun c_6 => ?_)
        · skip
          have c_6 := bI_t c_6
          refine lv_iinc (v := nI (j + 1)) (lv' := [(4, .int (nI (j + 1))), (0, .ref (ad 6)), (1, .ref (ad 1)), (2, .int (nI (nbN fr 28 4))), (3, .int (nI (nbN fr 44 2)))]) hx hb d_PL_readParts_65 hl (k := 4) rfl (nI_1 _) (by decide) rfl (fun ls hl => ?_)
          refine lv_goto (tgt := 42) hx hb d_PL_readParts_68 (by decide) ?_
          rw [show nbN fr 44 2 - j = nbN fr 44 2 - (j + 1) + 1 from by omega, plRun, if_pos c_6] at heq
          have hs1 := psStep_cnt (f := fr) (n := n) (q := nbN fr 28 4 + j * 32) (s := (c1, t1, g1, f1))
          have hs1 : (psStep fr n (nbN fr 28 4 + j * 32) (c1, t1, g1, f1)).1 ≤ c1 + 1 := hs1
          exact ih (j + 1) (psStep fr n (nbN fr 28 4 + j * 32) (c1, t1, g1, f1)).1 (psStep fr n (nbN fr 28 4 + j * 32) (c1, t1, g1, f1)).2.1 (psStep fr n (nbN fr 28 4 + j * 32) (c1, t1, g1, f1)).2.2.1 (psStep fr n (nbN fr 28 4 + j * 32) (c1, t1, g1, f1)).2.2.2 (by omega) (by omega) (by omega) (psStep_top (s := (c1, t1, g1, f1)) ht1) (heq) _ _ hP hD hS _ (lv_sub hl [1, 2, 3, 4, 0] rfl)
        · skip
          have c_6 := bI_f c_6
          have e9 : plAll fr n pf = (false, c1, t1, g1, f1) := by rw [← heq, show nbN fr 44 2 - j = nbN fr 44 2 - (j + 1) + 1 from by omega, plRun, if_neg c_6]
          have e8 : (psStep fr n (nbN fr 28 4 + j * 32) (c1, t1, g1, f1)) = (c1, t1, g1, f1) := psStep_bad (s := (c1, t1, g1, f1)) (fun h9 => c_6 (Or.inr h9))
          refine lv_iconst (v := 0) hx hb d_PL_readParts_63 (by decide) ?_
          have hw9 : wsG ad ck rf n fr a ar z ((psStep fr n ((nbN fr 28 4) + (j * 32)) (c1, t1, g1, f1)).1) (nI (nbN fr 24 4)) ((psStep fr n ((nbN fr 28 4) + (j * 32)) (c1, t1, g1, f1)).2.1) ((psStep fr n ((nbN fr 28 4) + (j * 32)) (c1, t1, g1, f1)).2.2.1) ((psStep fr n ((nbN fr 28 4) + (j * 32)) (c1, t1, g1, f1)).2.2.2) ic ie ip iz ia st rt pb = wsG ad ck rf n fr a ar z ((plAll fr n pf).2.1) (nI (nbN fr 24 4)) ((plAll fr n pf).2.2.1) ((plAll fr n pf).2.2.2.1) ((plAll fr n pf).2.2.2.2) ic ie ip iz ia st rt pb := by rw [e9, e8]
          rw [hw9] at hP hD
          exact xreti (v := 0) hx hb hr hlocks hK hP hD hS (rfl) (bI_0 (by rw [e9]; exact Bool.false_ne_true)) d_PL_readParts_64
  exact lp42 ((nbN fr 44 2 - 0) + 1) 0 0 0 2 pf (Nat.lt_succ_self _) (by omega) (by omega) (by omega) (rfl) _ _ hP hD hS _ (lv_sub hl [3, 4, 2, 1, 0] rfl)
end
section
/-! THE IMAGE: what laying computes -/
def fdI (st : Nat → Int32) (b : Int32) : Nat → Nat → Option Nat
  | 0, _ => none
  | k + 1, j => if st j = b then some j else fdI st b k (j + 1)
def lpS (st : Nat → Int32) (ic ax : Nat) : Nat → Nat → Int32
  | 0 => st
  | t + 1 => upd (lpS st ic ax t) (ic + t) (nI (ax + t * 4096))
def lpR (rt : Nat → Int32) (ic : Nat) (r : Int32) : Nat → Nat → Int32
  | 0 => rt
  | t + 1 => upd (lpR rt ic r t) (ic + t) r
def lpZ (pb : Nat → Nat → Int32) (k : Nat) : Nat → Nat → Int32 := upr pb k (zf 4096 (pb k))
def lpB (pb : Nat → Nat → Int32) (ic : Nat) (fr : Nat → Int32) (fx bx : Nat) : Nat → Nat → Nat → Int32
  | 0 => pb
  | t + 1 => if t * 4096 < bx then upr (lpZ (lpB pb ic fr fx bx t) (ic + t)) (ic + t) (va_cpy fr (lpZ (lpB pb ic fr fx bx t) (ic + t) (ic + t)) (fx + t * 4096) 0 (min (bx - t * 4096) 4096)) else lpZ (lpB pb ic fr fx bx t) (ic + t)
theorem p_min {x : Nat} (h : x < 2 ^ 31) : (if (4096 : Int32) < nI x then (4096 : Int32) else nI x) = nI (min x 4096) := by
  by_cases c : 4096 < x
  · rw [if_pos (show (4096 : Int32) < nI x from (nI_ltI (a := 4096) (b := x) (by decide) h).mpr c), Nat.min_eq_right (by omega)]
    rfl
  · rw [if_neg (show ¬ (4096 : Int32) < nI x from fun h9 => c ((nI_ltI (a := 4096) (b := x) (by decide) h).mp h9)), Nat.min_eq_left (by omega)]
def skT (f : Nat → Int32) (ar : Nat → Int32) (z : Nat → Nat) (P : Nat) (s0 : Int32) : Nat → Nat → Int32
  | 0 => f
  | q + 1 => wrN (va_cpy ar (skT f ar z P s0 q) (q * 127) (tpN z (q + 1)) (z q)) (P + 4 * q) (s0 + nI (tpN z (q + 1))) 4
theorem upr_if (pb : Nat → Nat → Int32) (i : Nat) : upr pb i (pb i) = pb := upr_self pb i
end
section
theorem d_IM_takePage_0 : decode b_IM_takePage 0 = .ok (.aload_n 0, 1) := by decide +kernel
theorem d_IM_takePage_1 : decode b_IM_takePage 1 = .ok (.getfield 18, 3) := by decide +kernel
theorem d_IM_takePage_4 : decode b_IM_takePage 4 = .ok (.aload_n 0, 1) := by decide +kernel
theorem d_IM_takePage_5 : decode b_IM_takePage 5 = .ok (.getfield 11, 3) := by decide +kernel
theorem d_IM_takePage_8 : decode b_IM_takePage 8 = .ok (.arraylength, 1) := by decide +kernel
theorem d_IM_takePage_9 : decode b_IM_takePage 9 = .ok (.if_icmp .lt 5, 3) := by decide +kernel
theorem d_IM_takePage_12 : decode b_IM_takePage 12 = .ok (.aconst_null, 1) := by decide +kernel
theorem d_IM_takePage_13 : decode b_IM_takePage 13 = .ok (.areturn, 1) := by decide +kernel
theorem d_IM_takePage_14 : decode b_IM_takePage 14 = .ok (.aload_n 0, 1) := by decide +kernel
theorem d_IM_takePage_15 : decode b_IM_takePage 15 = .ok (.getfield 11, 3) := by decide +kernel
theorem d_IM_takePage_18 : decode b_IM_takePage 18 = .ok (.aload_n 0, 1) := by decide +kernel
theorem d_IM_takePage_19 : decode b_IM_takePage 19 = .ok (.getfield 18, 3) := by decide +kernel
theorem d_IM_takePage_22 : decode b_IM_takePage 22 = .ok (.aaload, 1) := by decide +kernel
theorem d_IM_takePage_23 : decode b_IM_takePage 23 = .ok (.astore_n 3, 1) := by decide +kernel
theorem d_IM_takePage_24 : decode b_IM_takePage 24 = .ok (.aload_n 3, 1) := by decide +kernel
theorem d_IM_takePage_25 : decode b_IM_takePage 25 = .ok (.iload_n 1, 1) := by decide +kernel
theorem d_IM_takePage_26 : decode b_IM_takePage 26 = .ok (.iload_n 2, 1) := by decide +kernel
theorem d_IM_takePage_27 : decode b_IM_takePage 27 = .ok (.invokevirtual 102, 3) := by decide +kernel
theorem d_IM_takePage_30 : decode b_IM_takePage 30 = .ok (.aload_n 0, 1) := by decide +kernel
theorem d_IM_takePage_31 : decode b_IM_takePage 31 = .ok (.dup, 1) := by decide +kernel
theorem d_IM_takePage_32 : decode b_IM_takePage 32 = .ok (.getfield 18, 3) := by decide +kernel
theorem d_IM_takePage_35 : decode b_IM_takePage 35 = .ok (.iconst 1, 1) := by decide +kernel
theorem d_IM_takePage_36 : decode b_IM_takePage 36 = .ok (.iadd, 1) := by decide +kernel
theorem d_IM_takePage_37 : decode b_IM_takePage 37 = .ok (.putfield 18, 3) := by decide +kernel
theorem d_IM_takePage_40 : decode b_IM_takePage 40 = .ok (.aload_n 3, 1) := by decide +kernel
theorem d_IM_takePage_41 : decode b_IM_takePage 41 = .ok (.areturn, 1) := by decide +kernel
theorem d_IM_find_0 : decode b_IM_find 0 = .ok (.iconst 0, 1) := by decide +kernel
theorem d_IM_find_1 : decode b_IM_find 1 = .ok (.istore_n 2, 1) := by decide +kernel
theorem d_IM_find_2 : decode b_IM_find 2 = .ok (.iload_n 2, 1) := by decide +kernel
theorem d_IM_find_3 : decode b_IM_find 3 = .ok (.aload_n 0, 1) := by decide +kernel
theorem d_IM_find_4 : decode b_IM_find 4 = .ok (.getfield 18, 3) := by decide +kernel
theorem d_IM_find_7 : decode b_IM_find 7 = .ok (.if_icmp .ge 42, 3) := by decide +kernel
theorem d_IM_find_10 : decode b_IM_find 10 = .ok (.iload_n 2, 1) := by decide +kernel
theorem d_IM_find_11 : decode b_IM_find 11 = .ok (.aload_n 0, 1) := by decide +kernel
theorem d_IM_find_12 : decode b_IM_find 12 = .ok (.getfield 11, 3) := by decide +kernel
theorem d_IM_find_15 : decode b_IM_find 15 = .ok (.arraylength, 1) := by decide +kernel
theorem d_IM_find_16 : decode b_IM_find 16 = .ok (.if_icmp .ge 33, 3) := by decide +kernel
theorem d_IM_find_19 : decode b_IM_find 19 = .ok (.aload_n 0, 1) := by decide +kernel
theorem d_IM_find_20 : decode b_IM_find 20 = .ok (.getfield 11, 3) := by decide +kernel
theorem d_IM_find_23 : decode b_IM_find 23 = .ok (.iload_n 2, 1) := by decide +kernel
theorem d_IM_find_24 : decode b_IM_find 24 = .ok (.aaload, 1) := by decide +kernel
theorem d_IM_find_25 : decode b_IM_find 25 = .ok (.getfield 22, 3) := by decide +kernel
theorem d_IM_find_28 : decode b_IM_find 28 = .ok (.iload_n 1, 1) := by decide +kernel
theorem d_IM_find_29 : decode b_IM_find 29 = .ok (.sipush (-4096), 3) := by decide +kernel
theorem d_IM_find_32 : decode b_IM_find 32 = .ok (.iand, 1) := by decide +kernel
theorem d_IM_find_33 : decode b_IM_find 33 = .ok (.if_icmp .ne 10, 3) := by decide +kernel
theorem d_IM_find_36 : decode b_IM_find 36 = .ok (.aload_n 0, 1) := by decide +kernel
theorem d_IM_find_37 : decode b_IM_find 37 = .ok (.getfield 11, 3) := by decide +kernel
theorem d_IM_find_40 : decode b_IM_find 40 = .ok (.iload_n 2, 1) := by decide +kernel
theorem d_IM_find_41 : decode b_IM_find 41 = .ok (.aaload, 1) := by decide +kernel
theorem d_IM_find_42 : decode b_IM_find 42 = .ok (.areturn, 1) := by decide +kernel
theorem d_IM_find_43 : decode b_IM_find 43 = .ok (.iinc 2 1, 3) := by decide +kernel
theorem d_IM_find_46 : decode b_IM_find 46 = .ok (.goto (-44), 3) := by decide +kernel
theorem d_IM_find_49 : decode b_IM_find 49 = .ok (.aconst_null, 1) := by decide +kernel
theorem d_IM_find_50 : decode b_IM_find 50 = .ok (.areturn, 1) := by decide +kernel
theorem d_IM_layPart_0 : decode b_IM_layPart 0 = .ok (.iconst 0, 1) := by decide +kernel
theorem d_IM_layPart_1 : decode b_IM_layPart 1 = .ok (.istore_n 3, 1) := by decide +kernel
theorem d_IM_layPart_2 : decode b_IM_layPart 2 = .ok (.iload_n 3, 1) := by decide +kernel
theorem d_IM_layPart_3 : decode b_IM_layPart 3 = .ok (.aload_n 1, 1) := by decide +kernel
theorem d_IM_layPart_4 : decode b_IM_layPart 4 = .ok (.getfield 60, 3) := by decide +kernel
theorem d_IM_layPart_7 : decode b_IM_layPart 7 = .ok (.if_icmp .ge 79, 3) := by decide +kernel
theorem d_IM_layPart_10 : decode b_IM_layPart 10 = .ok (.iload_n 3, 1) := by decide +kernel
theorem d_IM_layPart_11 : decode b_IM_layPart 11 = .ok (.bipush 32, 2) := by decide +kernel
theorem d_IM_layPart_13 : decode b_IM_layPart 13 = .ok (.if_icmp .ge 73, 3) := by decide +kernel
theorem d_IM_layPart_16 : decode b_IM_layPart 16 = .ok (.iload_n 3, 1) := by decide +kernel
theorem d_IM_layPart_17 : decode b_IM_layPart 17 = .ok (.sipush 4096, 3) := by decide +kernel
theorem d_IM_layPart_20 : decode b_IM_layPart 20 = .ok (.imul, 1) := by decide +kernel
theorem d_IM_layPart_21 : decode b_IM_layPart 21 = .ok (.istore 4, 2) := by decide +kernel
theorem d_IM_layPart_23 : decode b_IM_layPart 23 = .ok (.aload_n 0, 1) := by decide +kernel
theorem d_IM_layPart_24 : decode b_IM_layPart 24 = .ok (.aload_n 1, 1) := by decide +kernel
theorem d_IM_layPart_25 : decode b_IM_layPart 25 = .ok (.getfield 64, 3) := by decide +kernel
theorem d_IM_layPart_28 : decode b_IM_layPart 28 = .ok (.iload 4, 2) := by decide +kernel
theorem d_IM_layPart_30 : decode b_IM_layPart 30 = .ok (.iadd, 1) := by decide +kernel
theorem d_IM_layPart_31 : decode b_IM_layPart 31 = .ok (.aload_n 1, 1) := by decide +kernel
theorem d_IM_layPart_32 : decode b_IM_layPart 32 = .ok (.getfield 67, 3) := by decide +kernel
theorem d_IM_layPart_35 : decode b_IM_layPart 35 = .ok (.invokevirtual 52, 3) := by decide +kernel
theorem d_IM_layPart_38 : decode b_IM_layPart 38 = .ok (.astore 5, 2) := by decide +kernel
theorem d_IM_layPart_40 : decode b_IM_layPart 40 = .ok (.aload 5, 2) := by decide +kernel
theorem d_IM_layPart_42 : decode b_IM_layPart 42 = .ok (.ifnull 38, 3) := by decide +kernel
theorem d_IM_layPart_45 : decode b_IM_layPart 45 = .ok (.iload 4, 2) := by decide +kernel
theorem d_IM_layPart_47 : decode b_IM_layPart 47 = .ok (.aload_n 1, 1) := by decide +kernel
theorem d_IM_layPart_48 : decode b_IM_layPart 48 = .ok (.getfield 70, 3) := by decide +kernel
theorem d_IM_layPart_51 : decode b_IM_layPart 51 = .ok (.if_icmp .ge 29, 3) := by decide +kernel
theorem d_IM_layPart_54 : decode b_IM_layPart 54 = .ok (.aload_n 2, 1) := by decide +kernel
theorem d_IM_layPart_55 : decode b_IM_layPart 55 = .ok (.aload 5, 2) := by decide +kernel
theorem d_IM_layPart_57 : decode b_IM_layPart 57 = .ok (.aload_n 1, 1) := by decide +kernel
theorem d_IM_layPart_58 : decode b_IM_layPart 58 = .ok (.getfield 73, 3) := by decide +kernel
theorem d_IM_layPart_61 : decode b_IM_layPart 61 = .ok (.iload 4, 2) := by decide +kernel
theorem d_IM_layPart_63 : decode b_IM_layPart 63 = .ok (.iadd, 1) := by decide +kernel
theorem d_IM_layPart_64 : decode b_IM_layPart 64 = .ok (.aload_n 1, 1) := by decide +kernel
theorem d_IM_layPart_65 : decode b_IM_layPart 65 = .ok (.getfield 70, 3) := by decide +kernel
theorem d_IM_layPart_68 : decode b_IM_layPart 68 = .ok (.iload 4, 2) := by decide +kernel
theorem d_IM_layPart_70 : decode b_IM_layPart 70 = .ok (.isub, 1) := by decide +kernel
theorem d_IM_layPart_71 : decode b_IM_layPart 71 = .ok (.sipush 4096, 3) := by decide +kernel
theorem d_IM_layPart_74 : decode b_IM_layPart 74 = .ok (.invokestatic 76, 3) := by decide +kernel
theorem d_IM_layPart_77 : decode b_IM_layPart 77 = .ok (.invokevirtual 82, 3) := by decide +kernel
theorem d_IM_layPart_80 : decode b_IM_layPart 80 = .ok (.iinc 3 1, 3) := by decide +kernel
theorem d_IM_layPart_83 : decode b_IM_layPart 83 = .ok (.goto (-81), 3) := by decide +kernel
theorem d_IM_layPart_86 : decode b_IM_layPart 86 = .ok (.return_, 1) := by decide +kernel
theorem d_IM_layStack_0 : decode b_IM_layStack 0 = .ok (.aload_n 1, 1) := by decide +kernel
theorem d_IM_layStack_1 : decode b_IM_layStack 1 = .ok (.ifnonnull 4, 3) := by decide +kernel
theorem d_IM_layStack_4 : decode b_IM_layStack 4 = .ok (.return_, 1) := by decide +kernel
theorem d_IM_layStack_5 : decode b_IM_layStack 5 = .ok (.aload_n 2, 1) := by decide +kernel
theorem d_IM_layStack_6 : decode b_IM_layStack 6 = .ok (.invokevirtual 88, 3) := by decide +kernel
theorem d_IM_layStack_9 : decode b_IM_layStack 9 = .ok (.istore_n 3, 1) := by decide +kernel
theorem d_IM_layStack_10 : decode b_IM_layStack 10 = .ok (.sipush 4096, 3) := by decide +kernel
theorem d_IM_layStack_13 : decode b_IM_layStack 13 = .ok (.istore 4, 2) := by decide +kernel
theorem d_IM_layStack_15 : decode b_IM_layStack 15 = .ok (.iconst 0, 1) := by decide +kernel
theorem d_IM_layStack_16 : decode b_IM_layStack 16 = .ok (.istore 5, 2) := by decide +kernel
theorem d_IM_layStack_18 : decode b_IM_layStack 18 = .ok (.iload 5, 2) := by decide +kernel
theorem d_IM_layStack_20 : decode b_IM_layStack 20 = .ok (.aload_n 2, 1) := by decide +kernel
theorem d_IM_layStack_21 : decode b_IM_layStack 21 = .ok (.getfield 37, 3) := by decide +kernel
theorem d_IM_layStack_24 : decode b_IM_layStack 24 = .ok (.if_icmp .ge 45, 3) := by decide +kernel
theorem d_IM_layStack_27 : decode b_IM_layStack 27 = .ok (.aload_n 2, 1) := by decide +kernel
theorem d_IM_layStack_28 : decode b_IM_layStack 28 = .ok (.iload 4, 2) := by decide +kernel
theorem d_IM_layStack_30 : decode b_IM_layStack 30 = .ok (.iload 5, 2) := by decide +kernel
theorem d_IM_layStack_32 : decode b_IM_layStack 32 = .ok (.invokevirtual 92, 3) := by decide +kernel
theorem d_IM_layStack_35 : decode b_IM_layStack 35 = .ok (.istore 4, 2) := by decide +kernel
theorem d_IM_layStack_37 : decode b_IM_layStack 37 = .ok (.aload_n 2, 1) := by decide +kernel
theorem d_IM_layStack_38 : decode b_IM_layStack 38 = .ok (.aload_n 1, 1) := by decide +kernel
theorem d_IM_layStack_39 : decode b_IM_layStack 39 = .ok (.iload 4, 2) := by decide +kernel
theorem d_IM_layStack_41 : decode b_IM_layStack 41 = .ok (.iload 5, 2) := by decide +kernel
theorem d_IM_layStack_43 : decode b_IM_layStack 43 = .ok (.invokevirtual 95, 3) := by decide +kernel
theorem d_IM_layStack_46 : decode b_IM_layStack 46 = .ok (.aload_n 1, 1) := by decide +kernel
theorem d_IM_layStack_47 : decode b_IM_layStack 47 = .ok (.iload_n 3, 1) := by decide +kernel
theorem d_IM_layStack_48 : decode b_IM_layStack 48 = .ok (.iconst 4, 1) := by decide +kernel
theorem d_IM_layStack_49 : decode b_IM_layStack 49 = .ok (.iload 5, 2) := by decide +kernel
theorem d_IM_layStack_51 : decode b_IM_layStack 51 = .ok (.imul, 1) := by decide +kernel
theorem d_IM_layStack_52 : decode b_IM_layStack 52 = .ok (.iadd, 1) := by decide +kernel
theorem d_IM_layStack_53 : decode b_IM_layStack 53 = .ok (.aload_n 1, 1) := by decide +kernel
theorem d_IM_layStack_54 : decode b_IM_layStack 54 = .ok (.getfield 22, 3) := by decide +kernel
theorem d_IM_layStack_57 : decode b_IM_layStack 57 = .ok (.iload 4, 2) := by decide +kernel
theorem d_IM_layStack_59 : decode b_IM_layStack 59 = .ok (.iadd, 1) := by decide +kernel
theorem d_IM_layStack_60 : decode b_IM_layStack 60 = .ok (.invokevirtual 96, 3) := by decide +kernel
theorem d_IM_layStack_63 : decode b_IM_layStack 63 = .ok (.iinc 5 1, 3) := by decide +kernel
theorem d_IM_layStack_66 : decode b_IM_layStack 66 = .ok (.goto (-48), 3) := by decide +kernel
theorem d_IM_layStack_69 : decode b_IM_layStack 69 = .ok (.aload_n 0, 1) := by decide +kernel
theorem d_IM_layStack_70 : decode b_IM_layStack 70 = .ok (.aload_n 1, 1) := by decide +kernel
theorem d_IM_layStack_71 : decode b_IM_layStack 71 = .ok (.getfield 22, 3) := by decide +kernel
theorem d_IM_layStack_74 : decode b_IM_layStack 74 = .ok (.iload_n 3, 1) := by decide +kernel
theorem d_IM_layStack_75 : decode b_IM_layStack 75 = .ok (.iadd, 1) := by decide +kernel
theorem d_IM_layStack_76 : decode b_IM_layStack 76 = .ok (.putfield 100, 3) := by decide +kernel
theorem d_IM_layStack_79 : decode b_IM_layStack 79 = .ok (.return_, 1) := by decide +kernel
end
section
set_option maxHeartbeats 4000000 in
set_option maxRecDepth 100000 in
theorem c_im_takePage (l : Launch) (dC : Nat → ClassId) (dI : Nat → Nat → Nat) (ad : Nat → Nat) (ck : Nat → ClassId) (rf : Int32) (n : Nat) (fr : Nat → Int32) (a : Nat) (ar : Nat → Int32) (z : Nat → Nat) (pc : Nat) (pe : Int32) (pt pp : Nat) (pf : Nat → Nat → Int32) (ic : Nat) (ie ip iz ia : Int32) (st rt : Nat → Int32) (pb : Nat → Nat → Int32) (s0 r0 : Int32) (hic : ic < 32) (sz : Nat) : Met l y_IM_takePage w_IM_takePage { frames := 2, cells := 0, slots := 0, locals := 45 } (va_Pc [.ref (ad 8), .int s0, .int r0] (xP (dC, dI) (tyG ck) (wsG ad ck rf n fr a ar z pc pe pt pp pf ic ie ip iz ia st rt pb) sz)) (xQq (dC, dI) (tyG ck) (va_A (wsG ad ck rf n fr a ar z pc pe pt pp pf ic ie ip iz ia st rt pb) sz) (wsG ad ck rf n fr a ar z pc pe pt pp pf (ic + 1) ie ip iz ia (upd st ic s0) (upd rt ic r0) (lpZ pb ic)) (fun r => r = some (ad (ic + 20)))) 0 0 (va_A (wsG ad ck rf n fr a ar z pc pe pt pp pf ic ie ip iz ia st rt pb) sz) := by
  refine xof (cc := b_IM_takePage) (maxL := 4) (ret := (some (.object "ImageGate$Page"))) (own := R_IM) (Qc := fun A => (xQq (dC, dI) (tyG ck) A (wsG ad ck rf n fr a ar z pc pe pt pp pf (ic + 1) ie ip iz ia (upd st ic s0) (upd rt ic r0) (lpZ pb ic)) (fun r => r = some (ad (ic + 20))))) (by decide) rfl rfl (Nat.le_of_ble_eq_true rfl) ?_ sz
  intro p e s m below meth c A C hnm hK hP hD hA hN hZ hS ls hl
  obtain ⟨hx, hb, hr, hml, hown, hts, hlocks⟩ := C
  have hl : lv_has ls 4 [(0, .ref (ad 8)), (1, .int s0), (2, .int r0)] := hl
  refine lv_aload_n hx hb d_IM_takePage_0 rfl (lv_at hl 0 rfl) ?_
  refine va_get (D := (dC, dI)) (ci := 2) (v := .int (nI ic)) (C := R_IM) (T := T_IM) (N := 6) hx hb hts i_IM hown hK hP 8 rfl rfl 1 (by decide) (hts _ wd_153) (fun _ h9 => h9) rfl d_IM_takePage_1 ?_
  refine lv_aload_n hx hb d_IM_takePage_4 rfl (lv_at hl 0 rfl) ?_
  refine va_get (D := (dC, dI)) (ci := 2) (v := .ref (ad 9)) (C := R_IM) (T := T_IM) (N := 6) hx hb hts i_IM hown hK hP 8 rfl rfl 0 (by decide) (hts _ wd_152) (fun _ h9 => h9) rfl d_IM_takePage_5 ?_
  refine va_alen (v := 32) hx hb hK hP 9 3 rfl rfl rfl d_IM_takePage_8 ?_
  refine lv_icmp_lt (tgt := 14) hx hb d_IM_takePage_9 (by decide) (fun c_1 => ?_) (fun c_1 => ?_)
  · skip
    have c_1 : ic < 32 := (nI_ltI (a := ic) (b := 32) (by omega) (by omega)).mp c_1
    refine lv_aload_n hx hb d_IM_takePage_14 rfl (lv_at hl 0 rfl) ?_
    refine va_get (D := (dC, dI)) (ci := 2) (v := .ref (ad 9)) (C := R_IM) (T := T_IM) (N := 6) hx hb hts i_IM hown hK hP 8 rfl rfl 0 (by decide) (hts _ wd_152) (fun _ h9 => h9) rfl d_IM_takePage_15 ?_
    refine lv_aload_n hx hb d_IM_takePage_18 rfl (lv_at hl 0 rfl) ?_
    refine va_get (D := (dC, dI)) (ci := 2) (v := .int (nI ic)) (C := R_IM) (T := T_IM) (N := 6) hx hb hts i_IM hown hK hP 8 rfl rfl 1 (by decide) (hts _ wd_153) (fun _ h9 => h9) rfl d_IM_takePage_19 ?_
    refine xaald (b := ad (ic + 20)) (k := ic) hx hb hK hP 9 3 rfl rfl (rfl) (by omega) (by decide) rfl d_IM_takePage_22 ?_
    refine lv_astore_n (lv' := [(3, .ref (ad (ic + 20))), (0, .ref (ad 8)), (1, .int s0), (2, .int r0)]) hx hb d_IM_takePage_23 rfl hl (by decide) rfl (fun ls hl => ?_)
    refine lv_aload_n hx hb d_IM_takePage_24 rfl (lv_at hl 0 rfl) ?_
    refine lv_iload_n hx hb d_IM_takePage_25 rfl (lv_at hl 2 rfl) ?_
    refine lv_iload_n hx hb d_IM_takePage_26 rfl (lv_at hl 3 rfl) ?_
    refine xcallv (va_runV (As := [.int s0, .int r0]) (rest := []) ⟨hx, hb, hml, hown, hts⟩ (c_pg_clear l dC dI ad ck rf n fr a ar z pc pe pt pp pf ic ie ip iz ia st rt pb ic s0 r0 hic s.heap.size) (cwV 2 hts (xgV wd_331 wd_332 wd_333 wd_21 wd_334) rfl rfl rfl (by decide +kernel) ⟨Nat.le_of_ble_eq_true rfl, Nat.le_of_ble_eq_true rfl⟩) (xpreV (q0 := (ic + 18)) hK hN hZ hA hS hP hD rfl (wsG_page hic)) rfl rfl hl.1 rfl (lv_room (Nat.le_of_ble_eq_true rfl)) d_IM_takePage_27 ⟨Nat.zero_le _, Nat.zero_le _⟩) hD hS hA (fun H locs hP hD hS => ?_)
    refine lv_aload_n hx hb d_IM_takePage_30 rfl (lv_at hl 1 rfl) ?_
    refine lv_dup hx hb d_IM_takePage_31 rfl ?_
    refine va_get (D := (dC, dI)) (ci := 2) (v := .int (nI ic)) (C := R_IM) (T := T_IM) (N := 6) hx hb hts i_IM hown hK hP 8 rfl rfl 1 (by decide) (hts _ wd_153) (fun _ h9 => h9) rfl d_IM_takePage_32 ?_
    refine lv_iconst (v := 1) hx hb d_IM_takePage_35 (by decide) ?_
    refine lv_iadd hx hb d_IM_takePage_36 ?_
    refine xtopi (y := nI (ic + 1)) (nI_add (ic) (1)) ?_
    refine va_put (D := (dC, dI)) (ci := 2) (v := .int (nI (ic + 1))) (ty := .int) (C := R_IM) (T := T_IM) (N := 6) hx hb hts i_IM t_IM k_IM n_IM hown hK hP hD hS 8 rfl rfl 1 (by decide) (hts _ wd_153) (fun _ h9 => h9) rfl (by decide +kernel) rfl rfl (Nat.le_of_ble_eq_true rfl) d_IM_takePage_37 (fun H locs hP hD hS => ?_)
    have hP : va_P (dC, dI) vwCl (wsG ad ck rf n fr a ar z pc pe pt pp pf (ic + 1) ie ip iz ia (upd st ic s0) (upd rt ic r0) (upr pb ic (zf 4096 (pb ic)))) H := hP
    have hD : va_D A (wsG ad ck rf n fr a ar z pc pe pt pp pf (ic + 1) ie ip iz ia (upd st ic s0) (upd rt ic r0) (upr pb ic (zf 4096 (pb ic)))) := hD
    refine lv_aload_n hx hb d_IM_takePage_40 rfl (lv_at hl 0 rfl) ?_
    have hw9 : wsG ad ck rf n fr a ar z pc pe pt pp pf (ic + 1) ie ip iz ia (upd st ic s0) (upd rt ic r0) (upr pb ic (zf 4096 (pb ic))) = wsG ad ck rf n fr a ar z pc pe pt pp pf (ic + 1) ie ip iz ia (upd st ic s0) (upd rt ic r0) (lpZ pb ic) := rfl
    rw [hw9] at hP hD
    exact xretq (v := some (ad (ic + 20))) hx hb hr hlocks hK hP hD hS (rfl) d_IM_takePage_41
  · skip
    have c_1 : ¬ (ic < 32) := fun h9 => c_1 ((nI_ltI (a := ic) (b := 32) (by omega) (by omega)).mpr h9)
    exact absurd c_1 (by omega)
set_option maxHeartbeats 4000000 in
set_option maxRecDepth 100000 in
theorem c_im_find (l : Launch) (dC : Nat → ClassId) (dI : Nat → Nat → Nat) (ad : Nat → Nat) (ck : Nat → ClassId) (rf : Int32) (n : Nat) (fr : Nat → Int32) (a : Nat) (ar : Nat → Int32) (z : Nat → Nat) (pc : Nat) (pe : Int32) (pt pp : Nat) (pf : Nat → Nat → Int32) (ic : Nat) (ie ip iz ia : Int32) (st rt : Nat → Int32) (pb : Nat → Nat → Int32) (x : Int32) (hic : ic ≤ 32) (sz : Nat) : Met l y_IM_find w_IM_find { frames := 0, cells := 0, slots := 0, locals := 0 } (va_Pc [.ref (ad 8), .int x] (xP (dC, dI) (tyG ck) (wsG ad ck rf n fr a ar z pc pe pt pp pf ic ie ip iz ia st rt pb) sz)) (xQq (dC, dI) (tyG ck) (va_A (wsG ad ck rf n fr a ar z pc pe pt pp pf ic ie ip iz ia st rt pb) sz) (wsG ad ck rf n fr a ar z pc pe pt pp pf ic ie ip iz ia st rt pb) (fun r => r = (fdI st (x &&& (-4096)) ic 0).map (fun j => ad (j + 20)))) 0 0 (va_A (wsG ad ck rf n fr a ar z pc pe pt pp pf ic ie ip iz ia st rt pb) sz) := by
  refine xof (cc := b_IM_find) (maxL := 3) (ret := (some (.object "ImageGate$Page"))) (own := R_IM) (Qc := fun A => (xQq (dC, dI) (tyG ck) A (wsG ad ck rf n fr a ar z pc pe pt pp pf ic ie ip iz ia st rt pb) (fun r => r = (fdI st (x &&& (-4096)) ic 0).map (fun j => ad (j + 20))))) (by decide) rfl rfl (Nat.le_of_ble_eq_true rfl) ?_ sz
  intro p e s m below meth c A C hnm hK hP hD hA hN hZ hS ls hl
  obtain ⟨hx, hb, hr, hml, hown, hts, hlocks⟩ := C
  have hl : lv_has ls 3 [(0, .ref (ad 8)), (1, .int x)] := hl
  refine lv_iconst (v := 0) hx hb d_IM_find_0 (by decide) ?_
  refine lv_istore_n (lv' := [(2, .int 0), (0, .ref (ad 8)), (1, .int x)]) hx hb d_IM_find_1 rfl hl (by decide) rfl (fun ls hl => ?_)
  have lp2 : ∀ (fu : Nat) (j : Nat), (ic - j < fu) → (j ≤ ic) → (fdI st (x &&& (-4096)) (ic - j) j = fdI st (x &&& (-4096)) ic 0) → ∀ (H : Heap) (locs : List Loc), va_P (dC, dI) vwCl (wsG ad ck rf n fr a ar z pc pe pt pp pf ic ie ip iz ia st rt pb) H → va_D A (wsG ad ck rf n fr a ar z pc pe pt pp pf ic ie ip iz ia st rt pb) → va_S A s.heap H locs → ∀ ls : Array Slot, lv_has ls 3 [(0, .ref (ad 8)), (1, .int x), (2, .int (nI j))] → W p l e { frames := 0, cells := 0, slots := 0, locals := 0 } s m [.ref (ad 8), .int x].toArray below meth c H locs 0 0 (MQ below (xQq (dC, dI) (tyG ck) A (wsG ad ck rf n fr a ar z pc pe pt pp pf ic ie ip iz ia st rt pb) (fun r => r = (fdI st (x &&& (-4096)) ic 0).map (fun j => ad (j + 20)))) [.ref (ad 8), .int x].toArray s 0 0 A) (F0 m 2 ls []) := by
    intro fu
    induction fu with
    | zero => intro j hfu; exact absurd hfu (Nat.not_lt_zero _)
    | succ fu ih =>
      intro j hfu hj heq H locs hP hD hS ls hl
      refine lv_iload_n hx hb d_IM_find_2 rfl (lv_at hl 2 rfl) ?_
      refine lv_aload_n hx hb d_IM_find_3 rfl (lv_at hl 0 rfl) ?_
      refine va_get (D := (dC, dI)) (ci := 2) (v := .int (nI ic)) (C := R_IM) (T := T_IM) (N := 6) hx hb hts i_IM hown hK hP 8 rfl rfl 1 (by decide) (hts _ wd_153) (fun _ h9 => h9) rfl d_IM_find_4 ?_
      refine lv_icmp_ge (tgt := 49) hx hb d_IM_find_7 (by decide) (fun c_1 => ?_) (fun c_1 => ?_)
      · skip
        have c_1 : ic ≤ j := (nI_leI (a := ic) (b := j) (by omega) (by omega)).mp c_1
        have e9 : fdI st (x &&& (-4096)) ic 0 = none := by rw [← heq, show ic - j = 0 from by omega]; rfl
        refine lv_null hx hb d_IM_find_49 ?_
        exact xretq (v := none) hx hb hr hlocks hK hP hD hS (by rw [e9]; rfl) d_IM_find_50
      · skip
        have c_1 : ¬ (ic ≤ j) := fun h9 => c_1 ((nI_leI (a := ic) (b := j) (by omega) (by omega)).mpr h9)
        refine lv_iload_n hx hb d_IM_find_10 rfl (lv_at hl 2 rfl) ?_
        refine lv_aload_n hx hb d_IM_find_11 rfl (lv_at hl 0 rfl) ?_
        refine va_get (D := (dC, dI)) (ci := 2) (v := .ref (ad 9)) (C := R_IM) (T := T_IM) (N := 6) hx hb hts i_IM hown hK hP 8 rfl rfl 0 (by decide) (hts _ wd_152) (fun _ h9 => h9) rfl d_IM_find_12 ?_
        refine va_alen (v := 32) hx hb hK hP 9 3 rfl rfl rfl d_IM_find_15 ?_
        refine lv_icmp_ge (tgt := 49) hx hb d_IM_find_16 (by decide) (fun c_2 => ?_) (fun c_2 => ?_)
        · skip
          have c_2 : 32 ≤ j := (nI_leI (a := 32) (b := j) (by omega) (by omega)).mp c_2
          exact absurd c_2 (by omega)
        · skip
          have c_2 : ¬ (32 ≤ j) := fun h9 => c_2 ((nI_leI (a := 32) (b := j) (by omega) (by omega)).mpr h9)
          refine lv_aload_n hx hb d_IM_find_19 rfl (lv_at hl 0 rfl) ?_
          refine va_get (D := (dC, dI)) (ci := 2) (v := .ref (ad 9)) (C := R_IM) (T := T_IM) (N := 6) hx hb hts i_IM hown hK hP 8 rfl rfl 0 (by decide) (hts _ wd_152) (fun _ h9 => h9) rfl d_IM_find_20 ?_
          refine lv_iload_n hx hb d_IM_find_23 rfl (lv_at hl 2 rfl) ?_
          refine xaald (b := ad (j + 20)) (k := j) hx hb hK hP 9 3 rfl rfl (rfl) (by omega) (by decide) rfl d_IM_find_24 ?_
          refine va_getN (D := (dC, dI)) (ci := 3) (v := .int (st j)) (C := R_PG) (T := T_PG) (N := 3) hx hb hts i_PG hown hK hP (j + 18) (wsG_page (by omega)) rfl 1 (by decide) (hN.use wd_141) (fun _ h9 => h9) rfl d_IM_find_25 ?_
          refine lv_iload_n hx hb d_IM_find_28 rfl (lv_at hl 1 rfl) ?_
          refine lv_sipush (v := (-4096)) hx hb d_IM_find_29 (by decide) ?_
          refine lv_iand hx hb d_IM_find_32 ?_
          refine lv_icmp_ne (tgt := 43) hx hb d_IM_find_33 (by decide) (fun c_3 => ?_) (fun c_3 => ?_)
          · skip
            refine lv_iinc (v := nI (j + 1)) (lv' := [(2, .int (nI (j + 1))), (0, .ref (ad 8)), (1, .int x)]) hx hb d_IM_find_43 hl (k := 2) rfl (nI_1 _) (by decide) rfl (fun ls hl => ?_)
            refine lv_goto (tgt := 2) hx hb d_IM_find_46 (by decide) ?_
            rw [show ic - j = ic - (j + 1) + 1 from by omega, fdI, if_neg c_3] at heq
            exact ih (j + 1) (by omega) (by omega) (heq) _ _ hP hD hS _ (lv_sub hl [1, 2, 0] rfl)
          · skip
            have e9 : fdI st (x &&& (-4096)) ic 0 = some j := by rw [← heq, show ic - j = ic - (j + 1) + 1 from by omega, fdI, if_pos c_3]
            refine lv_aload_n hx hb d_IM_find_36 rfl (lv_at hl 0 rfl) ?_
            refine va_get (D := (dC, dI)) (ci := 2) (v := .ref (ad 9)) (C := R_IM) (T := T_IM) (N := 6) hx hb hts i_IM hown hK hP 8 rfl rfl 0 (by decide) (hts _ wd_152) (fun _ h9 => h9) rfl d_IM_find_37 ?_
            refine lv_iload_n hx hb d_IM_find_40 rfl (lv_at hl 2 rfl) ?_
            refine xaald (b := ad (j + 20)) (k := j) hx hb hK hP 9 3 rfl rfl (rfl) (by omega) (by decide) rfl d_IM_find_41 ?_
            exact xretq (v := some (ad (j + 20))) hx hb hr hlocks hK hP hD hS (by rw [e9]; rfl) d_IM_find_42
  exact lp2 ((ic - 0) + 1) 0 (Nat.lt_succ_self _) (by omega) (rfl) _ _ hP hD hS _ (lv_sub hl [1, 2, 0] rfl)
set_option maxHeartbeats 4000000 in
set_option maxRecDepth 100000 in
theorem c_im_layPart (l : Launch) (dC : Nat → ClassId) (dI : Nat → Nat → Nat) (ad : Nat → Nat) (ck : Nat → ClassId) (rf : Int32) (n : Nat) (fr : Nat → Int32) (a : Nat) (ar : Nat → Int32) (z : Nat → Nat) (pc : Nat) (pe : Int32) (pt pp : Nat) (pf : Nat → Nat → Int32) (ic : Nat) (ie ip iz ia : Int32) (st rt : Nat → Int32) (pb : Nat → Nat → Int32) (pq fx bx ax gx : Nat) (r : Int32) (hpq : pq < 8) (e0 : pf pq 0 = nI fx) (e1 : pf pq 1 = nI bx) (e2 : pf pq 2 = nI ax) (e3 : pf pq 3 = nI gx) (e4 : pf pq 4 = r) (hic : ic + gx ≤ 32) (hfb : fx + bx ≤ n) (hFr : sb_Fit fr) (hn : n ≤ 65536) (sz : Nat) : Met l y_IM_layPart w_IM_layPart { frames := 3, cells := 0, slots := 0, locals := 83 } (va_Pc [.ref (ad 8), .ref (ad (pq + 10)), .ref (ad 1)] (xP (dC, dI) (tyG ck) (wsG ad ck rf n fr a ar z pc pe pt pp pf ic ie ip iz ia st rt pb) sz)) (xQv (dC, dI) (tyG ck) (va_A (wsG ad ck rf n fr a ar z pc pe pt pp pf ic ie ip iz ia st rt pb) sz) (wsG ad ck rf n fr a ar z pc pe pt pp pf (ic + gx) ie ip iz ia (lpS st ic ax gx) (lpR rt ic r gx) (lpB pb ic fr fx bx gx))) 0 0 (va_A (wsG ad ck rf n fr a ar z pc pe pt pp pf ic ie ip iz ia st rt pb) sz) := by
  refine xof (cc := b_IM_layPart) (maxL := 6) (ret := none) (own := R_IM) (Qc := fun A => (xQv (dC, dI) (tyG ck) A (wsG ad ck rf n fr a ar z pc pe pt pp pf (ic + gx) ie ip iz ia (lpS st ic ax gx) (lpR rt ic r gx) (lpB pb ic fr fx bx gx)))) (by decide) rfl rfl (Nat.le_of_ble_eq_true rfl) ?_ sz
  intro p e s m below meth c A C hnm hK hP hD hA hN hZ hS ls hl
  obtain ⟨hx, hb, hr, hml, hown, hts, hlocks⟩ := C
  have hl : lv_has ls 6 [(0, .ref (ad 8)), (1, .ref (ad (pq + 10))), (2, .ref (ad 1))] := hl
  refine lv_iconst (v := 0) hx hb d_IM_layPart_0 (by decide) ?_
  refine lv_istore_n (lv' := [(3, .int 0), (0, .ref (ad 8)), (1, .ref (ad (pq + 10))), (2, .ref (ad 1))]) hx hb d_IM_layPart_1 rfl hl (by decide) rfl (fun ls hl => ?_)
  have lp2 : ∀ (fu : Nat) (t : Nat), (gx - t < fu) → (t ≤ gx) → ∀ (H : Heap) (locs : List Loc), va_P (dC, dI) vwCl (wsG ad ck rf n fr a ar z pc pe pt pp pf (ic + t) ie ip iz ia (lpS st ic ax t) (lpR rt ic r t) (lpB pb ic fr fx bx t)) H → va_D A (wsG ad ck rf n fr a ar z pc pe pt pp pf (ic + t) ie ip iz ia (lpS st ic ax t) (lpR rt ic r t) (lpB pb ic fr fx bx t)) → va_S A s.heap H locs → ∀ ls : Array Slot, lv_has ls 6 [(0, .ref (ad 8)), (1, .ref (ad (pq + 10))), (2, .ref (ad 1)), (3, .int (nI t))] → W p l e { frames := 3, cells := 0, slots := 0, locals := 83 } s m [.ref (ad 8), .ref (ad (pq + 10)), .ref (ad 1)].toArray below meth c H locs 0 0 (MQ below (xQv (dC, dI) (tyG ck) A (wsG ad ck rf n fr a ar z pc pe pt pp pf (ic + gx) ie ip iz ia (lpS st ic ax gx) (lpR rt ic r gx) (lpB pb ic fr fx bx gx))) [.ref (ad 8), .ref (ad (pq + 10)), .ref (ad 1)].toArray s 0 0 A) (F0 m 2 ls []) := by
    intro fu
    induction fu with
    | zero => intro t hfu; exact absurd hfu (Nat.not_lt_zero _)
    | succ fu ih =>
      intro t hfu ht H locs hP hD hS ls hl
      refine lv_iload_n hx hb d_IM_layPart_2 rfl (lv_at hl 3 rfl) ?_
      refine lv_aload_n hx hb d_IM_layPart_3 rfl (lv_at hl 1 rfl) ?_
      refine va_getN (D := (dC, dI)) (ci := 4) (v := .int (pf pq 3)) (C := R_PT) (T := T_PT) (N := 5) hx hb hts i_PT hown hK hP (pq + 10) (wsG_part hpq) rfl 3 (by decide) (hN.use wd_88) (fun _ h9 => h9) rfl d_IM_layPart_4 ?_
      refine xtopi (y := nI gx) (e3) ?_
      refine lv_icmp_ge (tgt := 86) hx hb d_IM_layPart_7 (by decide) (fun c_1 => ?_) (fun c_1 => ?_)
      · skip
        have c_1 : gx ≤ t := (nI_leI (a := gx) (b := t) (by omega) (by omega)).mp c_1
        have e9 : t = gx := by omega
        have hw9 : wsG ad ck rf n fr a ar z pc pe pt pp pf (ic + t) ie ip iz ia (lpS st ic ax t) (lpR rt ic r t) (lpB pb ic fr fx bx t) = wsG ad ck rf n fr a ar z pc pe pt pp pf (ic + gx) ie ip iz ia (lpS st ic ax gx) (lpR rt ic r gx) (lpB pb ic fr fx bx gx) := by rw [e9]
        rw [hw9] at hP hD
        exact xretv hx hb hr hlocks hK hP hD hS d_IM_layPart_86
      · skip
        have c_1 : ¬ (gx ≤ t) := fun h9 => c_1 ((nI_leI (a := gx) (b := t) (by omega) (by omega)).mpr h9)
        refine lv_iload_n hx hb d_IM_layPart_10 rfl (lv_at hl 3 rfl) ?_
        refine lv_bipush (v := 32) hx hb d_IM_layPart_11 (by decide) ?_
        refine lv_icmp_ge (tgt := 86) hx hb d_IM_layPart_13 (by decide) (fun c_2 => ?_) (fun c_2 => ?_)
        · skip
          have c_2 : 32 ≤ t := (nI_leI (a := 32) (b := t) (by omega) (by omega)).mp c_2
          exact absurd c_2 (by omega)
        · skip
          have c_2 : ¬ (32 ≤ t) := fun h9 => c_2 ((nI_leI (a := 32) (b := t) (by omega) (by omega)).mpr h9)
          refine lv_iload_n hx hb d_IM_layPart_16 rfl (lv_at hl 3 rfl) ?_
          refine lv_sipush (v := 4096) hx hb d_IM_layPart_17 (by decide) ?_
          refine lv_imul hx hb d_IM_layPart_20 ?_
          refine xtopi (y := nI (t * 4096)) (pk_mul (t) (4096)) ?_
          refine lv_istore (lv' := [(4, .int (nI (t * 4096))), (0, .ref (ad 8)), (1, .ref (ad (pq + 10))), (2, .ref (ad 1)), (3, .int (nI t))]) hx hb d_IM_layPart_21 hl (by decide) rfl (fun ls hl => ?_)
          refine lv_aload_n hx hb d_IM_layPart_23 rfl (lv_at hl 1 rfl) ?_
          refine lv_aload_n hx hb d_IM_layPart_24 rfl (lv_at hl 2 rfl) ?_
          refine va_getN (D := (dC, dI)) (ci := 4) (v := .int (pf pq 2)) (C := R_PT) (T := T_PT) (N := 5) hx hb hts i_PT hown hK hP (pq + 10) (wsG_part hpq) rfl 2 (by decide) (hN.use wd_86) (fun _ h9 => h9) rfl d_IM_layPart_25 ?_
          refine xtopi (y := nI ax) (e2) ?_
          refine lv_iload hx hb d_IM_layPart_28 (lv_at hl 0 rfl) ?_
          refine lv_iadd hx hb d_IM_layPart_30 ?_
          refine xtopi (y := nI (ax + (t * 4096))) (nI_add (ax) (t * 4096)) ?_
          refine lv_aload_n hx hb d_IM_layPart_31 rfl (lv_at hl 2 rfl) ?_
          refine va_getN (D := (dC, dI)) (ci := 4) (v := .int (pf pq 4)) (C := R_PT) (T := T_PT) (N := 5) hx hb hts i_PT hown hK hP (pq + 10) (wsG_part hpq) rfl 4 (by decide) (hN.use wd_90) (fun _ h9 => h9) rfl d_IM_layPart_32 ?_
          refine xtopi (y := r) (e4) ?_
          refine xcallq (va_runV (As := [.int (nI (ax + (t * 4096))), .int r]) (rest := []) ⟨hx, hb, hml, hown, hts⟩ (c_im_takePage l dC dI ad ck rf n fr a ar z pc pe pt pp pf (ic + t) ie ip iz ia (lpS st ic ax t) (lpR rt ic r t) (lpB pb ic fr fx bx t) (nI (ax + (t * 4096))) r (by omega) H.size) (cwV 2 hts (xgV wd_327 wd_329 wd_3 wd_20 wd_330) rfl rfl rfl (by decide +kernel) ⟨Nat.le_of_ble_eq_true rfl, Nat.le_of_ble_eq_true rfl⟩) (xpreV (q0 := 8) hK hN hZ hA hS hP hD rfl rfl) rfl rfl hl.1 rfl (lv_room (Nat.le_of_ble_eq_true rfl)) d_IM_layPart_35 ⟨Nat.zero_le _, Nat.zero_le _⟩) hD hS hA (fun r_3 H locs hr_3 hP hD hS => ?_)
          subst hr_3
          refine lv_astore (lv' := [(5, .ref (ad (ic + t + 20))), (4, .int (nI (t * 4096))), (0, .ref (ad 8)), (1, .ref (ad (pq + 10))), (2, .ref (ad 1)), (3, .int (nI t))]) hx hb d_IM_layPart_38 hl (by decide) rfl (fun ls hl => ?_)
          refine lv_aload hx hb d_IM_layPart_40 (lv_at hl 0 rfl) ?_
          refine lv_ifnull hx hb d_IM_layPart_42 ?_
          refine lv_iload hx hb d_IM_layPart_45 (lv_at hl 1 rfl) ?_
          refine lv_aload_n hx hb d_IM_layPart_47 rfl (lv_at hl 3 rfl) ?_
          refine va_getN (D := (dC, dI)) (ci := 4) (v := .int (pf pq 1)) (C := R_PT) (T := T_PT) (N := 5) hx hb hts i_PT hown hK hP (pq + 10) (wsG_part hpq) rfl 1 (by decide) (hN.use wd_84) (fun _ h9 => h9) rfl d_IM_layPart_48 ?_
          refine xtopi (y := nI bx) (e1) ?_
          refine lv_icmp_ge (tgt := 80) hx hb d_IM_layPart_51 (by decide) (fun c_4 => ?_) (fun c_4 => ?_)
          · skip
            have c_4 : bx ≤ t * 4096 := (nI_leI (a := bx) (b := t * 4096) (by omega) (by omega)).mp c_4
            refine lv_iinc (v := nI (t + 1)) (lv' := [(3, .int (nI (t + 1))), (5, .ref (ad (ic + t + 20))), (4, .int (nI (t * 4096))), (0, .ref (ad 8)), (1, .ref (ad (pq + 10))), (2, .ref (ad 1))]) hx hb d_IM_layPart_80 hl (k := 5) rfl (nI_1 _) (by decide) rfl (fun ls hl => ?_)
            refine lv_goto (tgt := 2) hx hb d_IM_layPart_83 (by decide) ?_
            have hw9 : wsG ad ck rf n fr a ar z pc pe pt pp pf (ic + t + 1) ie ip iz ia (upd (lpS st ic ax t) (ic + t) (nI (ax + (t * 4096)))) (upd (lpR rt ic r t) (ic + t) r) (lpZ (lpB pb ic fr fx bx t) (ic + t)) = wsG ad ck rf n fr a ar z pc pe pt pp pf (ic + (t + 1)) ie ip iz ia (lpS st ic ax (t + 1)) (lpR rt ic r (t + 1)) (lpB pb ic fr fx bx (t + 1)) := by rw [lpB, if_neg (show ¬ t * 4096 < bx from by omega)]; rfl
            rw [hw9] at hP hD
            exact ih (t + 1) (by omega) (by omega) _ _ hP hD hS _ (lv_sub hl [3, 4, 5, 0] rfl)
          · skip
            have c_4 : ¬ (bx ≤ t * 4096) := fun h9 => c_4 ((nI_leI (a := bx) (b := t * 4096) (by omega) (by omega)).mpr h9)
            refine lv_aload_n hx hb d_IM_layPart_54 rfl (lv_at hl 4 rfl) ?_
            refine lv_aload hx hb d_IM_layPart_55 (lv_at hl 0 rfl) ?_
            refine lv_aload_n hx hb d_IM_layPart_57 rfl (lv_at hl 3 rfl) ?_
            refine va_getN (D := (dC, dI)) (ci := 4) (v := .int (pf pq 0)) (C := R_PT) (T := T_PT) (N := 5) hx hb hts i_PT hown hK hP (pq + 10) (wsG_part hpq) rfl 0 (by decide) (hN.use wd_82) (fun _ h9 => h9) rfl d_IM_layPart_58 ?_
            refine xtopi (y := nI fx) (e0) ?_
            refine lv_iload hx hb d_IM_layPart_61 (lv_at hl 1 rfl) ?_
            refine lv_iadd hx hb d_IM_layPart_63 ?_
            refine xtopi (y := nI (fx + (t * 4096))) (nI_add (fx) (t * 4096)) ?_
            refine lv_aload_n hx hb d_IM_layPart_64 rfl (lv_at hl 3 rfl) ?_
            refine va_getN (D := (dC, dI)) (ci := 4) (v := .int (pf pq 1)) (C := R_PT) (T := T_PT) (N := 5) hx hb hts i_PT hown hK hP (pq + 10) (wsG_part hpq) rfl 1 (by decide) (hN.use wd_84) (fun _ h9 => h9) rfl d_IM_layPart_65 ?_
            refine xtopi (y := nI bx) (e1) ?_
            refine lv_iload hx hb d_IM_layPart_68 (lv_at hl 1 rfl) ?_
            refine lv_isub hx hb d_IM_layPart_70 ?_
            refine xtopi (y := nI (bx - (t * 4096))) (pk_sub (a := bx) (b := t * 4096) (by omega)) ?_
            refine lv_sipush (v := 4096) hx hb d_IM_layPart_71 (by decide) ?_
            refine va_mmin (rest := [.int (nI (fx + (t * 4096))), .ref (ad (ic + t + 20)), .ref (ad 1)]) hx hb (hml.trans hl.1.symm) hown (hts _ wd_338) (hts _ wd_260) (hts _ wd_23) (hts _ wd_261) (Nat.le_of_ble_eq_true rfl) (Nat.le_of_ble_eq_true rfl) (Nat.zero_le _) (Nat.zero_le _) d_IM_layPart_74 ?_
            refine xtopi (y := nI (min (bx - t * 4096) 4096)) (p_min (by omega)) ?_
            refine xcallv (va_runV (As := [.ref (ad (ic + t + 20)), .int (nI (fx + (t * 4096))), .int (nI (min (bx - t * 4096) 4096))]) (rest := []) ⟨hx, hb, hml, hown, hts⟩ (c_fb_copyTo l dC dI ad ck rf n fr a ar z pc pe pt pp pf (ic + t + 1) ie ip iz ia (upd (lpS st ic ax t) (ic + t) (nI (ax + (t * 4096)))) (upd (lpR rt ic r t) (ic + t) r) (lpZ (lpB pb ic fr fx bx t) (ic + t)) (ic + t) (fx + (t * 4096)) (min (bx - t * 4096) 4096) (by omega) (by omega) (by omega) hFr hn H.size) (cwV 3 hts (xgV wd_339 wd_340 wd_341 wd_16 wd_342) rfl rfl rfl (by decide +kernel) ⟨Nat.le_of_ble_eq_true rfl, Nat.le_of_ble_eq_true rfl⟩) (xpreV (q0 := 1) hK hN hZ hA hS hP hD rfl rfl) rfl rfl hl.1 rfl (lv_room (Nat.le_of_ble_eq_true rfl)) d_IM_layPart_77 ⟨Nat.zero_le _, Nat.zero_le _⟩) hD hS hA (fun H locs hP hD hS => ?_)
            refine lv_iinc (v := nI (t + 1)) (lv' := [(3, .int (nI (t + 1))), (5, .ref (ad (ic + t + 20))), (4, .int (nI (t * 4096))), (0, .ref (ad 8)), (1, .ref (ad (pq + 10))), (2, .ref (ad 1))]) hx hb d_IM_layPart_80 hl (k := 5) rfl (nI_1 _) (by decide) rfl (fun ls hl => ?_)
            refine lv_goto (tgt := 2) hx hb d_IM_layPart_83 (by decide) ?_
            have hw9 : wsG ad ck rf n fr a ar z pc pe pt pp pf (ic + t + 1) ie ip iz ia (upd (lpS st ic ax t) (ic + t) (nI (ax + (t * 4096)))) (upd (lpR rt ic r t) (ic + t) r) (upr (lpZ (lpB pb ic fr fx bx t) (ic + t)) (ic + t) (va_cpy fr ((lpZ (lpB pb ic fr fx bx t) (ic + t)) (ic + t)) (fx + (t * 4096)) 0 (min (bx - t * 4096) 4096))) = wsG ad ck rf n fr a ar z pc pe pt pp pf (ic + (t + 1)) ie ip iz ia (lpS st ic ax (t + 1)) (lpR rt ic r (t + 1)) (lpB pb ic fr fx bx (t + 1)) := by rw [lpB, if_pos (show t * 4096 < bx from by omega)]; rfl
            rw [hw9] at hP hD
            exact ih (t + 1) (by omega) (by omega) _ _ hP hD hS _ (lv_sub hl [3, 4, 5, 0] rfl)
  exact lp2 ((gx - 0) + 1) 0 (Nat.lt_succ_self _) (by omega) _ _ hP hD hS _ (lv_sub hl [1, 2, 3, 0] rfl)
set_option maxHeartbeats 4000000 in
set_option maxRecDepth 100000 in
theorem c_im_layStack (l : Launch) (dC : Nat → ClassId) (dI : Nat → Nat → Nat) (ad : Nat → Nat) (ck : Nat → ClassId) (rf : Int32) (n : Nat) (fr : Nat → Int32) (a : Nat) (ar : Nat → Int32) (z : Nat → Nat) (pc : Nat) (pe : Int32) (pt pp : Nat) (pf : Nat → Nat → Int32) (ic : Nat) (ie ip iz ia : Int32) (st rt : Nat → Int32) (pb : Nat → Nat → Int32) (i P : Nat) (hi : i < 32) (hsp : spOf z a = nI P) (hP4 : P + 4 * (a + 1) ≤ tpN z a) (hAr : sb_Fit ar) (ha : a ≤ 32) (hz : ∀ j, z j ≤ 127) (sz : Nat) : Met l y_IM_layStack w_IM_layStack { frames := 2, cells := 0, slots := 0, locals := 83 } (va_Pc [.ref (ad 8), .ref (ad (i + 20)), .ref (ad 3)] (xP (dC, dI) (tyG ck) (wsG ad ck rf n fr a ar z pc pe pt pp pf ic ie ip iz ia st rt pb) sz)) (xQv (dC, dI) (tyG ck) (va_A (wsG ad ck rf n fr a ar z pc pe pt pp pf ic ie ip iz ia st rt pb) sz) (wsG ad ck rf n fr a ar z pc pe pt pp pf ic ie (st i + nI P) iz ia st rt (upr pb i (skT (pb i) ar z P (st i) a)))) 0 0 (va_A (wsG ad ck rf n fr a ar z pc pe pt pp pf ic ie ip iz ia st rt pb) sz) := by
  refine xof (cc := b_IM_layStack) (maxL := 6) (ret := none) (own := R_IM) (Qc := fun A => (xQv (dC, dI) (tyG ck) A (wsG ad ck rf n fr a ar z pc pe pt pp pf ic ie (st i + nI P) iz ia st rt (upr pb i (skT (pb i) ar z P (st i) a))))) (by decide) rfl rfl (Nat.le_of_ble_eq_true rfl) ?_ sz
  intro p e s m below meth c A C hnm hK hP hD hA hN hZ hS ls hl
  obtain ⟨hx, hb, hr, hml, hown, hts, hlocks⟩ := C
  have hl : lv_has ls 6 [(0, .ref (ad 8)), (1, .ref (ad (i + 20))), (2, .ref (ad 3))] := hl
  refine lv_aload_n hx hb d_IM_layStack_0 rfl (lv_at hl 1 rfl) ?_
  refine lv_ifnonnull (tgt := 5) hx hb d_IM_layStack_1 (by decide) ?_
  refine lv_aload_n hx hb d_IM_layStack_5 rfl (lv_at hl 2 rfl) ?_
  refine xcalli (va_runV (As := []) (rest := []) ⟨hx, hb, hml, hown, hts⟩ (c_ag_stackPointer l dC dI ad ck rf n fr a ar z pc pe pt pp pf ic ie ip iz ia st rt pb ha hz s.heap.size) (cwV 0 hts (xgV wd_350 wd_312 wd_313 wd_17 wd_314) rfl rfl rfl (by decide +kernel) ⟨Nat.le_of_ble_eq_true rfl, Nat.le_of_ble_eq_true rfl⟩) (xpreV (q0 := 3) hK hN hZ hA hS hP hD rfl rfl) rfl rfl hl.1 rfl (lv_room (Nat.le_of_ble_eq_true rfl)) d_IM_layStack_6 ⟨Nat.zero_le _, Nat.zero_le _⟩) hD hS hA (fun r_1 H locs hr_1 hP hD hS => ?_)
  subst hr_1
  refine xtopi (y := nI P) (hsp) ?_
  refine lv_istore_n (lv' := [(3, .int (nI P)), (0, .ref (ad 8)), (1, .ref (ad (i + 20))), (2, .ref (ad 3))]) hx hb d_IM_layStack_9 rfl hl (by decide) rfl (fun ls hl => ?_)
  refine lv_sipush (v := 4096) hx hb d_IM_layStack_10 (by decide) ?_
  refine lv_istore (lv' := [(4, .int 4096), (3, .int (nI P)), (0, .ref (ad 8)), (1, .ref (ad (i + 20))), (2, .ref (ad 3))]) hx hb d_IM_layStack_13 hl (by decide) rfl (fun ls hl => ?_)
  refine lv_iconst (v := 0) hx hb d_IM_layStack_15 (by decide) ?_
  refine lv_istore (lv' := [(5, .int 0), (4, .int 4096), (3, .int (nI P)), (0, .ref (ad 8)), (1, .ref (ad (i + 20))), (2, .ref (ad 3))]) hx hb d_IM_layStack_16 hl (by decide) rfl (fun ls hl => ?_)
  have lp18 : ∀ (fu : Nat) (q : Nat), (a - q < fu) → (q ≤ a) → ∀ (H : Heap) (locs : List Loc), va_P (dC, dI) vwCl (wsG ad ck rf n fr a ar z pc pe pt pp pf ic ie ip iz ia st rt (upr pb i (skT (pb i) ar z P (st i) q))) H → va_D A (wsG ad ck rf n fr a ar z pc pe pt pp pf ic ie ip iz ia st rt (upr pb i (skT (pb i) ar z P (st i) q))) → va_S A s.heap H locs → ∀ ls : Array Slot, lv_has ls 6 [(0, .ref (ad 8)), (1, .ref (ad (i + 20))), (2, .ref (ad 3)), (3, .int (nI P)), (4, .int (nI (tpN z q))), (5, .int (nI q))] → W p l e { frames := 2, cells := 0, slots := 0, locals := 83 } s m [.ref (ad 8), .ref (ad (i + 20)), .ref (ad 3)].toArray below meth c H locs 0 0 (MQ below (xQv (dC, dI) (tyG ck) A (wsG ad ck rf n fr a ar z pc pe pt pp pf ic ie (st i + nI P) iz ia st rt (upr pb i (skT (pb i) ar z P (st i) a)))) [.ref (ad 8), .ref (ad (i + 20)), .ref (ad 3)].toArray s 0 0 A) (F0 m 18 ls []) := by
    intro fu
    induction fu with
    | zero => intro q hfu; exact absurd hfu (Nat.not_lt_zero _)
    | succ fu ih =>
      intro q hfu hq H locs hP hD hS ls hl
      refine lv_iload hx hb d_IM_layStack_18 (lv_at hl 5 rfl) ?_
      refine lv_aload_n hx hb d_IM_layStack_20 rfl (lv_at hl 2 rfl) ?_
      refine va_getN (D := (dC, dI)) (ci := 0) (v := .int (nI a)) (C := R_AG) (T := T_AG) (N := 3) hx hb hts i_AG hown hK hP 3 rfl rfl 2 (by decide) (hN.use wd_59) (fun _ h9 => h9) rfl d_IM_layStack_21 ?_
      refine lv_icmp_ge (tgt := 69) hx hb d_IM_layStack_24 (by decide) (fun c_2 => ?_) (fun c_2 => ?_)
      · skip
        have c_2 : a ≤ q := (nI_leI (a := a) (b := q) (by omega) (by omega)).mp c_2
        have e9 : q = a := by omega
        refine lv_aload_n hx hb d_IM_layStack_69 rfl (lv_at hl 0 rfl) ?_
        refine lv_aload_n hx hb d_IM_layStack_70 rfl (lv_at hl 1 rfl) ?_
        refine va_getN (D := (dC, dI)) (ci := 3) (v := .int (st i)) (C := R_PG) (T := T_PG) (N := 3) hx hb hts i_PG hown hK hP (i + 18) (wsG_page hi) rfl 1 (by decide) (hN.use wd_141) (fun _ h9 => h9) rfl d_IM_layStack_71 ?_
        refine lv_iload_n hx hb d_IM_layStack_74 rfl (lv_at hl 3 rfl) ?_
        refine lv_iadd hx hb d_IM_layStack_75 ?_
        refine va_put (D := (dC, dI)) (ci := 2) (v := .int ((st i) + (nI P))) (ty := .int) (C := R_IM) (T := T_IM) (N := 6) hx hb hts i_IM t_IM k_IM n_IM hown hK hP hD hS 8 rfl rfl 3 (by decide) (hts _ wd_157) (fun _ h9 => h9) rfl (by decide +kernel) rfl rfl (Nat.le_of_ble_eq_true rfl) d_IM_layStack_76 (fun H locs hP hD hS => ?_)
        have hP : va_P (dC, dI) vwCl (wsG ad ck rf n fr a ar z pc pe pt pp pf ic ie ((st i) + (nI P)) iz ia st rt (upr pb i (skT (pb i) ar z P (st i) q))) H := hP
        have hD : va_D A (wsG ad ck rf n fr a ar z pc pe pt pp pf ic ie ((st i) + (nI P)) iz ia st rt (upr pb i (skT (pb i) ar z P (st i) q))) := hD
        have hw9 : wsG ad ck rf n fr a ar z pc pe pt pp pf ic ie ((st i) + (nI P)) iz ia st rt (upr pb i (skT (pb i) ar z P (st i) q)) = wsG ad ck rf n fr a ar z pc pe pt pp pf ic ie (st i + nI P) iz ia st rt (upr pb i (skT (pb i) ar z P (st i) a)) := by rw [e9]
        rw [hw9] at hP hD
        exact xretv hx hb hr hlocks hK hP hD hS d_IM_layStack_79
      · skip
        have c_2 : ¬ (a ≤ q) := fun h9 => c_2 ((nI_leI (a := a) (b := q) (by omega) (by omega)).mpr h9)
        have htp := tpN_ge hz q; have hzq := hz q; have htl := tpN_le z q; have htn : tpN z (q + 1) = (tpN z q - z q - 1) / 4 * 4 := rfl; have hta := tpN_le z a
        refine lv_aload_n hx hb d_IM_layStack_27 rfl (lv_at hl 2 rfl) ?_
        refine lv_iload hx hb d_IM_layStack_28 (lv_at hl 4 rfl) ?_
        refine lv_iload hx hb d_IM_layStack_30 (lv_at hl 5 rfl) ?_
        refine xcalli (va_runV (As := [.int (nI (tpN z q)), .int (nI q)]) (rest := []) ⟨hx, hb, hml, hown, hts⟩ (c_ag_placeBelow l dC dI ad ck rf n fr a ar z pc pe pt pp pf ic ie ip iz ia st rt (upr pb i (skT (pb i) ar z P (st i) q)) (tpN z q) q (by omega) (by omega) (by omega) H.size) (cwV 2 hts (xgV wd_351 wd_316 wd_317 wd_17 wd_318) rfl rfl rfl (by decide +kernel) ⟨Nat.le_of_ble_eq_true rfl, Nat.le_of_ble_eq_true rfl⟩) (xpreV (q0 := 3) hK hN hZ hA hS hP hD rfl rfl) rfl rfl hl.1 rfl (lv_room (Nat.le_of_ble_eq_true rfl)) d_IM_layStack_32 ⟨Nat.zero_le _, Nat.zero_le _⟩) hD hS hA (fun r_3 H locs hr_3 hP hD hS => ?_)
        subst hr_3
        refine xtopi (y := nI (tpN z (q + 1))) (rfl) ?_
        refine lv_istore (lv' := [(4, .int (nI (tpN z (q + 1)))), (0, .ref (ad 8)), (1, .ref (ad (i + 20))), (2, .ref (ad 3)), (3, .int (nI P)), (5, .int (nI q))]) hx hb d_IM_layStack_35 hl (by decide) rfl (fun ls hl => ?_)
        refine lv_aload_n hx hb d_IM_layStack_37 rfl (lv_at hl 3 rfl) ?_
        refine lv_aload_n hx hb d_IM_layStack_38 rfl (lv_at hl 2 rfl) ?_
        refine lv_iload hx hb d_IM_layStack_39 (lv_at hl 0 rfl) ?_
        refine lv_iload hx hb d_IM_layStack_41 (lv_at hl 5 rfl) ?_
        refine xcallv (va_runV (As := [.ref (ad (i + 20)), .int (nI (tpN z (q + 1))), .int (nI q)]) (rest := []) ⟨hx, hb, hml, hown, hts⟩ (c_ag_copyTo l dC dI ad ck rf n fr a ar z pc pe pt pp pf ic ie ip iz ia st rt (upr pb i (skT (pb i) ar z P (st i) q)) i (tpN z (q + 1)) q hi (by omega) (by omega) (by omega) hAr H.size) (cwV 3 hts (xgV wd_352 wd_353 wd_354 wd_17 wd_355) rfl rfl rfl (by decide +kernel) ⟨Nat.le_of_ble_eq_true rfl, Nat.le_of_ble_eq_true rfl⟩) (xpreV (q0 := 3) hK hN hZ hA hS hP hD rfl rfl) rfl rfl hl.1 rfl (lv_room (Nat.le_of_ble_eq_true rfl)) d_IM_layStack_43 ⟨Nat.zero_le _, Nat.zero_le _⟩) hD hS hA (fun H locs hP hD hS => ?_)
        refine lv_aload_n hx hb d_IM_layStack_46 rfl (lv_at hl 2 rfl) ?_
        refine lv_iload_n hx hb d_IM_layStack_47 rfl (lv_at hl 4 rfl) ?_
        refine lv_iconst (v := 4) hx hb d_IM_layStack_48 (by decide) ?_
        refine lv_iload hx hb d_IM_layStack_49 (lv_at hl 5 rfl) ?_
        refine lv_imul hx hb d_IM_layStack_51 ?_
        refine xtopi (y := nI (4 * q)) (pk_mul (4) (q)) ?_
        refine lv_iadd hx hb d_IM_layStack_52 ?_
        refine xtopi (y := nI (P + (4 * q))) (nI_add (P) (4 * q)) ?_
        refine lv_aload_n hx hb d_IM_layStack_53 rfl (lv_at hl 2 rfl) ?_
        refine va_getN (D := (dC, dI)) (ci := 3) (v := .int (st i)) (C := R_PG) (T := T_PG) (N := 3) hx hb hts i_PG hown hK hP (i + 18) (wsG_page hi) rfl 1 (by decide) (hN.use wd_141) (fun _ h9 => h9) rfl d_IM_layStack_54 ?_
        refine lv_iload hx hb d_IM_layStack_57 (lv_at hl 0 rfl) ?_
        refine lv_iadd hx hb d_IM_layStack_59 ?_
        refine xcallv (va_runV (As := [.int (nI (P + (4 * q))), .int ((st i) + (nI (tpN z (q + 1))))]) (rest := []) ⟨hx, hb, hml, hown, hts⟩ (c_pg_writeNumber l dC dI ad ck rf n fr a ar z pc pe pt pp pf ic ie ip iz ia st rt (upr (upr pb i (skT (pb i) ar z P (st i) q)) i (va_cpy ar ((upr pb i (skT (pb i) ar z P (st i) q)) i) (q * 127) (tpN z (q + 1)) (z q))) i (P + (4 * q)) ((st i) + (nI (tpN z (q + 1)))) hi (by omega) H.size) (cwV 2 hts (xgV wd_357 wd_358 wd_359 wd_21 wd_360) rfl rfl rfl (by decide +kernel) ⟨Nat.le_of_ble_eq_true rfl, Nat.le_of_ble_eq_true rfl⟩) (xpreV (q0 := (i + 18)) hK hN hZ hA hS hP hD rfl (wsG_page hi)) rfl rfl hl.1 rfl (lv_room (Nat.le_of_ble_eq_true rfl)) d_IM_layStack_60 ⟨Nat.zero_le _, Nat.zero_le _⟩) hD hS hA (fun H locs hP hD hS => ?_)
        refine lv_iinc (v := nI (q + 1)) (lv' := [(5, .int (nI (q + 1))), (4, .int (nI (tpN z (q + 1)))), (0, .ref (ad 8)), (1, .ref (ad (i + 20))), (2, .ref (ad 3)), (3, .int (nI P))]) hx hb d_IM_layStack_63 hl (k := 5) rfl (nI_1 _) (by decide) rfl (fun ls hl => ?_)
        refine lv_goto (tgt := 18) hx hb d_IM_layStack_66 (by decide) ?_
        have hw9 : wsG ad ck rf n fr a ar z pc pe pt pp pf ic ie ip iz ia st rt (upr (upr (upr pb i (skT (pb i) ar z P (st i) q)) i (va_cpy ar ((upr pb i (skT (pb i) ar z P (st i) q)) i) (q * 127) (tpN z (q + 1)) (z q))) i (wrN ((upr (upr pb i (skT (pb i) ar z P (st i) q)) i (va_cpy ar ((upr pb i (skT (pb i) ar z P (st i) q)) i) (q * 127) (tpN z (q + 1)) (z q))) i) (P + (4 * q)) ((st i) + (nI (tpN z (q + 1)))) 4)) = wsG ad ck rf n fr a ar z pc pe pt pp pf ic ie ip iz ia st rt (upr pb i (skT (pb i) ar z P (st i) (q + 1))) := by simp only [upr_eq, upr_upr]; rfl
        rw [hw9] at hP hD
        exact ih (q + 1) (by omega) (by omega) _ _ hP hD hS _ (lv_sub hl [2, 3, 4, 5, 1, 0] rfl)
  have e0 : upr pb i (skT (pb i) ar z P (st i) 0) = pb := upr_self pb i
  have hP : va_P (dC, dI) vwCl (wsG ad ck rf n fr a ar z pc pe pt pp pf ic ie ip iz ia st rt (upr pb i (skT (pb i) ar z P (st i) 0))) H := by rw [e0]; exact hP
  have hD : va_D A (wsG ad ck rf n fr a ar z pc pe pt pp pf ic ie ip iz ia st rt (upr pb i (skT (pb i) ar z P (st i) 0))) := by rw [e0]; exact hD
  exact lp18 ((a - 0) + 1) 0 (Nat.lt_succ_self _) (by omega) _ _ hP hD hS _ (lv_sub hl [3, 4, 5, 2, 1, 0] rfl)
end
section
/-! THE GATE: what its methods compute -/
def tN (x : Int32) : Nat := x.toBitVec.toNat
theorem nI_tN (x : Int32) : nI (tN x) = x := by
  apply Int32.toBitVec_inj.mp
  apply BitVec.eq_of_toNat_eq
  show (BitVec.ofNat 32 x.toBitVec.toNat).toNat = x.toBitVec.toNat
  rw [BitVec.toNat_ofNat]
  exact Nat.mod_eq_of_lt x.toBitVec.isLt
theorem tN_nI {x : Nat} (h : x < 4294967296) : tN (nI x) = x := pk_tn h
def gsum (g : Nat → Nat) : Nat → Nat
  | 0 => 0
  | p + 1 => gsum g p + g p
theorem gsum_mono (g : Nat → Nat) (p d : Nat) : gsum g p ≤ gsum g (p + d) := by
  induction d with
  | zero => exact Nat.le_refl _
  | succ d ih =>
    show gsum g p ≤ gsum g (p + d) + g (p + d)
    omega
theorem gsum_le {g : Nat → Nat} {p q : Nat} (h : p < q) : gsum g p + g p ≤ gsum g q := by
  have := gsum_mono g (p + 1) (q - (p + 1))
  rw [show p + 1 + (q - (p + 1)) = q from by omega] at this
  exact this
abbrev ptG (pf : Nat → Nat → Int32) : Nat → Nat := fun p => tN (pf p 3)
def lyS (st : Nat → Int32) (pf : Nat → Nat → Int32) : Nat → Nat → Int32
  | 0 => st
  | p + 1 => lpS (lyS st pf p) (gsum (ptG pf) p) (tN (pf p 2)) (tN (pf p 3))
def lyR (rt : Nat → Int32) (pf : Nat → Nat → Int32) : Nat → Nat → Int32
  | 0 => rt
  | p + 1 => lpR (lyR rt pf p) (gsum (ptG pf) p) (pf p 4) (tN (pf p 3))
def lyB (pb : Nat → Nat → Int32) (fr : Nat → Int32) (pf : Nat → Nat → Int32) : Nat → Nat → Nat → Int32
  | 0 => pb
  | p + 1 => lpB (lyB pb fr pf p) (gsum (ptG pf) p) fr (tN (pf p 0)) (tN (pf p 1)) (tN (pf p 3))
def fdN (n : Nat) : Nat := if n + 20 ≤ 65536 then n + 20 else n
def fdF (n : Nat) (fr : Nat → Int32) (w1 w2 w3 w4 w5 : Int32) : Nat → Int32 := if n + 20 ≤ 65536 then apW (apW (apW (apW (apW fr n w1) (n + 4) w2) (n + 4 + 4) w3) (n + 4 + 4 + 4) w4) (n + 4 + 4 + 4 + 4) w5 else fr
abbrev isB (b : Int32) : Prop := 0 ≤ b.toInt ∧ b.toInt ≤ 255
def stF (n : Nat) (fr : Nat → Int32) (k b : Int32) : Nat → Int32 := if isB b then fbWr 1 n fr k b else fr
theorem p_b0 {b : Int32} (h : b < 0) : ¬ isB b := fun h9 => p_nneg h9.1 h
theorem p_255 {b : Int32} (h0 : ¬ b < 0) : b ≤ 255 ↔ isB b := by
  rw [Int32.lt_iff_toInt_lt] at h0
  rw [Int32.le_iff_toInt_le]
  have h1 : (0 : Int32).toInt = 0 := rfl
  have h2 : (255 : Int32).toInt = 255 := rfl
  unfold isB
  omega
abbrev mOK (kn : Int32) : Prop := kn = 1 ∨ kn = 2 ∨ kn = 4
def ptF (n : Nat) (fr : Nat → Int32) (k kn w : Int32) : Nat → Int32 := if mOK kn then fbWr (tN kn) n fr k w else fr
def rmN (k : Int32) : Nat := if k.toInt < 0 then 0 else if 32 < k.toInt then 32 else k.toInt.toNat
theorem rmN_le (k : Int32) : rmN k ≤ 32 := by
  unfold rmN
  split
  · omega
  · split <;> omega
theorem p_room (k : Int32) : (if (0 : Int32) < (if (32 : Int32) < k then 32 else k) then (if (32 : Int32) < k then 32 else k) else 0) = nI (rmN k) := by
  have h0 : (0 : Int32).toInt = 0 := rfl
  have h32 : (32 : Int32).toInt = 32 := rfl
  unfold rmN
  by_cases c1 : (32 : Int32) < k
  · have c2 := c1
    rw [Int32.lt_iff_toInt_lt, h32] at c2
    rw [if_pos c1, if_pos (by decide), if_neg (by omega), if_pos c2]
    rfl
  · have c2 := c1
    rw [Int32.lt_iff_toInt_lt, h32] at c2
    rw [if_neg c1]
    by_cases c3 : (0 : Int32) < k
    · have c4 := c3
      rw [Int32.lt_iff_toInt_lt, h0] at c4
      obtain ⟨j, hj, e⟩ := nI_of (p_nneg (k := k) (by omega))
      rw [if_pos c3, if_neg (by omega), if_neg c2, e, nI_toInt hj]
      rfl
    · have c4 := c3
      rw [Int32.lt_iff_toInt_lt, h0] at c4
      rw [if_neg c3]
      by_cases c5 : k.toInt < 0
      · rw [if_pos c5]; rfl
      · rw [if_neg c5, if_neg c2, show k.toInt = 0 from by omega]; rfl
/-- why: the first that holds -/
abbrev rch (n : Nat) (fr : Nat → Int32) : Prop := (52 ≤ n ∧ marked fr) ∧ kindOK fr ∧ hdsIn fr n
def jdC (n : Nat) (fr : Nat → Int32) (a : Nat) (z : Nat → Nat) (pf : Nat → Nat → Int32) (room : Nat) : Nat :=
  if ¬ (52 ≤ n ∧ marked fr) then 1 else if ¬ kindOK fr then 2 else if ¬ hdsIn fr n then 3 else if ¬ (plAll fr n pf).1 = true then 4 else if ¬ (plAll fr n pf).2.2.2.1 ≤ room then 5 else if ¬ 0 ≤ spOf z a then 6 else 0
def jdP (n : Nat) (fr : Nat → Int32) (pe : Int32) (s : PS) : Int32 × PS := if rch n fr then (nI (nbN fr 24 4), (plAll fr n s.2.2.2).2) else (pe, s)
set_option maxRecDepth 100000 in
theorem p_lin {x P A t : Nat} (h : x * 4096 ≤ t + 8192) (a2 : t ≤ A) : (x + P) * 4096 ≤ A + P * 4096 + 8192 := by omega
theorem psStep_inv {f : Nat → Int32} {n q : Nat} {s : PS} (h : s.2.2.1 * 4096 ≤ s.2.1 + 8192) : (psStep f n q s).2.2.1 * 4096 ≤ (psStep f n q s).2.1 + 8192 := by
  unfold psStep
  by_cases h1 : hdSkip f q
  · rw [if_pos h1]; exact h
  · rw [if_neg h1]
    by_cases h2 : hdGood f n s.2.1 q
    · rw [if_pos h2]
      have a2 : s.2.1 ≤ nbN f (q + 8) 4 := h2.2.1
      exact p_lin h a2
    · rw [if_neg h2]; exact h
theorem plRun_inv (f : Nat → Int32) (n b : Nat) (k : Nat) : ∀ (j : Nat) (s : PS), s.2.2.1 * 4096 ≤ s.2.1 + 8192 → s.2.1 ≤ 1073733632 → (plRun f n b k j s).2.2.2.1 * 4096 ≤ (plRun f n b k j s).2.2.1 + 8192 ∧ (plRun f n b k j s).2.2.1 ≤ 1073733632 := by
  induction k with
  | zero => intro j s h1 h2; exact ⟨h1, h2⟩
  | succ k ih =>
    intro j s h1 h2
    unfold plRun
    by_cases c : hdSkip f (b + j * 32) ∨ hdGood f n s.2.1 (b + j * 32)
    · rw [if_pos c]
      exact ih (j + 1) _ (psStep_inv h1) (psStep_top h2)
    · rw [if_neg c]
      exact ⟨h1, h2⟩
theorem plAll_inv (f : Nat → Int32) (n : Nat) (pf : Nat → Nat → Int32) : (plAll f n pf).2.2.2.1 * 4096 ≤ (plAll f n pf).2.2.1 + 8192 ∧ (plAll f n pf).2.2.1 ≤ 1073733632 := plRun_inv f n _ _ 0 _ (by show 2 * 4096 ≤ 0 + 8192; decide) (Nat.zero_le _)
def abO (ie ip iz ia : Int32) (ic : Nat) (x : Int32) : Int32 := if x = 0 then ie else if x = 1 then ip else if x = 2 then iz else if x = 3 then ia else if x = 4 then nI ic else -1
theorem sw5 (x : Int32) : x = 0 ∨ x = 1 ∨ x = 2 ∨ x = 3 ∨ x = 4 ∨ (x.toInt < 0 ∨ 4 < x.toInt) := by
  have e : ∀ k : Int32, x.toInt = k.toInt → x = k := fun k h => Int32.toInt_inj.mp h
  have h0 : (0 : Int32).toInt = 0 := rfl
  have h1 : (1 : Int32).toInt = 1 := rfl
  have h2 : (2 : Int32).toInt = 2 := rfl
  have h3 : (3 : Int32).toInt = 3 := rfl
  have h4 : (4 : Int32).toInt = 4 := rfl
  by_cases c : x.toInt < 0 ∨ 4 < x.toInt
  · exact Or.inr (Or.inr (Or.inr (Or.inr (Or.inr c))))
  · have : x.toInt = 0 ∨ x.toInt = 1 ∨ x.toInt = 2 ∨ x.toInt = 3 ∨ x.toInt = 4 := by omega
    rcases this with h | h | h | h | h
    · exact Or.inl (e 0 (by rw [h, h0]))
    · exact Or.inr (Or.inl (e 1 (by rw [h, h1])))
    · exact Or.inr (Or.inr (Or.inl (e 2 (by rw [h, h2]))))
    · exact Or.inr (Or.inr (Or.inr (Or.inl (e 3 (by rw [h, h3])))))
    · exact Or.inr (Or.inr (Or.inr (Or.inr (Or.inl (e 4 (by rw [h, h4]))))))
theorem sw5d {x k : Int32} (h : x.toInt < 0 ∨ 4 < x.toInt) (hk : 0 ≤ k.toInt ∧ k.toInt ≤ 4) : ¬ x = k := fun e => by
  rw [e] at h
  omega
def atO (st : Nat → Int32) (pb : Nat → Nat → Int32) (ic : Nat) (x : Int32) : Int32 := match fdI st (x &&& (-4096)) ic 0 with
  | none => -1
  | some j => rdB (pb j) (x - st j)
def flO (st rt : Nat → Int32) (ic : Nat) (x : Int32) : Int32 := match fdI st (x &&& (-4096)) ic 0 with
  | none => -1
  | some j => rt j
theorem fdI_lt {st : Nat → Int32} {b : Int32} (k : Nat) : ∀ (i j : Nat), fdI st b k i = some j → j < i + k := by
  induction k with
  | zero => intro i j h; simp [fdI] at h
  | succ k ih =>
    intro i j h
    rw [fdI] at h
    by_cases c : st i = b
    · rw [if_pos c] at h
      cases h
      omega
    · rw [if_neg c] at h
      have := ih (i + 1) j h
      omega
end
section
theorem d_IM_lay_0 : decode b_IM_lay 0 = .ok (.aload_n 0, 1) := by decide +kernel
theorem d_IM_lay_1 : decode b_IM_lay 1 = .ok (.iconst 0, 1) := by decide +kernel
theorem d_IM_lay_2 : decode b_IM_lay 2 = .ok (.putfield 18, 3) := by decide +kernel
theorem d_IM_lay_5 : decode b_IM_lay 5 = .ok (.aload_n 0, 1) := by decide +kernel
theorem d_IM_lay_6 : decode b_IM_lay 6 = .ok (.aload_n 1, 1) := by decide +kernel
theorem d_IM_lay_7 : decode b_IM_lay 7 = .ok (.getfield 25, 3) := by decide +kernel
theorem d_IM_lay_10 : decode b_IM_lay 10 = .ok (.putfield 30, 3) := by decide +kernel
theorem d_IM_lay_13 : decode b_IM_lay 13 = .ok (.aload_n 0, 1) := by decide +kernel
theorem d_IM_lay_14 : decode b_IM_lay 14 = .ok (.aload_n 1, 1) := by decide +kernel
theorem d_IM_lay_15 : decode b_IM_lay 15 = .ok (.getfield 31, 3) := by decide +kernel
theorem d_IM_lay_18 : decode b_IM_lay 18 = .ok (.sipush 8192, 3) := by decide +kernel
theorem d_IM_lay_21 : decode b_IM_lay 21 = .ok (.iadd, 1) := by decide +kernel
theorem d_IM_lay_22 : decode b_IM_lay 22 = .ok (.putfield 34, 3) := by decide +kernel
theorem d_IM_lay_25 : decode b_IM_lay 25 = .ok (.aload_n 0, 1) := by decide +kernel
theorem d_IM_lay_26 : decode b_IM_lay 26 = .ok (.aload_n 3, 1) := by decide +kernel
theorem d_IM_lay_27 : decode b_IM_lay 27 = .ok (.getfield 37, 3) := by decide +kernel
theorem d_IM_lay_30 : decode b_IM_lay 30 = .ok (.putfield 40, 3) := by decide +kernel
theorem d_IM_lay_33 : decode b_IM_lay 33 = .ok (.iconst 0, 1) := by decide +kernel
theorem d_IM_lay_34 : decode b_IM_lay 34 = .ok (.istore 4, 2) := by decide +kernel
theorem d_IM_lay_36 : decode b_IM_lay 36 = .ok (.iload 4, 2) := by decide +kernel
theorem d_IM_lay_38 : decode b_IM_lay 38 = .ok (.aload_n 1, 1) := by decide +kernel
theorem d_IM_lay_39 : decode b_IM_lay 39 = .ok (.getfield 43, 3) := by decide +kernel
theorem d_IM_lay_42 : decode b_IM_lay 42 = .ok (.if_icmp .ge 31, 3) := by decide +kernel
theorem d_IM_lay_45 : decode b_IM_lay 45 = .ok (.iload 4, 2) := by decide +kernel
theorem d_IM_lay_47 : decode b_IM_lay 47 = .ok (.aload_n 1, 1) := by decide +kernel
theorem d_IM_lay_48 : decode b_IM_lay 48 = .ok (.getfield 44, 3) := by decide +kernel
theorem d_IM_lay_51 : decode b_IM_lay 51 = .ok (.arraylength, 1) := by decide +kernel
theorem d_IM_lay_52 : decode b_IM_lay 52 = .ok (.if_icmp .ge 21, 3) := by decide +kernel
theorem d_IM_lay_55 : decode b_IM_lay 55 = .ok (.aload_n 0, 1) := by decide +kernel
theorem d_IM_lay_56 : decode b_IM_lay 56 = .ok (.aload_n 1, 1) := by decide +kernel
theorem d_IM_lay_57 : decode b_IM_lay 57 = .ok (.getfield 44, 3) := by decide +kernel
theorem d_IM_lay_60 : decode b_IM_lay 60 = .ok (.iload 4, 2) := by decide +kernel
theorem d_IM_lay_62 : decode b_IM_lay 62 = .ok (.aaload, 1) := by decide +kernel
theorem d_IM_lay_63 : decode b_IM_lay 63 = .ok (.aload_n 2, 1) := by decide +kernel
theorem d_IM_lay_64 : decode b_IM_lay 64 = .ok (.invokevirtual 48, 3) := by decide +kernel
theorem d_IM_lay_67 : decode b_IM_lay 67 = .ok (.iinc 4 1, 3) := by decide +kernel
theorem d_IM_lay_70 : decode b_IM_lay 70 = .ok (.goto (-34), 3) := by decide +kernel
theorem d_IM_lay_73 : decode b_IM_lay 73 = .ok (.aload_n 0, 1) := by decide +kernel
theorem d_IM_lay_74 : decode b_IM_lay 74 = .ok (.aload_n 1, 1) := by decide +kernel
theorem d_IM_lay_75 : decode b_IM_lay 75 = .ok (.getfield 31, 3) := by decide +kernel
theorem d_IM_lay_78 : decode b_IM_lay 78 = .ok (.iconst 3, 1) := by decide +kernel
theorem d_IM_lay_79 : decode b_IM_lay 79 = .ok (.invokevirtual 52, 3) := by decide +kernel
theorem d_IM_lay_82 : decode b_IM_lay 82 = .ok (.pop, 1) := by decide +kernel
theorem d_IM_lay_83 : decode b_IM_lay 83 = .ok (.aload_n 0, 1) := by decide +kernel
theorem d_IM_lay_84 : decode b_IM_lay 84 = .ok (.aload_n 0, 1) := by decide +kernel
theorem d_IM_lay_85 : decode b_IM_lay 85 = .ok (.aload_n 1, 1) := by decide +kernel
theorem d_IM_lay_86 : decode b_IM_lay 86 = .ok (.getfield 31, 3) := by decide +kernel
theorem d_IM_lay_89 : decode b_IM_lay 89 = .ok (.sipush 4096, 3) := by decide +kernel
theorem d_IM_lay_92 : decode b_IM_lay 92 = .ok (.iadd, 1) := by decide +kernel
theorem d_IM_lay_93 : decode b_IM_lay 93 = .ok (.bipush 11, 2) := by decide +kernel
theorem d_IM_lay_95 : decode b_IM_lay 95 = .ok (.invokevirtual 52, 3) := by decide +kernel
theorem d_IM_lay_98 : decode b_IM_lay 98 = .ok (.aload_n 3, 1) := by decide +kernel
theorem d_IM_lay_99 : decode b_IM_lay 99 = .ok (.invokevirtual 56, 3) := by decide +kernel
theorem d_IM_lay_102 : decode b_IM_lay 102 = .ok (.return_, 1) := by decide +kernel
end
section
set_option maxHeartbeats 4000000 in
set_option maxRecDepth 100000 in
theorem c_im_lay (l : Launch) (dC : Nat → ClassId) (dI : Nat → Nat → Nat) (ad : Nat → Nat) (ck : Nat → ClassId) (rf : Int32) (n : Nat) (fr : Nat → Int32) (a : Nat) (ar : Nat → Int32) (z : Nat → Nat) (pc : Nat) (pe : Int32) (pt pp : Nat) (pf : Nat → Nat → Int32) (ic : Nat) (ie ip iz ia : Int32) (st rt : Nat → Int32) (pb : Nat → Nat → Int32) (P : Nat) (hpc : pc ≤ 8) (hsum : gsum (ptG pf) pc + 2 ≤ 32) (hfb : ∀ p, p < pc → tN (pf p 0) + tN (pf p 1) ≤ n) (hsp : spOf z a = nI P) (hP4 : P + 4 * (a + 1) ≤ tpN z a) (hFr : sb_Fit fr) (hAr : sb_Fit ar) (ha : a ≤ 32) (hz : ∀ j, z j ≤ 127) (hn : n ≤ 65536) (sz : Nat) : Met l y_IM_lay w_IM_lay { frames := 4, cells := 0, slots := 0, locals := 108 } (va_Pc [.ref (ad 8), .ref (ad 6), .ref (ad 1), .ref (ad 3)] (xP (dC, dI) (tyG ck) (wsG ad ck rf n fr a ar z pc pe pt pp pf ic ie ip iz ia st rt pb) sz)) (xQv (dC, dI) (tyG ck) (va_A (wsG ad ck rf n fr a ar z pc pe pt pp pf ic ie ip iz ia st rt pb) sz) (wsG ad ck rf n fr a ar z pc pe pt pp pf (gsum (ptG pf) pc + 1 + 1) pe ((upd (upd (lyS st pf pc) (gsum (ptG pf) pc) (nI pt)) (gsum (ptG pf) pc + 1) (nI (pt + 4096))) (gsum (ptG pf) pc + 1) + nI P) (nI (pt + 8192)) (nI a) (upd (upd (lyS st pf pc) (gsum (ptG pf) pc) (nI pt)) (gsum (ptG pf) pc + 1) (nI (pt + 4096))) (upd (upd (lyR rt pf pc) (gsum (ptG pf) pc) 3) (gsum (ptG pf) pc + 1) 11) (upr (lpZ (lpZ (lyB pb fr pf pc) (gsum (ptG pf) pc)) (gsum (ptG pf) pc + 1)) (gsum (ptG pf) pc + 1) (skT ((lpZ (lpZ (lyB pb fr pf pc) (gsum (ptG pf) pc)) (gsum (ptG pf) pc + 1)) (gsum (ptG pf) pc + 1)) ar z P ((upd (upd (lyS st pf pc) (gsum (ptG pf) pc) (nI pt)) (gsum (ptG pf) pc + 1) (nI (pt + 4096))) (gsum (ptG pf) pc + 1)) a)))) 0 0 (va_A (wsG ad ck rf n fr a ar z pc pe pt pp pf ic ie ip iz ia st rt pb) sz) := by
  refine xof (cc := b_IM_lay) (maxL := 5) (ret := none) (own := R_IM) (Qc := fun A => (xQv (dC, dI) (tyG ck) A (wsG ad ck rf n fr a ar z pc pe pt pp pf (gsum (ptG pf) pc + 1 + 1) pe ((upd (upd (lyS st pf pc) (gsum (ptG pf) pc) (nI pt)) (gsum (ptG pf) pc + 1) (nI (pt + 4096))) (gsum (ptG pf) pc + 1) + nI P) (nI (pt + 8192)) (nI a) (upd (upd (lyS st pf pc) (gsum (ptG pf) pc) (nI pt)) (gsum (ptG pf) pc + 1) (nI (pt + 4096))) (upd (upd (lyR rt pf pc) (gsum (ptG pf) pc) 3) (gsum (ptG pf) pc + 1) 11) (upr (lpZ (lpZ (lyB pb fr pf pc) (gsum (ptG pf) pc)) (gsum (ptG pf) pc + 1)) (gsum (ptG pf) pc + 1) (skT ((lpZ (lpZ (lyB pb fr pf pc) (gsum (ptG pf) pc)) (gsum (ptG pf) pc + 1)) (gsum (ptG pf) pc + 1)) ar z P ((upd (upd (lyS st pf pc) (gsum (ptG pf) pc) (nI pt)) (gsum (ptG pf) pc + 1) (nI (pt + 4096))) (gsum (ptG pf) pc + 1)) a))))) (by decide) rfl rfl (Nat.le_of_ble_eq_true rfl) ?_ sz
  intro p e s m below meth c A C hnm hK hP hD hA hN hZ hS ls hl
  obtain ⟨hx, hb, hr, hml, hown, hts, hlocks⟩ := C
  have hl : lv_has ls 5 [(0, .ref (ad 8)), (1, .ref (ad 6)), (2, .ref (ad 1)), (3, .ref (ad 3))] := hl
  refine lv_aload_n hx hb d_IM_lay_0 rfl (lv_at hl 0 rfl) ?_
  refine lv_iconst (v := 0) hx hb d_IM_lay_1 (by decide) ?_
  refine va_put (D := (dC, dI)) (ci := 2) (v := .int 0) (ty := .int) (C := R_IM) (T := T_IM) (N := 6) hx hb hts i_IM t_IM k_IM n_IM hown hK hP hD hS 8 rfl rfl 1 (by decide) (hts _ wd_153) (fun _ h9 => h9) rfl (by decide +kernel) rfl rfl (Nat.le_of_ble_eq_true rfl) d_IM_lay_2 (fun H locs hP hD hS => ?_)
  have hP : va_P (dC, dI) vwCl (wsG ad ck rf n fr a ar z pc pe pt pp pf 0 ie ip iz ia st rt pb) H := hP
  have hD : va_D A (wsG ad ck rf n fr a ar z pc pe pt pp pf 0 ie ip iz ia st rt pb) := hD
  refine lv_aload_n hx hb d_IM_lay_5 rfl (lv_at hl 0 rfl) ?_
  refine lv_aload_n hx hb d_IM_lay_6 rfl (lv_at hl 1 rfl) ?_
  refine va_getN (D := (dC, dI)) (ci := 5) (v := .int pe) (C := R_PL) (T := T_PL) (N := 5) hx hb hts i_PL hown hK hP 6 rfl rfl 2 (by decide) (hN.use wd_107) (fun _ h9 => h9) rfl d_IM_lay_7 ?_
  refine va_put (D := (dC, dI)) (ci := 2) (v := .int pe) (ty := .int) (C := R_IM) (T := T_IM) (N := 6) hx hb hts i_IM t_IM k_IM n_IM hown hK hP hD hS 8 rfl rfl 2 (by decide) (hts _ wd_155) (fun _ h9 => h9) rfl (by decide +kernel) rfl rfl (Nat.le_of_ble_eq_true rfl) d_IM_lay_10 (fun H locs hP hD hS => ?_)
  have hP : va_P (dC, dI) vwCl (wsG ad ck rf n fr a ar z pc pe pt pp pf 0 pe ip iz ia st rt pb) H := hP
  have hD : va_D A (wsG ad ck rf n fr a ar z pc pe pt pp pf 0 pe ip iz ia st rt pb) := hD
  refine lv_aload_n hx hb d_IM_lay_13 rfl (lv_at hl 0 rfl) ?_
  refine lv_aload_n hx hb d_IM_lay_14 rfl (lv_at hl 1 rfl) ?_
  refine va_getN (D := (dC, dI)) (ci := 5) (v := .int (nI pt)) (C := R_PL) (T := T_PL) (N := 5) hx hb hts i_PL hown hK hP 6 rfl rfl 3 (by decide) (hN.use wd_109) (fun _ h9 => h9) rfl d_IM_lay_15 ?_
  refine lv_sipush (v := 8192) hx hb d_IM_lay_18 (by decide) ?_
  refine lv_iadd hx hb d_IM_lay_21 ?_
  refine xtopi (y := nI (pt + 8192)) (nI_add (pt) (8192)) ?_
  refine va_put (D := (dC, dI)) (ci := 2) (v := .int (nI (pt + 8192))) (ty := .int) (C := R_IM) (T := T_IM) (N := 6) hx hb hts i_IM t_IM k_IM n_IM hown hK hP hD hS 8 rfl rfl 4 (by decide) (hts _ wd_159) (fun _ h9 => h9) rfl (by decide +kernel) rfl rfl (Nat.le_of_ble_eq_true rfl) d_IM_lay_22 (fun H locs hP hD hS => ?_)
  have hP : va_P (dC, dI) vwCl (wsG ad ck rf n fr a ar z pc pe pt pp pf 0 pe ip (nI (pt + 8192)) ia st rt pb) H := hP
  have hD : va_D A (wsG ad ck rf n fr a ar z pc pe pt pp pf 0 pe ip (nI (pt + 8192)) ia st rt pb) := hD
  refine lv_aload_n hx hb d_IM_lay_25 rfl (lv_at hl 0 rfl) ?_
  refine lv_aload_n hx hb d_IM_lay_26 rfl (lv_at hl 3 rfl) ?_
  refine va_getN (D := (dC, dI)) (ci := 0) (v := .int (nI a)) (C := R_AG) (T := T_AG) (N := 3) hx hb hts i_AG hown hK hP 3 rfl rfl 2 (by decide) (hN.use wd_59) (fun _ h9 => h9) rfl d_IM_lay_27 ?_
  refine va_put (D := (dC, dI)) (ci := 2) (v := .int (nI a)) (ty := .int) (C := R_IM) (T := T_IM) (N := 6) hx hb hts i_IM t_IM k_IM n_IM hown hK hP hD hS 8 rfl rfl 5 (by decide) (hts _ wd_161) (fun _ h9 => h9) rfl (by decide +kernel) rfl rfl (Nat.le_of_ble_eq_true rfl) d_IM_lay_30 (fun H locs hP hD hS => ?_)
  have hP : va_P (dC, dI) vwCl (wsG ad ck rf n fr a ar z pc pe pt pp pf 0 pe ip (nI (pt + 8192)) (nI a) st rt pb) H := hP
  have hD : va_D A (wsG ad ck rf n fr a ar z pc pe pt pp pf 0 pe ip (nI (pt + 8192)) (nI a) st rt pb) := hD
  refine lv_iconst (v := 0) hx hb d_IM_lay_33 (by decide) ?_
  refine lv_istore (lv' := [(4, .int 0), (0, .ref (ad 8)), (1, .ref (ad 6)), (2, .ref (ad 1)), (3, .ref (ad 3))]) hx hb d_IM_lay_34 hl (by decide) rfl (fun ls hl => ?_)
  have lp36 : ∀ (fu : Nat) (j : Nat), (pc - j < fu) → (j ≤ pc) → ∀ (H : Heap) (locs : List Loc), va_P (dC, dI) vwCl (wsG ad ck rf n fr a ar z pc pe pt pp pf (gsum (ptG pf) j) pe ip (nI (pt + 8192)) (nI a) (lyS st pf j) (lyR rt pf j) (lyB pb fr pf j)) H → va_D A (wsG ad ck rf n fr a ar z pc pe pt pp pf (gsum (ptG pf) j) pe ip (nI (pt + 8192)) (nI a) (lyS st pf j) (lyR rt pf j) (lyB pb fr pf j)) → va_S A s.heap H locs → ∀ ls : Array Slot, lv_has ls 5 [(0, .ref (ad 8)), (1, .ref (ad 6)), (2, .ref (ad 1)), (3, .ref (ad 3)), (4, .int (nI j))] → W p l e { frames := 4, cells := 0, slots := 0, locals := 108 } s m [.ref (ad 8), .ref (ad 6), .ref (ad 1), .ref (ad 3)].toArray below meth c H locs 0 0 (MQ below (xQv (dC, dI) (tyG ck) A (wsG ad ck rf n fr a ar z pc pe pt pp pf (gsum (ptG pf) pc + 1 + 1) pe ((upd (upd (lyS st pf pc) (gsum (ptG pf) pc) (nI pt)) (gsum (ptG pf) pc + 1) (nI (pt + 4096))) (gsum (ptG pf) pc + 1) + nI P) (nI (pt + 8192)) (nI a) (upd (upd (lyS st pf pc) (gsum (ptG pf) pc) (nI pt)) (gsum (ptG pf) pc + 1) (nI (pt + 4096))) (upd (upd (lyR rt pf pc) (gsum (ptG pf) pc) 3) (gsum (ptG pf) pc + 1) 11) (upr (lpZ (lpZ (lyB pb fr pf pc) (gsum (ptG pf) pc)) (gsum (ptG pf) pc + 1)) (gsum (ptG pf) pc + 1) (skT ((lpZ (lpZ (lyB pb fr pf pc) (gsum (ptG pf) pc)) (gsum (ptG pf) pc + 1)) (gsum (ptG pf) pc + 1)) ar z P ((upd (upd (lyS st pf pc) (gsum (ptG pf) pc) (nI pt)) (gsum (ptG pf) pc + 1) (nI (pt + 4096))) (gsum (ptG pf) pc + 1)) a)))) [.ref (ad 8), .ref (ad 6), .ref (ad 1), .ref (ad 3)].toArray s 0 0 A) (F0 m 36 ls []) := by
    intro fu
    induction fu with
    | zero => intro j hfu; exact absurd hfu (Nat.not_lt_zero _)
    | succ fu ih =>
      intro j hfu hj H locs hP hD hS ls hl
      refine lv_iload hx hb d_IM_lay_36 (lv_at hl 4 rfl) ?_
      refine lv_aload_n hx hb d_IM_lay_38 rfl (lv_at hl 1 rfl) ?_
      refine va_getN (D := (dC, dI)) (ci := 5) (v := .int (nI pc)) (C := R_PL) (T := T_PL) (N := 5) hx hb hts i_PL hown hK hP 6 rfl rfl 1 (by decide) (hN.use wd_105) (fun _ h9 => h9) rfl d_IM_lay_39 ?_
      refine lv_icmp_ge (tgt := 73) hx hb d_IM_lay_42 (by decide) (fun c_1 => ?_) (fun c_1 => ?_)
      · skip
        have c_1 : pc ≤ j := (nI_leI (a := pc) (b := j) (by omega) (by omega)).mp c_1
        have e9 : j = pc := by omega
        rw [e9] at hP hD
        refine lv_aload_n hx hb d_IM_lay_73 rfl (lv_at hl 0 rfl) ?_
        refine lv_aload_n hx hb d_IM_lay_74 rfl (lv_at hl 1 rfl) ?_
        refine va_getN (D := (dC, dI)) (ci := 5) (v := .int (nI pt)) (C := R_PL) (T := T_PL) (N := 5) hx hb hts i_PL hown hK hP 6 rfl rfl 3 (by decide) (hN.use wd_109) (fun _ h9 => h9) rfl d_IM_lay_75 ?_
        refine lv_iconst (v := 3) hx hb d_IM_lay_78 (by decide) ?_
        refine xcallq (va_runV (As := [.int (nI pt), .int 3]) (rest := []) ⟨hx, hb, hml, hown, hts⟩ (c_im_takePage l dC dI ad ck rf n fr a ar z pc pe pt pp pf (gsum (ptG pf) pc) pe ip (nI (pt + 8192)) (nI a) (lyS st pf pc) (lyR rt pf pc) (lyB pb fr pf pc) (nI pt) 3 (by omega) H.size) (cwV 2 hts (xgV wd_327 wd_329 wd_3 wd_20 wd_330) rfl rfl rfl (by decide +kernel) ⟨Nat.le_of_ble_eq_true rfl, Nat.le_of_ble_eq_true rfl⟩) (xpreV (q0 := 8) hK hN hZ hA hS hP hD rfl rfl) rfl rfl hl.1 rfl (lv_room (Nat.le_of_ble_eq_true rfl)) d_IM_lay_79 ⟨Nat.zero_le _, Nat.zero_le _⟩) hD hS hA (fun r_2 H locs hr_2 hP hD hS => ?_)
        subst hr_2
        refine lv_pop hx hb d_IM_lay_82 rfl ?_
        refine lv_aload_n hx hb d_IM_lay_83 rfl (lv_at hl 0 rfl) ?_
        refine lv_aload_n hx hb d_IM_lay_84 rfl (lv_at hl 0 rfl) ?_
        refine lv_aload_n hx hb d_IM_lay_85 rfl (lv_at hl 1 rfl) ?_
        refine va_getN (D := (dC, dI)) (ci := 5) (v := .int (nI pt)) (C := R_PL) (T := T_PL) (N := 5) hx hb hts i_PL hown hK hP 6 rfl rfl 3 (by decide) (hN.use wd_109) (fun _ h9 => h9) rfl d_IM_lay_86 ?_
        refine lv_sipush (v := 4096) hx hb d_IM_lay_89 (by decide) ?_
        refine lv_iadd hx hb d_IM_lay_92 ?_
        refine xtopi (y := nI (pt + 4096)) (nI_add (pt) (4096)) ?_
        refine lv_bipush (v := 11) hx hb d_IM_lay_93 (by decide) ?_
        refine xcallq (va_runV (As := [.int (nI (pt + 4096)), .int 11]) (rest := [.ref (ad 8)]) ⟨hx, hb, hml, hown, hts⟩ (c_im_takePage l dC dI ad ck rf n fr a ar z pc pe pt pp pf (gsum (ptG pf) pc + 1) pe ip (nI (pt + 8192)) (nI a) (upd (lyS st pf pc) (gsum (ptG pf) pc) (nI pt)) (upd (lyR rt pf pc) (gsum (ptG pf) pc) 3) (lpZ (lyB pb fr pf pc) (gsum (ptG pf) pc)) (nI (pt + 4096)) 11 (by omega) H.size) (cwV 2 hts (xgV wd_327 wd_329 wd_3 wd_20 wd_330) rfl rfl rfl (by decide +kernel) ⟨Nat.le_of_ble_eq_true rfl, Nat.le_of_ble_eq_true rfl⟩) (xpreV (q0 := 8) hK hN hZ hA hS hP hD rfl rfl) rfl rfl hl.1 rfl (lv_room (Nat.le_of_ble_eq_true rfl)) d_IM_lay_95 ⟨Nat.zero_le _, Nat.zero_le _⟩) hD hS hA (fun r_3 H locs hr_3 hP hD hS => ?_)
        subst hr_3
        refine lv_aload_n hx hb d_IM_lay_98 rfl (lv_at hl 3 rfl) ?_
        refine xcallv (va_runV (As := [.ref (ad (gsum (ptG pf) pc + 1 + 20)), .ref (ad 3)]) (rest := []) ⟨hx, hb, hml, hown, hts⟩ (c_im_layStack l dC dI ad ck rf n fr a ar z pc pe pt pp pf (gsum (ptG pf) pc + 1 + 1) pe ip (nI (pt + 8192)) (nI a) (upd (upd (lyS st pf pc) (gsum (ptG pf) pc) (nI pt)) (gsum (ptG pf) pc + 1) (nI (pt + 4096))) (upd (upd (lyR rt pf pc) (gsum (ptG pf) pc) 3) (gsum (ptG pf) pc + 1) 11) (lpZ (lpZ (lyB pb fr pf pc) (gsum (ptG pf) pc)) (gsum (ptG pf) pc + 1)) (gsum (ptG pf) pc + 1) P (by omega) hsp hP4 hAr ha hz H.size) (cwV 2 hts (xgV wd_346 wd_348 wd_4 wd_20 wd_349) rfl rfl rfl (by decide +kernel) ⟨Nat.le_of_ble_eq_true rfl, Nat.le_of_ble_eq_true rfl⟩) (xpreV (q0 := 8) hK hN hZ hA hS hP hD rfl rfl) rfl rfl hl.1 rfl (lv_room (Nat.le_of_ble_eq_true rfl)) d_IM_lay_99 ⟨Nat.zero_le _, Nat.zero_le _⟩) hD hS hA (fun H locs hP hD hS => ?_)
        exact xretv hx hb hr hlocks hK hP hD hS d_IM_lay_102
      · skip
        have c_1 : ¬ (pc ≤ j) := fun h9 => c_1 ((nI_leI (a := pc) (b := j) (by omega) (by omega)).mpr h9)
        have hgs := gsum_le (g := ptG pf) (p := j) (q := pc) (by omega); have hgs : gsum (ptG pf) j + tN (pf j 3) ≤ gsum (ptG pf) pc := hgs
        refine lv_iload hx hb d_IM_lay_45 (lv_at hl 4 rfl) ?_
        refine lv_aload_n hx hb d_IM_lay_47 rfl (lv_at hl 1 rfl) ?_
        refine va_getN (D := (dC, dI)) (ci := 5) (v := .ref (ad 7)) (C := R_PL) (T := T_PL) (N := 5) hx hb hts i_PL hown hK hP 6 rfl rfl 0 (by decide) (hN.use wd_104) (fun _ h9 => h9) rfl d_IM_lay_48 ?_
        refine va_alen (v := 8) hx hb hK hP 7 2 rfl rfl rfl d_IM_lay_51 ?_
        refine lv_icmp_ge (tgt := 73) hx hb d_IM_lay_52 (by decide) (fun c_5 => ?_) (fun c_5 => ?_)
        · skip
          have c_5 : 8 ≤ j := (nI_leI (a := 8) (b := j) (by omega) (by omega)).mp c_5
          exact absurd c_5 (by omega)
        · skip
          have c_5 : ¬ (8 ≤ j) := fun h9 => c_5 ((nI_leI (a := 8) (b := j) (by omega) (by omega)).mpr h9)
          refine lv_aload_n hx hb d_IM_lay_55 rfl (lv_at hl 0 rfl) ?_
          refine lv_aload_n hx hb d_IM_lay_56 rfl (lv_at hl 1 rfl) ?_
          refine va_getN (D := (dC, dI)) (ci := 5) (v := .ref (ad 7)) (C := R_PL) (T := T_PL) (N := 5) hx hb hts i_PL hown hK hP 6 rfl rfl 0 (by decide) (hN.use wd_104) (fun _ h9 => h9) rfl d_IM_lay_57 ?_
          refine lv_iload hx hb d_IM_lay_60 (lv_at hl 4 rfl) ?_
          refine xaald (b := ad (j + 10)) (k := j) hx hb hK hP 7 2 rfl rfl (rfl) (by omega) (by decide) rfl d_IM_lay_62 ?_
          refine lv_aload_n hx hb d_IM_lay_63 rfl (lv_at hl 2 rfl) ?_
          refine xcallv (va_runV (As := [.ref (ad (j + 10)), .ref (ad 1)]) (rest := []) ⟨hx, hb, hml, hown, hts⟩ (c_im_layPart l dC dI ad ck rf n fr a ar z pc pe pt pp pf (gsum (ptG pf) j) pe ip (nI (pt + 8192)) (nI a) (lyS st pf j) (lyR rt pf j) (lyB pb fr pf j) j (tN (pf j 0)) (tN (pf j 1)) (tN (pf j 2)) (tN (pf j 3)) (pf j 4) (by omega) (nI_tN _).symm (nI_tN _).symm (nI_tN _).symm (nI_tN _).symm rfl (by omega) (hfb j (by omega)) hFr hn H.size) (cwV 2 hts (xgV wd_323 wd_325 wd_2 wd_20 wd_326) rfl rfl rfl (by decide +kernel) ⟨Nat.le_of_ble_eq_true rfl, Nat.le_of_ble_eq_true rfl⟩) (xpreV (q0 := 8) hK hN hZ hA hS hP hD rfl rfl) rfl rfl hl.1 rfl (lv_room (Nat.le_of_ble_eq_true rfl)) d_IM_lay_64 ⟨Nat.zero_le _, Nat.zero_le _⟩) hD hS hA (fun H locs hP hD hS => ?_)
          refine lv_iinc (v := nI (j + 1)) (lv' := [(4, .int (nI (j + 1))), (0, .ref (ad 8)), (1, .ref (ad 6)), (2, .ref (ad 1)), (3, .ref (ad 3))]) hx hb d_IM_lay_67 hl (k := 4) rfl (nI_1 _) (by decide) rfl (fun ls hl => ?_)
          refine lv_goto (tgt := 36) hx hb d_IM_lay_70 (by decide) ?_
          exact ih (j + 1) (by omega) (by omega) _ _ hP hD hS _ (lv_sub hl [1, 2, 3, 4, 0] rfl)
  exact lp36 ((pc - 0) + 1) 0 (Nat.lt_succ_self _) (by omega) _ _ hP hD hS _ (lv_sub hl [1, 2, 3, 4, 0] rfl)
end
section
theorem bI_and {a b : Prop} [Decidable a] [Decidable b] (h : a) : bI b = bI (a ∧ b) := by
  by_cases hb : b <;> simp [bI, h, hb]
set_option maxRecDepth 100000 in
theorem p_ppb {x t : Nat} (h : x * 4096 ≤ t + 8192) (h2 : t ≤ 1073733632) : x ≤ 262144 := by omega
end
section
theorem d_GT_feed_0 : decode b_GT_feed 0 = .ok (.aload_n 0, 1) := by decide +kernel
theorem d_GT_feed_1 : decode b_GT_feed 1 = .ok (.getfield 10, 3) := by decide +kernel
theorem d_GT_feed_4 : decode b_GT_feed 4 = .ok (.bipush 20, 2) := by decide +kernel
theorem d_GT_feed_6 : decode b_GT_feed 6 = .ok (.invokevirtual 41, 3) := by decide +kernel
theorem d_GT_feed_9 : decode b_GT_feed 9 = .ok (.ifCond .ne 5, 3) := by decide +kernel
theorem d_GT_feed_12 : decode b_GT_feed 12 = .ok (.iconst 0, 1) := by decide +kernel
theorem d_GT_feed_13 : decode b_GT_feed 13 = .ok (.ireturn, 1) := by decide +kernel
theorem d_GT_feed_14 : decode b_GT_feed 14 = .ok (.aload_n 0, 1) := by decide +kernel
theorem d_GT_feed_15 : decode b_GT_feed 15 = .ok (.getfield 10, 3) := by decide +kernel
theorem d_GT_feed_18 : decode b_GT_feed 18 = .ok (.iload_n 1, 1) := by decide +kernel
theorem d_GT_feed_19 : decode b_GT_feed 19 = .ok (.invokevirtual 45, 3) := by decide +kernel
theorem d_GT_feed_22 : decode b_GT_feed 22 = .ok (.aload_n 0, 1) := by decide +kernel
theorem d_GT_feed_23 : decode b_GT_feed 23 = .ok (.getfield 10, 3) := by decide +kernel
theorem d_GT_feed_26 : decode b_GT_feed 26 = .ok (.iload_n 2, 1) := by decide +kernel
theorem d_GT_feed_27 : decode b_GT_feed 27 = .ok (.invokevirtual 45, 3) := by decide +kernel
theorem d_GT_feed_30 : decode b_GT_feed 30 = .ok (.aload_n 0, 1) := by decide +kernel
theorem d_GT_feed_31 : decode b_GT_feed 31 = .ok (.getfield 10, 3) := by decide +kernel
theorem d_GT_feed_34 : decode b_GT_feed 34 = .ok (.iload_n 3, 1) := by decide +kernel
theorem d_GT_feed_35 : decode b_GT_feed 35 = .ok (.invokevirtual 45, 3) := by decide +kernel
theorem d_GT_feed_38 : decode b_GT_feed 38 = .ok (.aload_n 0, 1) := by decide +kernel
theorem d_GT_feed_39 : decode b_GT_feed 39 = .ok (.getfield 10, 3) := by decide +kernel
theorem d_GT_feed_42 : decode b_GT_feed 42 = .ok (.iload 4, 2) := by decide +kernel
theorem d_GT_feed_44 : decode b_GT_feed 44 = .ok (.invokevirtual 45, 3) := by decide +kernel
theorem d_GT_feed_47 : decode b_GT_feed 47 = .ok (.aload_n 0, 1) := by decide +kernel
theorem d_GT_feed_48 : decode b_GT_feed 48 = .ok (.getfield 10, 3) := by decide +kernel
theorem d_GT_feed_51 : decode b_GT_feed 51 = .ok (.iload 5, 2) := by decide +kernel
theorem d_GT_feed_53 : decode b_GT_feed 53 = .ok (.invokevirtual 45, 3) := by decide +kernel
theorem d_GT_feed_56 : decode b_GT_feed 56 = .ok (.iconst 1, 1) := by decide +kernel
theorem d_GT_feed_57 : decode b_GT_feed 57 = .ok (.ireturn, 1) := by decide +kernel
theorem d_GT_end_0 : decode b_GT_end 0 = .ok (.aload_n 0, 1) := by decide +kernel
theorem d_GT_end_1 : decode b_GT_end 1 = .ok (.getfield 10, 3) := by decide +kernel
theorem d_GT_end_4 : decode b_GT_end 4 = .ok (.iload_n 1, 1) := by decide +kernel
theorem d_GT_end_5 : decode b_GT_end 5 = .ok (.invokevirtual 49, 3) := by decide +kernel
theorem d_GT_end_8 : decode b_GT_end 8 = .ok (.ireturn, 1) := by decide +kernel
theorem d_GT_set_0 : decode b_GT_set 0 = .ok (.iload_n 2, 1) := by decide +kernel
theorem d_GT_set_1 : decode b_GT_set 1 = .ok (.ifCond .lt 10, 3) := by decide +kernel
theorem d_GT_set_4 : decode b_GT_set 4 = .ok (.iload_n 2, 1) := by decide +kernel
theorem d_GT_set_5 : decode b_GT_set 5 = .ok (.sipush 255, 3) := by decide +kernel
theorem d_GT_set_8 : decode b_GT_set 8 = .ok (.if_icmp .le 5, 3) := by decide +kernel
theorem d_GT_set_11 : decode b_GT_set 11 = .ok (.iconst 0, 1) := by decide +kernel
theorem d_GT_set_12 : decode b_GT_set 12 = .ok (.ireturn, 1) := by decide +kernel
theorem d_GT_set_13 : decode b_GT_set 13 = .ok (.aload_n 0, 1) := by decide +kernel
theorem d_GT_set_14 : decode b_GT_set 14 = .ok (.getfield 10, 3) := by decide +kernel
theorem d_GT_set_17 : decode b_GT_set 17 = .ok (.iload_n 1, 1) := by decide +kernel
theorem d_GT_set_18 : decode b_GT_set 18 = .ok (.iconst 1, 1) := by decide +kernel
theorem d_GT_set_19 : decode b_GT_set 19 = .ok (.iload_n 2, 1) := by decide +kernel
theorem d_GT_set_20 : decode b_GT_set 20 = .ok (.invokevirtual 52, 3) := by decide +kernel
theorem d_GT_set_23 : decode b_GT_set 23 = .ok (.ireturn, 1) := by decide +kernel
theorem d_GT_put_0 : decode b_GT_put 0 = .ok (.iload_n 2, 1) := by decide +kernel
theorem d_GT_put_1 : decode b_GT_put 1 = .ok (.iconst 1, 1) := by decide +kernel
theorem d_GT_put_2 : decode b_GT_put 2 = .ok (.if_icmp .eq 15, 3) := by decide +kernel
theorem d_GT_put_5 : decode b_GT_put 5 = .ok (.iload_n 2, 1) := by decide +kernel
theorem d_GT_put_6 : decode b_GT_put 6 = .ok (.iconst 2, 1) := by decide +kernel
theorem d_GT_put_7 : decode b_GT_put 7 = .ok (.if_icmp .eq 10, 3) := by decide +kernel
theorem d_GT_put_10 : decode b_GT_put 10 = .ok (.iload_n 2, 1) := by decide +kernel
theorem d_GT_put_11 : decode b_GT_put 11 = .ok (.iconst 4, 1) := by decide +kernel
theorem d_GT_put_12 : decode b_GT_put 12 = .ok (.if_icmp .eq 5, 3) := by decide +kernel
theorem d_GT_put_15 : decode b_GT_put 15 = .ok (.iconst 0, 1) := by decide +kernel
theorem d_GT_put_16 : decode b_GT_put 16 = .ok (.ireturn, 1) := by decide +kernel
theorem d_GT_put_17 : decode b_GT_put 17 = .ok (.aload_n 0, 1) := by decide +kernel
theorem d_GT_put_18 : decode b_GT_put 18 = .ok (.getfield 10, 3) := by decide +kernel
theorem d_GT_put_21 : decode b_GT_put 21 = .ok (.iload_n 1, 1) := by decide +kernel
theorem d_GT_put_22 : decode b_GT_put 22 = .ok (.iload_n 2, 1) := by decide +kernel
theorem d_GT_put_23 : decode b_GT_put 23 = .ok (.iload_n 3, 1) := by decide +kernel
theorem d_GT_put_24 : decode b_GT_put 24 = .ok (.invokevirtual 52, 3) := by decide +kernel
theorem d_GT_put_27 : decode b_GT_put 27 = .ok (.ireturn, 1) := by decide +kernel
theorem d_GT_length_0 : decode b_GT_length 0 = .ok (.aload_n 0, 1) := by decide +kernel
theorem d_GT_length_1 : decode b_GT_length 1 = .ok (.getfield 10, 3) := by decide +kernel
theorem d_GT_length_4 : decode b_GT_length 4 = .ok (.getfield 56, 3) := by decide +kernel
theorem d_GT_length_7 : decode b_GT_length 7 = .ok (.ireturn, 1) := by decide +kernel
theorem d_GT_argument_0 : decode b_GT_argument 0 = .ok (.aload_n 0, 1) := by decide +kernel
theorem d_GT_argument_1 : decode b_GT_argument 1 = .ok (.getfield 19, 3) := by decide +kernel
theorem d_GT_argument_4 : decode b_GT_argument 4 = .ok (.invokevirtual 59, 3) := by decide +kernel
theorem d_GT_argument_7 : decode b_GT_argument 7 = .ok (.ireturn, 1) := by decide +kernel
theorem d_GT_letters_0 : decode b_GT_letters 0 = .ok (.aload_n 0, 1) := by decide +kernel
theorem d_GT_letters_1 : decode b_GT_letters 1 = .ok (.getfield 19, 3) := by decide +kernel
theorem d_GT_letters_4 : decode b_GT_letters 4 = .ok (.lload_n 1, 1) := by decide +kernel
theorem d_GT_letters_5 : decode b_GT_letters 5 = .ok (.invokevirtual 63, 3) := by decide +kernel
theorem d_GT_letters_8 : decode b_GT_letters 8 = .ok (.ireturn, 1) := by decide +kernel
theorem d_GT_forget_0 : decode b_GT_forget 0 = .ok (.aload_n 0, 1) := by decide +kernel
theorem d_GT_forget_1 : decode b_GT_forget 1 = .ok (.getfield 19, 3) := by decide +kernel
theorem d_GT_forget_4 : decode b_GT_forget 4 = .ok (.iconst 0, 1) := by decide +kernel
theorem d_GT_forget_5 : decode b_GT_forget 5 = .ok (.putfield 67, 3) := by decide +kernel
theorem d_GT_forget_8 : decode b_GT_forget 8 = .ok (.return_, 1) := by decide +kernel
theorem d_GT_why_0 : decode b_GT_why 0 = .ok (.aload_n 0, 1) := by decide +kernel
theorem d_GT_why_1 : decode b_GT_why 1 = .ok (.getfield 37, 3) := by decide +kernel
theorem d_GT_why_4 : decode b_GT_why 4 = .ok (.ireturn, 1) := by decide +kernel
theorem d_GT_about_0 : decode b_GT_about 0 = .ok (.iload_n 1, 1) := by decide +kernel
theorem d_GT_about_1 : decode b_GT_about 1 = .ok (.tableswitch 75 0 4 #[35, 43, 51, 59, 67], 35) := by decide +kernel
theorem d_GT_about_36 : decode b_GT_about 36 = .ok (.aload_n 0, 1) := by decide +kernel
theorem d_GT_about_37 : decode b_GT_about 37 = .ok (.getfield 33, 3) := by decide +kernel
theorem d_GT_about_40 : decode b_GT_about 40 = .ok (.getfield 86, 3) := by decide +kernel
theorem d_GT_about_43 : decode b_GT_about 43 = .ok (.ireturn, 1) := by decide +kernel
theorem d_GT_about_44 : decode b_GT_about 44 = .ok (.aload_n 0, 1) := by decide +kernel
theorem d_GT_about_45 : decode b_GT_about 45 = .ok (.getfield 33, 3) := by decide +kernel
theorem d_GT_about_48 : decode b_GT_about 48 = .ok (.getfield 89, 3) := by decide +kernel
theorem d_GT_about_51 : decode b_GT_about 51 = .ok (.ireturn, 1) := by decide +kernel
theorem d_GT_about_52 : decode b_GT_about 52 = .ok (.aload_n 0, 1) := by decide +kernel
theorem d_GT_about_53 : decode b_GT_about 53 = .ok (.getfield 33, 3) := by decide +kernel
theorem d_GT_about_56 : decode b_GT_about 56 = .ok (.getfield 92, 3) := by decide +kernel
theorem d_GT_about_59 : decode b_GT_about 59 = .ok (.ireturn, 1) := by decide +kernel
theorem d_GT_about_60 : decode b_GT_about 60 = .ok (.aload_n 0, 1) := by decide +kernel
theorem d_GT_about_61 : decode b_GT_about 61 = .ok (.getfield 33, 3) := by decide +kernel
theorem d_GT_about_64 : decode b_GT_about 64 = .ok (.getfield 95, 3) := by decide +kernel
theorem d_GT_about_67 : decode b_GT_about 67 = .ok (.ireturn, 1) := by decide +kernel
theorem d_GT_about_68 : decode b_GT_about 68 = .ok (.aload_n 0, 1) := by decide +kernel
theorem d_GT_about_69 : decode b_GT_about 69 = .ok (.getfield 33, 3) := by decide +kernel
theorem d_GT_about_72 : decode b_GT_about 72 = .ok (.getfield 85, 3) := by decide +kernel
theorem d_GT_about_75 : decode b_GT_about 75 = .ok (.ireturn, 1) := by decide +kernel
theorem d_GT_about_76 : decode b_GT_about 76 = .ok (.iconst (-1), 1) := by decide +kernel
theorem d_GT_about_77 : decode b_GT_about 77 = .ok (.ireturn, 1) := by decide +kernel
theorem d_GT_at_0 : decode b_GT_at 0 = .ok (.aload_n 0, 1) := by decide +kernel
theorem d_GT_at_1 : decode b_GT_at 1 = .ok (.getfield 33, 3) := by decide +kernel
theorem d_GT_at_4 : decode b_GT_at 4 = .ok (.iload_n 1, 1) := by decide +kernel
theorem d_GT_at_5 : decode b_GT_at 5 = .ok (.invokevirtual 98, 3) := by decide +kernel
theorem d_GT_at_8 : decode b_GT_at 8 = .ok (.astore_n 2, 1) := by decide +kernel
theorem d_GT_at_9 : decode b_GT_at 9 = .ok (.aload_n 2, 1) := by decide +kernel
theorem d_GT_at_10 : decode b_GT_at 10 = .ok (.ifnonnull 7, 3) := by decide +kernel
theorem d_GT_at_13 : decode b_GT_at 13 = .ok (.iconst (-1), 1) := by decide +kernel
theorem d_GT_at_14 : decode b_GT_at 14 = .ok (.goto 13, 3) := by decide +kernel
theorem d_GT_at_17 : decode b_GT_at 17 = .ok (.aload_n 2, 1) := by decide +kernel
theorem d_GT_at_18 : decode b_GT_at 18 = .ok (.iload_n 1, 1) := by decide +kernel
theorem d_GT_at_19 : decode b_GT_at 19 = .ok (.aload_n 2, 1) := by decide +kernel
theorem d_GT_at_20 : decode b_GT_at 20 = .ok (.getfield 102, 3) := by decide +kernel
theorem d_GT_at_23 : decode b_GT_at 23 = .ok (.isub, 1) := by decide +kernel
theorem d_GT_at_24 : decode b_GT_at 24 = .ok (.invokevirtual 107, 3) := by decide +kernel
theorem d_GT_at_27 : decode b_GT_at 27 = .ok (.ireturn, 1) := by decide +kernel
theorem d_GT_flags_0 : decode b_GT_flags 0 = .ok (.aload_n 0, 1) := by decide +kernel
theorem d_GT_flags_1 : decode b_GT_flags 1 = .ok (.getfield 33, 3) := by decide +kernel
theorem d_GT_flags_4 : decode b_GT_flags 4 = .ok (.iload_n 1, 1) := by decide +kernel
theorem d_GT_flags_5 : decode b_GT_flags 5 = .ok (.invokevirtual 98, 3) := by decide +kernel
theorem d_GT_flags_8 : decode b_GT_flags 8 = .ok (.astore_n 2, 1) := by decide +kernel
theorem d_GT_flags_9 : decode b_GT_flags 9 = .ok (.aload_n 2, 1) := by decide +kernel
theorem d_GT_flags_10 : decode b_GT_flags 10 = .ok (.ifnonnull 7, 3) := by decide +kernel
theorem d_GT_flags_13 : decode b_GT_flags 13 = .ok (.iconst (-1), 1) := by decide +kernel
theorem d_GT_flags_14 : decode b_GT_flags 14 = .ok (.goto 7, 3) := by decide +kernel
theorem d_GT_flags_17 : decode b_GT_flags 17 = .ok (.aload_n 2, 1) := by decide +kernel
theorem d_GT_flags_18 : decode b_GT_flags 18 = .ok (.getfield 110, 3) := by decide +kernel
theorem d_GT_flags_21 : decode b_GT_flags 21 = .ok (.ireturn, 1) := by decide +kernel
theorem d_GT_judge_0 : decode b_GT_judge 0 = .ok (.aload_n 0, 1) := by decide +kernel
theorem d_GT_judge_1 : decode b_GT_judge 1 = .ok (.getfield 26, 3) := by decide +kernel
theorem d_GT_judge_4 : decode b_GT_judge 4 = .ok (.aload_n 0, 1) := by decide +kernel
theorem d_GT_judge_5 : decode b_GT_judge 5 = .ok (.getfield 10, 3) := by decide +kernel
theorem d_GT_judge_8 : decode b_GT_judge 8 = .ok (.invokevirtual 113, 3) := by decide +kernel
theorem d_GT_judge_11 : decode b_GT_judge 11 = .ok (.ifCond .ne 5, 3) := by decide +kernel
theorem d_GT_judge_14 : decode b_GT_judge 14 = .ok (.iconst 1, 1) := by decide +kernel
theorem d_GT_judge_15 : decode b_GT_judge 15 = .ok (.ireturn, 1) := by decide +kernel
theorem d_GT_judge_16 : decode b_GT_judge 16 = .ok (.aload_n 0, 1) := by decide +kernel
theorem d_GT_judge_17 : decode b_GT_judge 17 = .ok (.getfield 26, 3) := by decide +kernel
theorem d_GT_judge_20 : decode b_GT_judge 20 = .ok (.aload_n 0, 1) := by decide +kernel
theorem d_GT_judge_21 : decode b_GT_judge 21 = .ok (.getfield 10, 3) := by decide +kernel
theorem d_GT_judge_24 : decode b_GT_judge 24 = .ok (.invokevirtual 117, 3) := by decide +kernel
theorem d_GT_judge_27 : decode b_GT_judge 27 = .ok (.ifCond .ne 5, 3) := by decide +kernel
theorem d_GT_judge_30 : decode b_GT_judge 30 = .ok (.iconst 2, 1) := by decide +kernel
theorem d_GT_judge_31 : decode b_GT_judge 31 = .ok (.ireturn, 1) := by decide +kernel
theorem d_GT_judge_32 : decode b_GT_judge 32 = .ok (.aload_n 0, 1) := by decide +kernel
theorem d_GT_judge_33 : decode b_GT_judge 33 = .ok (.getfield 26, 3) := by decide +kernel
theorem d_GT_judge_36 : decode b_GT_judge 36 = .ok (.aload_n 0, 1) := by decide +kernel
theorem d_GT_judge_37 : decode b_GT_judge 37 = .ok (.getfield 10, 3) := by decide +kernel
theorem d_GT_judge_40 : decode b_GT_judge 40 = .ok (.invokevirtual 120, 3) := by decide +kernel
theorem d_GT_judge_43 : decode b_GT_judge 43 = .ok (.ifCond .ne 5, 3) := by decide +kernel
theorem d_GT_judge_46 : decode b_GT_judge 46 = .ok (.iconst 3, 1) := by decide +kernel
theorem d_GT_judge_47 : decode b_GT_judge 47 = .ok (.ireturn, 1) := by decide +kernel
theorem d_GT_judge_48 : decode b_GT_judge 48 = .ok (.aload_n 0, 1) := by decide +kernel
theorem d_GT_judge_49 : decode b_GT_judge 49 = .ok (.getfield 26, 3) := by decide +kernel
theorem d_GT_judge_52 : decode b_GT_judge 52 = .ok (.aload_n 0, 1) := by decide +kernel
theorem d_GT_judge_53 : decode b_GT_judge 53 = .ok (.getfield 10, 3) := by decide +kernel
theorem d_GT_judge_56 : decode b_GT_judge 56 = .ok (.invokevirtual 123, 3) := by decide +kernel
theorem d_GT_judge_59 : decode b_GT_judge 59 = .ok (.ifCond .ne 5, 3) := by decide +kernel
theorem d_GT_judge_62 : decode b_GT_judge 62 = .ok (.iconst 4, 1) := by decide +kernel
theorem d_GT_judge_63 : decode b_GT_judge 63 = .ok (.ireturn, 1) := by decide +kernel
theorem d_GT_judge_64 : decode b_GT_judge 64 = .ok (.aload_n 0, 1) := by decide +kernel
theorem d_GT_judge_65 : decode b_GT_judge 65 = .ok (.getfield 26, 3) := by decide +kernel
theorem d_GT_judge_68 : decode b_GT_judge 68 = .ok (.getfield 126, 3) := by decide +kernel
theorem d_GT_judge_71 : decode b_GT_judge 71 = .ok (.iload_n 1, 1) := by decide +kernel
theorem d_GT_judge_72 : decode b_GT_judge 72 = .ok (.if_icmp .le 5, 3) := by decide +kernel
theorem d_GT_judge_75 : decode b_GT_judge 75 = .ok (.iconst 5, 1) := by decide +kernel
theorem d_GT_judge_76 : decode b_GT_judge 76 = .ok (.ireturn, 1) := by decide +kernel
theorem d_GT_judge_77 : decode b_GT_judge 77 = .ok (.aload_n 0, 1) := by decide +kernel
theorem d_GT_judge_78 : decode b_GT_judge 78 = .ok (.getfield 19, 3) := by decide +kernel
theorem d_GT_judge_81 : decode b_GT_judge 81 = .ok (.invokevirtual 129, 3) := by decide +kernel
theorem d_GT_judge_84 : decode b_GT_judge 84 = .ok (.ifCond .ge 8, 3) := by decide +kernel
theorem d_GT_judge_87 : decode b_GT_judge 87 = .ok (.bipush 6, 2) := by decide +kernel
theorem d_GT_judge_89 : decode b_GT_judge 89 = .ok (.goto 4, 3) := by decide +kernel
theorem d_GT_judge_92 : decode b_GT_judge 92 = .ok (.iconst 0, 1) := by decide +kernel
theorem d_GT_judge_93 : decode b_GT_judge 93 = .ok (.ireturn, 1) := by decide +kernel
end
section
set_option maxHeartbeats 4000000 in
set_option maxRecDepth 100000 in
theorem c_gt_feed (l : Launch) (dC : Nat → ClassId) (dI : Nat → Nat → Nat) (ad : Nat → Nat) (ck : Nat → ClassId) (rf : Int32) (n : Nat) (fr : Nat → Int32) (a : Nat) (ar : Nat → Int32) (z : Nat → Nat) (pc : Nat) (pe : Int32) (pt pp : Nat) (pf : Nat → Nat → Int32) (ic : Nat) (ie ip iz ia : Int32) (st rt : Nat → Int32) (pb : Nat → Nat → Int32) (w1 w2 w3 w4 w5 : Int32) (hn : n ≤ 65536) (sz : Nat) : Met l y_GT_feed w_GT_feed { frames := 1, cells := 0, slots := 0, locals := 30 } (va_Pc [.ref (ad 0), .int w1, .int w2, .int w3, .int w4, .int w5] (xP (dC, dI) (tyG ck) (wsG ad ck rf n fr a ar z pc pe pt pp pf ic ie ip iz ia st rt pb) sz)) (xQi (dC, dI) (tyG ck) (va_A (wsG ad ck rf n fr a ar z pc pe pt pp pf ic ie ip iz ia st rt pb) sz) (wsG ad ck rf (fdN n) (fdF n fr w1 w2 w3 w4 w5) a ar z pc pe pt pp pf ic ie ip iz ia st rt pb) (fun r => r = bI (n + 20 ≤ 65536))) 0 0 (va_A (wsG ad ck rf n fr a ar z pc pe pt pp pf ic ie ip iz ia st rt pb) sz) := by
  refine xof (cc := b_GT_feed) (maxL := 6) (ret := (some .boolean)) (own := R_GT) (Qc := fun A => (xQi (dC, dI) (tyG ck) A (wsG ad ck rf (fdN n) (fdF n fr w1 w2 w3 w4 w5) a ar z pc pe pt pp pf ic ie ip iz ia st rt pb) (fun r => r = bI (n + 20 ≤ 65536)))) (by decide) rfl rfl (Nat.le_of_ble_eq_true rfl) ?_ sz
  intro p e s m below meth c A C hnm hK hP hD hA hN hZ hS ls hl
  obtain ⟨hx, hb, hr, hml, hown, hts, hlocks⟩ := C
  have hl : lv_has ls 6 [(0, .ref (ad 0)), (1, .int w1), (2, .int w2), (3, .int w3), (4, .int w4), (5, .int w5)] := hl
  refine lv_aload_n hx hb d_GT_feed_0 rfl (lv_at hl 0 rfl) ?_
  refine va_get (D := (dC, dI)) (ci := 6) (v := .ref (ad 1)) (C := R_GT) (T := T_GT) (N := 5) hx hb hts i_GT hown hK hP 0 rfl rfl 0 (by decide) (hts _ wd_176) (fun _ h9 => h9) rfl d_GT_feed_1 ?_
  refine lv_bipush (v := 20) hx hb d_GT_feed_4 (by decide) ?_
  refine xcalli (va_runV (As := [.int 20]) (rest := []) ⟨hx, hb, hml, hown, hts⟩ (c_fb_hasRoom l dC dI ad ck rf n fr a ar z pc pe pt pp pf ic ie ip iz ia st rt pb hn s.heap.size) (cwV 1 hts (xgV wd_196 wd_197 wd_198 wd_16 wd_199) rfl rfl rfl (by decide +kernel) ⟨Nat.le_of_ble_eq_true rfl, Nat.le_of_ble_eq_true rfl⟩) (xpreV (q0 := 1) hK hN hZ hA hS hP hD rfl rfl) rfl rfl hl.1 rfl (lv_room (Nat.le_of_ble_eq_true rfl)) d_GT_feed_6 ⟨Nat.zero_le _, Nat.zero_le _⟩) hD hS hA (fun r_1 H locs hr_1 hP hD hS => ?_)
  subst hr_1
  refine lv_if_ne (tgt := 14) hx hb d_GT_feed_9 (by decide) (fun c_2 => ?_) (fun c_2 => ?_)
  · skip
    have c_2 := bI_t c_2
    refine lv_aload_n hx hb d_GT_feed_14 rfl (lv_at hl 0 rfl) ?_
    refine va_get (D := (dC, dI)) (ci := 6) (v := .ref (ad 1)) (C := R_GT) (T := T_GT) (N := 5) hx hb hts i_GT hown hK hP 0 rfl rfl 0 (by decide) (hts _ wd_176) (fun _ h9 => h9) rfl d_GT_feed_15 ?_
    refine lv_iload_n hx hb d_GT_feed_18 rfl (lv_at hl 1 rfl) ?_
    refine xcallv (va_runV (As := [.int w1]) (rest := []) ⟨hx, hb, hml, hown, hts⟩ (c_fb_append l dC dI ad ck rf n fr a ar z pc pe pt pp pf ic ie ip iz ia st rt pb w1 (by omega) H.size) (cwV 1 hts (xgV wd_200 wd_201 wd_202 wd_16 wd_203) rfl rfl rfl (by decide +kernel) ⟨Nat.le_of_ble_eq_true rfl, Nat.le_of_ble_eq_true rfl⟩) (xpreV (q0 := 1) hK hN hZ hA hS hP hD rfl rfl) rfl rfl hl.1 rfl (lv_room (Nat.le_of_ble_eq_true rfl)) d_GT_feed_19 ⟨Nat.zero_le _, Nat.zero_le _⟩) hD hS hA (fun H locs hP hD hS => ?_)
    refine lv_aload_n hx hb d_GT_feed_22 rfl (lv_at hl 0 rfl) ?_
    refine va_get (D := (dC, dI)) (ci := 6) (v := .ref (ad 1)) (C := R_GT) (T := T_GT) (N := 5) hx hb hts i_GT hown hK hP 0 rfl rfl 0 (by decide) (hts _ wd_176) (fun _ h9 => h9) rfl d_GT_feed_23 ?_
    refine lv_iload_n hx hb d_GT_feed_26 rfl (lv_at hl 2 rfl) ?_
    refine xcallv (va_runV (As := [.int w2]) (rest := []) ⟨hx, hb, hml, hown, hts⟩ (c_fb_append l dC dI ad ck rf (n + 4) (apW fr n w1) a ar z pc pe pt pp pf ic ie ip iz ia st rt pb w2 (by omega) H.size) (cwV 1 hts (xgV wd_200 wd_201 wd_202 wd_16 wd_203) rfl rfl rfl (by decide +kernel) ⟨Nat.le_of_ble_eq_true rfl, Nat.le_of_ble_eq_true rfl⟩) (xpreV (q0 := 1) hK hN hZ hA hS hP hD rfl rfl) rfl rfl hl.1 rfl (lv_room (Nat.le_of_ble_eq_true rfl)) d_GT_feed_27 ⟨Nat.zero_le _, Nat.zero_le _⟩) hD hS hA (fun H locs hP hD hS => ?_)
    refine lv_aload_n hx hb d_GT_feed_30 rfl (lv_at hl 0 rfl) ?_
    refine va_get (D := (dC, dI)) (ci := 6) (v := .ref (ad 1)) (C := R_GT) (T := T_GT) (N := 5) hx hb hts i_GT hown hK hP 0 rfl rfl 0 (by decide) (hts _ wd_176) (fun _ h9 => h9) rfl d_GT_feed_31 ?_
    refine lv_iload_n hx hb d_GT_feed_34 rfl (lv_at hl 3 rfl) ?_
    refine xcallv (va_runV (As := [.int w3]) (rest := []) ⟨hx, hb, hml, hown, hts⟩ (c_fb_append l dC dI ad ck rf (n + 4 + 4) (apW (apW fr n w1) (n + 4) w2) a ar z pc pe pt pp pf ic ie ip iz ia st rt pb w3 (by omega) H.size) (cwV 1 hts (xgV wd_200 wd_201 wd_202 wd_16 wd_203) rfl rfl rfl (by decide +kernel) ⟨Nat.le_of_ble_eq_true rfl, Nat.le_of_ble_eq_true rfl⟩) (xpreV (q0 := 1) hK hN hZ hA hS hP hD rfl rfl) rfl rfl hl.1 rfl (lv_room (Nat.le_of_ble_eq_true rfl)) d_GT_feed_35 ⟨Nat.zero_le _, Nat.zero_le _⟩) hD hS hA (fun H locs hP hD hS => ?_)
    refine lv_aload_n hx hb d_GT_feed_38 rfl (lv_at hl 0 rfl) ?_
    refine va_get (D := (dC, dI)) (ci := 6) (v := .ref (ad 1)) (C := R_GT) (T := T_GT) (N := 5) hx hb hts i_GT hown hK hP 0 rfl rfl 0 (by decide) (hts _ wd_176) (fun _ h9 => h9) rfl d_GT_feed_39 ?_
    refine lv_iload hx hb d_GT_feed_42 (lv_at hl 4 rfl) ?_
    refine xcallv (va_runV (As := [.int w4]) (rest := []) ⟨hx, hb, hml, hown, hts⟩ (c_fb_append l dC dI ad ck rf (n + 4 + 4 + 4) (apW (apW (apW fr n w1) (n + 4) w2) (n + 4 + 4) w3) a ar z pc pe pt pp pf ic ie ip iz ia st rt pb w4 (by omega) H.size) (cwV 1 hts (xgV wd_200 wd_201 wd_202 wd_16 wd_203) rfl rfl rfl (by decide +kernel) ⟨Nat.le_of_ble_eq_true rfl, Nat.le_of_ble_eq_true rfl⟩) (xpreV (q0 := 1) hK hN hZ hA hS hP hD rfl rfl) rfl rfl hl.1 rfl (lv_room (Nat.le_of_ble_eq_true rfl)) d_GT_feed_44 ⟨Nat.zero_le _, Nat.zero_le _⟩) hD hS hA (fun H locs hP hD hS => ?_)
    refine lv_aload_n hx hb d_GT_feed_47 rfl (lv_at hl 0 rfl) ?_
    refine va_get (D := (dC, dI)) (ci := 6) (v := .ref (ad 1)) (C := R_GT) (T := T_GT) (N := 5) hx hb hts i_GT hown hK hP 0 rfl rfl 0 (by decide) (hts _ wd_176) (fun _ h9 => h9) rfl d_GT_feed_48 ?_
    refine lv_iload hx hb d_GT_feed_51 (lv_at hl 5 rfl) ?_
    refine xcallv (va_runV (As := [.int w5]) (rest := []) ⟨hx, hb, hml, hown, hts⟩ (c_fb_append l dC dI ad ck rf (n + 4 + 4 + 4 + 4) (apW (apW (apW (apW fr n w1) (n + 4) w2) (n + 4 + 4) w3) (n + 4 + 4 + 4) w4) a ar z pc pe pt pp pf ic ie ip iz ia st rt pb w5 (by omega) H.size) (cwV 1 hts (xgV wd_200 wd_201 wd_202 wd_16 wd_203) rfl rfl rfl (by decide +kernel) ⟨Nat.le_of_ble_eq_true rfl, Nat.le_of_ble_eq_true rfl⟩) (xpreV (q0 := 1) hK hN hZ hA hS hP hD rfl rfl) rfl rfl hl.1 rfl (lv_room (Nat.le_of_ble_eq_true rfl)) d_GT_feed_53 ⟨Nat.zero_le _, Nat.zero_le _⟩) hD hS hA (fun H locs hP hD hS => ?_)
    refine lv_iconst (v := 1) hx hb d_GT_feed_56 (by decide) ?_
    have hw9 : wsG ad ck rf (n + 4 + 4 + 4 + 4 + 4) (apW (apW (apW (apW (apW fr n w1) (n + 4) w2) (n + 4 + 4) w3) (n + 4 + 4 + 4) w4) (n + 4 + 4 + 4 + 4) w5) a ar z pc pe pt pp pf ic ie ip iz ia st rt pb = wsG ad ck rf (fdN n) (fdF n fr w1 w2 w3 w4 w5) a ar z pc pe pt pp pf ic ie ip iz ia st rt pb := by rw [fdN, fdF, if_pos c_2, if_pos c_2]
    rw [hw9] at hP hD
    exact xreti (v := 1) hx hb hr hlocks hK hP hD hS (rfl) (bI_1 c_2) d_GT_feed_57
  · skip
    have c_2 := bI_f c_2
    refine lv_iconst (v := 0) hx hb d_GT_feed_12 (by decide) ?_
    have hw9 : wsG ad ck rf n fr a ar z pc pe pt pp pf ic ie ip iz ia st rt pb = wsG ad ck rf (fdN n) (fdF n fr w1 w2 w3 w4 w5) a ar z pc pe pt pp pf ic ie ip iz ia st rt pb := by rw [fdN, fdF, if_neg c_2, if_neg c_2]
    rw [hw9] at hP hD
    exact xreti (v := 0) hx hb hr hlocks hK hP hD hS (rfl) (bI_0 c_2) d_GT_feed_13
set_option maxHeartbeats 4000000 in
set_option maxRecDepth 100000 in
theorem c_gt_end (l : Launch) (dC : Nat → ClassId) (dI : Nat → Nat → Nat) (ad : Nat → Nat) (ck : Nat → ClassId) (rf : Int32) (n : Nat) (fr : Nat → Int32) (a : Nat) (ar : Nat → Int32) (z : Nat → Nat) (pc : Nat) (pe : Int32) (pt pp : Nat) (pf : Nat → Nat → Int32) (ic : Nat) (ie ip iz ia : Int32) (st rt : Nat → Int32) (pb : Nat → Nat → Int32) (k : Int32) (hn : n ≤ 65536) (sz : Nat) : Met l y_GT_end w_GT_end { frames := 1, cells := 0, slots := 0, locals := 30 } (va_Pc [.ref (ad 0), .int k] (xP (dC, dI) (tyG ck) (wsG ad ck rf n fr a ar z pc pe pt pp pf ic ie ip iz ia st rt pb) sz)) (xQi (dC, dI) (tyG ck) (va_A (wsG ad ck rf n fr a ar z pc pe pt pp pf ic ie ip iz ia st rt pb) sz) (wsG ad ck rf (fbCut n k) fr a ar z pc pe pt pp pf ic ie ip iz ia st rt pb) (fun r => r = bI (0 ≤ k.toInt ∧ k.toInt ≤ (n : Int)))) 0 0 (va_A (wsG ad ck rf n fr a ar z pc pe pt pp pf ic ie ip iz ia st rt pb) sz) := by
  refine xof (cc := b_GT_end) (maxL := 2) (ret := (some .boolean)) (own := R_GT) (Qc := fun A => (xQi (dC, dI) (tyG ck) A (wsG ad ck rf (fbCut n k) fr a ar z pc pe pt pp pf ic ie ip iz ia st rt pb) (fun r => r = bI (0 ≤ k.toInt ∧ k.toInt ≤ (n : Int))))) (by decide) rfl rfl (Nat.le_of_ble_eq_true rfl) ?_ sz
  intro p e s m below meth c A C hnm hK hP hD hA hN hZ hS ls hl
  obtain ⟨hx, hb, hr, hml, hown, hts, hlocks⟩ := C
  have hl : lv_has ls 2 [(0, .ref (ad 0)), (1, .int k)] := hl
  refine lv_aload_n hx hb d_GT_end_0 rfl (lv_at hl 0 rfl) ?_
  refine va_get (D := (dC, dI)) (ci := 6) (v := .ref (ad 1)) (C := R_GT) (T := T_GT) (N := 5) hx hb hts i_GT hown hK hP 0 rfl rfl 0 (by decide) (hts _ wd_176) (fun _ h9 => h9) rfl d_GT_end_1 ?_
  refine lv_iload_n hx hb d_GT_end_4 rfl (lv_at hl 1 rfl) ?_
  refine xcalli (va_runV (As := [.int k]) (rest := []) ⟨hx, hb, hml, hown, hts⟩ (c_fb_cut l dC dI ad ck rf n fr a ar z pc pe pt pp pf ic ie ip iz ia st rt pb k hn s.heap.size) (cwV 1 hts (xgV wd_208 wd_209 wd_210 wd_16 wd_211) rfl rfl rfl (by decide +kernel) ⟨Nat.le_of_ble_eq_true rfl, Nat.le_of_ble_eq_true rfl⟩) (xpreV (q0 := 1) hK hN hZ hA hS hP hD rfl rfl) rfl rfl hl.1 rfl (lv_room (Nat.le_of_ble_eq_true rfl)) d_GT_end_5 ⟨Nat.zero_le _, Nat.zero_le _⟩) hD hS hA (fun r_1 H locs hr_1 hP hD hS => ?_)
  subst hr_1
  exact xreti (v := bI (0 ≤ k.toInt ∧ k.toInt ≤ (n : Int))) hx hb hr hlocks hK hP hD hS (bI_n) (rfl) d_GT_end_8
set_option maxHeartbeats 4000000 in
set_option maxRecDepth 100000 in
theorem c_gt_set (l : Launch) (dC : Nat → ClassId) (dI : Nat → Nat → Nat) (ad : Nat → Nat) (ck : Nat → ClassId) (rf : Int32) (n : Nat) (fr : Nat → Int32) (a : Nat) (ar : Nat → Int32) (z : Nat → Nat) (pc : Nat) (pe : Int32) (pt pp : Nat) (pf : Nat → Nat → Int32) (ic : Nat) (ie ip iz ia : Int32) (st rt : Nat → Int32) (pb : Nat → Nat → Int32) (k b : Int32) (hn : n ≤ 65536) (sz : Nat) : Met l y_GT_set w_GT_set { frames := 2, cells := 0, slots := 0, locals := 50 } (va_Pc [.ref (ad 0), .int k, .int b] (xP (dC, dI) (tyG ck) (wsG ad ck rf n fr a ar z pc pe pt pp pf ic ie ip iz ia st rt pb) sz)) (xQi (dC, dI) (tyG ck) (va_A (wsG ad ck rf n fr a ar z pc pe pt pp pf ic ie ip iz ia st rt pb) sz) (wsG ad ck rf n (stF n fr k b) a ar z pc pe pt pp pf ic ie ip iz ia st rt pb) (fun r => r = bI (isB b ∧ 0 ≤ k.toInt ∧ k.toInt + ((1 : Nat) : Int) ≤ (n : Int)))) 0 0 (va_A (wsG ad ck rf n fr a ar z pc pe pt pp pf ic ie ip iz ia st rt pb) sz) := by
  refine xof (cc := b_GT_set) (maxL := 3) (ret := (some .boolean)) (own := R_GT) (Qc := fun A => (xQi (dC, dI) (tyG ck) A (wsG ad ck rf n (stF n fr k b) a ar z pc pe pt pp pf ic ie ip iz ia st rt pb) (fun r => r = bI (isB b ∧ 0 ≤ k.toInt ∧ k.toInt + ((1 : Nat) : Int) ≤ (n : Int))))) (by decide) rfl rfl (Nat.le_of_ble_eq_true rfl) ?_ sz
  intro p e s m below meth c A C hnm hK hP hD hA hN hZ hS ls hl
  obtain ⟨hx, hb, hr, hml, hown, hts, hlocks⟩ := C
  have hl : lv_has ls 3 [(0, .ref (ad 0)), (1, .int k), (2, .int b)] := hl
  refine lv_iload_n hx hb d_GT_set_0 rfl (lv_at hl 2 rfl) ?_
  refine lv_if_lt (tgt := 11) hx hb d_GT_set_1 (by decide) (fun c_1 => ?_) (fun c_1 => ?_)
  · skip
    have hB := p_b0 c_1
    refine lv_iconst (v := 0) hx hb d_GT_set_11 (by decide) ?_
    have hw9 : wsG ad ck rf n fr a ar z pc pe pt pp pf ic ie ip iz ia st rt pb = wsG ad ck rf n (stF n fr k b) a ar z pc pe pt pp pf ic ie ip iz ia st rt pb := by rw [stF, if_neg hB]
    rw [hw9] at hP hD
    exact xreti (v := 0) hx hb hr hlocks hK hP hD hS (rfl) (bI_0 (fun h9 => hB h9.1)) d_GT_set_12
  · skip
    refine lv_iload_n hx hb d_GT_set_4 rfl (lv_at hl 2 rfl) ?_
    refine lv_sipush (v := 255) hx hb d_GT_set_5 (by decide) ?_
    refine lv_icmp_le (tgt := 13) hx hb d_GT_set_8 (by decide) (fun c_2 => ?_) (fun c_2 => ?_)
    · skip
      have hB := (p_255 c_1).mp c_2
      refine lv_aload_n hx hb d_GT_set_13 rfl (lv_at hl 0 rfl) ?_
      refine va_get (D := (dC, dI)) (ci := 6) (v := .ref (ad 1)) (C := R_GT) (T := T_GT) (N := 5) hx hb hts i_GT hown hK hP 0 rfl rfl 0 (by decide) (hts _ wd_176) (fun _ h9 => h9) rfl d_GT_set_14 ?_
      refine lv_iload_n hx hb d_GT_set_17 rfl (lv_at hl 1 rfl) ?_
      refine lv_iconst (v := 1) hx hb d_GT_set_18 (by decide) ?_
      refine lv_iload_n hx hb d_GT_set_19 rfl (lv_at hl 2 rfl) ?_
      refine xcalli (va_runV (As := [.int k, .int 1, .int b]) (rest := []) ⟨hx, hb, hml, hown, hts⟩ (c_fb_write1 l dC dI ad ck rf n fr a ar z pc pe pt pp pf ic ie ip iz ia st rt pb k b hn s.heap.size) (cwV 3 hts (xgV wd_216 wd_217 wd_218 wd_16 wd_219) rfl rfl rfl (by decide +kernel) ⟨Nat.le_of_ble_eq_true rfl, Nat.le_of_ble_eq_true rfl⟩) (xpreV (q0 := 1) hK hN hZ hA hS hP hD rfl rfl) rfl rfl hl.1 rfl (lv_room (Nat.le_of_ble_eq_true rfl)) d_GT_set_20 ⟨Nat.zero_le _, Nat.zero_le _⟩) hD hS hA (fun r_3 H locs hr_3 hP hD hS => ?_)
      subst hr_3
      have hw9 : wsG ad ck rf n (fbWr 1 n fr k b) a ar z pc pe pt pp pf ic ie ip iz ia st rt pb = wsG ad ck rf n (stF n fr k b) a ar z pc pe pt pp pf ic ie ip iz ia st rt pb := by rw [stF, if_pos hB]
      rw [hw9] at hP hD
      exact xreti (v := bI (0 ≤ k.toInt ∧ k.toInt + ((1 : Nat) : Int) ≤ (n : Int))) hx hb hr hlocks hK hP hD hS (bI_n) (bI_and hB) d_GT_set_23
    · skip
      have hB : ¬ isB b := fun h9 => c_2 ((p_255 c_1).mpr h9)
      refine lv_iconst (v := 0) hx hb d_GT_set_11 (by decide) ?_
      have hw9 : wsG ad ck rf n fr a ar z pc pe pt pp pf ic ie ip iz ia st rt pb = wsG ad ck rf n (stF n fr k b) a ar z pc pe pt pp pf ic ie ip iz ia st rt pb := by rw [stF, if_neg hB]
      rw [hw9] at hP hD
      exact xreti (v := 0) hx hb hr hlocks hK hP hD hS (rfl) (bI_0 (fun h9 => hB h9.1)) d_GT_set_12
set_option maxHeartbeats 4000000 in
set_option maxRecDepth 100000 in
theorem c_gt_put (l : Launch) (dC : Nat → ClassId) (dI : Nat → Nat → Nat) (ad : Nat → Nat) (ck : Nat → ClassId) (rf : Int32) (n : Nat) (fr : Nat → Int32) (a : Nat) (ar : Nat → Int32) (z : Nat → Nat) (pc : Nat) (pe : Int32) (pt pp : Nat) (pf : Nat → Nat → Int32) (ic : Nat) (ie ip iz ia : Int32) (st rt : Nat → Int32) (pb : Nat → Nat → Int32) (k kn w : Int32) (hn : n ≤ 65536) (sz : Nat) : Met l y_GT_put w_GT_put { frames := 2, cells := 0, slots := 0, locals := 50 } (va_Pc [.ref (ad 0), .int k, .int kn, .int w] (xP (dC, dI) (tyG ck) (wsG ad ck rf n fr a ar z pc pe pt pp pf ic ie ip iz ia st rt pb) sz)) (xQi (dC, dI) (tyG ck) (va_A (wsG ad ck rf n fr a ar z pc pe pt pp pf ic ie ip iz ia st rt pb) sz) (wsG ad ck rf n (ptF n fr k kn w) a ar z pc pe pt pp pf ic ie ip iz ia st rt pb) (fun r => r = bI (mOK kn ∧ 0 ≤ k.toInt ∧ k.toInt + ((tN kn : Nat) : Int) ≤ (n : Int)))) 0 0 (va_A (wsG ad ck rf n fr a ar z pc pe pt pp pf ic ie ip iz ia st rt pb) sz) := by
  refine xof (cc := b_GT_put) (maxL := 4) (ret := (some .boolean)) (own := R_GT) (Qc := fun A => (xQi (dC, dI) (tyG ck) A (wsG ad ck rf n (ptF n fr k kn w) a ar z pc pe pt pp pf ic ie ip iz ia st rt pb) (fun r => r = bI (mOK kn ∧ 0 ≤ k.toInt ∧ k.toInt + ((tN kn : Nat) : Int) ≤ (n : Int))))) (by decide) rfl rfl (Nat.le_of_ble_eq_true rfl) ?_ sz
  intro p e s m below meth c A C hnm hK hP hD hA hN hZ hS ls hl
  obtain ⟨hx, hb, hr, hml, hown, hts, hlocks⟩ := C
  have hl : lv_has ls 4 [(0, .ref (ad 0)), (1, .int k), (2, .int kn), (3, .int w)] := hl
  refine lv_iload_n hx hb d_GT_put_0 rfl (lv_at hl 2 rfl) ?_
  refine lv_iconst (v := 1) hx hb d_GT_put_1 (by decide) ?_
  refine lv_icmp_eq (tgt := 17) hx hb d_GT_put_2 (by decide) (fun c_1 => ?_) (fun c_1 => ?_)
  · skip
    rw [c_1] at hl
    have hM : mOK kn := Or.inl c_1
    refine lv_aload_n hx hb d_GT_put_17 rfl (lv_at hl 0 rfl) ?_
    refine va_get (D := (dC, dI)) (ci := 6) (v := .ref (ad 1)) (C := R_GT) (T := T_GT) (N := 5) hx hb hts i_GT hown hK hP 0 rfl rfl 0 (by decide) (hts _ wd_176) (fun _ h9 => h9) rfl d_GT_put_18 ?_
    refine lv_iload_n hx hb d_GT_put_21 rfl (lv_at hl 1 rfl) ?_
    refine lv_iload_n hx hb d_GT_put_22 rfl (lv_at hl 2 rfl) ?_
    refine lv_iload_n hx hb d_GT_put_23 rfl (lv_at hl 3 rfl) ?_
    refine xcalli (va_runV (As := [.int k, .int 1, .int w]) (rest := []) ⟨hx, hb, hml, hown, hts⟩ (c_fb_write1 l dC dI ad ck rf n fr a ar z pc pe pt pp pf ic ie ip iz ia st rt pb k w hn s.heap.size) (cwV 3 hts (xgV wd_216 wd_217 wd_218 wd_16 wd_219) rfl rfl rfl (by decide +kernel) ⟨Nat.le_of_ble_eq_true rfl, Nat.le_of_ble_eq_true rfl⟩) (xpreV (q0 := 1) hK hN hZ hA hS hP hD rfl rfl) rfl rfl hl.1 rfl (lv_room (Nat.le_of_ble_eq_true rfl)) d_GT_put_24 ⟨Nat.zero_le _, Nat.zero_le _⟩) hD hS hA (fun r_2 H locs hr_2 hP hD hS => ?_)
    subst hr_2
    have hw9 : wsG ad ck rf n (fbWr 1 n fr k w) a ar z pc pe pt pp pf ic ie ip iz ia st rt pb = wsG ad ck rf n (ptF n fr k kn w) a ar z pc pe pt pp pf ic ie ip iz ia st rt pb := by rw [ptF, if_pos hM, show tN kn = 1 from by rw [c_1]; rfl]
    rw [hw9] at hP hD
    exact xreti (v := bI (0 ≤ k.toInt ∧ k.toInt + ((1 : Nat) : Int) ≤ (n : Int))) hx hb hr hlocks hK hP hD hS (bI_n) (by rw [show tN kn = 1 from by rw [c_1]; rfl]; exact bI_and hM) d_GT_put_27
  · skip
    refine lv_iload_n hx hb d_GT_put_5 rfl (lv_at hl 2 rfl) ?_
    refine lv_iconst (v := 2) hx hb d_GT_put_6 (by decide) ?_
    refine lv_icmp_eq (tgt := 17) hx hb d_GT_put_7 (by decide) (fun c_3 => ?_) (fun c_3 => ?_)
    · skip
      rw [c_3] at hl
      have hM : mOK kn := Or.inr (Or.inl c_3)
      refine lv_aload_n hx hb d_GT_put_17 rfl (lv_at hl 0 rfl) ?_
      refine va_get (D := (dC, dI)) (ci := 6) (v := .ref (ad 1)) (C := R_GT) (T := T_GT) (N := 5) hx hb hts i_GT hown hK hP 0 rfl rfl 0 (by decide) (hts _ wd_176) (fun _ h9 => h9) rfl d_GT_put_18 ?_
      refine lv_iload_n hx hb d_GT_put_21 rfl (lv_at hl 1 rfl) ?_
      refine lv_iload_n hx hb d_GT_put_22 rfl (lv_at hl 2 rfl) ?_
      refine lv_iload_n hx hb d_GT_put_23 rfl (lv_at hl 3 rfl) ?_
      refine xcalli (va_runV (As := [.int k, .int 2, .int w]) (rest := []) ⟨hx, hb, hml, hown, hts⟩ (c_fb_write2 l dC dI ad ck rf n fr a ar z pc pe pt pp pf ic ie ip iz ia st rt pb k w hn s.heap.size) (cwV 3 hts (xgV wd_216 wd_217 wd_218 wd_16 wd_219) rfl rfl rfl (by decide +kernel) ⟨Nat.le_of_ble_eq_true rfl, Nat.le_of_ble_eq_true rfl⟩) (xpreV (q0 := 1) hK hN hZ hA hS hP hD rfl rfl) rfl rfl hl.1 rfl (lv_room (Nat.le_of_ble_eq_true rfl)) d_GT_put_24 ⟨Nat.zero_le _, Nat.zero_le _⟩) hD hS hA (fun r_4 H locs hr_4 hP hD hS => ?_)
      subst hr_4
      have hw9 : wsG ad ck rf n (fbWr 2 n fr k w) a ar z pc pe pt pp pf ic ie ip iz ia st rt pb = wsG ad ck rf n (ptF n fr k kn w) a ar z pc pe pt pp pf ic ie ip iz ia st rt pb := by rw [ptF, if_pos hM, show tN kn = 2 from by rw [c_3]; rfl]
      rw [hw9] at hP hD
      exact xreti (v := bI (0 ≤ k.toInt ∧ k.toInt + ((2 : Nat) : Int) ≤ (n : Int))) hx hb hr hlocks hK hP hD hS (bI_n) (by rw [show tN kn = 2 from by rw [c_3]; rfl]; exact bI_and hM) d_GT_put_27
    · skip
      refine lv_iload_n hx hb d_GT_put_10 rfl (lv_at hl 2 rfl) ?_
      refine lv_iconst (v := 4) hx hb d_GT_put_11 (by decide) ?_
      refine lv_icmp_eq (tgt := 17) hx hb d_GT_put_12 (by decide) (fun c_5 => ?_) (fun c_5 => ?_)
      · skip
        rw [c_5] at hl
        have hM : mOK kn := Or.inr (Or.inr c_5)
        refine lv_aload_n hx hb d_GT_put_17 rfl (lv_at hl 0 rfl) ?_
        refine va_get (D := (dC, dI)) (ci := 6) (v := .ref (ad 1)) (C := R_GT) (T := T_GT) (N := 5) hx hb hts i_GT hown hK hP 0 rfl rfl 0 (by decide) (hts _ wd_176) (fun _ h9 => h9) rfl d_GT_put_18 ?_
        refine lv_iload_n hx hb d_GT_put_21 rfl (lv_at hl 1 rfl) ?_
        refine lv_iload_n hx hb d_GT_put_22 rfl (lv_at hl 2 rfl) ?_
        refine lv_iload_n hx hb d_GT_put_23 rfl (lv_at hl 3 rfl) ?_
        refine xcalli (va_runV (As := [.int k, .int 4, .int w]) (rest := []) ⟨hx, hb, hml, hown, hts⟩ (c_fb_write4 l dC dI ad ck rf n fr a ar z pc pe pt pp pf ic ie ip iz ia st rt pb k w hn s.heap.size) (cwV 3 hts (xgV wd_216 wd_217 wd_218 wd_16 wd_219) rfl rfl rfl (by decide +kernel) ⟨Nat.le_of_ble_eq_true rfl, Nat.le_of_ble_eq_true rfl⟩) (xpreV (q0 := 1) hK hN hZ hA hS hP hD rfl rfl) rfl rfl hl.1 rfl (lv_room (Nat.le_of_ble_eq_true rfl)) d_GT_put_24 ⟨Nat.zero_le _, Nat.zero_le _⟩) hD hS hA (fun r_6 H locs hr_6 hP hD hS => ?_)
        subst hr_6
        have hw9 : wsG ad ck rf n (fbWr 4 n fr k w) a ar z pc pe pt pp pf ic ie ip iz ia st rt pb = wsG ad ck rf n (ptF n fr k kn w) a ar z pc pe pt pp pf ic ie ip iz ia st rt pb := by rw [ptF, if_pos hM, show tN kn = 4 from by rw [c_5]; rfl]
        rw [hw9] at hP hD
        exact xreti (v := bI (0 ≤ k.toInt ∧ k.toInt + ((4 : Nat) : Int) ≤ (n : Int))) hx hb hr hlocks hK hP hD hS (bI_n) (by rw [show tN kn = 4 from by rw [c_5]; rfl]; exact bI_and hM) d_GT_put_27
      · skip
        have hM : ¬ mOK kn := fun h9 => h9.elim c_1 (fun h9 => h9.elim c_3 c_5)
        refine lv_iconst (v := 0) hx hb d_GT_put_15 (by decide) ?_
        have hw9 : wsG ad ck rf n fr a ar z pc pe pt pp pf ic ie ip iz ia st rt pb = wsG ad ck rf n (ptF n fr k kn w) a ar z pc pe pt pp pf ic ie ip iz ia st rt pb := by rw [ptF, if_neg hM]
        rw [hw9] at hP hD
        exact xreti (v := 0) hx hb hr hlocks hK hP hD hS (rfl) (bI_0 (fun h9 => hM h9.1)) d_GT_put_16
set_option maxHeartbeats 4000000 in
set_option maxRecDepth 100000 in
theorem c_gt_length (l : Launch) (dC : Nat → ClassId) (dI : Nat → Nat → Nat) (ad : Nat → Nat) (ck : Nat → ClassId) (rf : Int32) (n : Nat) (fr : Nat → Int32) (a : Nat) (ar : Nat → Int32) (z : Nat → Nat) (pc : Nat) (pe : Int32) (pt pp : Nat) (pf : Nat → Nat → Int32) (ic : Nat) (ie ip iz ia : Int32) (st rt : Nat → Int32) (pb : Nat → Nat → Int32) (sz : Nat) : Met l y_GT_length w_GT_length { frames := 0, cells := 0, slots := 0, locals := 0 } (va_Pc [.ref (ad 0)] (xP (dC, dI) (tyG ck) (wsG ad ck rf n fr a ar z pc pe pt pp pf ic ie ip iz ia st rt pb) sz)) (xQi (dC, dI) (tyG ck) (va_A (wsG ad ck rf n fr a ar z pc pe pt pp pf ic ie ip iz ia st rt pb) sz) (wsG ad ck rf n fr a ar z pc pe pt pp pf ic ie ip iz ia st rt pb) (fun r => r = nI n)) 0 0 (va_A (wsG ad ck rf n fr a ar z pc pe pt pp pf ic ie ip iz ia st rt pb) sz) := by
  refine xof (cc := b_GT_length) (maxL := 1) (ret := (some .int)) (own := R_GT) (Qc := fun A => (xQi (dC, dI) (tyG ck) A (wsG ad ck rf n fr a ar z pc pe pt pp pf ic ie ip iz ia st rt pb) (fun r => r = nI n))) (by decide) rfl rfl (Nat.le_of_ble_eq_true rfl) ?_ sz
  intro p e s m below meth c A C hnm hK hP hD hA hN hZ hS ls hl
  obtain ⟨hx, hb, hr, hml, hown, hts, hlocks⟩ := C
  have hl : lv_has ls 1 [(0, .ref (ad 0))] := hl
  refine lv_aload_n hx hb d_GT_length_0 rfl (lv_at hl 0 rfl) ?_
  refine va_get (D := (dC, dI)) (ci := 6) (v := .ref (ad 1)) (C := R_GT) (T := T_GT) (N := 5) hx hb hts i_GT hown hK hP 0 rfl rfl 0 (by decide) (hts _ wd_176) (fun _ h9 => h9) rfl d_GT_length_1 ?_
  refine va_getN (D := (dC, dI)) (ci := 1) (v := .int (nI n)) (C := R_FB) (T := T_FB) (N := 2) hx hb hts i_FB hown hK hP 1 rfl rfl 1 (by decide) (hN.use wd_43) (fun _ h9 => h9) rfl d_GT_length_4 ?_
  exact xreti (v := nI n) hx hb hr hlocks hK hP hD hS (rfl) (rfl) d_GT_length_7
set_option maxHeartbeats 4000000 in
set_option maxRecDepth 100000 in
theorem c_gt_argument (l : Launch) (dC : Nat → ClassId) (dI : Nat → Nat → Nat) (ad : Nat → Nat) (ck : Nat → ClassId) (rf : Int32) (n : Nat) (fr : Nat → Int32) (a : Nat) (ar : Nat → Int32) (z : Nat → Nat) (pc : Nat) (pe : Int32) (pt pp : Nat) (pf : Nat → Nat → Int32) (ic : Nat) (ie ip iz ia : Int32) (st rt : Nat → Int32) (pb : Nat → Nat → Int32) (ha : a ≤ 32) (sz : Nat) : Met l y_GT_argument w_GT_argument { frames := 1, cells := 0, slots := 0, locals := 30 } (va_Pc [.ref (ad 0)] (xP (dC, dI) (tyG ck) (wsG ad ck rf n fr a ar z pc pe pt pp pf ic ie ip iz ia st rt pb) sz)) (xQi (dC, dI) (tyG ck) (va_A (wsG ad ck rf n fr a ar z pc pe pt pp pf ic ie ip iz ia st rt pb) sz) (wsG ad ck rf n fr (agN a) ar (agZ a z) pc pe pt pp pf ic ie ip iz ia st rt pb) (fun r => r = bI (a < 32))) 0 0 (va_A (wsG ad ck rf n fr a ar z pc pe pt pp pf ic ie ip iz ia st rt pb) sz) := by
  refine xof (cc := b_GT_argument) (maxL := 1) (ret := (some .boolean)) (own := R_GT) (Qc := fun A => (xQi (dC, dI) (tyG ck) A (wsG ad ck rf n fr (agN a) ar (agZ a z) pc pe pt pp pf ic ie ip iz ia st rt pb) (fun r => r = bI (a < 32)))) (by decide) rfl rfl (Nat.le_of_ble_eq_true rfl) ?_ sz
  intro p e s m below meth c A C hnm hK hP hD hA hN hZ hS ls hl
  obtain ⟨hx, hb, hr, hml, hown, hts, hlocks⟩ := C
  have hl : lv_has ls 1 [(0, .ref (ad 0))] := hl
  refine lv_aload_n hx hb d_GT_argument_0 rfl (lv_at hl 0 rfl) ?_
  refine va_get (D := (dC, dI)) (ci := 6) (v := .ref (ad 3)) (C := R_GT) (T := T_GT) (N := 5) hx hb hts i_GT hown hK hP 0 rfl rfl 1 (by decide) (hts _ wd_177) (fun _ h9 => h9) rfl d_GT_argument_1 ?_
  refine xcalli (va_runV (As := []) (rest := []) ⟨hx, hb, hml, hown, hts⟩ (c_ag_open l dC dI ad ck rf n fr a ar z pc pe pt pp pf ic ie ip iz ia st rt pb ha s.heap.size) (cwV 0 hts (xgV wd_236 wd_237 wd_238 wd_17 wd_239) rfl rfl rfl (by decide +kernel) ⟨Nat.le_of_ble_eq_true rfl, Nat.le_of_ble_eq_true rfl⟩) (xpreV (q0 := 3) hK hN hZ hA hS hP hD rfl rfl) rfl rfl hl.1 rfl (lv_room (Nat.le_of_ble_eq_true rfl)) d_GT_argument_4 ⟨Nat.zero_le _, Nat.zero_le _⟩) hD hS hA (fun r_1 H locs hr_1 hP hD hS => ?_)
  subst hr_1
  exact xreti (v := bI (a < 32)) hx hb hr hlocks hK hP hD hS (bI_n) (rfl) d_GT_argument_7
set_option maxHeartbeats 4000000 in
set_option maxRecDepth 100000 in
theorem c_gt_letters (l : Launch) (dC : Nat → ClassId) (dI : Nat → Nat → Nat) (ad : Nat → Nat) (ck : Nat → ClassId) (rf : Int32) (n : Nat) (fr : Nat → Int32) (a : Nat) (ar : Nat → Int32) (z : Nat → Nat) (pc : Nat) (pe : Int32) (pt pp : Nat) (pf : Nat → Nat → Int32) (ic : Nat) (ie ip iz ia : Int32) (st rt : Nat → Int32) (pb : Nat → Nat → Int32) (w : Int64) (ha : a ≤ 32) (hz : ∀ j, z j ≤ 127) (sz : Nat) : Met l y_GT_letters w_GT_letters { frames := 2, cells := 0, slots := 0, locals := 50 } (va_Pc [.ref (ad 0), .long w] (xP (dC, dI) (tyG ck) (wsG ad ck rf n fr a ar z pc pe pt pp pf ic ie ip iz ia st rt pb) sz)) (xQi (dC, dI) (tyG ck) (va_A (wsG ad ck rf n fr a ar z pc pe pt pp pf ic ie ip iz ia st rt pb) sz) (wsG ad ck rf n fr a (exFA a ar z w) (exFZ a z w) pc pe pt pp pf ic ie ip iz ia st rt pb) (fun r => r = bI (0 < a ∧ z (a - 1) + ltN w 8 ≤ 127))) 0 0 (va_A (wsG ad ck rf n fr a ar z pc pe pt pp pf ic ie ip iz ia st rt pb) sz) := by
  refine xof (cc := b_GT_letters) (maxL := 3) (ret := (some .boolean)) (own := R_GT) (Qc := fun A => (xQi (dC, dI) (tyG ck) A (wsG ad ck rf n fr a (exFA a ar z w) (exFZ a z w) pc pe pt pp pf ic ie ip iz ia st rt pb) (fun r => r = bI (0 < a ∧ z (a - 1) + ltN w 8 ≤ 127)))) (by decide) rfl rfl (Nat.le_of_ble_eq_true rfl) ?_ sz
  intro p e s m below meth c A C hnm hK hP hD hA hN hZ hS ls hl
  obtain ⟨hx, hb, hr, hml, hown, hts, hlocks⟩ := C
  have hl : lv_has ls 3 [(0, .ref (ad 0)), (1, .long w)] := hl
  refine lv_aload_n hx hb d_GT_letters_0 rfl (lv_at hl 0 rfl) ?_
  refine va_get (D := (dC, dI)) (ci := 6) (v := .ref (ad 3)) (C := R_GT) (T := T_GT) (N := 5) hx hb hts i_GT hown hK hP 0 rfl rfl 1 (by decide) (hts _ wd_177) (fun _ h9 => h9) rfl d_GT_letters_1 ?_
  refine lv_lload_n hx hb d_GT_letters_4 rfl (lv_at hl 1 rfl) ?_
  refine xcalli (va_runV (As := [.long w]) (rest := []) ⟨hx, hb, hml, hown, hts⟩ (c_ag_extend l dC dI ad ck rf n fr a ar z pc pe pt pp pf ic ie ip iz ia st rt pb w ha hz s.heap.size) (cwV 1 hts (xgV wd_244 wd_245 wd_246 wd_17 wd_247) rfl rfl rfl (by decide +kernel) ⟨Nat.le_of_ble_eq_true rfl, Nat.le_of_ble_eq_true rfl⟩) (xpreV (q0 := 3) hK hN hZ hA hS hP hD rfl rfl) rfl rfl hl.1 rfl (lv_room (Nat.le_of_ble_eq_true rfl)) d_GT_letters_5 ⟨Nat.zero_le _, Nat.zero_le _⟩) hD hS hA (fun r_1 H locs hr_1 hP hD hS => ?_)
  subst hr_1
  exact xreti (v := bI (0 < a ∧ z (a - 1) + ltN w 8 ≤ 127)) hx hb hr hlocks hK hP hD hS (bI_n) (rfl) d_GT_letters_8
set_option maxHeartbeats 4000000 in
set_option maxRecDepth 100000 in
theorem c_gt_forget (l : Launch) (dC : Nat → ClassId) (dI : Nat → Nat → Nat) (ad : Nat → Nat) (ck : Nat → ClassId) (rf : Int32) (n : Nat) (fr : Nat → Int32) (a : Nat) (ar : Nat → Int32) (z : Nat → Nat) (pc : Nat) (pe : Int32) (pt pp : Nat) (pf : Nat → Nat → Int32) (ic : Nat) (ie ip iz ia : Int32) (st rt : Nat → Int32) (pb : Nat → Nat → Int32) (sz : Nat) : Met l y_GT_forget w_GT_forget { frames := 0, cells := 0, slots := 0, locals := 0 } (va_Pc [.ref (ad 0)] (xP (dC, dI) (tyG ck) (wsG ad ck rf n fr a ar z pc pe pt pp pf ic ie ip iz ia st rt pb) sz)) (xQv (dC, dI) (tyG ck) (va_A (wsG ad ck rf n fr a ar z pc pe pt pp pf ic ie ip iz ia st rt pb) sz) (wsG ad ck rf n fr 0 ar z pc pe pt pp pf ic ie ip iz ia st rt pb)) 0 0 (va_A (wsG ad ck rf n fr a ar z pc pe pt pp pf ic ie ip iz ia st rt pb) sz) := by
  refine xof (cc := b_GT_forget) (maxL := 1) (ret := none) (own := R_GT) (Qc := fun A => (xQv (dC, dI) (tyG ck) A (wsG ad ck rf n fr 0 ar z pc pe pt pp pf ic ie ip iz ia st rt pb))) (by decide) rfl rfl (Nat.le_of_ble_eq_true rfl) ?_ sz
  intro p e s m below meth c A C hnm hK hP hD hA hN hZ hS ls hl
  obtain ⟨hx, hb, hr, hml, hown, hts, hlocks⟩ := C
  have hl : lv_has ls 1 [(0, .ref (ad 0))] := hl
  refine lv_aload_n hx hb d_GT_forget_0 rfl (lv_at hl 0 rfl) ?_
  refine va_get (D := (dC, dI)) (ci := 6) (v := .ref (ad 3)) (C := R_GT) (T := T_GT) (N := 5) hx hb hts i_GT hown hK hP 0 rfl rfl 1 (by decide) (hts _ wd_177) (fun _ h9 => h9) rfl d_GT_forget_1 ?_
  refine lv_iconst (v := 0) hx hb d_GT_forget_4 (by decide) ?_
  refine va_putN (D := (dC, dI)) (ci := 0) (v := .int 0) (ty := .int) (C := R_AG) (T := T_AG) (N := 3) hx hb hts i_AG t_AG k_AG n_AG hown hK hP hD hS 3 rfl rfl 2 (by decide) (hN.use wd_60) (fun _ h9 => h9) rfl (by decide +kernel) rfl rfl (Nat.le_of_ble_eq_true rfl) d_GT_forget_5 (fun H locs hP hD hS => ?_)
  have hP : va_P (dC, dI) vwCl (wsG ad ck rf n fr 0 ar z pc pe pt pp pf ic ie ip iz ia st rt pb) H := hP
  have hD : va_D A (wsG ad ck rf n fr 0 ar z pc pe pt pp pf ic ie ip iz ia st rt pb) := hD
  exact xretv hx hb hr hlocks hK hP hD hS d_GT_forget_8
set_option maxHeartbeats 4000000 in
set_option maxRecDepth 100000 in
theorem c_gt_why (l : Launch) (dC : Nat → ClassId) (dI : Nat → Nat → Nat) (ad : Nat → Nat) (ck : Nat → ClassId) (rf : Int32) (n : Nat) (fr : Nat → Int32) (a : Nat) (ar : Nat → Int32) (z : Nat → Nat) (pc : Nat) (pe : Int32) (pt pp : Nat) (pf : Nat → Nat → Int32) (ic : Nat) (ie ip iz ia : Int32) (st rt : Nat → Int32) (pb : Nat → Nat → Int32) (sz : Nat) : Met l y_GT_why w_GT_why { frames := 0, cells := 0, slots := 0, locals := 0 } (va_Pc [.ref (ad 0)] (xP (dC, dI) (tyG ck) (wsG ad ck rf n fr a ar z pc pe pt pp pf ic ie ip iz ia st rt pb) sz)) (xQi (dC, dI) (tyG ck) (va_A (wsG ad ck rf n fr a ar z pc pe pt pp pf ic ie ip iz ia st rt pb) sz) (wsG ad ck rf n fr a ar z pc pe pt pp pf ic ie ip iz ia st rt pb) (fun r => r = rf)) 0 0 (va_A (wsG ad ck rf n fr a ar z pc pe pt pp pf ic ie ip iz ia st rt pb) sz) := by
  refine xof (cc := b_GT_why) (maxL := 1) (ret := (some .int)) (own := R_GT) (Qc := fun A => (xQi (dC, dI) (tyG ck) A (wsG ad ck rf n fr a ar z pc pe pt pp pf ic ie ip iz ia st rt pb) (fun r => r = rf))) (by decide) rfl rfl (Nat.le_of_ble_eq_true rfl) ?_ sz
  intro p e s m below meth c A C hnm hK hP hD hA hN hZ hS ls hl
  obtain ⟨hx, hb, hr, hml, hown, hts, hlocks⟩ := C
  have hl : lv_has ls 1 [(0, .ref (ad 0))] := hl
  refine lv_aload_n hx hb d_GT_why_0 rfl (lv_at hl 0 rfl) ?_
  refine va_get (D := (dC, dI)) (ci := 6) (v := .int rf) (C := R_GT) (T := T_GT) (N := 5) hx hb hts i_GT hown hK hP 0 rfl rfl 4 (by decide) (hts _ wd_180) (fun _ h9 => h9) rfl d_GT_why_1 ?_
  exact xreti (v := rf) hx hb hr hlocks hK hP hD hS (rfl) (rfl) d_GT_why_4
set_option maxHeartbeats 4000000 in
set_option maxRecDepth 100000 in
theorem c_gt_about (l : Launch) (dC : Nat → ClassId) (dI : Nat → Nat → Nat) (ad : Nat → Nat) (ck : Nat → ClassId) (rf : Int32) (n : Nat) (fr : Nat → Int32) (a : Nat) (ar : Nat → Int32) (z : Nat → Nat) (pc : Nat) (pe : Int32) (pt pp : Nat) (pf : Nat → Nat → Int32) (ic : Nat) (ie ip iz ia : Int32) (st rt : Nat → Int32) (pb : Nat → Nat → Int32) (x : Int32) (sz : Nat) : Met l y_GT_about w_GT_about { frames := 0, cells := 0, slots := 0, locals := 0 } (va_Pc [.ref (ad 0), .int x] (xP (dC, dI) (tyG ck) (wsG ad ck rf n fr a ar z pc pe pt pp pf ic ie ip iz ia st rt pb) sz)) (xQi (dC, dI) (tyG ck) (va_A (wsG ad ck rf n fr a ar z pc pe pt pp pf ic ie ip iz ia st rt pb) sz) (wsG ad ck rf n fr a ar z pc pe pt pp pf ic ie ip iz ia st rt pb) (fun r => r = abO ie ip iz ia ic x)) 0 0 (va_A (wsG ad ck rf n fr a ar z pc pe pt pp pf ic ie ip iz ia st rt pb) sz) := by
  refine xof (cc := b_GT_about) (maxL := 2) (ret := (some .int)) (own := R_GT) (Qc := fun A => (xQi (dC, dI) (tyG ck) A (wsG ad ck rf n fr a ar z pc pe pt pp pf ic ie ip iz ia st rt pb) (fun r => r = abO ie ip iz ia ic x))) (by decide) rfl rfl (Nat.le_of_ble_eq_true rfl) ?_ sz
  intro p e s m below meth c A C hnm hK hP hD hA hN hZ hS ls hl
  obtain ⟨hx, hb, hr, hml, hown, hts, hlocks⟩ := C
  have hl : lv_has ls 2 [(0, .ref (ad 0)), (1, .int x)] := hl
  refine lv_iload_n hx hb d_GT_about_0 rfl (lv_at hl 1 rfl) ?_
  rcases sw5 x with h9 | h9 | h9 | h9 | h9 | h9
  · skip
    subst h9
    refine lv_tableIn (x := 0) (tgt := 36) hx hb d_GT_about_1 (by decide) (by decide) rfl (by decide) ?_
    refine lv_aload_n hx hb d_GT_about_36 rfl (lv_at hl 0 rfl) ?_
    refine va_get (D := (dC, dI)) (ci := 6) (v := .ref (ad 8)) (C := R_GT) (T := T_GT) (N := 5) hx hb hts i_GT hown hK hP 0 rfl rfl 3 (by decide) (hts _ wd_179) (fun _ h9 => h9) rfl d_GT_about_37 ?_
    refine va_getN (D := (dC, dI)) (ci := 2) (v := .int ie) (C := R_IM) (T := T_IM) (N := 6) hx hb hts i_IM hown hK hP 8 rfl rfl 2 (by decide) (hN.use wd_156) (fun _ h9 => h9) rfl d_GT_about_40 ?_
    exact xreti (v := ie) hx hb hr hlocks hK hP hD hS (rfl) (rfl) d_GT_about_43
  · skip
    subst h9
    refine lv_tableIn (x := 1) (tgt := 44) hx hb d_GT_about_1 (by decide) (by decide) rfl (by decide) ?_
    refine lv_aload_n hx hb d_GT_about_44 rfl (lv_at hl 0 rfl) ?_
    refine va_get (D := (dC, dI)) (ci := 6) (v := .ref (ad 8)) (C := R_GT) (T := T_GT) (N := 5) hx hb hts i_GT hown hK hP 0 rfl rfl 3 (by decide) (hts _ wd_179) (fun _ h9 => h9) rfl d_GT_about_45 ?_
    refine va_getN (D := (dC, dI)) (ci := 2) (v := .int ip) (C := R_IM) (T := T_IM) (N := 6) hx hb hts i_IM hown hK hP 8 rfl rfl 3 (by decide) (hN.use wd_158) (fun _ h9 => h9) rfl d_GT_about_48 ?_
    exact xreti (v := ip) hx hb hr hlocks hK hP hD hS (rfl) (rfl) d_GT_about_51
  · skip
    subst h9
    refine lv_tableIn (x := 2) (tgt := 52) hx hb d_GT_about_1 (by decide) (by decide) rfl (by decide) ?_
    refine lv_aload_n hx hb d_GT_about_52 rfl (lv_at hl 0 rfl) ?_
    refine va_get (D := (dC, dI)) (ci := 6) (v := .ref (ad 8)) (C := R_GT) (T := T_GT) (N := 5) hx hb hts i_GT hown hK hP 0 rfl rfl 3 (by decide) (hts _ wd_179) (fun _ h9 => h9) rfl d_GT_about_53 ?_
    refine va_getN (D := (dC, dI)) (ci := 2) (v := .int iz) (C := R_IM) (T := T_IM) (N := 6) hx hb hts i_IM hown hK hP 8 rfl rfl 4 (by decide) (hN.use wd_160) (fun _ h9 => h9) rfl d_GT_about_56 ?_
    exact xreti (v := iz) hx hb hr hlocks hK hP hD hS (rfl) (rfl) d_GT_about_59
  · skip
    subst h9
    refine lv_tableIn (x := 3) (tgt := 60) hx hb d_GT_about_1 (by decide) (by decide) rfl (by decide) ?_
    refine lv_aload_n hx hb d_GT_about_60 rfl (lv_at hl 0 rfl) ?_
    refine va_get (D := (dC, dI)) (ci := 6) (v := .ref (ad 8)) (C := R_GT) (T := T_GT) (N := 5) hx hb hts i_GT hown hK hP 0 rfl rfl 3 (by decide) (hts _ wd_179) (fun _ h9 => h9) rfl d_GT_about_61 ?_
    refine va_getN (D := (dC, dI)) (ci := 2) (v := .int ia) (C := R_IM) (T := T_IM) (N := 6) hx hb hts i_IM hown hK hP 8 rfl rfl 5 (by decide) (hN.use wd_162) (fun _ h9 => h9) rfl d_GT_about_64 ?_
    exact xreti (v := ia) hx hb hr hlocks hK hP hD hS (rfl) (rfl) d_GT_about_67
  · skip
    subst h9
    refine lv_tableIn (x := 4) (tgt := 68) hx hb d_GT_about_1 (by decide) (by decide) rfl (by decide) ?_
    refine lv_aload_n hx hb d_GT_about_68 rfl (lv_at hl 0 rfl) ?_
    refine va_get (D := (dC, dI)) (ci := 6) (v := .ref (ad 8)) (C := R_GT) (T := T_GT) (N := 5) hx hb hts i_GT hown hK hP 0 rfl rfl 3 (by decide) (hts _ wd_179) (fun _ h9 => h9) rfl d_GT_about_69 ?_
    refine va_getN (D := (dC, dI)) (ci := 2) (v := .int (nI ic)) (C := R_IM) (T := T_IM) (N := 6) hx hb hts i_IM hown hK hP 8 rfl rfl 1 (by decide) (hN.use wd_154) (fun _ h9 => h9) rfl d_GT_about_72 ?_
    exact xreti (v := nI ic) hx hb hr hlocks hK hP hD hS (rfl) (rfl) d_GT_about_75
  · skip
    refine lv_tableOut (tgt := 76) hx hb d_GT_about_1 h9 (by decide) ?_
    refine lv_iconst (v := (-1)) hx hb d_GT_about_76 (by decide) ?_
    exact xreti (v := (-1)) hx hb hr hlocks hK hP hD hS (rfl) (by rw [abO, if_neg (sw5d h9 (by decide)), if_neg (sw5d h9 (by decide)), if_neg (sw5d h9 (by decide)), if_neg (sw5d h9 (by decide)), if_neg (sw5d h9 (by decide))]) d_GT_about_77
set_option maxHeartbeats 4000000 in
set_option maxRecDepth 100000 in
theorem c_gt_at (l : Launch) (dC : Nat → ClassId) (dI : Nat → Nat → Nat) (ad : Nat → Nat) (ck : Nat → ClassId) (rf : Int32) (n : Nat) (fr : Nat → Int32) (a : Nat) (ar : Nat → Int32) (z : Nat → Nat) (pc : Nat) (pe : Int32) (pt pp : Nat) (pf : Nat → Nat → Int32) (ic : Nat) (ie ip iz ia : Int32) (st rt : Nat → Int32) (pb : Nat → Nat → Int32) (x : Int32) (hic : ic ≤ 32) (sz : Nat) : Met l y_GT_at w_GT_at { frames := 1, cells := 0, slots := 0, locals := 30 } (va_Pc [.ref (ad 0), .int x] (xP (dC, dI) (tyG ck) (wsG ad ck rf n fr a ar z pc pe pt pp pf ic ie ip iz ia st rt pb) sz)) (xQi (dC, dI) (tyG ck) (va_A (wsG ad ck rf n fr a ar z pc pe pt pp pf ic ie ip iz ia st rt pb) sz) (wsG ad ck rf n fr a ar z pc pe pt pp pf ic ie ip iz ia st rt pb) (fun r => r = atO st pb ic x)) 0 0 (va_A (wsG ad ck rf n fr a ar z pc pe pt pp pf ic ie ip iz ia st rt pb) sz) := by
  refine xof (cc := b_GT_at) (maxL := 3) (ret := (some .int)) (own := R_GT) (Qc := fun A => (xQi (dC, dI) (tyG ck) A (wsG ad ck rf n fr a ar z pc pe pt pp pf ic ie ip iz ia st rt pb) (fun r => r = atO st pb ic x))) (by decide) rfl rfl (Nat.le_of_ble_eq_true rfl) ?_ sz
  intro p e s m below meth c A C hnm hK hP hD hA hN hZ hS ls hl
  obtain ⟨hx, hb, hr, hml, hown, hts, hlocks⟩ := C
  have hl : lv_has ls 3 [(0, .ref (ad 0)), (1, .int x)] := hl
  refine lv_aload_n hx hb d_GT_at_0 rfl (lv_at hl 0 rfl) ?_
  refine va_get (D := (dC, dI)) (ci := 6) (v := .ref (ad 8)) (C := R_GT) (T := T_GT) (N := 5) hx hb hts i_GT hown hK hP 0 rfl rfl 3 (by decide) (hts _ wd_179) (fun _ h9 => h9) rfl d_GT_at_1 ?_
  refine lv_iload_n hx hb d_GT_at_4 rfl (lv_at hl 1 rfl) ?_
  refine xcallq (va_runV (As := [.int x]) (rest := []) ⟨hx, hb, hml, hown, hts⟩ (c_im_find l dC dI ad ck rf n fr a ar z pc pe pt pp pf ic ie ip iz ia st rt pb x hic s.heap.size) (cwV 1 hts (xgV wd_373 wd_374 wd_375 wd_20 wd_376) rfl rfl rfl (by decide +kernel) ⟨Nat.le_of_ble_eq_true rfl, Nat.le_of_ble_eq_true rfl⟩) (xpreV (q0 := 8) hK hN hZ hA hS hP hD rfl rfl) rfl rfl hl.1 rfl (lv_room (Nat.le_of_ble_eq_true rfl)) d_GT_at_5 ⟨Nat.zero_le _, Nat.zero_le _⟩) hD hS hA (fun r_1 H locs hr_1 hP hD hS => ?_)
  cases hfd : fdI st (x &&& (-4096)) ic 0 with
  | none =>
    have e9 : r_1 = none := by rw [hr_1, hfd]; rfl
    subst e9
    refine lv_astore_nN (lv' := [(2, .null), (0, .ref (ad 0)), (1, .int x)]) hx hb d_GT_at_8 rfl hl (by decide) rfl (fun ls hl => ?_)
    refine lv_aload_nN hx hb d_GT_at_9 rfl (lv_at hl 0 rfl) ?_
    refine lv_ifnonnullN hx hb d_GT_at_10 ?_
    refine lv_iconst (v := (-1)) hx hb d_GT_at_13 (by decide) ?_
    refine lv_goto (tgt := 27) hx hb d_GT_at_14 (by decide) ?_
    exact xreti (v := (-1)) hx hb hr hlocks hK hP hD hS (rfl) (by rw [atO, hfd]) d_GT_at_27
  | some j =>
    have e9 : r_1 = some (ad (j + 20)) := by rw [hr_1, hfd]; rfl
    have hj := fdI_lt ic 0 j hfd
    have hj : j < 32 := by omega
    subst e9
    refine lv_astore_n (lv' := [(2, .ref (ad (j + 20))), (0, .ref (ad 0)), (1, .int x)]) hx hb d_GT_at_8 rfl hl (by decide) rfl (fun ls hl => ?_)
    refine lv_aload_n hx hb d_GT_at_9 rfl (lv_at hl 0 rfl) ?_
    refine lv_ifnonnull (tgt := 17) hx hb d_GT_at_10 (by decide) ?_
    refine lv_aload_n hx hb d_GT_at_17 rfl (lv_at hl 0 rfl) ?_
    refine lv_iload_n hx hb d_GT_at_18 rfl (lv_at hl 2 rfl) ?_
    refine lv_aload_n hx hb d_GT_at_19 rfl (lv_at hl 0 rfl) ?_
    refine va_getN (D := (dC, dI)) (ci := 3) (v := .int (st j)) (C := R_PG) (T := T_PG) (N := 3) hx hb hts i_PG hown hK hP (j + 18) (wsG_page hj) rfl 1 (by decide) (hN.use wd_142) (fun _ h9 => h9) rfl d_GT_at_20 ?_
    refine lv_isub hx hb d_GT_at_23 ?_
    refine xcalli (va_runV (As := [.int (x - (st j))]) (rest := []) ⟨hx, hb, hml, hown, hts⟩ (c_pg_read l dC dI ad ck rf n fr a ar z pc pe pt pp pf ic ie ip iz ia st rt pb j (x - (st j)) hj H.size) (cwV 1 hts (xgV wd_377 wd_378 wd_379 wd_21 wd_380) rfl rfl rfl (by decide +kernel) ⟨Nat.le_of_ble_eq_true rfl, Nat.le_of_ble_eq_true rfl⟩) (xpreV (q0 := (j + 18)) hK hN hZ hA hS hP hD rfl (wsG_page hj)) rfl rfl hl.1 rfl (lv_room (Nat.le_of_ble_eq_true rfl)) d_GT_at_24 ⟨Nat.zero_le _, Nat.zero_le _⟩) hD hS hA (fun r_2 H locs hr_2 hP hD hS => ?_)
    subst hr_2
    exact xreti (v := rdB (pb j) (x - (st j))) hx hb hr hlocks hK hP hD hS (rfl) (by rw [atO, hfd]) d_GT_at_27
set_option maxHeartbeats 4000000 in
set_option maxRecDepth 100000 in
theorem c_gt_flags (l : Launch) (dC : Nat → ClassId) (dI : Nat → Nat → Nat) (ad : Nat → Nat) (ck : Nat → ClassId) (rf : Int32) (n : Nat) (fr : Nat → Int32) (a : Nat) (ar : Nat → Int32) (z : Nat → Nat) (pc : Nat) (pe : Int32) (pt pp : Nat) (pf : Nat → Nat → Int32) (ic : Nat) (ie ip iz ia : Int32) (st rt : Nat → Int32) (pb : Nat → Nat → Int32) (x : Int32) (hic : ic ≤ 32) (sz : Nat) : Met l y_GT_flags w_GT_flags { frames := 1, cells := 0, slots := 0, locals := 30 } (va_Pc [.ref (ad 0), .int x] (xP (dC, dI) (tyG ck) (wsG ad ck rf n fr a ar z pc pe pt pp pf ic ie ip iz ia st rt pb) sz)) (xQi (dC, dI) (tyG ck) (va_A (wsG ad ck rf n fr a ar z pc pe pt pp pf ic ie ip iz ia st rt pb) sz) (wsG ad ck rf n fr a ar z pc pe pt pp pf ic ie ip iz ia st rt pb) (fun r => r = flO st rt ic x)) 0 0 (va_A (wsG ad ck rf n fr a ar z pc pe pt pp pf ic ie ip iz ia st rt pb) sz) := by
  refine xof (cc := b_GT_flags) (maxL := 3) (ret := (some .int)) (own := R_GT) (Qc := fun A => (xQi (dC, dI) (tyG ck) A (wsG ad ck rf n fr a ar z pc pe pt pp pf ic ie ip iz ia st rt pb) (fun r => r = flO st rt ic x))) (by decide) rfl rfl (Nat.le_of_ble_eq_true rfl) ?_ sz
  intro p e s m below meth c A C hnm hK hP hD hA hN hZ hS ls hl
  obtain ⟨hx, hb, hr, hml, hown, hts, hlocks⟩ := C
  have hl : lv_has ls 3 [(0, .ref (ad 0)), (1, .int x)] := hl
  refine lv_aload_n hx hb d_GT_flags_0 rfl (lv_at hl 0 rfl) ?_
  refine va_get (D := (dC, dI)) (ci := 6) (v := .ref (ad 8)) (C := R_GT) (T := T_GT) (N := 5) hx hb hts i_GT hown hK hP 0 rfl rfl 3 (by decide) (hts _ wd_179) (fun _ h9 => h9) rfl d_GT_flags_1 ?_
  refine lv_iload_n hx hb d_GT_flags_4 rfl (lv_at hl 1 rfl) ?_
  refine xcallq (va_runV (As := [.int x]) (rest := []) ⟨hx, hb, hml, hown, hts⟩ (c_im_find l dC dI ad ck rf n fr a ar z pc pe pt pp pf ic ie ip iz ia st rt pb x hic s.heap.size) (cwV 1 hts (xgV wd_373 wd_374 wd_375 wd_20 wd_376) rfl rfl rfl (by decide +kernel) ⟨Nat.le_of_ble_eq_true rfl, Nat.le_of_ble_eq_true rfl⟩) (xpreV (q0 := 8) hK hN hZ hA hS hP hD rfl rfl) rfl rfl hl.1 rfl (lv_room (Nat.le_of_ble_eq_true rfl)) d_GT_flags_5 ⟨Nat.zero_le _, Nat.zero_le _⟩) hD hS hA (fun r_1 H locs hr_1 hP hD hS => ?_)
  cases hfd : fdI st (x &&& (-4096)) ic 0 with
  | none =>
    have e9 : r_1 = none := by rw [hr_1, hfd]; rfl
    subst e9
    refine lv_astore_nN (lv' := [(2, .null), (0, .ref (ad 0)), (1, .int x)]) hx hb d_GT_flags_8 rfl hl (by decide) rfl (fun ls hl => ?_)
    refine lv_aload_nN hx hb d_GT_flags_9 rfl (lv_at hl 0 rfl) ?_
    refine lv_ifnonnullN hx hb d_GT_flags_10 ?_
    refine lv_iconst (v := (-1)) hx hb d_GT_flags_13 (by decide) ?_
    refine lv_goto (tgt := 21) hx hb d_GT_flags_14 (by decide) ?_
    exact xreti (v := (-1)) hx hb hr hlocks hK hP hD hS (rfl) (by rw [flO, hfd]) d_GT_flags_21
  | some j =>
    have e9 : r_1 = some (ad (j + 20)) := by rw [hr_1, hfd]; rfl
    have hj := fdI_lt ic 0 j hfd
    have hj : j < 32 := by omega
    subst e9
    refine lv_astore_n (lv' := [(2, .ref (ad (j + 20))), (0, .ref (ad 0)), (1, .int x)]) hx hb d_GT_flags_8 rfl hl (by decide) rfl (fun ls hl => ?_)
    refine lv_aload_n hx hb d_GT_flags_9 rfl (lv_at hl 0 rfl) ?_
    refine lv_ifnonnull (tgt := 17) hx hb d_GT_flags_10 (by decide) ?_
    refine lv_aload_n hx hb d_GT_flags_17 rfl (lv_at hl 0 rfl) ?_
    refine va_getN (D := (dC, dI)) (ci := 3) (v := .int (rt j)) (C := R_PG) (T := T_PG) (N := 3) hx hb hts i_PG hown hK hP (j + 18) (wsG_page hj) rfl 2 (by decide) (hN.use wd_144) (fun _ h9 => h9) rfl d_GT_flags_18 ?_
    exact xreti (v := rt j) hx hb hr hlocks hK hP hD hS (rfl) (by rw [flO, hfd]) d_GT_flags_21
set_option maxHeartbeats 4000000 in
set_option maxRecDepth 100000 in
theorem c_gt_judge (l : Launch) (dC : Nat → ClassId) (dI : Nat → Nat → Nat) (ad : Nat → Nat) (ck : Nat → ClassId) (rf : Int32) (n : Nat) (fr : Nat → Int32) (a : Nat) (ar : Nat → Int32) (z : Nat → Nat) (pc : Nat) (pe : Int32) (pt pp : Nat) (pf : Nat → Nat → Int32) (ic : Nat) (ie ip iz ia : Int32) (st rt : Nat → Int32) (pb : Nat → Nat → Int32) (room : Nat) (hroom : room ≤ 32) (ha : a ≤ 32) (hz : ∀ j, z j ≤ 127) (hn : n ≤ 65536) (sz : Nat) : Met l y_GT_judge w_GT_judge { frames := 5, cells := 0, slots := 0, locals := 140 } (va_Pc [.ref (ad 0), .int (nI room)] (xP (dC, dI) (tyG ck) (wsG ad ck rf n fr a ar z pc pe pt pp pf ic ie ip iz ia st rt pb) sz)) (xQi (dC, dI) (tyG ck) (va_A (wsG ad ck rf n fr a ar z pc pe pt pp pf ic ie ip iz ia st rt pb) sz) (wsG ad ck rf n fr a ar z ((jdP n fr pe (pc, pt, pp, pf)).2.1) ((jdP n fr pe (pc, pt, pp, pf)).1) ((jdP n fr pe (pc, pt, pp, pf)).2.2.1) ((jdP n fr pe (pc, pt, pp, pf)).2.2.2.1) ((jdP n fr pe (pc, pt, pp, pf)).2.2.2.2) ic ie ip iz ia st rt pb) (fun r => r = nI (jdC n fr a z pf room))) 0 0 (va_A (wsG ad ck rf n fr a ar z pc pe pt pp pf ic ie ip iz ia st rt pb) sz) := by
  refine xof (cc := b_GT_judge) (maxL := 2) (ret := (some .int)) (own := R_GT) (Qc := fun A => (xQi (dC, dI) (tyG ck) A (wsG ad ck rf n fr a ar z ((jdP n fr pe (pc, pt, pp, pf)).2.1) ((jdP n fr pe (pc, pt, pp, pf)).1) ((jdP n fr pe (pc, pt, pp, pf)).2.2.1) ((jdP n fr pe (pc, pt, pp, pf)).2.2.2.1) ((jdP n fr pe (pc, pt, pp, pf)).2.2.2.2) ic ie ip iz ia st rt pb) (fun r => r = nI (jdC n fr a z pf room)))) (by decide) rfl rfl (Nat.le_of_ble_eq_true rfl) ?_ sz
  intro p e s m below meth c A C hnm hK hP hD hA hN hZ hS ls hl
  obtain ⟨hx, hb, hr, hml, hown, hts, hlocks⟩ := C
  have hl : lv_has ls 2 [(0, .ref (ad 0)), (1, .int (nI room))] := hl
  refine lv_aload_n hx hb d_GT_judge_0 rfl (lv_at hl 0 rfl) ?_
  refine va_get (D := (dC, dI)) (ci := 6) (v := .ref (ad 6)) (C := R_GT) (T := T_GT) (N := 5) hx hb hts i_GT hown hK hP 0 rfl rfl 2 (by decide) (hts _ wd_178) (fun _ h9 => h9) rfl d_GT_judge_1 ?_
  refine lv_aload_n hx hb d_GT_judge_4 rfl (lv_at hl 0 rfl) ?_
  refine va_get (D := (dC, dI)) (ci := 6) (v := .ref (ad 1)) (C := R_GT) (T := T_GT) (N := 5) hx hb hts i_GT hown hK hP 0 rfl rfl 0 (by decide) (hts _ wd_176) (fun _ h9 => h9) rfl d_GT_judge_5 ?_
  refine xcalli (va_runV (As := [.ref (ad 1)]) (rest := []) ⟨hx, hb, hml, hown, hts⟩ (c_pl_beginsAsImage l dC dI ad ck rf n fr a ar z pc pe pt pp pf ic ie ip iz ia st rt pb hn s.heap.size) (cwV 1 hts (xgV wd_269 wd_270 wd_271 wd_18 wd_272) rfl rfl rfl (by decide +kernel) ⟨Nat.le_of_ble_eq_true rfl, Nat.le_of_ble_eq_true rfl⟩) (xpreV (q0 := 6) hK hN hZ hA hS hP hD rfl rfl) rfl rfl hl.1 rfl (lv_room (Nat.le_of_ble_eq_true rfl)) d_GT_judge_8 ⟨Nat.zero_le _, Nat.zero_le _⟩) hD hS hA (fun r_1 H locs hr_1 hP hD hS => ?_)
  subst hr_1
  refine lv_if_ne (tgt := 16) hx hb d_GT_judge_11 (by decide) (fun c_2 => ?_) (fun c_2 => ?_)
  · skip
    have c_2 := bI_t c_2
    have h52 := c_2.1
    refine lv_aload_n hx hb d_GT_judge_16 rfl (lv_at hl 0 rfl) ?_
    refine va_get (D := (dC, dI)) (ci := 6) (v := .ref (ad 6)) (C := R_GT) (T := T_GT) (N := 5) hx hb hts i_GT hown hK hP 0 rfl rfl 2 (by decide) (hts _ wd_178) (fun _ h9 => h9) rfl d_GT_judge_17 ?_
    refine lv_aload_n hx hb d_GT_judge_20 rfl (lv_at hl 0 rfl) ?_
    refine va_get (D := (dC, dI)) (ci := 6) (v := .ref (ad 1)) (C := R_GT) (T := T_GT) (N := 5) hx hb hts i_GT hown hK hP 0 rfl rfl 0 (by decide) (hts _ wd_176) (fun _ h9 => h9) rfl d_GT_judge_21 ?_
    refine xcalli (va_runV (As := [.ref (ad 1)]) (rest := []) ⟨hx, hb, hml, hown, hts⟩ (c_pl_isOfOurKind l dC dI ad ck rf n fr a ar z pc pe pt pp pf ic ie ip iz ia st rt pb h52 hn H.size) (cwV 1 hts (xgV wd_281 wd_282 wd_283 wd_18 wd_284) rfl rfl rfl (by decide +kernel) ⟨Nat.le_of_ble_eq_true rfl, Nat.le_of_ble_eq_true rfl⟩) (xpreV (q0 := 6) hK hN hZ hA hS hP hD rfl rfl) rfl rfl hl.1 rfl (lv_room (Nat.le_of_ble_eq_true rfl)) d_GT_judge_24 ⟨Nat.zero_le _, Nat.zero_le _⟩) hD hS hA (fun r_3 H locs hr_3 hP hD hS => ?_)
    subst hr_3
    refine lv_if_ne (tgt := 32) hx hb d_GT_judge_27 (by decide) (fun c_4 => ?_) (fun c_4 => ?_)
    · skip
      have c_4 := bI_t c_4
      have hk8 : nbN fr 44 2 ≤ 8 := c_4.2.2.2.2
      refine lv_aload_n hx hb d_GT_judge_32 rfl (lv_at hl 0 rfl) ?_
      refine va_get (D := (dC, dI)) (ci := 6) (v := .ref (ad 6)) (C := R_GT) (T := T_GT) (N := 5) hx hb hts i_GT hown hK hP 0 rfl rfl 2 (by decide) (hts _ wd_178) (fun _ h9 => h9) rfl d_GT_judge_33 ?_
      refine lv_aload_n hx hb d_GT_judge_36 rfl (lv_at hl 0 rfl) ?_
      refine va_get (D := (dC, dI)) (ci := 6) (v := .ref (ad 1)) (C := R_GT) (T := T_GT) (N := 5) hx hb hts i_GT hown hK hP 0 rfl rfl 0 (by decide) (hts _ wd_176) (fun _ h9 => h9) rfl d_GT_judge_37 ?_
      refine xcalli (va_runV (As := [.ref (ad 1)]) (rest := []) ⟨hx, hb, hml, hown, hts⟩ (c_pl_hasAllHeaders l dC dI ad ck rf n fr a ar z pc pe pt pp pf ic ie ip iz ia st rt pb hk8 h52 hn H.size) (cwV 1 hts (xgV wd_288 wd_289 wd_290 wd_18 wd_291) rfl rfl rfl (by decide +kernel) ⟨Nat.le_of_ble_eq_true rfl, Nat.le_of_ble_eq_true rfl⟩) (xpreV (q0 := 6) hK hN hZ hA hS hP hD rfl rfl) rfl rfl hl.1 rfl (lv_room (Nat.le_of_ble_eq_true rfl)) d_GT_judge_40 ⟨Nat.zero_le _, Nat.zero_le _⟩) hD hS hA (fun r_5 H locs hr_5 hP hD hS => ?_)
      subst hr_5
      refine lv_if_ne (tgt := 48) hx hb d_GT_judge_43 (by decide) (fun c_6 => ?_) (fun c_6 => ?_)
      · skip
        have c_6 := bI_t c_6
        have hin := c_6
        refine lv_aload_n hx hb d_GT_judge_48 rfl (lv_at hl 0 rfl) ?_
        refine va_get (D := (dC, dI)) (ci := 6) (v := .ref (ad 6)) (C := R_GT) (T := T_GT) (N := 5) hx hb hts i_GT hown hK hP 0 rfl rfl 2 (by decide) (hts _ wd_178) (fun _ h9 => h9) rfl d_GT_judge_49 ?_
        refine lv_aload_n hx hb d_GT_judge_52 rfl (lv_at hl 0 rfl) ?_
        refine va_get (D := (dC, dI)) (ci := 6) (v := .ref (ad 1)) (C := R_GT) (T := T_GT) (N := 5) hx hb hts i_GT hown hK hP 0 rfl rfl 0 (by decide) (hts _ wd_176) (fun _ h9 => h9) rfl d_GT_judge_53 ?_
        refine xcalli (va_runV (As := [.ref (ad 1)]) (rest := []) ⟨hx, hb, hml, hown, hts⟩ (c_pl_readParts l dC dI ad ck rf n fr a ar z pc pe pt pp pf ic ie ip iz ia st rt pb hin hk8 h52 hn H.size) (cwV 1 hts (xgV wd_298 wd_299 wd_300 wd_18 wd_301) rfl rfl rfl (by decide +kernel) ⟨Nat.le_of_ble_eq_true rfl, Nat.le_of_ble_eq_true rfl⟩) (xpreV (q0 := 6) hK hN hZ hA hS hP hD rfl rfl) rfl rfl hl.1 rfl (lv_room (Nat.le_of_ble_eq_true rfl)) d_GT_judge_56 ⟨Nat.zero_le _, Nat.zero_le _⟩) hD hS hA (fun r_7 H locs hr_7 hP hD hS => ?_)
        subst hr_7
        refine lv_if_ne (tgt := 64) hx hb d_GT_judge_59 (by decide) (fun c_8 => ?_) (fun c_8 => ?_)
        · skip
          have c_8 := bI_t c_8
          have hinv := plAll_inv fr n pf; have hi1 := hinv.1; have hi2 := hinv.2; have hi3 := p_ppb hi1 hi2
          refine lv_aload_n hx hb d_GT_judge_64 rfl (lv_at hl 0 rfl) ?_
          refine va_get (D := (dC, dI)) (ci := 6) (v := .ref (ad 6)) (C := R_GT) (T := T_GT) (N := 5) hx hb hts i_GT hown hK hP 0 rfl rfl 2 (by decide) (hts _ wd_178) (fun _ h9 => h9) rfl d_GT_judge_65 ?_
          refine va_getN (D := (dC, dI)) (ci := 5) (v := .int (nI ((plAll fr n pf).2.2.2.1))) (C := R_PL) (T := T_PL) (N := 5) hx hb hts i_PL hown hK hP 6 rfl rfl 4 (by decide) (hN.use wd_112) (fun _ h9 => h9) rfl d_GT_judge_68 ?_
          refine lv_iload_n hx hb d_GT_judge_71 rfl (lv_at hl 1 rfl) ?_
          refine lv_icmp_le (tgt := 77) hx hb d_GT_judge_72 (by decide) (fun c_9 => ?_) (fun c_9 => ?_)
          · skip
            have c_9 : (plAll fr n pf).2.2.2.1 ≤ room := (nI_leI (a := (plAll fr n pf).2.2.2.1) (b := room) (by omega) (by omega)).mp c_9
            refine lv_aload_n hx hb d_GT_judge_77 rfl (lv_at hl 0 rfl) ?_
            refine va_get (D := (dC, dI)) (ci := 6) (v := .ref (ad 3)) (C := R_GT) (T := T_GT) (N := 5) hx hb hts i_GT hown hK hP 0 rfl rfl 1 (by decide) (hts _ wd_177) (fun _ h9 => h9) rfl d_GT_judge_78 ?_
            refine xcalli (va_runV (As := []) (rest := []) ⟨hx, hb, hml, hown, hts⟩ (c_ag_stackPointer l dC dI ad ck rf n fr a ar z ((plAll fr n pf).2.1) (nI (nbN fr 24 4)) ((plAll fr n pf).2.2.1) ((plAll fr n pf).2.2.2.1) ((plAll fr n pf).2.2.2.2) ic ie ip iz ia st rt pb ha hz H.size) (cwV 0 hts (xgV wd_311 wd_312 wd_313 wd_17 wd_314) rfl rfl rfl (by decide +kernel) ⟨Nat.le_of_ble_eq_true rfl, Nat.le_of_ble_eq_true rfl⟩) (xpreV (q0 := 3) hK hN hZ hA hS hP hD rfl rfl) rfl rfl hl.1 rfl (lv_room (Nat.le_of_ble_eq_true rfl)) d_GT_judge_81 ⟨Nat.zero_le _, Nat.zero_le _⟩) hD hS hA (fun r_10 H locs hr_10 hP hD hS => ?_)
            subst hr_10
            refine lv_if_ge (tgt := 92) hx hb d_GT_judge_84 (by decide) (fun c_11 => ?_) (fun c_11 => ?_)
            · skip
              refine lv_iconst (v := 0) hx hb d_GT_judge_92 (by decide) ?_
              have hw9 : wsG ad ck rf n fr a ar z ((plAll fr n pf).2.1) (nI (nbN fr 24 4)) ((plAll fr n pf).2.2.1) ((plAll fr n pf).2.2.2.1) ((plAll fr n pf).2.2.2.2) ic ie ip iz ia st rt pb = wsG ad ck rf n fr a ar z ((jdP n fr pe (pc, pt, pp, pf)).2.1) ((jdP n fr pe (pc, pt, pp, pf)).1) ((jdP n fr pe (pc, pt, pp, pf)).2.2.1) ((jdP n fr pe (pc, pt, pp, pf)).2.2.2.1) ((jdP n fr pe (pc, pt, pp, pf)).2.2.2.2) ic ie ip iz ia st rt pb := by rw [jdP, if_pos (show rch n fr from ⟨c_2, c_4, c_6⟩)]
              rw [hw9] at hP hD
              exact xreti (v := 0) hx hb hr hlocks hK hP hD hS (rfl) (by rw [jdC, if_neg (not_not_intro c_2), if_neg (not_not_intro c_4), if_neg (not_not_intro c_6), if_neg (not_not_intro c_8), if_neg (not_not_intro c_9), if_neg (not_not_intro c_11)]; rfl) d_GT_judge_93
            · skip
              refine lv_bipush (v := 6) hx hb d_GT_judge_87 (by decide) ?_
              refine lv_goto (tgt := 93) hx hb d_GT_judge_89 (by decide) ?_
              have hw9 : wsG ad ck rf n fr a ar z ((plAll fr n pf).2.1) (nI (nbN fr 24 4)) ((plAll fr n pf).2.2.1) ((plAll fr n pf).2.2.2.1) ((plAll fr n pf).2.2.2.2) ic ie ip iz ia st rt pb = wsG ad ck rf n fr a ar z ((jdP n fr pe (pc, pt, pp, pf)).2.1) ((jdP n fr pe (pc, pt, pp, pf)).1) ((jdP n fr pe (pc, pt, pp, pf)).2.2.1) ((jdP n fr pe (pc, pt, pp, pf)).2.2.2.1) ((jdP n fr pe (pc, pt, pp, pf)).2.2.2.2) ic ie ip iz ia st rt pb := by rw [jdP, if_pos (show rch n fr from ⟨c_2, c_4, c_6⟩)]
              rw [hw9] at hP hD
              exact xreti (v := 6) hx hb hr hlocks hK hP hD hS (rfl) (by rw [jdC, if_neg (not_not_intro c_2), if_neg (not_not_intro c_4), if_neg (not_not_intro c_6), if_neg (not_not_intro c_8), if_neg (not_not_intro c_9), if_pos c_11]; rfl) d_GT_judge_93
          · skip
            have c_9 : ¬ ((plAll fr n pf).2.2.2.1 ≤ room) := fun h9 => c_9 ((nI_leI (a := (plAll fr n pf).2.2.2.1) (b := room) (by omega) (by omega)).mpr h9)
            refine lv_iconst (v := 5) hx hb d_GT_judge_75 (by decide) ?_
            have hw9 : wsG ad ck rf n fr a ar z ((plAll fr n pf).2.1) (nI (nbN fr 24 4)) ((plAll fr n pf).2.2.1) ((plAll fr n pf).2.2.2.1) ((plAll fr n pf).2.2.2.2) ic ie ip iz ia st rt pb = wsG ad ck rf n fr a ar z ((jdP n fr pe (pc, pt, pp, pf)).2.1) ((jdP n fr pe (pc, pt, pp, pf)).1) ((jdP n fr pe (pc, pt, pp, pf)).2.2.1) ((jdP n fr pe (pc, pt, pp, pf)).2.2.2.1) ((jdP n fr pe (pc, pt, pp, pf)).2.2.2.2) ic ie ip iz ia st rt pb := by rw [jdP, if_pos (show rch n fr from ⟨c_2, c_4, c_6⟩)]
            rw [hw9] at hP hD
            exact xreti (v := 5) hx hb hr hlocks hK hP hD hS (rfl) (by rw [jdC, if_neg (not_not_intro c_2), if_neg (not_not_intro c_4), if_neg (not_not_intro c_6), if_neg (not_not_intro c_8), if_pos c_9]; rfl) d_GT_judge_76
        · skip
          have c_8 := bI_f c_8
          refine lv_iconst (v := 4) hx hb d_GT_judge_62 (by decide) ?_
          have hw9 : wsG ad ck rf n fr a ar z ((plAll fr n pf).2.1) (nI (nbN fr 24 4)) ((plAll fr n pf).2.2.1) ((plAll fr n pf).2.2.2.1) ((plAll fr n pf).2.2.2.2) ic ie ip iz ia st rt pb = wsG ad ck rf n fr a ar z ((jdP n fr pe (pc, pt, pp, pf)).2.1) ((jdP n fr pe (pc, pt, pp, pf)).1) ((jdP n fr pe (pc, pt, pp, pf)).2.2.1) ((jdP n fr pe (pc, pt, pp, pf)).2.2.2.1) ((jdP n fr pe (pc, pt, pp, pf)).2.2.2.2) ic ie ip iz ia st rt pb := by rw [jdP, if_pos (show rch n fr from ⟨c_2, c_4, c_6⟩)]
          rw [hw9] at hP hD
          exact xreti (v := 4) hx hb hr hlocks hK hP hD hS (rfl) (by rw [jdC, if_neg (not_not_intro c_2), if_neg (not_not_intro c_4), if_neg (not_not_intro c_6), if_pos c_8]; rfl) d_GT_judge_63
      · skip
        have c_6 := bI_f c_6
        refine lv_iconst (v := 3) hx hb d_GT_judge_46 (by decide) ?_
        have hw9 : wsG ad ck rf n fr a ar z pc pe pt pp pf ic ie ip iz ia st rt pb = wsG ad ck rf n fr a ar z ((jdP n fr pe (pc, pt, pp, pf)).2.1) ((jdP n fr pe (pc, pt, pp, pf)).1) ((jdP n fr pe (pc, pt, pp, pf)).2.2.1) ((jdP n fr pe (pc, pt, pp, pf)).2.2.2.1) ((jdP n fr pe (pc, pt, pp, pf)).2.2.2.2) ic ie ip iz ia st rt pb := by rw [jdP, if_neg (fun h9 : rch n fr => c_6 h9.2.2)]
        rw [hw9] at hP hD
        exact xreti (v := 3) hx hb hr hlocks hK hP hD hS (rfl) (by rw [jdC, if_neg (not_not_intro c_2), if_neg (not_not_intro c_4), if_pos c_6]; rfl) d_GT_judge_47
    · skip
      have c_4 := bI_f c_4
      refine lv_iconst (v := 2) hx hb d_GT_judge_30 (by decide) ?_
      have hw9 : wsG ad ck rf n fr a ar z pc pe pt pp pf ic ie ip iz ia st rt pb = wsG ad ck rf n fr a ar z ((jdP n fr pe (pc, pt, pp, pf)).2.1) ((jdP n fr pe (pc, pt, pp, pf)).1) ((jdP n fr pe (pc, pt, pp, pf)).2.2.1) ((jdP n fr pe (pc, pt, pp, pf)).2.2.2.1) ((jdP n fr pe (pc, pt, pp, pf)).2.2.2.2) ic ie ip iz ia st rt pb := by rw [jdP, if_neg (fun h9 : rch n fr => c_4 h9.2.1)]
      rw [hw9] at hP hD
      exact xreti (v := 2) hx hb hr hlocks hK hP hD hS (rfl) (by rw [jdC, if_neg (not_not_intro c_2), if_pos c_4]; rfl) d_GT_judge_31
  · skip
    have c_2 := bI_f c_2
    refine lv_iconst (v := 1) hx hb d_GT_judge_14 (by decide) ?_
    have hw9 : wsG ad ck rf n fr a ar z pc pe pt pp pf ic ie ip iz ia st rt pb = wsG ad ck rf n fr a ar z ((jdP n fr pe (pc, pt, pp, pf)).2.1) ((jdP n fr pe (pc, pt, pp, pf)).1) ((jdP n fr pe (pc, pt, pp, pf)).2.2.1) ((jdP n fr pe (pc, pt, pp, pf)).2.2.2.1) ((jdP n fr pe (pc, pt, pp, pf)).2.2.2.2) ic ie ip iz ia st rt pb := by rw [jdP, if_neg (fun h9 : rch n fr => c_2 h9.1)]
    rw [hw9] at hP hD
    exact xreti (v := 1) hx hb hr hlocks hK hP hD hS (rfl) (by rw [jdC, if_pos c_2]; rfl) d_GT_judge_15
end
section
theorem jdC_le (n : Nat) (fr : Nat → Int32) (a : Nat) (z : Nat → Nat) (pf : Nat → Nat → Int32) (room : Nat) : jdC n fr a z pf room ≤ 6 := by
  unfold jdC
  repeat' split
  all_goals omega
theorem p_and16 {x : Nat} (h : x < 2 ^ 31) : nI x &&& (-16) = nI (x / 16 * 16) := by
  apply Int32.toBitVec_inj.mp
  apply BitVec.eq_of_toNat_eq
  rw [Int32.toBitVec_and, BitVec.toNat_and, pk_tn (by omega), pk_tn (by omega)]
  have h4 : (-16 : Int32).toBitVec.toNat = 2 ^ 32 - 16 := rfl
  rw [h4]
  apply Nat.eq_of_testBit_eq
  intro i
  have e : (2 ^ 32 - 16 : Nat) = (2 ^ 28 - 1) * 2 ^ 4 := rfl
  rw [Nat.testBit_and, e, Nat.testBit_mul_two_pow, Nat.testBit_two_pow_sub_one, show x / 16 * 16 = (x / 2 ^ 4) * 2 ^ 4 from rfl, Nat.testBit_mul_two_pow, Nat.testBit_div_two_pow]
  by_cases hi : 4 ≤ i
  · simp only [hi, decide_true, Bool.true_and]
    rw [show i - 4 + 4 = i from by omega]
    by_cases h3 : i - 4 < 28
    · simp [h3]
    · simp only [h3, decide_false, Bool.and_false]
      exact (Nat.testBit_lt_two_pow (Nat.lt_of_lt_of_le h (Nat.pow_le_pow_right (by decide) (by omega)))).symm
  · simp [hi]
theorem sp_neg : ∀ d : Nat, d < 133 → 0 < d → (Int32.ofInt (-(d : Int)) &&& (-16)) < 0 := by decide
/-- the stack has room, or its pointer comes out below 0 -/
theorem p_sp {z : Nat → Nat} {a : Nat} (ha : a ≤ 32) : (0 ≤ spOf z a → ∃ P, spOf z a = nI P ∧ P + 4 * (a + 1) ≤ tpN z a ∧ P = (tpN z a - 4 * (a + 1)) / 16 * 16) ∧ (¬ 0 ≤ spOf z a → tpN z a < 4 * (a + 1)) := by
  have ht := tpN_le z a
  by_cases c : 4 * (a + 1) ≤ tpN z a
  · have e : spOf z a = nI ((tpN z a - 4 * (a + 1)) / 16 * 16) := by
      unfold spOf
      rw [pk_sub c]
      exact p_and16 (by omega)
    refine ⟨fun _ => ⟨_, e, by omega, rfl⟩, fun h => absurd ?_ h⟩
    rw [e]
    exact nI_pos' (by omega)
  · refine ⟨fun h => absurd h ?_, fun _ => by omega⟩
    have hx : nI (tpN z a) - nI (4 * (a + 1)) = Int32.ofInt (-((4 * (a + 1) - tpN z a : Nat) : Int)) := by
      apply Int32.toInt_inj.mp
      rw [pk_sub_toInt (by omega) (by omega), Int32.toInt_ofInt, show Int32.size = 4294967296 from rfl, Int.bmod_eq_of_le (by omega) (by omega)]
      omega
    unfold spOf
    rw [hx]
    have := sp_neg (4 * (a + 1) - tpN z a) (by omega) (by omega)
    exact Int32.not_le.mpr this
end
section
theorem d_GT_load_0 : decode b_GT_load 0 = .ok (.aload_n 0, 1) := by decide +kernel
theorem d_GT_load_1 : decode b_GT_load 1 = .ok (.aload_n 0, 1) := by decide +kernel
theorem d_GT_load_2 : decode b_GT_load 2 = .ok (.iconst 0, 1) := by decide +kernel
theorem d_GT_load_3 : decode b_GT_load 3 = .ok (.iload_n 1, 1) := by decide +kernel
theorem d_GT_load_4 : decode b_GT_load 4 = .ok (.bipush 32, 2) := by decide +kernel
theorem d_GT_load_6 : decode b_GT_load 6 = .ok (.invokestatic 68, 3) := by decide +kernel
theorem d_GT_load_9 : decode b_GT_load 9 = .ok (.invokestatic 74, 3) := by decide +kernel
theorem d_GT_load_12 : decode b_GT_load 12 = .ok (.invokevirtual 77, 3) := by decide +kernel
theorem d_GT_load_15 : decode b_GT_load 15 = .ok (.putfield 37, 3) := by decide +kernel
theorem d_GT_load_18 : decode b_GT_load 18 = .ok (.aload_n 0, 1) := by decide +kernel
theorem d_GT_load_19 : decode b_GT_load 19 = .ok (.getfield 37, 3) := by decide +kernel
theorem d_GT_load_22 : decode b_GT_load 22 = .ok (.ifCond .eq 5, 3) := by decide +kernel
theorem d_GT_load_25 : decode b_GT_load 25 = .ok (.iconst (-1), 1) := by decide +kernel
theorem d_GT_load_26 : decode b_GT_load 26 = .ok (.ireturn, 1) := by decide +kernel
theorem d_GT_load_27 : decode b_GT_load 27 = .ok (.aload_n 0, 1) := by decide +kernel
theorem d_GT_load_28 : decode b_GT_load 28 = .ok (.getfield 33, 3) := by decide +kernel
theorem d_GT_load_31 : decode b_GT_load 31 = .ok (.aload_n 0, 1) := by decide +kernel
theorem d_GT_load_32 : decode b_GT_load 32 = .ok (.getfield 26, 3) := by decide +kernel
theorem d_GT_load_35 : decode b_GT_load 35 = .ok (.aload_n 0, 1) := by decide +kernel
theorem d_GT_load_36 : decode b_GT_load 36 = .ok (.getfield 10, 3) := by decide +kernel
theorem d_GT_load_39 : decode b_GT_load 39 = .ok (.aload_n 0, 1) := by decide +kernel
theorem d_GT_load_40 : decode b_GT_load 40 = .ok (.getfield 19, 3) := by decide +kernel
theorem d_GT_load_43 : decode b_GT_load 43 = .ok (.invokevirtual 81, 3) := by decide +kernel
theorem d_GT_load_46 : decode b_GT_load 46 = .ok (.aload_n 0, 1) := by decide +kernel
theorem d_GT_load_47 : decode b_GT_load 47 = .ok (.getfield 33, 3) := by decide +kernel
theorem d_GT_load_50 : decode b_GT_load 50 = .ok (.getfield 85, 3) := by decide +kernel
theorem d_GT_load_53 : decode b_GT_load 53 = .ok (.ireturn, 1) := by decide +kernel
end
section
set_option maxHeartbeats 4000000 in
set_option maxRecDepth 100000 in
theorem c_gt_loadX (l : Launch) (dC : Nat → ClassId) (dI : Nat → Nat → Nat) (ad : Nat → Nat) (ck : Nat → ClassId) (rf : Int32) (n : Nat) (fr : Nat → Int32) (a : Nat) (ar : Nat → Int32) (z : Nat → Nat) (pc : Nat) (pe : Int32) (pt pp : Nat) (pf : Nat → Nat → Int32) (ic : Nat) (ie ip iz ia : Int32) (st rt : Nat → Int32) (pb : Nat → Nat → Int32) (k : Int32) (hX : ¬ jdC n fr a z pf (rmN k) = 0) (ha : a ≤ 32) (hz : ∀ j, z j ≤ 127) (hn : n ≤ 65536) (sz : Nat) : Met l y_GT_load w_GT_load { frames := 6, cells := 0, slots := 0, locals := 170 } (va_Pc [.ref (ad 0), .int k] (xP (dC, dI) (tyG ck) (wsG ad ck rf n fr a ar z pc pe pt pp pf ic ie ip iz ia st rt pb) sz)) (xQi (dC, dI) (tyG ck) (va_A (wsG ad ck rf n fr a ar z pc pe pt pp pf ic ie ip iz ia st rt pb) sz) (wsG ad ck (nI (jdC n fr a z pf (rmN k))) n fr a ar z ((jdP n fr pe (pc, pt, pp, pf)).2.1) ((jdP n fr pe (pc, pt, pp, pf)).1) ((jdP n fr pe (pc, pt, pp, pf)).2.2.1) ((jdP n fr pe (pc, pt, pp, pf)).2.2.2.1) ((jdP n fr pe (pc, pt, pp, pf)).2.2.2.2) ic ie ip iz ia st rt pb) (fun r => r = -1)) 0 0 (va_A (wsG ad ck rf n fr a ar z pc pe pt pp pf ic ie ip iz ia st rt pb) sz) := by
  refine xof (cc := b_GT_load) (maxL := 2) (ret := (some .int)) (own := R_GT) (Qc := fun A => (xQi (dC, dI) (tyG ck) A (wsG ad ck (nI (jdC n fr a z pf (rmN k))) n fr a ar z ((jdP n fr pe (pc, pt, pp, pf)).2.1) ((jdP n fr pe (pc, pt, pp, pf)).1) ((jdP n fr pe (pc, pt, pp, pf)).2.2.1) ((jdP n fr pe (pc, pt, pp, pf)).2.2.2.1) ((jdP n fr pe (pc, pt, pp, pf)).2.2.2.2) ic ie ip iz ia st rt pb) (fun r => r = -1))) (by decide) rfl rfl (Nat.le_of_ble_eq_true rfl) ?_ sz
  intro p e s m below meth c A C hnm hK hP hD hA hN hZ hS ls hl
  obtain ⟨hx, hb, hr, hml, hown, hts, hlocks⟩ := C
  have hl : lv_has ls 2 [(0, .ref (ad 0)), (1, .int k)] := hl
  have hj6 := jdC_le n fr a z pf (rmN k)
  refine lv_aload_n hx hb d_GT_load_0 rfl (lv_at hl 0 rfl) ?_
  refine lv_aload_n hx hb d_GT_load_1 rfl (lv_at hl 0 rfl) ?_
  refine lv_iconst (v := 0) hx hb d_GT_load_2 (by decide) ?_
  refine lv_iload_n hx hb d_GT_load_3 rfl (lv_at hl 1 rfl) ?_
  refine lv_bipush (v := 32) hx hb d_GT_load_4 (by decide) ?_
  refine va_mmin (rest := [.int 0, .ref (ad 0), .ref (ad 0)]) hx hb (hml.trans hl.1.symm) hown (hts _ wd_259) (hts _ wd_260) (hts _ wd_23) (hts _ wd_261) (Nat.le_of_ble_eq_true rfl) (Nat.le_of_ble_eq_true rfl) (Nat.zero_le _) (Nat.zero_le _) d_GT_load_6 ?_
  refine va_mmax (rest := [.ref (ad 0), .ref (ad 0)]) hx hb (hml.trans hl.1.symm) hown (hts _ wd_262) (hts _ wd_263) (hts _ wd_23) (hts _ wd_264) (Nat.le_of_ble_eq_true rfl) (Nat.le_of_ble_eq_true rfl) (Nat.zero_le _) (Nat.zero_le _) d_GT_load_9 ?_
  refine xtopi (y := nI (rmN k)) (p_room k) ?_
  refine xcalli (va_runV (As := [.int (nI (rmN k))]) (rest := [.ref (ad 0)]) ⟨hx, hb, hml, hown, hts⟩ (c_gt_judge l dC dI ad ck rf n fr a ar z pc pe pt pp pf ic ie ip iz ia st rt pb (rmN k) (rmN_le k) ha hz hn s.heap.size) (cwV 1 hts (xgV wd_265 wd_267 wd_0 wd_15 wd_268) rfl rfl rfl (by decide +kernel) ⟨Nat.le_of_ble_eq_true rfl, Nat.le_of_ble_eq_true rfl⟩) (xpreV (q0 := 0) hK hN hZ hA hS hP hD rfl rfl) rfl rfl hl.1 rfl (lv_room (Nat.le_of_ble_eq_true rfl)) d_GT_load_12 ⟨Nat.zero_le _, Nat.zero_le _⟩) hD hS hA (fun r_1 H locs hr_1 hP hD hS => ?_)
  subst hr_1
  refine va_put (D := (dC, dI)) (ci := 6) (v := .int (nI (jdC n fr a z pf (rmN k)))) (ty := .int) (C := R_GT) (T := T_GT) (N := 5) hx hb hts i_GT t_GT k_GT n_GT hown hK hP hD hS 0 rfl rfl 4 (by decide) (hts _ wd_180) (fun _ h9 => h9) rfl (by decide +kernel) rfl rfl (Nat.le_of_ble_eq_true rfl) d_GT_load_15 (fun H locs hP hD hS => ?_)
  have hP : va_P (dC, dI) vwCl (wsG ad ck (nI (jdC n fr a z pf (rmN k))) n fr a ar z ((jdP n fr pe (pc, pt, pp, pf)).2.1) ((jdP n fr pe (pc, pt, pp, pf)).1) ((jdP n fr pe (pc, pt, pp, pf)).2.2.1) ((jdP n fr pe (pc, pt, pp, pf)).2.2.2.1) ((jdP n fr pe (pc, pt, pp, pf)).2.2.2.2) ic ie ip iz ia st rt pb) H := hP
  have hD : va_D A (wsG ad ck (nI (jdC n fr a z pf (rmN k))) n fr a ar z ((jdP n fr pe (pc, pt, pp, pf)).2.1) ((jdP n fr pe (pc, pt, pp, pf)).1) ((jdP n fr pe (pc, pt, pp, pf)).2.2.1) ((jdP n fr pe (pc, pt, pp, pf)).2.2.2.1) ((jdP n fr pe (pc, pt, pp, pf)).2.2.2.2) ic ie ip iz ia st rt pb) := hD
  refine lv_aload_n hx hb d_GT_load_18 rfl (lv_at hl 0 rfl) ?_
  refine va_get (D := (dC, dI)) (ci := 6) (v := .int (nI (jdC n fr a z pf (rmN k)))) (C := R_GT) (T := T_GT) (N := 5) hx hb hts i_GT hown hK hP 0 rfl rfl 4 (by decide) (hts _ wd_180) (fun _ h9 => h9) rfl d_GT_load_19 ?_
  refine lv_if_eq (tgt := 27) hx hb d_GT_load_22 (by decide) (fun c_2 => ?_) (fun c_2 => ?_)
  · skip
    exact absurd ((nI_eq (a := jdC n fr a z pf (rmN k)) (b := 0) (by omega) (by omega)).mp c_2) hX
  · skip
    refine lv_iconst (v := (-1)) hx hb d_GT_load_25 (by decide) ?_
    exact xreti (v := (-1)) hx hb hr hlocks hK hP hD hS (rfl) (rfl) d_GT_load_26
set_option maxHeartbeats 4000000 in
set_option maxRecDepth 100000 in
theorem c_gt_load0 (l : Launch) (dC : Nat → ClassId) (dI : Nat → Nat → Nat) (ad : Nat → Nat) (ck : Nat → ClassId) (rf : Int32) (n : Nat) (fr : Nat → Int32) (a : Nat) (ar : Nat → Int32) (z : Nat → Nat) (pc : Nat) (pe : Int32) (pt pp : Nat) (pf : Nat → Nat → Int32) (ic : Nat) (ie ip iz ia : Int32) (st rt : Nat → Int32) (pb : Nat → Nat → Int32) (k : Int32) (pc2 pt2 pp2 : Nat) (pf2 : Nat → Nat → Int32) (h0 : jdC n fr a z pf (rmN k) = 0) (hrch : rch n fr) (hq : (plAll fr n pf).2 = (pc2, pt2, pp2, pf2)) (P : Nat) (hpc : pc2 ≤ 8) (hsum : gsum (ptG pf2) pc2 + 2 ≤ 32) (hfb : ∀ p, p < pc2 → tN (pf2 p 0) + tN (pf2 p 1) ≤ n) (hsp : spOf z a = nI P) (hP4 : P + 4 * (a + 1) ≤ tpN z a) (hFr : sb_Fit fr) (hAr : sb_Fit ar) (ha : a ≤ 32) (hz : ∀ j, z j ≤ 127) (hn : n ≤ 65536) (sz : Nat) : Met l y_GT_load w_GT_load { frames := 6, cells := 0, slots := 0, locals := 170 } (va_Pc [.ref (ad 0), .int k] (xP (dC, dI) (tyG ck) (wsG ad ck rf n fr a ar z pc pe pt pp pf ic ie ip iz ia st rt pb) sz)) (xQi (dC, dI) (tyG ck) (va_A (wsG ad ck rf n fr a ar z pc pe pt pp pf ic ie ip iz ia st rt pb) sz) (wsG ad ck (nI (jdC n fr a z pf (rmN k))) n fr a ar z pc2 (nI (nbN fr 24 4)) pt2 pp2 pf2 (gsum (ptG pf2) pc2 + 1 + 1) (nI (nbN fr 24 4)) ((upd (upd (lyS st pf2 pc2) (gsum (ptG pf2) pc2) (nI pt2)) (gsum (ptG pf2) pc2 + 1) (nI (pt2 + 4096))) (gsum (ptG pf2) pc2 + 1) + nI P) (nI (pt2 + 8192)) (nI a) (upd (upd (lyS st pf2 pc2) (gsum (ptG pf2) pc2) (nI pt2)) (gsum (ptG pf2) pc2 + 1) (nI (pt2 + 4096))) (upd (upd (lyR rt pf2 pc2) (gsum (ptG pf2) pc2) 3) (gsum (ptG pf2) pc2 + 1) 11) (upr (lpZ (lpZ (lyB pb fr pf2 pc2) (gsum (ptG pf2) pc2)) (gsum (ptG pf2) pc2 + 1)) (gsum (ptG pf2) pc2 + 1) (skT ((lpZ (lpZ (lyB pb fr pf2 pc2) (gsum (ptG pf2) pc2)) (gsum (ptG pf2) pc2 + 1)) (gsum (ptG pf2) pc2 + 1)) ar z P ((upd (upd (lyS st pf2 pc2) (gsum (ptG pf2) pc2) (nI pt2)) (gsum (ptG pf2) pc2 + 1) (nI (pt2 + 4096))) (gsum (ptG pf2) pc2 + 1)) a))) (fun r => r = nI (gsum (ptG pf2) pc2 + 1 + 1))) 0 0 (va_A (wsG ad ck rf n fr a ar z pc pe pt pp pf ic ie ip iz ia st rt pb) sz) := by
  refine xof (cc := b_GT_load) (maxL := 2) (ret := (some .int)) (own := R_GT) (Qc := fun A => (xQi (dC, dI) (tyG ck) A (wsG ad ck (nI (jdC n fr a z pf (rmN k))) n fr a ar z pc2 (nI (nbN fr 24 4)) pt2 pp2 pf2 (gsum (ptG pf2) pc2 + 1 + 1) (nI (nbN fr 24 4)) ((upd (upd (lyS st pf2 pc2) (gsum (ptG pf2) pc2) (nI pt2)) (gsum (ptG pf2) pc2 + 1) (nI (pt2 + 4096))) (gsum (ptG pf2) pc2 + 1) + nI P) (nI (pt2 + 8192)) (nI a) (upd (upd (lyS st pf2 pc2) (gsum (ptG pf2) pc2) (nI pt2)) (gsum (ptG pf2) pc2 + 1) (nI (pt2 + 4096))) (upd (upd (lyR rt pf2 pc2) (gsum (ptG pf2) pc2) 3) (gsum (ptG pf2) pc2 + 1) 11) (upr (lpZ (lpZ (lyB pb fr pf2 pc2) (gsum (ptG pf2) pc2)) (gsum (ptG pf2) pc2 + 1)) (gsum (ptG pf2) pc2 + 1) (skT ((lpZ (lpZ (lyB pb fr pf2 pc2) (gsum (ptG pf2) pc2)) (gsum (ptG pf2) pc2 + 1)) (gsum (ptG pf2) pc2 + 1)) ar z P ((upd (upd (lyS st pf2 pc2) (gsum (ptG pf2) pc2) (nI pt2)) (gsum (ptG pf2) pc2 + 1) (nI (pt2 + 4096))) (gsum (ptG pf2) pc2 + 1)) a))) (fun r => r = nI (gsum (ptG pf2) pc2 + 1 + 1)))) (by decide) rfl rfl (Nat.le_of_ble_eq_true rfl) ?_ sz
  intro p e s m below meth c A C hnm hK hP hD hA hN hZ hS ls hl
  obtain ⟨hx, hb, hr, hml, hown, hts, hlocks⟩ := C
  have hl : lv_has ls 2 [(0, .ref (ad 0)), (1, .int k)] := hl
  have hj6 := jdC_le n fr a z pf (rmN k)
  refine lv_aload_n hx hb d_GT_load_0 rfl (lv_at hl 0 rfl) ?_
  refine lv_aload_n hx hb d_GT_load_1 rfl (lv_at hl 0 rfl) ?_
  refine lv_iconst (v := 0) hx hb d_GT_load_2 (by decide) ?_
  refine lv_iload_n hx hb d_GT_load_3 rfl (lv_at hl 1 rfl) ?_
  refine lv_bipush (v := 32) hx hb d_GT_load_4 (by decide) ?_
  refine va_mmin (rest := [.int 0, .ref (ad 0), .ref (ad 0)]) hx hb (hml.trans hl.1.symm) hown (hts _ wd_259) (hts _ wd_260) (hts _ wd_23) (hts _ wd_261) (Nat.le_of_ble_eq_true rfl) (Nat.le_of_ble_eq_true rfl) (Nat.zero_le _) (Nat.zero_le _) d_GT_load_6 ?_
  refine va_mmax (rest := [.ref (ad 0), .ref (ad 0)]) hx hb (hml.trans hl.1.symm) hown (hts _ wd_262) (hts _ wd_263) (hts _ wd_23) (hts _ wd_264) (Nat.le_of_ble_eq_true rfl) (Nat.le_of_ble_eq_true rfl) (Nat.zero_le _) (Nat.zero_le _) d_GT_load_9 ?_
  refine xtopi (y := nI (rmN k)) (p_room k) ?_
  refine xcalli (va_runV (As := [.int (nI (rmN k))]) (rest := [.ref (ad 0)]) ⟨hx, hb, hml, hown, hts⟩ (c_gt_judge l dC dI ad ck rf n fr a ar z pc pe pt pp pf ic ie ip iz ia st rt pb (rmN k) (rmN_le k) ha hz hn s.heap.size) (cwV 1 hts (xgV wd_265 wd_267 wd_0 wd_15 wd_268) rfl rfl rfl (by decide +kernel) ⟨Nat.le_of_ble_eq_true rfl, Nat.le_of_ble_eq_true rfl⟩) (xpreV (q0 := 0) hK hN hZ hA hS hP hD rfl rfl) rfl rfl hl.1 rfl (lv_room (Nat.le_of_ble_eq_true rfl)) d_GT_load_12 ⟨Nat.zero_le _, Nat.zero_le _⟩) hD hS hA (fun r_1 H locs hr_1 hP hD hS => ?_)
  subst hr_1
  refine va_put (D := (dC, dI)) (ci := 6) (v := .int (nI (jdC n fr a z pf (rmN k)))) (ty := .int) (C := R_GT) (T := T_GT) (N := 5) hx hb hts i_GT t_GT k_GT n_GT hown hK hP hD hS 0 rfl rfl 4 (by decide) (hts _ wd_180) (fun _ h9 => h9) rfl (by decide +kernel) rfl rfl (Nat.le_of_ble_eq_true rfl) d_GT_load_15 (fun H locs hP hD hS => ?_)
  have hP : va_P (dC, dI) vwCl (wsG ad ck (nI (jdC n fr a z pf (rmN k))) n fr a ar z ((jdP n fr pe (pc, pt, pp, pf)).2.1) ((jdP n fr pe (pc, pt, pp, pf)).1) ((jdP n fr pe (pc, pt, pp, pf)).2.2.1) ((jdP n fr pe (pc, pt, pp, pf)).2.2.2.1) ((jdP n fr pe (pc, pt, pp, pf)).2.2.2.2) ic ie ip iz ia st rt pb) H := hP
  have hD : va_D A (wsG ad ck (nI (jdC n fr a z pf (rmN k))) n fr a ar z ((jdP n fr pe (pc, pt, pp, pf)).2.1) ((jdP n fr pe (pc, pt, pp, pf)).1) ((jdP n fr pe (pc, pt, pp, pf)).2.2.1) ((jdP n fr pe (pc, pt, pp, pf)).2.2.2.1) ((jdP n fr pe (pc, pt, pp, pf)).2.2.2.2) ic ie ip iz ia st rt pb) := hD
  refine lv_aload_n hx hb d_GT_load_18 rfl (lv_at hl 0 rfl) ?_
  refine va_get (D := (dC, dI)) (ci := 6) (v := .int (nI (jdC n fr a z pf (rmN k)))) (C := R_GT) (T := T_GT) (N := 5) hx hb hts i_GT hown hK hP 0 rfl rfl 4 (by decide) (hts _ wd_180) (fun _ h9 => h9) rfl d_GT_load_19 ?_
  refine lv_if_eq (tgt := 27) hx hb d_GT_load_22 (by decide) (fun c_2 => ?_) (fun c_2 => ?_)
  · skip
    have e9 : (jdP n fr pe (pc, pt, pp, pf)) = (nI (nbN fr 24 4), pc2, pt2, pp2, pf2) := by rw [jdP, if_pos hrch]; exact congrArg _ hq
    have hP : va_P (dC, dI) vwCl (wsG ad ck (nI (jdC n fr a z pf (rmN k))) n fr a ar z pc2 (nI (nbN fr 24 4)) pt2 pp2 pf2 ic ie ip iz ia st rt pb) H := by rw [e9] at hP; exact hP
    have hD : va_D A (wsG ad ck (nI (jdC n fr a z pf (rmN k))) n fr a ar z pc2 (nI (nbN fr 24 4)) pt2 pp2 pf2 ic ie ip iz ia st rt pb) := by rw [e9] at hD; exact hD
    refine lv_aload_n hx hb d_GT_load_27 rfl (lv_at hl 0 rfl) ?_
    refine va_get (D := (dC, dI)) (ci := 6) (v := .ref (ad 8)) (C := R_GT) (T := T_GT) (N := 5) hx hb hts i_GT hown hK hP 0 rfl rfl 3 (by decide) (hts _ wd_179) (fun _ h9 => h9) rfl d_GT_load_28 ?_
    refine lv_aload_n hx hb d_GT_load_31 rfl (lv_at hl 0 rfl) ?_
    refine va_get (D := (dC, dI)) (ci := 6) (v := .ref (ad 6)) (C := R_GT) (T := T_GT) (N := 5) hx hb hts i_GT hown hK hP 0 rfl rfl 2 (by decide) (hts _ wd_178) (fun _ h9 => h9) rfl d_GT_load_32 ?_
    refine lv_aload_n hx hb d_GT_load_35 rfl (lv_at hl 0 rfl) ?_
    refine va_get (D := (dC, dI)) (ci := 6) (v := .ref (ad 1)) (C := R_GT) (T := T_GT) (N := 5) hx hb hts i_GT hown hK hP 0 rfl rfl 0 (by decide) (hts _ wd_176) (fun _ h9 => h9) rfl d_GT_load_36 ?_
    refine lv_aload_n hx hb d_GT_load_39 rfl (lv_at hl 0 rfl) ?_
    refine va_get (D := (dC, dI)) (ci := 6) (v := .ref (ad 3)) (C := R_GT) (T := T_GT) (N := 5) hx hb hts i_GT hown hK hP 0 rfl rfl 1 (by decide) (hts _ wd_177) (fun _ h9 => h9) rfl d_GT_load_40 ?_
    refine xcallv (va_runV (As := [.ref (ad 6), .ref (ad 1), .ref (ad 3)]) (rest := []) ⟨hx, hb, hml, hown, hts⟩ (c_im_lay l dC dI ad ck (nI (jdC n fr a z pf (rmN k))) n fr a ar z pc2 (nI (nbN fr 24 4)) pt2 pp2 pf2 ic ie ip iz ia st rt pb P hpc hsum hfb hsp hP4 hFr hAr ha hz hn H.size) (cwV 3 hts (xgV wd_319 wd_320 wd_321 wd_20 wd_322) rfl rfl rfl (by decide +kernel) ⟨Nat.le_of_ble_eq_true rfl, Nat.le_of_ble_eq_true rfl⟩) (xpreV (q0 := 8) hK hN hZ hA hS hP hD rfl rfl) rfl rfl hl.1 rfl (lv_room (Nat.le_of_ble_eq_true rfl)) d_GT_load_43 ⟨Nat.zero_le _, Nat.zero_le _⟩) hD hS hA (fun H locs hP hD hS => ?_)
    refine lv_aload_n hx hb d_GT_load_46 rfl (lv_at hl 0 rfl) ?_
    refine va_get (D := (dC, dI)) (ci := 6) (v := .ref (ad 8)) (C := R_GT) (T := T_GT) (N := 5) hx hb hts i_GT hown hK hP 0 rfl rfl 3 (by decide) (hts _ wd_179) (fun _ h9 => h9) rfl d_GT_load_47 ?_
    refine va_getN (D := (dC, dI)) (ci := 2) (v := .int (nI (gsum (ptG pf2) pc2 + 1 + 1))) (C := R_IM) (T := T_IM) (N := 6) hx hb hts i_IM hown hK hP 8 rfl rfl 1 (by decide) (hN.use wd_154) (fun _ h9 => h9) rfl d_GT_load_50 ?_
    exact xreti (v := nI (gsum (ptG pf2) pc2 + 1 + 1)) hx hb hr hlocks hK hP hD hS (rfl) (rfl) d_GT_load_53
  · skip
    exact absurd (by rw [h0]; rfl) c_2
end
section
/-! THE REFERENCE'S WORLD: its object and sixteen arrays -/
def wsM (bd : Nat → Nat) (cm : Nat → ClassId) (th : Int32) (n : Nat) (fr : Nat → Int32) (a : Nat) (z : Nat → Nat) (le : Nat → Int32) (wy : Int32) (fo : Nat) (en : Nat) (fF : Nat → Nat) (fA : Nat → Nat) (fB : Nat → Nat) (fS : Nat → Nat) (fW : Nat → Int32) (sk : Nat → Int32) (pg : Nat) (ye : Int32) (ys : Int32) (yt : Nat) (yg : Nat) (yp : Nat) (tk : Nat → Int32) (gF : Nat → Nat) (gA : Nat → Nat) (gB : Nat → Nat) (gS : Nat → Nat) (gW : Nat → Int32) (yk : Nat → Int32) : va_W :=
  (bd 0, .inr (ciModel, [.int th, .int (nI n), .ref (bd 1), .int (nI a), .ref (bd 2), .ref (bd 3), .int wy, .int (nI fo), .long (lN en), .ref (bd 4), .ref (bd 5), .ref (bd 6), .ref (bd 7), .ref (bd 8), .ref (bd 9), .int (nI pg), .int ye, .int ys, .int (nI yt), .int (nI yg), .int (nI yp), .ref (bd 10), .ref (bd 11), .ref (bd 12), .ref (bd 13), .ref (bd 14), .ref (bd 15), .ref (bd 16)])) ::
  (bd 1, .inl (cm 0, 65536, .inl fr)) ::
  (bd 2, .inl (cm 1, 32, .inl (fun j => nI (z j)))) ::
  (bd 3, .inl (cm 0, 4096, .inl le)) ::
  (bd 4, .inl (cm 1, 8, .inl (fun j => nI (fF j)))) ::
  (bd 5, .inl (cm 1, 8, .inl (fun j => nI (fA j)))) ::
  (bd 6, .inl (cm 1, 8, .inl (fun j => nI (fB j)))) ::
  (bd 7, .inl (cm 1, 8, .inl (fun j => nI (fS j)))) ::
  (bd 8, .inl (cm 1, 8, .inl fW)) ::
  (bd 9, .inl (cm 0, 4096, .inl sk)) ::
  (bd 10, .inl (cm 0, 65536, .inl tk)) ::
  (bd 11, .inl (cm 1, 8, .inl (fun j => nI (gF j)))) ::
  (bd 12, .inl (cm 1, 8, .inl (fun j => nI (gA j)))) ::
  (bd 13, .inl (cm 1, 8, .inl (fun j => nI (gB j)))) ::
  (bd 14, .inl (cm 1, 8, .inl (fun j => nI (gS j)))) ::
  (bd 15, .inl (cm 1, 8, .inl gW)) ::
  (bd 16, .inl (cm 0, 4096, .inl yk)) ::
  []
abbrev tyM (cm : Nat → ClassId) : List (ClassId × FieldType) := [(cm 0, .byte), (cm 1, .int)]
theorem wsM_put_gB {bd : Nat → Nat} {cm : Nat → ClassId} {th : Int32} {n : Nat} {fr : Nat → Int32} {a : Nat} {z : Nat → Nat} {le : Nat → Int32} {wy : Int32} {fo : Nat} {en : Nat} {fF : Nat → Nat} {fA : Nat → Nat} {fB : Nat → Nat} {fS : Nat → Nat} {fW : Nat → Int32} {sk : Nat → Int32} {pg : Nat} {ye : Int32} {ys : Int32} {yt : Nat} {yg : Nat} {yp : Nat} {tk : Nat → Int32} {gF : Nat → Nat} {gA : Nat → Nat} {gB : Nat → Nat} {gS : Nat → Nat} {gW : Nat → Int32} {yk : Nat → Int32} {k x : Nat} : (wsM bd cm th n fr a z le wy fo en fF fA fB fS fW sk pg ye ys yt yg yp tk gF gA gB gS gW yk).set 13 (bd 13, .inl (cm 1, 8, .inl (upd (fun j => nI (gB j)) k (nI x)))) = wsM bd cm th n fr a z le wy fo en fF fA fB fS fW sk pg ye ys yt yg yp tk gF gA (upn gB k x) gS gW yk := by
  rw [upd_z]
  rfl
theorem wsM_put_fS {bd : Nat → Nat} {cm : Nat → ClassId} {th : Int32} {n : Nat} {fr : Nat → Int32} {a : Nat} {z : Nat → Nat} {le : Nat → Int32} {wy : Int32} {fo : Nat} {en : Nat} {fF : Nat → Nat} {fA : Nat → Nat} {fB : Nat → Nat} {fS : Nat → Nat} {fW : Nat → Int32} {sk : Nat → Int32} {pg : Nat} {ye : Int32} {ys : Int32} {yt : Nat} {yg : Nat} {yp : Nat} {tk : Nat → Int32} {gF : Nat → Nat} {gA : Nat → Nat} {gB : Nat → Nat} {gS : Nat → Nat} {gW : Nat → Int32} {yk : Nat → Int32} {k x : Nat} : (wsM bd cm th n fr a z le wy fo en fF fA fB fS fW sk pg ye ys yt yg yp tk gF gA gB gS gW yk).set 7 (bd 7, .inl (cm 1, 8, .inl (upd (fun j => nI (fS j)) k (nI x)))) = wsM bd cm th n fr a z le wy fo en fF fA fB (upn fS k x) fW sk pg ye ys yt yg yp tk gF gA gB gS gW yk := by
  rw [upd_z]
  rfl
theorem wsM_put_gS {bd : Nat → Nat} {cm : Nat → ClassId} {th : Int32} {n : Nat} {fr : Nat → Int32} {a : Nat} {z : Nat → Nat} {le : Nat → Int32} {wy : Int32} {fo : Nat} {en : Nat} {fF : Nat → Nat} {fA : Nat → Nat} {fB : Nat → Nat} {fS : Nat → Nat} {fW : Nat → Int32} {sk : Nat → Int32} {pg : Nat} {ye : Int32} {ys : Int32} {yt : Nat} {yg : Nat} {yp : Nat} {tk : Nat → Int32} {gF : Nat → Nat} {gA : Nat → Nat} {gB : Nat → Nat} {gS : Nat → Nat} {gW : Nat → Int32} {yk : Nat → Int32} {k x : Nat} : (wsM bd cm th n fr a z le wy fo en fF fA fB fS fW sk pg ye ys yt yg yp tk gF gA gB gS gW yk).set 14 (bd 14, .inl (cm 1, 8, .inl (upd (fun j => nI (gS j)) k (nI x)))) = wsM bd cm th n fr a z le wy fo en fF fA fB fS fW sk pg ye ys yt yg yp tk gF gA gB (upn gS k x) gW yk := by
  rw [upd_z]
  rfl
theorem wsM_put_fB {bd : Nat → Nat} {cm : Nat → ClassId} {th : Int32} {n : Nat} {fr : Nat → Int32} {a : Nat} {z : Nat → Nat} {le : Nat → Int32} {wy : Int32} {fo : Nat} {en : Nat} {fF : Nat → Nat} {fA : Nat → Nat} {fB : Nat → Nat} {fS : Nat → Nat} {fW : Nat → Int32} {sk : Nat → Int32} {pg : Nat} {ye : Int32} {ys : Int32} {yt : Nat} {yg : Nat} {yp : Nat} {tk : Nat → Int32} {gF : Nat → Nat} {gA : Nat → Nat} {gB : Nat → Nat} {gS : Nat → Nat} {gW : Nat → Int32} {yk : Nat → Int32} {k x : Nat} : (wsM bd cm th n fr a z le wy fo en fF fA fB fS fW sk pg ye ys yt yg yp tk gF gA gB gS gW yk).set 6 (bd 6, .inl (cm 1, 8, .inl (upd (fun j => nI (fB j)) k (nI x)))) = wsM bd cm th n fr a z le wy fo en fF fA (upn fB k x) fS fW sk pg ye ys yt yg yp tk gF gA gB gS gW yk := by
  rw [upd_z]
  rfl
theorem wsM_put_fF {bd : Nat → Nat} {cm : Nat → ClassId} {th : Int32} {n : Nat} {fr : Nat → Int32} {a : Nat} {z : Nat → Nat} {le : Nat → Int32} {wy : Int32} {fo : Nat} {en : Nat} {fF : Nat → Nat} {fA : Nat → Nat} {fB : Nat → Nat} {fS : Nat → Nat} {fW : Nat → Int32} {sk : Nat → Int32} {pg : Nat} {ye : Int32} {ys : Int32} {yt : Nat} {yg : Nat} {yp : Nat} {tk : Nat → Int32} {gF : Nat → Nat} {gA : Nat → Nat} {gB : Nat → Nat} {gS : Nat → Nat} {gW : Nat → Int32} {yk : Nat → Int32} {k x : Nat} : (wsM bd cm th n fr a z le wy fo en fF fA fB fS fW sk pg ye ys yt yg yp tk gF gA gB gS gW yk).set 4 (bd 4, .inl (cm 1, 8, .inl (upd (fun j => nI (fF j)) k (nI x)))) = wsM bd cm th n fr a z le wy fo en (upn fF k x) fA fB fS fW sk pg ye ys yt yg yp tk gF gA gB gS gW yk := by
  rw [upd_z]
  rfl
theorem wsM_put_z {bd : Nat → Nat} {cm : Nat → ClassId} {th : Int32} {n : Nat} {fr : Nat → Int32} {a : Nat} {z : Nat → Nat} {le : Nat → Int32} {wy : Int32} {fo : Nat} {en : Nat} {fF : Nat → Nat} {fA : Nat → Nat} {fB : Nat → Nat} {fS : Nat → Nat} {fW : Nat → Int32} {sk : Nat → Int32} {pg : Nat} {ye : Int32} {ys : Int32} {yt : Nat} {yg : Nat} {yp : Nat} {tk : Nat → Int32} {gF : Nat → Nat} {gA : Nat → Nat} {gB : Nat → Nat} {gS : Nat → Nat} {gW : Nat → Int32} {yk : Nat → Int32} {k x : Nat} : (wsM bd cm th n fr a z le wy fo en fF fA fB fS fW sk pg ye ys yt yg yp tk gF gA gB gS gW yk).set 2 (bd 2, .inl (cm 1, 32, .inl (upd (fun j => nI (z j)) k (nI x)))) = wsM bd cm th n fr a (upn z k x) le wy fo en fF fA fB fS fW sk pg ye ys yt yg yp tk gF gA gB gS gW yk := by
  rw [upd_z]
  rfl
theorem wsM_put_gF {bd : Nat → Nat} {cm : Nat → ClassId} {th : Int32} {n : Nat} {fr : Nat → Int32} {a : Nat} {z : Nat → Nat} {le : Nat → Int32} {wy : Int32} {fo : Nat} {en : Nat} {fF : Nat → Nat} {fA : Nat → Nat} {fB : Nat → Nat} {fS : Nat → Nat} {fW : Nat → Int32} {sk : Nat → Int32} {pg : Nat} {ye : Int32} {ys : Int32} {yt : Nat} {yg : Nat} {yp : Nat} {tk : Nat → Int32} {gF : Nat → Nat} {gA : Nat → Nat} {gB : Nat → Nat} {gS : Nat → Nat} {gW : Nat → Int32} {yk : Nat → Int32} {k x : Nat} : (wsM bd cm th n fr a z le wy fo en fF fA fB fS fW sk pg ye ys yt yg yp tk gF gA gB gS gW yk).set 11 (bd 11, .inl (cm 1, 8, .inl (upd (fun j => nI (gF j)) k (nI x)))) = wsM bd cm th n fr a z le wy fo en fF fA fB fS fW sk pg ye ys yt yg yp tk (upn gF k x) gA gB gS gW yk := by
  rw [upd_z]
  rfl
theorem wsM_put_gA {bd : Nat → Nat} {cm : Nat → ClassId} {th : Int32} {n : Nat} {fr : Nat → Int32} {a : Nat} {z : Nat → Nat} {le : Nat → Int32} {wy : Int32} {fo : Nat} {en : Nat} {fF : Nat → Nat} {fA : Nat → Nat} {fB : Nat → Nat} {fS : Nat → Nat} {fW : Nat → Int32} {sk : Nat → Int32} {pg : Nat} {ye : Int32} {ys : Int32} {yt : Nat} {yg : Nat} {yp : Nat} {tk : Nat → Int32} {gF : Nat → Nat} {gA : Nat → Nat} {gB : Nat → Nat} {gS : Nat → Nat} {gW : Nat → Int32} {yk : Nat → Int32} {k x : Nat} : (wsM bd cm th n fr a z le wy fo en fF fA fB fS fW sk pg ye ys yt yg yp tk gF gA gB gS gW yk).set 12 (bd 12, .inl (cm 1, 8, .inl (upd (fun j => nI (gA j)) k (nI x)))) = wsM bd cm th n fr a z le wy fo en fF fA fB fS fW sk pg ye ys yt yg yp tk gF (upn gA k x) gB gS gW yk := by
  rw [upd_z]
  rfl
theorem wsM_put_fA {bd : Nat → Nat} {cm : Nat → ClassId} {th : Int32} {n : Nat} {fr : Nat → Int32} {a : Nat} {z : Nat → Nat} {le : Nat → Int32} {wy : Int32} {fo : Nat} {en : Nat} {fF : Nat → Nat} {fA : Nat → Nat} {fB : Nat → Nat} {fS : Nat → Nat} {fW : Nat → Int32} {sk : Nat → Int32} {pg : Nat} {ye : Int32} {ys : Int32} {yt : Nat} {yg : Nat} {yp : Nat} {tk : Nat → Int32} {gF : Nat → Nat} {gA : Nat → Nat} {gB : Nat → Nat} {gS : Nat → Nat} {gW : Nat → Int32} {yk : Nat → Int32} {k x : Nat} : (wsM bd cm th n fr a z le wy fo en fF fA fB fS fW sk pg ye ys yt yg yp tk gF gA gB gS gW yk).set 5 (bd 5, .inl (cm 1, 8, .inl (upd (fun j => nI (fA j)) k (nI x)))) = wsM bd cm th n fr a z le wy fo en fF (upn fA k x) fB fS fW sk pg ye ys yt yg yp tk gF gA gB gS gW yk := by
  rw [upd_z]
  rfl
end
section
def mfF (n : Nat) (fr : Nat → Int32) (w1 w2 w3 w4 w5 : Int32) : Nat → Int32 := if n + 20 ≤ 65536 then
  upd (upd (upd (upd (upd (upd (upd (upd (upd (upd (upd (upd (upd (upd (upd (upd (upd (upd (upd (upd fr (n + 0) (w1 >>> ((24 : Int32) &&& 31)).toInt8.toInt32) (n + 4 + 0) (w2 >>> ((24 : Int32) &&& 31)).toInt8.toInt32) (n + 8 + 0) (w3 >>> ((24 : Int32) &&& 31)).toInt8.toInt32) (n + 12 + 0) (w4 >>> ((24 : Int32) &&& 31)).toInt8.toInt32) (n + 16 + 0) (w5 >>> ((24 : Int32) &&& 31)).toInt8.toInt32)
  (n + 1) (w1 >>> ((16 : Int32) &&& 31)).toInt8.toInt32) (n + 4 + 1) (w2 >>> ((16 : Int32) &&& 31)).toInt8.toInt32) (n + 8 + 1) (w3 >>> ((16 : Int32) &&& 31)).toInt8.toInt32) (n + 12 + 1) (w4 >>> ((16 : Int32) &&& 31)).toInt8.toInt32) (n + 16 + 1) (w5 >>> ((16 : Int32) &&& 31)).toInt8.toInt32)
  (n + 2) (w1 >>> ((8 : Int32) &&& 31)).toInt8.toInt32) (n + 4 + 2) (w2 >>> ((8 : Int32) &&& 31)).toInt8.toInt32) (n + 8 + 2) (w3 >>> ((8 : Int32) &&& 31)).toInt8.toInt32) (n + 12 + 2) (w4 >>> ((8 : Int32) &&& 31)).toInt8.toInt32) (n + 16 + 2) (w5 >>> ((8 : Int32) &&& 31)).toInt8.toInt32)
  (n + 3) (w1 >>> ((0 : Int32) &&& 31)).toInt8.toInt32) (n + 4 + 3) (w2 >>> ((0 : Int32) &&& 31)).toInt8.toInt32) (n + 8 + 3) (w3 >>> ((0 : Int32) &&& 31)).toInt8.toInt32) (n + 12 + 3) (w4 >>> ((0 : Int32) &&& 31)).toInt8.toInt32) (n + 16 + 3) (w5 >>> ((0 : Int32) &&& 31)).toInt8.toInt32 else fr
def msF (n : Nat) (fr : Nat → Int32) (k b : Int32) : Nat → Int32 := if isB b ∧ 0 ≤ k.toInt ∧ k.toInt + ((1 : Nat) : Int) ≤ (n : Int) then upd fr k.toInt.toNat b.toInt8.toInt32 else fr
def nbP (f : Nat → Int32) (q : Nat) : Nat → Nat
  | 0 => 0
  | i + 1 => nbP f q i + b8 (f (q + i)) * 256 ^ i
theorem nbP_lt (f : Nat → Int32) (q i : Nat) : nbP f q i < 256 ^ i := by
  induction i with
  | zero => exact Nat.one_pos
  | succ i ih =>
    have := b8_lt (f (q + i))
    have h1 : b8 (f (q + i)) * 256 ^ i ≤ 255 * 256 ^ i := Nat.mul_le_mul_right _ (by omega)
    rw [nbP, Nat.pow_succ]
    omega
theorem nbP_nbN4 (f : Nat → Int32) (q : Nat) : nbP f q 4 = nbN f q 4 := by
  simp only [nbP, nbN, Nat.add_assoc, Nat.reduceAdd, Nat.add_zero, Nat.pow_zero, Nat.pow_one, Nat.reducePow]
  omega
theorem nbP_nbN2 (f : Nat → Int32) (q : Nat) : nbP f q 2 = nbN f q 2 := by
  simp only [nbP, nbN, Nat.add_assoc, Nat.reduceAdd, Nat.add_zero, Nat.pow_zero, Nat.pow_one, Nat.reducePow]
  omega
theorem nbP_nbN1 (f : Nat → Int32) (q : Nat) : nbP f q 1 = nbN f q 1 := by
  simp only [nbP, nbN, Nat.add_assoc, Nat.reduceAdd, Nat.add_zero, Nat.pow_zero, Nat.pow_one, Nat.reducePow]
  omega
theorem l_byte (x : Int32) : x.toInt64 &&& 255 = lN (b8 x) := by
  apply Int64.toBitVec_inj.mp
  apply BitVec.eq_of_getLsbD_eq
  intro i hi
  have e1 : (x.toInt64 &&& 255).toBitVec = x.toBitVec.signExtend 64 &&& BitVec.ofNat 64 (2 ^ 8 - 1) := rfl
  have e2 : (lN (b8 x)).toBitVec = BitVec.ofNat 64 (x.toBitVec.toNat % 2 ^ 8) := rfl
  rw [e1, e2]
  simp only [BitVec.getLsbD_and, BitVec.getLsbD_signExtend, BitVec.getLsbD_ofNat, Nat.testBit_two_pow_sub_one, Nat.testBit_mod_two_pow]
  by_cases h8 : i < 8
  · simp [hi, h8, show i < 32 from by omega, BitVec.testBit_toNat]
  · simp [h8]
theorem lN_or {a b k : Nat} (ha : a < 2 ^ k) (h : 2 ^ k * b + a < 2 ^ 64) : lN a ||| lN (2 ^ k * b) = lN (a + 2 ^ k * b) := by
  apply Int64.toBitVec_inj.mp
  apply BitVec.eq_of_toNat_eq
  have e1 : (lN a ||| lN (2 ^ k * b)).toBitVec = BitVec.ofNat 64 a ||| BitVec.ofNat 64 (2 ^ k * b) := rfl
  have e2 : (lN (a + 2 ^ k * b)).toBitVec = BitVec.ofNat 64 (a + 2 ^ k * b) := rfl
  rw [e1, e2, BitVec.toNat_or, BitVec.toNat_ofNat, BitVec.toNat_ofNat, BitVec.toNat_ofNat, Nat.mod_eq_of_lt (by omega), Nat.mod_eq_of_lt (by omega), Nat.mod_eq_of_lt (by omega), Nat.or_comm, ← Nat.two_pow_add_eq_or_of_lt ha, Nat.add_comm]
theorem lN_shl {x k : Nat} {c : Int64} (hc : c.toBitVec.smod 64 = BitVec.ofNat 64 k) (hk : k < 64) : lN x <<< c = lN (2 ^ k * x) := by
  apply Int64.toBitVec_inj.mp
  have e1 : (lN x <<< c).toBitVec = BitVec.ofNat 64 x <<< (c.toBitVec.smod 64) := rfl
  have e2 : (lN (2 ^ k * x)).toBitVec = BitVec.ofNat 64 (2 ^ k * x) := rfl
  rw [e1, e2, hc]
  apply BitVec.eq_of_toNat_eq
  show (BitVec.ofNat 64 x <<< (BitVec.ofNat 64 k).toNat).toNat = _
  rw [BitVec.toNat_shiftLeft, BitVec.toNat_ofNat, BitVec.toNat_ofNat, BitVec.toNat_ofNat, Nat.mod_eq_of_lt (a := k) (by omega), Nat.shiftLeft_eq, Nat.mod_mul_mod, Nat.mul_comm]
theorem nbP_st {f : Nat → Int32} {q j k : Nat} {c : Int64} (hc : c.toBitVec.smod 64 = BitVec.ofNat 64 k) (hk : k < 32) (he : 256 ^ j = 2 ^ k) (hj : j < 4) : lN (nbP f q j) ||| (((f (q + j)).toInt64 &&& 255) <<< c) = lN (nbP f q (j + 1)) := by
  have hb := b8_lt (f (q + j))
  have hl := nbP_lt f q j
  rw [l_byte, lN_shl hc (by omega), lN_or (by rw [← he]; exact hl) ?_, nbP, he, Nat.mul_comm (b8 _)]
  rw [he] at hl
  have h2 : 2 ^ k ≤ 2 ^ 31 := Nat.pow_le_pow_right (by decide) (by omega)
  have h3 : 2 ^ k * b8 (f (q + j)) ≤ 2 ^ 31 * 255 := Nat.mul_le_mul h2 (by omega)
  omega
theorem nbP_step0 (f : Nat → Int32) (q : Nat) : (0 : Int64) ||| (((f (q + 0)).toInt64 &&& 255) <<< (((8 : Int32) * 0).toInt64 &&& 63)) = lN (nbP f q 1) := nbP_st (j := 0) (k := 0) (by decide) (by decide) (by decide) (by decide)
theorem nbP_step1 (f : Nat → Int32) (q : Nat) : lN (nbP f q 1) ||| (((f (q + 1)).toInt64 &&& 255) <<< (((8 : Int32) * 1).toInt64 &&& 63)) = lN (nbP f q 2) := nbP_st (j := 1) (k := 8) (by decide) (by decide) (by decide) (by decide)
theorem nbP_step2 (f : Nat → Int32) (q : Nat) : lN (nbP f q 2) ||| (((f (q + 2)).toInt64 &&& 255) <<< (((8 : Int32) * 2).toInt64 &&& 63)) = lN (nbP f q 3) := nbP_st (j := 2) (k := 16) (by decide) (by decide) (by decide) (by decide)
theorem nbP_step3 (f : Nat → Int32) (q : Nat) : lN (nbP f q 3) ||| (((f (q + 3)).toInt64 &&& 255) <<< (((8 : Int32) * 3).toInt64 &&& 63)) = lN (nbP f q 4) := nbP_st (j := 3) (k := 24) (by decide) (by decide) (by decide) (by decide)
end
section
theorem d_MD_feed_0 : decode b_MD_feed 0 = .ok (.aload_n 0, 1) := by decide +kernel
theorem d_MD_feed_1 : decode b_MD_feed 1 = .ok (.iconst 0, 1) := by decide +kernel
theorem d_MD_feed_2 : decode b_MD_feed 2 = .ok (.putfield 60, 3) := by decide +kernel
theorem d_MD_feed_5 : decode b_MD_feed 5 = .ok (.aload_n 0, 1) := by decide +kernel
theorem d_MD_feed_6 : decode b_MD_feed 6 = .ok (.getfield 64, 3) := by decide +kernel
theorem d_MD_feed_9 : decode b_MD_feed 9 = .ok (.ldc 67, 2) := by decide +kernel
theorem d_MD_feed_11 : decode b_MD_feed 11 = .ok (.if_icmp .le 5, 3) := by decide +kernel
theorem d_MD_feed_14 : decode b_MD_feed 14 = .ok (.iconst 0, 1) := by decide +kernel
theorem d_MD_feed_15 : decode b_MD_feed 15 = .ok (.ireturn, 1) := by decide +kernel
theorem d_MD_feed_16 : decode b_MD_feed 16 = .ok (.iconst 0, 1) := by decide +kernel
theorem d_MD_feed_17 : decode b_MD_feed 17 = .ok (.istore 6, 2) := by decide +kernel
theorem d_MD_feed_19 : decode b_MD_feed 19 = .ok (.iload 6, 2) := by decide +kernel
theorem d_MD_feed_21 : decode b_MD_feed 21 = .ok (.iconst 4, 1) := by decide +kernel
theorem d_MD_feed_22 : decode b_MD_feed 22 = .ok (.if_icmp .ge 117, 3) := by decide +kernel
theorem d_MD_feed_25 : decode b_MD_feed 25 = .ok (.bipush 24, 2) := by decide +kernel
theorem d_MD_feed_27 : decode b_MD_feed 27 = .ok (.bipush 8, 2) := by decide +kernel
theorem d_MD_feed_29 : decode b_MD_feed 29 = .ok (.iload 6, 2) := by decide +kernel
theorem d_MD_feed_31 : decode b_MD_feed 31 = .ok (.imul, 1) := by decide +kernel
theorem d_MD_feed_32 : decode b_MD_feed 32 = .ok (.isub, 1) := by decide +kernel
theorem d_MD_feed_33 : decode b_MD_feed 33 = .ok (.istore 7, 2) := by decide +kernel
theorem d_MD_feed_35 : decode b_MD_feed 35 = .ok (.aload_n 0, 1) := by decide +kernel
theorem d_MD_feed_36 : decode b_MD_feed 36 = .ok (.getfield 8, 3) := by decide +kernel
theorem d_MD_feed_39 : decode b_MD_feed 39 = .ok (.aload_n 0, 1) := by decide +kernel
theorem d_MD_feed_40 : decode b_MD_feed 40 = .ok (.getfield 64, 3) := by decide +kernel
theorem d_MD_feed_43 : decode b_MD_feed 43 = .ok (.iload 6, 2) := by decide +kernel
theorem d_MD_feed_45 : decode b_MD_feed 45 = .ok (.iadd, 1) := by decide +kernel
theorem d_MD_feed_46 : decode b_MD_feed 46 = .ok (.iload_n 1, 1) := by decide +kernel
theorem d_MD_feed_47 : decode b_MD_feed 47 = .ok (.iload 7, 2) := by decide +kernel
theorem d_MD_feed_49 : decode b_MD_feed 49 = .ok (.ishr, 1) := by decide +kernel
theorem d_MD_feed_50 : decode b_MD_feed 50 = .ok (.i2b, 1) := by decide +kernel
theorem d_MD_feed_51 : decode b_MD_feed 51 = .ok (.bastore, 1) := by decide +kernel
theorem d_MD_feed_52 : decode b_MD_feed 52 = .ok (.aload_n 0, 1) := by decide +kernel
theorem d_MD_feed_53 : decode b_MD_feed 53 = .ok (.getfield 8, 3) := by decide +kernel
theorem d_MD_feed_56 : decode b_MD_feed 56 = .ok (.aload_n 0, 1) := by decide +kernel
theorem d_MD_feed_57 : decode b_MD_feed 57 = .ok (.getfield 64, 3) := by decide +kernel
theorem d_MD_feed_60 : decode b_MD_feed 60 = .ok (.iconst 4, 1) := by decide +kernel
theorem d_MD_feed_61 : decode b_MD_feed 61 = .ok (.iadd, 1) := by decide +kernel
theorem d_MD_feed_62 : decode b_MD_feed 62 = .ok (.iload 6, 2) := by decide +kernel
theorem d_MD_feed_64 : decode b_MD_feed 64 = .ok (.iadd, 1) := by decide +kernel
theorem d_MD_feed_65 : decode b_MD_feed 65 = .ok (.iload_n 2, 1) := by decide +kernel
theorem d_MD_feed_66 : decode b_MD_feed 66 = .ok (.iload 7, 2) := by decide +kernel
theorem d_MD_feed_68 : decode b_MD_feed 68 = .ok (.ishr, 1) := by decide +kernel
theorem d_MD_feed_69 : decode b_MD_feed 69 = .ok (.i2b, 1) := by decide +kernel
theorem d_MD_feed_70 : decode b_MD_feed 70 = .ok (.bastore, 1) := by decide +kernel
theorem d_MD_feed_71 : decode b_MD_feed 71 = .ok (.aload_n 0, 1) := by decide +kernel
theorem d_MD_feed_72 : decode b_MD_feed 72 = .ok (.getfield 8, 3) := by decide +kernel
theorem d_MD_feed_75 : decode b_MD_feed 75 = .ok (.aload_n 0, 1) := by decide +kernel
theorem d_MD_feed_76 : decode b_MD_feed 76 = .ok (.getfield 64, 3) := by decide +kernel
theorem d_MD_feed_79 : decode b_MD_feed 79 = .ok (.bipush 8, 2) := by decide +kernel
theorem d_MD_feed_81 : decode b_MD_feed 81 = .ok (.iadd, 1) := by decide +kernel
theorem d_MD_feed_82 : decode b_MD_feed 82 = .ok (.iload 6, 2) := by decide +kernel
theorem d_MD_feed_84 : decode b_MD_feed 84 = .ok (.iadd, 1) := by decide +kernel
theorem d_MD_feed_85 : decode b_MD_feed 85 = .ok (.iload_n 3, 1) := by decide +kernel
theorem d_MD_feed_86 : decode b_MD_feed 86 = .ok (.iload 7, 2) := by decide +kernel
theorem d_MD_feed_88 : decode b_MD_feed 88 = .ok (.ishr, 1) := by decide +kernel
theorem d_MD_feed_89 : decode b_MD_feed 89 = .ok (.i2b, 1) := by decide +kernel
theorem d_MD_feed_90 : decode b_MD_feed 90 = .ok (.bastore, 1) := by decide +kernel
theorem d_MD_feed_91 : decode b_MD_feed 91 = .ok (.aload_n 0, 1) := by decide +kernel
theorem d_MD_feed_92 : decode b_MD_feed 92 = .ok (.getfield 8, 3) := by decide +kernel
theorem d_MD_feed_95 : decode b_MD_feed 95 = .ok (.aload_n 0, 1) := by decide +kernel
theorem d_MD_feed_96 : decode b_MD_feed 96 = .ok (.getfield 64, 3) := by decide +kernel
theorem d_MD_feed_99 : decode b_MD_feed 99 = .ok (.bipush 12, 2) := by decide +kernel
theorem d_MD_feed_101 : decode b_MD_feed 101 = .ok (.iadd, 1) := by decide +kernel
theorem d_MD_feed_102 : decode b_MD_feed 102 = .ok (.iload 6, 2) := by decide +kernel
theorem d_MD_feed_104 : decode b_MD_feed 104 = .ok (.iadd, 1) := by decide +kernel
theorem d_MD_feed_105 : decode b_MD_feed 105 = .ok (.iload 4, 2) := by decide +kernel
theorem d_MD_feed_107 : decode b_MD_feed 107 = .ok (.iload 7, 2) := by decide +kernel
theorem d_MD_feed_109 : decode b_MD_feed 109 = .ok (.ishr, 1) := by decide +kernel
theorem d_MD_feed_110 : decode b_MD_feed 110 = .ok (.i2b, 1) := by decide +kernel
theorem d_MD_feed_111 : decode b_MD_feed 111 = .ok (.bastore, 1) := by decide +kernel
theorem d_MD_feed_112 : decode b_MD_feed 112 = .ok (.aload_n 0, 1) := by decide +kernel
theorem d_MD_feed_113 : decode b_MD_feed 113 = .ok (.getfield 8, 3) := by decide +kernel
theorem d_MD_feed_116 : decode b_MD_feed 116 = .ok (.aload_n 0, 1) := by decide +kernel
theorem d_MD_feed_117 : decode b_MD_feed 117 = .ok (.getfield 64, 3) := by decide +kernel
theorem d_MD_feed_120 : decode b_MD_feed 120 = .ok (.bipush 16, 2) := by decide +kernel
theorem d_MD_feed_122 : decode b_MD_feed 122 = .ok (.iadd, 1) := by decide +kernel
theorem d_MD_feed_123 : decode b_MD_feed 123 = .ok (.iload 6, 2) := by decide +kernel
theorem d_MD_feed_125 : decode b_MD_feed 125 = .ok (.iadd, 1) := by decide +kernel
theorem d_MD_feed_126 : decode b_MD_feed 126 = .ok (.iload 5, 2) := by decide +kernel
theorem d_MD_feed_128 : decode b_MD_feed 128 = .ok (.iload 7, 2) := by decide +kernel
theorem d_MD_feed_130 : decode b_MD_feed 130 = .ok (.ishr, 1) := by decide +kernel
theorem d_MD_feed_131 : decode b_MD_feed 131 = .ok (.i2b, 1) := by decide +kernel
theorem d_MD_feed_132 : decode b_MD_feed 132 = .ok (.bastore, 1) := by decide +kernel
theorem d_MD_feed_133 : decode b_MD_feed 133 = .ok (.iinc 6 1, 3) := by decide +kernel
theorem d_MD_feed_136 : decode b_MD_feed 136 = .ok (.goto (-117), 3) := by decide +kernel
theorem d_MD_feed_139 : decode b_MD_feed 139 = .ok (.aload_n 0, 1) := by decide +kernel
theorem d_MD_feed_140 : decode b_MD_feed 140 = .ok (.dup, 1) := by decide +kernel
theorem d_MD_feed_141 : decode b_MD_feed 141 = .ok (.getfield 64, 3) := by decide +kernel
theorem d_MD_feed_144 : decode b_MD_feed 144 = .ok (.bipush 20, 2) := by decide +kernel
theorem d_MD_feed_146 : decode b_MD_feed 146 = .ok (.iadd, 1) := by decide +kernel
theorem d_MD_feed_147 : decode b_MD_feed 147 = .ok (.putfield 64, 3) := by decide +kernel
theorem d_MD_feed_150 : decode b_MD_feed 150 = .ok (.iconst 1, 1) := by decide +kernel
theorem d_MD_feed_151 : decode b_MD_feed 151 = .ok (.ireturn, 1) := by decide +kernel
theorem d_MD_end_0 : decode b_MD_end 0 = .ok (.aload_n 0, 1) := by decide +kernel
theorem d_MD_end_1 : decode b_MD_end 1 = .ok (.iconst 0, 1) := by decide +kernel
theorem d_MD_end_2 : decode b_MD_end 2 = .ok (.putfield 60, 3) := by decide +kernel
theorem d_MD_end_5 : decode b_MD_end 5 = .ok (.iload_n 1, 1) := by decide +kernel
theorem d_MD_end_6 : decode b_MD_end 6 = .ok (.ifCond .lt 15, 3) := by decide +kernel
theorem d_MD_end_9 : decode b_MD_end 9 = .ok (.iload_n 1, 1) := by decide +kernel
theorem d_MD_end_10 : decode b_MD_end 10 = .ok (.aload_n 0, 1) := by decide +kernel
theorem d_MD_end_11 : decode b_MD_end 11 = .ok (.getfield 64, 3) := by decide +kernel
theorem d_MD_end_14 : decode b_MD_end 14 = .ok (.if_icmp .gt 7, 3) := by decide +kernel
theorem d_MD_end_17 : decode b_MD_end 17 = .ok (.iconst 1, 1) := by decide +kernel
theorem d_MD_end_18 : decode b_MD_end 18 = .ok (.goto 4, 3) := by decide +kernel
theorem d_MD_end_21 : decode b_MD_end 21 = .ok (.iconst 0, 1) := by decide +kernel
theorem d_MD_end_22 : decode b_MD_end 22 = .ok (.istore_n 2, 1) := by decide +kernel
theorem d_MD_end_23 : decode b_MD_end 23 = .ok (.aload_n 0, 1) := by decide +kernel
theorem d_MD_end_24 : decode b_MD_end 24 = .ok (.iload_n 2, 1) := by decide +kernel
theorem d_MD_end_25 : decode b_MD_end 25 = .ok (.ifCond .eq 7, 3) := by decide +kernel
theorem d_MD_end_28 : decode b_MD_end 28 = .ok (.iload_n 1, 1) := by decide +kernel
theorem d_MD_end_29 : decode b_MD_end 29 = .ok (.goto 7, 3) := by decide +kernel
theorem d_MD_end_32 : decode b_MD_end 32 = .ok (.aload_n 0, 1) := by decide +kernel
theorem d_MD_end_33 : decode b_MD_end 33 = .ok (.getfield 64, 3) := by decide +kernel
theorem d_MD_end_36 : decode b_MD_end 36 = .ok (.putfield 64, 3) := by decide +kernel
theorem d_MD_end_39 : decode b_MD_end 39 = .ok (.iload_n 2, 1) := by decide +kernel
theorem d_MD_end_40 : decode b_MD_end 40 = .ok (.ireturn, 1) := by decide +kernel
theorem d_MD_set_0 : decode b_MD_set 0 = .ok (.aload_n 0, 1) := by decide +kernel
theorem d_MD_set_1 : decode b_MD_set 1 = .ok (.iconst 0, 1) := by decide +kernel
theorem d_MD_set_2 : decode b_MD_set 2 = .ok (.putfield 60, 3) := by decide +kernel
theorem d_MD_set_5 : decode b_MD_set 5 = .ok (.iload_n 1, 1) := by decide +kernel
theorem d_MD_set_6 : decode b_MD_set 6 = .ok (.ifCond .lt 22, 3) := by decide +kernel
theorem d_MD_set_9 : decode b_MD_set 9 = .ok (.iload_n 1, 1) := by decide +kernel
theorem d_MD_set_10 : decode b_MD_set 10 = .ok (.aload_n 0, 1) := by decide +kernel
theorem d_MD_set_11 : decode b_MD_set 11 = .ok (.getfield 64, 3) := by decide +kernel
theorem d_MD_set_14 : decode b_MD_set 14 = .ok (.if_icmp .ge 14, 3) := by decide +kernel
theorem d_MD_set_17 : decode b_MD_set 17 = .ok (.iload_n 2, 1) := by decide +kernel
theorem d_MD_set_18 : decode b_MD_set 18 = .ok (.ifCond .lt 10, 3) := by decide +kernel
theorem d_MD_set_21 : decode b_MD_set 21 = .ok (.iload_n 2, 1) := by decide +kernel
theorem d_MD_set_22 : decode b_MD_set 22 = .ok (.sipush 255, 3) := by decide +kernel
theorem d_MD_set_25 : decode b_MD_set 25 = .ok (.if_icmp .le 5, 3) := by decide +kernel
theorem d_MD_set_28 : decode b_MD_set 28 = .ok (.iconst 0, 1) := by decide +kernel
theorem d_MD_set_29 : decode b_MD_set 29 = .ok (.ireturn, 1) := by decide +kernel
theorem d_MD_set_30 : decode b_MD_set 30 = .ok (.aload_n 0, 1) := by decide +kernel
theorem d_MD_set_31 : decode b_MD_set 31 = .ok (.getfield 8, 3) := by decide +kernel
theorem d_MD_set_34 : decode b_MD_set 34 = .ok (.iload_n 1, 1) := by decide +kernel
theorem d_MD_set_35 : decode b_MD_set 35 = .ok (.iload_n 2, 1) := by decide +kernel
theorem d_MD_set_36 : decode b_MD_set 36 = .ok (.i2b, 1) := by decide +kernel
theorem d_MD_set_37 : decode b_MD_set 37 = .ok (.bastore, 1) := by decide +kernel
theorem d_MD_set_38 : decode b_MD_set 38 = .ok (.iconst 1, 1) := by decide +kernel
theorem d_MD_set_39 : decode b_MD_set 39 = .ok (.ireturn, 1) := by decide +kernel
theorem d_MD_length_0 : decode b_MD_length 0 = .ok (.aload_n 0, 1) := by decide +kernel
theorem d_MD_length_1 : decode b_MD_length 1 = .ok (.iconst 0, 1) := by decide +kernel
theorem d_MD_length_2 : decode b_MD_length 2 = .ok (.putfield 60, 3) := by decide +kernel
theorem d_MD_length_5 : decode b_MD_length 5 = .ok (.aload_n 0, 1) := by decide +kernel
theorem d_MD_length_6 : decode b_MD_length 6 = .ok (.getfield 64, 3) := by decide +kernel
theorem d_MD_length_9 : decode b_MD_length 9 = .ok (.ireturn, 1) := by decide +kernel
theorem d_MD_argument_0 : decode b_MD_argument 0 = .ok (.aload_n 0, 1) := by decide +kernel
theorem d_MD_argument_1 : decode b_MD_argument 1 = .ok (.iconst 0, 1) := by decide +kernel
theorem d_MD_argument_2 : decode b_MD_argument 2 = .ok (.putfield 60, 3) := by decide +kernel
theorem d_MD_argument_5 : decode b_MD_argument 5 = .ok (.aload_n 0, 1) := by decide +kernel
theorem d_MD_argument_6 : decode b_MD_argument 6 = .ok (.getfield 68, 3) := by decide +kernel
theorem d_MD_argument_9 : decode b_MD_argument 9 = .ok (.bipush 32, 2) := by decide +kernel
theorem d_MD_argument_11 : decode b_MD_argument 11 = .ok (.if_icmp .ne 5, 3) := by decide +kernel
theorem d_MD_argument_14 : decode b_MD_argument 14 = .ok (.iconst 0, 1) := by decide +kernel
theorem d_MD_argument_15 : decode b_MD_argument 15 = .ok (.ireturn, 1) := by decide +kernel
theorem d_MD_argument_16 : decode b_MD_argument 16 = .ok (.aload_n 0, 1) := by decide +kernel
theorem d_MD_argument_17 : decode b_MD_argument 17 = .ok (.getfield 14, 3) := by decide +kernel
theorem d_MD_argument_20 : decode b_MD_argument 20 = .ok (.aload_n 0, 1) := by decide +kernel
theorem d_MD_argument_21 : decode b_MD_argument 21 = .ok (.getfield 68, 3) := by decide +kernel
theorem d_MD_argument_24 : decode b_MD_argument 24 = .ok (.iconst 0, 1) := by decide +kernel
theorem d_MD_argument_25 : decode b_MD_argument 25 = .ok (.iastore, 1) := by decide +kernel
theorem d_MD_argument_26 : decode b_MD_argument 26 = .ok (.aload_n 0, 1) := by decide +kernel
theorem d_MD_argument_27 : decode b_MD_argument 27 = .ok (.dup, 1) := by decide +kernel
theorem d_MD_argument_28 : decode b_MD_argument 28 = .ok (.getfield 68, 3) := by decide +kernel
theorem d_MD_argument_31 : decode b_MD_argument 31 = .ok (.iconst 1, 1) := by decide +kernel
theorem d_MD_argument_32 : decode b_MD_argument 32 = .ok (.iadd, 1) := by decide +kernel
theorem d_MD_argument_33 : decode b_MD_argument 33 = .ok (.putfield 68, 3) := by decide +kernel
theorem d_MD_argument_36 : decode b_MD_argument 36 = .ok (.iconst 1, 1) := by decide +kernel
theorem d_MD_argument_37 : decode b_MD_argument 37 = .ok (.ireturn, 1) := by decide +kernel
theorem d_MD_forget_0 : decode b_MD_forget 0 = .ok (.aload_n 0, 1) := by decide +kernel
theorem d_MD_forget_1 : decode b_MD_forget 1 = .ok (.iconst 0, 1) := by decide +kernel
theorem d_MD_forget_2 : decode b_MD_forget 2 = .ok (.putfield 60, 3) := by decide +kernel
theorem d_MD_forget_5 : decode b_MD_forget 5 = .ok (.aload_n 0, 1) := by decide +kernel
theorem d_MD_forget_6 : decode b_MD_forget 6 = .ok (.iconst 0, 1) := by decide +kernel
theorem d_MD_forget_7 : decode b_MD_forget 7 = .ok (.putfield 68, 3) := by decide +kernel
theorem d_MD_forget_10 : decode b_MD_forget 10 = .ok (.return_, 1) := by decide +kernel
theorem d_MD_why_0 : decode b_MD_why 0 = .ok (.aload_n 0, 1) := by decide +kernel
theorem d_MD_why_1 : decode b_MD_why 1 = .ok (.iconst 0, 1) := by decide +kernel
theorem d_MD_why_2 : decode b_MD_why 2 = .ok (.putfield 60, 3) := by decide +kernel
theorem d_MD_why_5 : decode b_MD_why 5 = .ok (.aload_n 0, 1) := by decide +kernel
theorem d_MD_why_6 : decode b_MD_why 6 = .ok (.getfield 145, 3) := by decide +kernel
theorem d_MD_why_9 : decode b_MD_why 9 = .ok (.ireturn, 1) := by decide +kernel
theorem d_MD_number_0 : decode b_MD_number 0 = .ok (.lconst 0, 1) := by decide +kernel
theorem d_MD_number_1 : decode b_MD_number 1 = .ok (.lstore 4, 2) := by decide +kernel
theorem d_MD_number_3 : decode b_MD_number 3 = .ok (.iconst 0, 1) := by decide +kernel
theorem d_MD_number_4 : decode b_MD_number 4 = .ok (.istore 6, 2) := by decide +kernel
theorem d_MD_number_6 : decode b_MD_number 6 = .ok (.iload 6, 2) := by decide +kernel
theorem d_MD_number_8 : decode b_MD_number 8 = .ok (.iload_n 3, 1) := by decide +kernel
theorem d_MD_number_9 : decode b_MD_number 9 = .ok (.if_icmp .ge 35, 3) := by decide +kernel
theorem d_MD_number_12 : decode b_MD_number 12 = .ok (.lload 4, 2) := by decide +kernel
theorem d_MD_number_14 : decode b_MD_number 14 = .ok (.aload_n 0, 1) := by decide +kernel
theorem d_MD_number_15 : decode b_MD_number 15 = .ok (.getfield 8, 3) := by decide +kernel
theorem d_MD_number_18 : decode b_MD_number 18 = .ok (.lload_n 1, 1) := by decide +kernel
theorem d_MD_number_19 : decode b_MD_number 19 = .ok (.l2i, 1) := by decide +kernel
theorem d_MD_number_20 : decode b_MD_number 20 = .ok (.iload 6, 2) := by decide +kernel
theorem d_MD_number_22 : decode b_MD_number 22 = .ok (.iadd, 1) := by decide +kernel
theorem d_MD_number_23 : decode b_MD_number 23 = .ok (.baload, 1) := by decide +kernel
theorem d_MD_number_24 : decode b_MD_number 24 = .ok (.i2l, 1) := by decide +kernel
theorem d_MD_number_25 : decode b_MD_number 25 = .ok (.ldc2_w 71, 3) := by decide +kernel
theorem d_MD_number_28 : decode b_MD_number 28 = .ok (.land, 1) := by decide +kernel
theorem d_MD_number_29 : decode b_MD_number 29 = .ok (.bipush 8, 2) := by decide +kernel
theorem d_MD_number_31 : decode b_MD_number 31 = .ok (.iload 6, 2) := by decide +kernel
theorem d_MD_number_33 : decode b_MD_number 33 = .ok (.imul, 1) := by decide +kernel
theorem d_MD_number_34 : decode b_MD_number 34 = .ok (.lshl, 1) := by decide +kernel
theorem d_MD_number_35 : decode b_MD_number 35 = .ok (.lor, 1) := by decide +kernel
theorem d_MD_number_36 : decode b_MD_number 36 = .ok (.lstore 4, 2) := by decide +kernel
theorem d_MD_number_38 : decode b_MD_number 38 = .ok (.iinc 6 1, 3) := by decide +kernel
theorem d_MD_number_41 : decode b_MD_number 41 = .ok (.goto (-35), 3) := by decide +kernel
theorem d_MD_number_44 : decode b_MD_number 44 = .ok (.lload 4, 2) := by decide +kernel
theorem d_MD_number_46 : decode b_MD_number 46 = .ok (.lreturn, 1) := by decide +kernel
theorem d_MD_isMarked_0 : decode b_MD_isMarked 0 = .ok (.aload_n 0, 1) := by decide +kernel
theorem d_MD_isMarked_1 : decode b_MD_isMarked 1 = .ok (.getfield 64, 3) := by decide +kernel
theorem d_MD_isMarked_4 : decode b_MD_isMarked 4 = .ok (.bipush 52, 2) := by decide +kernel
theorem d_MD_isMarked_6 : decode b_MD_isMarked 6 = .ok (.if_icmp .lt 48, 3) := by decide +kernel
theorem d_MD_isMarked_9 : decode b_MD_isMarked 9 = .ok (.aload_n 0, 1) := by decide +kernel
theorem d_MD_isMarked_10 : decode b_MD_isMarked 10 = .ok (.lconst 0, 1) := by decide +kernel
theorem d_MD_isMarked_11 : decode b_MD_isMarked 11 = .ok (.iconst 4, 1) := by decide +kernel
theorem d_MD_isMarked_12 : decode b_MD_isMarked 12 = .ok (.invokevirtual 73, 3) := by decide +kernel
theorem d_MD_isMarked_15 : decode b_MD_isMarked 15 = .ok (.ldc2_w 77, 3) := by decide +kernel
theorem d_MD_isMarked_18 : decode b_MD_isMarked 18 = .ok (.lcmp, 1) := by decide +kernel
theorem d_MD_isMarked_19 : decode b_MD_isMarked 19 = .ok (.ifCond .ne 35, 3) := by decide +kernel
theorem d_MD_isMarked_22 : decode b_MD_isMarked 22 = .ok (.aload_n 0, 1) := by decide +kernel
theorem d_MD_isMarked_23 : decode b_MD_isMarked 23 = .ok (.ldc2_w 79, 3) := by decide +kernel
theorem d_MD_isMarked_26 : decode b_MD_isMarked 26 = .ok (.iconst 2, 1) := by decide +kernel
theorem d_MD_isMarked_27 : decode b_MD_isMarked 27 = .ok (.invokevirtual 73, 3) := by decide +kernel
theorem d_MD_isMarked_30 : decode b_MD_isMarked 30 = .ok (.ldc2_w 81, 3) := by decide +kernel
theorem d_MD_isMarked_33 : decode b_MD_isMarked 33 = .ok (.lcmp, 1) := by decide +kernel
theorem d_MD_isMarked_34 : decode b_MD_isMarked 34 = .ok (.ifCond .ne 20, 3) := by decide +kernel
theorem d_MD_isMarked_37 : decode b_MD_isMarked 37 = .ok (.aload_n 0, 1) := by decide +kernel
theorem d_MD_isMarked_38 : decode b_MD_isMarked 38 = .ok (.ldc2_w 83, 3) := by decide +kernel
theorem d_MD_isMarked_41 : decode b_MD_isMarked 41 = .ok (.iconst 1, 1) := by decide +kernel
theorem d_MD_isMarked_42 : decode b_MD_isMarked 42 = .ok (.invokevirtual 73, 3) := by decide +kernel
theorem d_MD_isMarked_45 : decode b_MD_isMarked 45 = .ok (.lconst 1, 1) := by decide +kernel
theorem d_MD_isMarked_46 : decode b_MD_isMarked 46 = .ok (.lcmp, 1) := by decide +kernel
theorem d_MD_isMarked_47 : decode b_MD_isMarked 47 = .ok (.ifCond .ne 7, 3) := by decide +kernel
theorem d_MD_isMarked_50 : decode b_MD_isMarked 50 = .ok (.iconst 1, 1) := by decide +kernel
theorem d_MD_isMarked_51 : decode b_MD_isMarked 51 = .ok (.goto 4, 3) := by decide +kernel
theorem d_MD_isMarked_54 : decode b_MD_isMarked 54 = .ok (.iconst 0, 1) := by decide +kernel
theorem d_MD_isMarked_55 : decode b_MD_isMarked 55 = .ok (.ireturn, 1) := by decide +kernel
theorem d_MD_isKind_0 : decode b_MD_isKind 0 = .ok (.aload_n 0, 1) := by decide +kernel
theorem d_MD_isKind_1 : decode b_MD_isKind 1 = .ok (.ldc2_w 85, 3) := by decide +kernel
theorem d_MD_isKind_4 : decode b_MD_isKind 4 = .ok (.iconst 2, 1) := by decide +kernel
theorem d_MD_isKind_5 : decode b_MD_isKind 5 = .ok (.invokevirtual 73, 3) := by decide +kernel
theorem d_MD_isKind_8 : decode b_MD_isKind 8 = .ok (.ldc2_w 87, 3) := by decide +kernel
theorem d_MD_isKind_11 : decode b_MD_isKind 11 = .ok (.lcmp, 1) := by decide +kernel
theorem d_MD_isKind_12 : decode b_MD_isKind 12 = .ok (.ifCond .ne 65, 3) := by decide +kernel
theorem d_MD_isKind_15 : decode b_MD_isKind 15 = .ok (.aload_n 0, 1) := by decide +kernel
theorem d_MD_isKind_16 : decode b_MD_isKind 16 = .ok (.ldc2_w 89, 3) := by decide +kernel
theorem d_MD_isKind_19 : decode b_MD_isKind 19 = .ok (.iconst 2, 1) := by decide +kernel
theorem d_MD_isKind_20 : decode b_MD_isKind 20 = .ok (.invokevirtual 73, 3) := by decide +kernel
theorem d_MD_isKind_23 : decode b_MD_isKind 23 = .ok (.ldc2_w 91, 3) := by decide +kernel
theorem d_MD_isKind_26 : decode b_MD_isKind 26 = .ok (.lcmp, 1) := by decide +kernel
theorem d_MD_isKind_27 : decode b_MD_isKind 27 = .ok (.ifCond .ne 50, 3) := by decide +kernel
theorem d_MD_isKind_30 : decode b_MD_isKind 30 = .ok (.aload_n 0, 1) := by decide +kernel
theorem d_MD_isKind_31 : decode b_MD_isKind 31 = .ok (.ldc2_w 93, 3) := by decide +kernel
theorem d_MD_isKind_34 : decode b_MD_isKind 34 = .ok (.iconst 4, 1) := by decide +kernel
theorem d_MD_isKind_35 : decode b_MD_isKind 35 = .ok (.invokevirtual 73, 3) := by decide +kernel
theorem d_MD_isKind_38 : decode b_MD_isKind 38 = .ok (.lconst 1, 1) := by decide +kernel
theorem d_MD_isKind_39 : decode b_MD_isKind 39 = .ok (.lcmp, 1) := by decide +kernel
theorem d_MD_isKind_40 : decode b_MD_isKind 40 = .ok (.ifCond .ne 37, 3) := by decide +kernel
theorem d_MD_isKind_43 : decode b_MD_isKind 43 = .ok (.aload_n 0, 1) := by decide +kernel
theorem d_MD_isKind_44 : decode b_MD_isKind 44 = .ok (.ldc2_w 95, 3) := by decide +kernel
theorem d_MD_isKind_47 : decode b_MD_isKind 47 = .ok (.iconst 2, 1) := by decide +kernel
theorem d_MD_isKind_48 : decode b_MD_isKind 48 = .ok (.invokevirtual 73, 3) := by decide +kernel
theorem d_MD_isKind_51 : decode b_MD_isKind 51 = .ok (.ldc2_w 97, 3) := by decide +kernel
theorem d_MD_isKind_54 : decode b_MD_isKind 54 = .ok (.lcmp, 1) := by decide +kernel
theorem d_MD_isKind_55 : decode b_MD_isKind 55 = .ok (.ifCond .ne 22, 3) := by decide +kernel
theorem d_MD_isKind_58 : decode b_MD_isKind 58 = .ok (.aload_n 0, 1) := by decide +kernel
theorem d_MD_isKind_59 : decode b_MD_isKind 59 = .ok (.ldc2_w 99, 3) := by decide +kernel
theorem d_MD_isKind_62 : decode b_MD_isKind 62 = .ok (.iconst 2, 1) := by decide +kernel
theorem d_MD_isKind_63 : decode b_MD_isKind 63 = .ok (.invokevirtual 73, 3) := by decide +kernel
theorem d_MD_isKind_66 : decode b_MD_isKind 66 = .ok (.ldc2_w 101, 3) := by decide +kernel
theorem d_MD_isKind_69 : decode b_MD_isKind 69 = .ok (.lcmp, 1) := by decide +kernel
theorem d_MD_isKind_70 : decode b_MD_isKind 70 = .ok (.ifCond .ge 7, 3) := by decide +kernel
theorem d_MD_isKind_73 : decode b_MD_isKind 73 = .ok (.iconst 1, 1) := by decide +kernel
theorem d_MD_isKind_74 : decode b_MD_isKind 74 = .ok (.goto 4, 3) := by decide +kernel
theorem d_MD_isKind_77 : decode b_MD_isKind 77 = .ok (.iconst 0, 1) := by decide +kernel
theorem d_MD_isKind_78 : decode b_MD_isKind 78 = .ok (.ireturn, 1) := by decide +kernel
theorem d_MD_up_0 : decode b_MD_up 0 = .ok (.lload_n 0, 1) := by decide +kernel
theorem d_MD_up_1 : decode b_MD_up 1 = .ok (.ldc2_w 103, 3) := by decide +kernel
theorem d_MD_up_4 : decode b_MD_up 4 = .ok (.ladd, 1) := by decide +kernel
theorem d_MD_up_5 : decode b_MD_up 5 = .ok (.ldc2_w 105, 3) := by decide +kernel
theorem d_MD_up_8 : decode b_MD_up 8 = .ok (.ldiv, 1) := by decide +kernel
theorem d_MD_up_9 : decode b_MD_up 9 = .ok (.ldc2_w 105, 3) := by decide +kernel
theorem d_MD_up_12 : decode b_MD_up 12 = .ok (.lmul, 1) := by decide +kernel
theorem d_MD_up_13 : decode b_MD_up 13 = .ok (.lreturn, 1) := by decide +kernel
end
section
set_option maxHeartbeats 4000000 in
set_option maxRecDepth 100000 in
theorem m_feed (l : Launch) (dC : Nat → ClassId) (dI : Nat → Nat → Nat) (bd : Nat → Nat) (cm : Nat → ClassId) (th : Int32) (n : Nat) (fr : Nat → Int32) (a : Nat) (z : Nat → Nat) (le : Nat → Int32) (wy : Int32) (fo : Nat) (en : Nat) (fF : Nat → Nat) (fA : Nat → Nat) (fB : Nat → Nat) (fS : Nat → Nat) (fW : Nat → Int32) (sk : Nat → Int32) (pg : Nat) (ye : Int32) (ys : Int32) (yt : Nat) (yg : Nat) (yp : Nat) (tk : Nat → Int32) (gF : Nat → Nat) (gA : Nat → Nat) (gB : Nat → Nat) (gS : Nat → Nat) (gW : Nat → Int32) (yk : Nat → Int32) (w1 w2 w3 w4 w5 : Int32) (hn : n ≤ 65536) (sz : Nat) : Met l y_MD_feed w_MD_feed { frames := 0, cells := 0, slots := 0, locals := 0 } (va_Pc [.ref (bd 0), .int w1, .int w2, .int w3, .int w4, .int w5] (xP (dC, dI) (tyM cm) (wsM bd cm th n fr a z le wy fo en fF fA fB fS fW sk pg ye ys yt yg yp tk gF gA gB gS gW yk) sz)) (xQi (dC, dI) (tyM cm) (va_A (wsM bd cm th n fr a z le wy fo en fF fA fB fS fW sk pg ye ys yt yg yp tk gF gA gB gS gW yk) sz) (wsM bd cm 0 (fdN n) (mfF n fr w1 w2 w3 w4 w5) a z le wy fo en fF fA fB fS fW sk pg ye ys yt yg yp tk gF gA gB gS gW yk) (fun r => r = bI (n + 20 ≤ 65536))) 0 0 (va_A (wsM bd cm th n fr a z le wy fo en fF fA fB fS fW sk pg ye ys yt yg yp tk gF gA gB gS gW yk) sz) := by
  refine xof (cc := b_MD_feed) (maxL := 8) (ret := (some .boolean)) (own := R_MD) (Qc := fun A => (xQi (dC, dI) (tyM cm) A (wsM bd cm 0 (fdN n) (mfF n fr w1 w2 w3 w4 w5) a z le wy fo en fF fA fB fS fW sk pg ye ys yt yg yp tk gF gA gB gS gW yk) (fun r => r = bI (n + 20 ≤ 65536)))) (by decide) rfl rfl (Nat.le_of_ble_eq_true rfl) ?_ sz
  intro p e s m below meth c A C hnm hK hP hD hA hN hZ hS ls hl
  obtain ⟨hx, hb, hr, hml, hown, hts, hlocks⟩ := C
  have hl : lv_has ls 8 [(0, .ref (bd 0)), (1, .int w1), (2, .int w2), (3, .int w3), (4, .int w4), (5, .int w5)] := hl
  refine lv_aload_n hx hb d_MD_feed_0 rfl (lv_at hl 0 rfl) ?_
  refine lv_iconst (v := 0) hx hb d_MD_feed_1 (by decide) ?_
  refine va_put (D := (dC, dI)) (ci := 7) (v := .int 0) (ty := .int) (C := R_MD) (T := T_MD) (N := 28) hx hb hts i_MD t_MD k_MD n_MD hown hK hP hD hS 0 rfl rfl 0 (by decide) (hts _ wd_392) (fun _ h9 => h9) rfl (by decide +kernel) rfl rfl (Nat.le_of_ble_eq_true rfl) d_MD_feed_2 (fun H locs hP hD hS => ?_)
  have hP : va_P (dC, dI) vwCl (wsM bd cm 0 n fr a z le wy fo en fF fA fB fS fW sk pg ye ys yt yg yp tk gF gA gB gS gW yk) H := hP
  have hD : va_D A (wsM bd cm 0 n fr a z le wy fo en fF fA fB fS fW sk pg ye ys yt yg yp tk gF gA gB gS gW yk) := hD
  refine lv_aload_n hx hb d_MD_feed_5 rfl (lv_at hl 0 rfl) ?_
  refine va_get (D := (dC, dI)) (ci := 7) (v := .int (nI n)) (C := R_MD) (T := T_MD) (N := 28) hx hb hts i_MD hown hK hP 0 rfl rfl 1 (by decide) (hts _ wd_393) (fun _ h9 => h9) rfl d_MD_feed_6 ?_
  refine lv_ldc (v := 65516) hx hb hown (hts _ wd_481) d_MD_feed_9 ?_
  refine lv_icmp_le (tgt := 16) hx hb d_MD_feed_11 (by decide) (fun c_1 => ?_) (fun c_1 => ?_)
  · skip
    have c_1 : n ≤ 65516 := (nI_leI (a := n) (b := 65516) (by omega) (by omega)).mp c_1
    refine lv_iconst (v := 0) hx hb d_MD_feed_16 (by decide) ?_
    refine lv_istore (lv' := [(6, .int 0), (0, .ref (bd 0)), (1, .int w1), (2, .int w2), (3, .int w3), (4, .int w4), (5, .int w5)]) hx hb d_MD_feed_17 hl (by decide) rfl (fun ls hl => ?_)
    refine lv_iload hx hb d_MD_feed_19 (lv_at hl 0 rfl) ?_
    refine lv_iconst (v := 4) hx hb d_MD_feed_21 (by decide) ?_
    refine lv_icmp_ge (tgt := 139) hx hb d_MD_feed_22 (by decide) (fun c_2 => ?_) (fun c_2 => ?_)
    · exact absurd c_2 (by decide)
    · skip
      refine lv_bipush (v := 24) hx hb d_MD_feed_25 (by decide) ?_
      refine lv_bipush (v := 8) hx hb d_MD_feed_27 (by decide) ?_
      refine lv_iload hx hb d_MD_feed_29 (lv_at hl 0 rfl) ?_
      refine lv_imul hx hb d_MD_feed_31 ?_
      refine lv_isub hx hb d_MD_feed_32 ?_
      refine xtopi (y := 24) (by decide) ?_
      refine lv_istore (lv' := [(7, .int 24), (6, .int 0), (0, .ref (bd 0)), (1, .int w1), (2, .int w2), (3, .int w3), (4, .int w4), (5, .int w5)]) hx hb d_MD_feed_33 hl (by decide) rfl (fun ls hl => ?_)
      refine lv_aload_n hx hb d_MD_feed_35 rfl (lv_at hl 2 rfl) ?_
      refine va_get (D := (dC, dI)) (ci := 7) (v := .ref (bd 1)) (C := R_MD) (T := T_MD) (N := 28) hx hb hts i_MD hown hK hP 0 rfl rfl 2 (by decide) (hts _ wd_394) (fun _ h9 => h9) rfl d_MD_feed_36 ?_
      refine lv_aload_n hx hb d_MD_feed_39 rfl (lv_at hl 2 rfl) ?_
      refine va_get (D := (dC, dI)) (ci := 7) (v := .int (nI n)) (C := R_MD) (T := T_MD) (N := 28) hx hb hts i_MD hown hK hP 0 rfl rfl 1 (by decide) (hts _ wd_393) (fun _ h9 => h9) rfl d_MD_feed_40 ?_
      refine lv_iload hx hb d_MD_feed_43 (lv_at hl 1 rfl) ?_
      refine lv_iadd hx hb d_MD_feed_45 ?_
      refine xtopi (y := nI (n + 0)) (nI_add (n) (0)) ?_
      refine lv_iload_n hx hb d_MD_feed_46 rfl (lv_at hl 3 rfl) ?_
      refine lv_iload hx hb d_MD_feed_47 (lv_at hl 0 rfl) ?_
      refine lv_ishr hx hb d_MD_feed_49 ?_
      refine lv_i2b hx hb d_MD_feed_50 rfl ?_
      refine xbast (k := n + 0) (x' := (w1 >>> ((24 : Int32) &&& 31)).toInt8.toInt32) (ws1 := wsM bd cm 0 n (upd fr (n + 0) ((w1 >>> ((24 : Int32) &&& 31)).toInt8.toInt32)) a z le wy fo en fF fA fB fS fW sk pg ye ys yt yg yp tk gF gA gB gS gW yk) hx hb hK hP hD hS 1 0 rfl rfl (rfl) (by omega) (by decide) (pk_vb _) rfl d_MD_feed_51 (fun H locs hP hD hS => ?_)
      refine lv_aload_n hx hb d_MD_feed_52 rfl (lv_at hl 2 rfl) ?_
      refine va_get (D := (dC, dI)) (ci := 7) (v := .ref (bd 1)) (C := R_MD) (T := T_MD) (N := 28) hx hb hts i_MD hown hK hP 0 rfl rfl 2 (by decide) (hts _ wd_394) (fun _ h9 => h9) rfl d_MD_feed_53 ?_
      refine lv_aload_n hx hb d_MD_feed_56 rfl (lv_at hl 2 rfl) ?_
      refine va_get (D := (dC, dI)) (ci := 7) (v := .int (nI n)) (C := R_MD) (T := T_MD) (N := 28) hx hb hts i_MD hown hK hP 0 rfl rfl 1 (by decide) (hts _ wd_393) (fun _ h9 => h9) rfl d_MD_feed_57 ?_
      refine lv_iconst (v := 4) hx hb d_MD_feed_60 (by decide) ?_
      refine lv_iadd hx hb d_MD_feed_61 ?_
      refine xtopi (y := nI (n + 4)) (nI_add (n) (4)) ?_
      refine lv_iload hx hb d_MD_feed_62 (lv_at hl 1 rfl) ?_
      refine lv_iadd hx hb d_MD_feed_64 ?_
      refine xtopi (y := nI ((n + 4) + 0)) (nI_add (n + 4) (0)) ?_
      refine lv_iload_n hx hb d_MD_feed_65 rfl (lv_at hl 4 rfl) ?_
      refine lv_iload hx hb d_MD_feed_66 (lv_at hl 0 rfl) ?_
      refine lv_ishr hx hb d_MD_feed_68 ?_
      refine lv_i2b hx hb d_MD_feed_69 rfl ?_
      refine xbast (k := (n + 4) + 0) (x' := (w2 >>> ((24 : Int32) &&& 31)).toInt8.toInt32) (ws1 := wsM bd cm 0 n (upd (upd fr (n + 0) ((w1 >>> ((24 : Int32) &&& 31)).toInt8.toInt32)) ((n + 4) + 0) ((w2 >>> ((24 : Int32) &&& 31)).toInt8.toInt32)) a z le wy fo en fF fA fB fS fW sk pg ye ys yt yg yp tk gF gA gB gS gW yk) hx hb hK hP hD hS 1 0 rfl rfl (rfl) (by omega) (by decide) (pk_vb _) rfl d_MD_feed_70 (fun H locs hP hD hS => ?_)
      refine lv_aload_n hx hb d_MD_feed_71 rfl (lv_at hl 2 rfl) ?_
      refine va_get (D := (dC, dI)) (ci := 7) (v := .ref (bd 1)) (C := R_MD) (T := T_MD) (N := 28) hx hb hts i_MD hown hK hP 0 rfl rfl 2 (by decide) (hts _ wd_394) (fun _ h9 => h9) rfl d_MD_feed_72 ?_
      refine lv_aload_n hx hb d_MD_feed_75 rfl (lv_at hl 2 rfl) ?_
      refine va_get (D := (dC, dI)) (ci := 7) (v := .int (nI n)) (C := R_MD) (T := T_MD) (N := 28) hx hb hts i_MD hown hK hP 0 rfl rfl 1 (by decide) (hts _ wd_393) (fun _ h9 => h9) rfl d_MD_feed_76 ?_
      refine lv_bipush (v := 8) hx hb d_MD_feed_79 (by decide) ?_
      refine lv_iadd hx hb d_MD_feed_81 ?_
      refine xtopi (y := nI (n + 8)) (nI_add (n) (8)) ?_
      refine lv_iload hx hb d_MD_feed_82 (lv_at hl 1 rfl) ?_
      refine lv_iadd hx hb d_MD_feed_84 ?_
      refine xtopi (y := nI ((n + 8) + 0)) (nI_add (n + 8) (0)) ?_
      refine lv_iload_n hx hb d_MD_feed_85 rfl (lv_at hl 5 rfl) ?_
      refine lv_iload hx hb d_MD_feed_86 (lv_at hl 0 rfl) ?_
      refine lv_ishr hx hb d_MD_feed_88 ?_
      refine lv_i2b hx hb d_MD_feed_89 rfl ?_
      refine xbast (k := (n + 8) + 0) (x' := (w3 >>> ((24 : Int32) &&& 31)).toInt8.toInt32) (ws1 := wsM bd cm 0 n (upd (upd (upd fr (n + 0) ((w1 >>> ((24 : Int32) &&& 31)).toInt8.toInt32)) ((n + 4) + 0) ((w2 >>> ((24 : Int32) &&& 31)).toInt8.toInt32)) ((n + 8) + 0) ((w3 >>> ((24 : Int32) &&& 31)).toInt8.toInt32)) a z le wy fo en fF fA fB fS fW sk pg ye ys yt yg yp tk gF gA gB gS gW yk) hx hb hK hP hD hS 1 0 rfl rfl (rfl) (by omega) (by decide) (pk_vb _) rfl d_MD_feed_90 (fun H locs hP hD hS => ?_)
      refine lv_aload_n hx hb d_MD_feed_91 rfl (lv_at hl 2 rfl) ?_
      refine va_get (D := (dC, dI)) (ci := 7) (v := .ref (bd 1)) (C := R_MD) (T := T_MD) (N := 28) hx hb hts i_MD hown hK hP 0 rfl rfl 2 (by decide) (hts _ wd_394) (fun _ h9 => h9) rfl d_MD_feed_92 ?_
      refine lv_aload_n hx hb d_MD_feed_95 rfl (lv_at hl 2 rfl) ?_
      refine va_get (D := (dC, dI)) (ci := 7) (v := .int (nI n)) (C := R_MD) (T := T_MD) (N := 28) hx hb hts i_MD hown hK hP 0 rfl rfl 1 (by decide) (hts _ wd_393) (fun _ h9 => h9) rfl d_MD_feed_96 ?_
      refine lv_bipush (v := 12) hx hb d_MD_feed_99 (by decide) ?_
      refine lv_iadd hx hb d_MD_feed_101 ?_
      refine xtopi (y := nI (n + 12)) (nI_add (n) (12)) ?_
      refine lv_iload hx hb d_MD_feed_102 (lv_at hl 1 rfl) ?_
      refine lv_iadd hx hb d_MD_feed_104 ?_
      refine xtopi (y := nI ((n + 12) + 0)) (nI_add (n + 12) (0)) ?_
      refine lv_iload hx hb d_MD_feed_105 (lv_at hl 6 rfl) ?_
      refine lv_iload hx hb d_MD_feed_107 (lv_at hl 0 rfl) ?_
      refine lv_ishr hx hb d_MD_feed_109 ?_
      refine lv_i2b hx hb d_MD_feed_110 rfl ?_
      refine xbast (k := (n + 12) + 0) (x' := (w4 >>> ((24 : Int32) &&& 31)).toInt8.toInt32) (ws1 := wsM bd cm 0 n (upd (upd (upd (upd fr (n + 0) ((w1 >>> ((24 : Int32) &&& 31)).toInt8.toInt32)) ((n + 4) + 0) ((w2 >>> ((24 : Int32) &&& 31)).toInt8.toInt32)) ((n + 8) + 0) ((w3 >>> ((24 : Int32) &&& 31)).toInt8.toInt32)) ((n + 12) + 0) ((w4 >>> ((24 : Int32) &&& 31)).toInt8.toInt32)) a z le wy fo en fF fA fB fS fW sk pg ye ys yt yg yp tk gF gA gB gS gW yk) hx hb hK hP hD hS 1 0 rfl rfl (rfl) (by omega) (by decide) (pk_vb _) rfl d_MD_feed_111 (fun H locs hP hD hS => ?_)
      refine lv_aload_n hx hb d_MD_feed_112 rfl (lv_at hl 2 rfl) ?_
      refine va_get (D := (dC, dI)) (ci := 7) (v := .ref (bd 1)) (C := R_MD) (T := T_MD) (N := 28) hx hb hts i_MD hown hK hP 0 rfl rfl 2 (by decide) (hts _ wd_394) (fun _ h9 => h9) rfl d_MD_feed_113 ?_
      refine lv_aload_n hx hb d_MD_feed_116 rfl (lv_at hl 2 rfl) ?_
      refine va_get (D := (dC, dI)) (ci := 7) (v := .int (nI n)) (C := R_MD) (T := T_MD) (N := 28) hx hb hts i_MD hown hK hP 0 rfl rfl 1 (by decide) (hts _ wd_393) (fun _ h9 => h9) rfl d_MD_feed_117 ?_
      refine lv_bipush (v := 16) hx hb d_MD_feed_120 (by decide) ?_
      refine lv_iadd hx hb d_MD_feed_122 ?_
      refine xtopi (y := nI (n + 16)) (nI_add (n) (16)) ?_
      refine lv_iload hx hb d_MD_feed_123 (lv_at hl 1 rfl) ?_
      refine lv_iadd hx hb d_MD_feed_125 ?_
      refine xtopi (y := nI ((n + 16) + 0)) (nI_add (n + 16) (0)) ?_
      refine lv_iload hx hb d_MD_feed_126 (lv_at hl 7 rfl) ?_
      refine lv_iload hx hb d_MD_feed_128 (lv_at hl 0 rfl) ?_
      refine lv_ishr hx hb d_MD_feed_130 ?_
      refine lv_i2b hx hb d_MD_feed_131 rfl ?_
      refine xbast (k := (n + 16) + 0) (x' := (w5 >>> ((24 : Int32) &&& 31)).toInt8.toInt32) (ws1 := wsM bd cm 0 n (upd (upd (upd (upd (upd fr (n + 0) ((w1 >>> ((24 : Int32) &&& 31)).toInt8.toInt32)) ((n + 4) + 0) ((w2 >>> ((24 : Int32) &&& 31)).toInt8.toInt32)) ((n + 8) + 0) ((w3 >>> ((24 : Int32) &&& 31)).toInt8.toInt32)) ((n + 12) + 0) ((w4 >>> ((24 : Int32) &&& 31)).toInt8.toInt32)) ((n + 16) + 0) ((w5 >>> ((24 : Int32) &&& 31)).toInt8.toInt32)) a z le wy fo en fF fA fB fS fW sk pg ye ys yt yg yp tk gF gA gB gS gW yk) hx hb hK hP hD hS 1 0 rfl rfl (rfl) (by omega) (by decide) (pk_vb _) rfl d_MD_feed_132 (fun H locs hP hD hS => ?_)
      refine lv_iinc (v := 1) (lv' := [(6, .int 1), (7, .int 24), (0, .ref (bd 0)), (1, .int w1), (2, .int w2), (3, .int w3), (4, .int w4), (5, .int w5)]) hx hb d_MD_feed_133 hl (k := 1) rfl rfl (by decide) rfl (fun ls hl => ?_)
      refine lv_goto (tgt := 19) hx hb d_MD_feed_136 (by decide) ?_
      refine lv_iload hx hb d_MD_feed_19 (lv_at hl 0 rfl) ?_
      refine lv_iconst (v := 4) hx hb d_MD_feed_21 (by decide) ?_
      refine lv_icmp_ge (tgt := 139) hx hb d_MD_feed_22 (by decide) (fun c_3 => ?_) (fun c_3 => ?_)
      · exact absurd c_3 (by decide)
      · skip
        refine lv_bipush (v := 24) hx hb d_MD_feed_25 (by decide) ?_
        refine lv_bipush (v := 8) hx hb d_MD_feed_27 (by decide) ?_
        refine lv_iload hx hb d_MD_feed_29 (lv_at hl 0 rfl) ?_
        refine lv_imul hx hb d_MD_feed_31 ?_
        refine lv_isub hx hb d_MD_feed_32 ?_
        refine xtopi (y := 16) (by decide) ?_
        refine lv_istore (lv' := [(7, .int 16), (6, .int 1), (0, .ref (bd 0)), (1, .int w1), (2, .int w2), (3, .int w3), (4, .int w4), (5, .int w5)]) hx hb d_MD_feed_33 hl (by decide) rfl (fun ls hl => ?_)
        refine lv_aload_n hx hb d_MD_feed_35 rfl (lv_at hl 2 rfl) ?_
        refine va_get (D := (dC, dI)) (ci := 7) (v := .ref (bd 1)) (C := R_MD) (T := T_MD) (N := 28) hx hb hts i_MD hown hK hP 0 rfl rfl 2 (by decide) (hts _ wd_394) (fun _ h9 => h9) rfl d_MD_feed_36 ?_
        refine lv_aload_n hx hb d_MD_feed_39 rfl (lv_at hl 2 rfl) ?_
        refine va_get (D := (dC, dI)) (ci := 7) (v := .int (nI n)) (C := R_MD) (T := T_MD) (N := 28) hx hb hts i_MD hown hK hP 0 rfl rfl 1 (by decide) (hts _ wd_393) (fun _ h9 => h9) rfl d_MD_feed_40 ?_
        refine lv_iload hx hb d_MD_feed_43 (lv_at hl 1 rfl) ?_
        refine lv_iadd hx hb d_MD_feed_45 ?_
        refine xtopi (y := nI (n + 1)) (nI_add (n) (1)) ?_
        refine lv_iload_n hx hb d_MD_feed_46 rfl (lv_at hl 3 rfl) ?_
        refine lv_iload hx hb d_MD_feed_47 (lv_at hl 0 rfl) ?_
        refine lv_ishr hx hb d_MD_feed_49 ?_
        refine lv_i2b hx hb d_MD_feed_50 rfl ?_
        refine xbast (k := n + 1) (x' := (w1 >>> ((16 : Int32) &&& 31)).toInt8.toInt32) (ws1 := wsM bd cm 0 n (upd (upd (upd (upd (upd (upd fr (n + 0) ((w1 >>> ((24 : Int32) &&& 31)).toInt8.toInt32)) ((n + 4) + 0) ((w2 >>> ((24 : Int32) &&& 31)).toInt8.toInt32)) ((n + 8) + 0) ((w3 >>> ((24 : Int32) &&& 31)).toInt8.toInt32)) ((n + 12) + 0) ((w4 >>> ((24 : Int32) &&& 31)).toInt8.toInt32)) ((n + 16) + 0) ((w5 >>> ((24 : Int32) &&& 31)).toInt8.toInt32)) (n + 1) ((w1 >>> ((16 : Int32) &&& 31)).toInt8.toInt32)) a z le wy fo en fF fA fB fS fW sk pg ye ys yt yg yp tk gF gA gB gS gW yk) hx hb hK hP hD hS 1 0 rfl rfl (rfl) (by omega) (by decide) (pk_vb _) rfl d_MD_feed_51 (fun H locs hP hD hS => ?_)
        refine lv_aload_n hx hb d_MD_feed_52 rfl (lv_at hl 2 rfl) ?_
        refine va_get (D := (dC, dI)) (ci := 7) (v := .ref (bd 1)) (C := R_MD) (T := T_MD) (N := 28) hx hb hts i_MD hown hK hP 0 rfl rfl 2 (by decide) (hts _ wd_394) (fun _ h9 => h9) rfl d_MD_feed_53 ?_
        refine lv_aload_n hx hb d_MD_feed_56 rfl (lv_at hl 2 rfl) ?_
        refine va_get (D := (dC, dI)) (ci := 7) (v := .int (nI n)) (C := R_MD) (T := T_MD) (N := 28) hx hb hts i_MD hown hK hP 0 rfl rfl 1 (by decide) (hts _ wd_393) (fun _ h9 => h9) rfl d_MD_feed_57 ?_
        refine lv_iconst (v := 4) hx hb d_MD_feed_60 (by decide) ?_
        refine lv_iadd hx hb d_MD_feed_61 ?_
        refine xtopi (y := nI (n + 4)) (nI_add (n) (4)) ?_
        refine lv_iload hx hb d_MD_feed_62 (lv_at hl 1 rfl) ?_
        refine lv_iadd hx hb d_MD_feed_64 ?_
        refine xtopi (y := nI ((n + 4) + 1)) (nI_add (n + 4) (1)) ?_
        refine lv_iload_n hx hb d_MD_feed_65 rfl (lv_at hl 4 rfl) ?_
        refine lv_iload hx hb d_MD_feed_66 (lv_at hl 0 rfl) ?_
        refine lv_ishr hx hb d_MD_feed_68 ?_
        refine lv_i2b hx hb d_MD_feed_69 rfl ?_
        refine xbast (k := (n + 4) + 1) (x' := (w2 >>> ((16 : Int32) &&& 31)).toInt8.toInt32) (ws1 := wsM bd cm 0 n (upd (upd (upd (upd (upd (upd (upd fr (n + 0) ((w1 >>> ((24 : Int32) &&& 31)).toInt8.toInt32)) ((n + 4) + 0) ((w2 >>> ((24 : Int32) &&& 31)).toInt8.toInt32)) ((n + 8) + 0) ((w3 >>> ((24 : Int32) &&& 31)).toInt8.toInt32)) ((n + 12) + 0) ((w4 >>> ((24 : Int32) &&& 31)).toInt8.toInt32)) ((n + 16) + 0) ((w5 >>> ((24 : Int32) &&& 31)).toInt8.toInt32)) (n + 1) ((w1 >>> ((16 : Int32) &&& 31)).toInt8.toInt32)) ((n + 4) + 1) ((w2 >>> ((16 : Int32) &&& 31)).toInt8.toInt32)) a z le wy fo en fF fA fB fS fW sk pg ye ys yt yg yp tk gF gA gB gS gW yk) hx hb hK hP hD hS 1 0 rfl rfl (rfl) (by omega) (by decide) (pk_vb _) rfl d_MD_feed_70 (fun H locs hP hD hS => ?_)
        refine lv_aload_n hx hb d_MD_feed_71 rfl (lv_at hl 2 rfl) ?_
        refine va_get (D := (dC, dI)) (ci := 7) (v := .ref (bd 1)) (C := R_MD) (T := T_MD) (N := 28) hx hb hts i_MD hown hK hP 0 rfl rfl 2 (by decide) (hts _ wd_394) (fun _ h9 => h9) rfl d_MD_feed_72 ?_
        refine lv_aload_n hx hb d_MD_feed_75 rfl (lv_at hl 2 rfl) ?_
        refine va_get (D := (dC, dI)) (ci := 7) (v := .int (nI n)) (C := R_MD) (T := T_MD) (N := 28) hx hb hts i_MD hown hK hP 0 rfl rfl 1 (by decide) (hts _ wd_393) (fun _ h9 => h9) rfl d_MD_feed_76 ?_
        refine lv_bipush (v := 8) hx hb d_MD_feed_79 (by decide) ?_
        refine lv_iadd hx hb d_MD_feed_81 ?_
        refine xtopi (y := nI (n + 8)) (nI_add (n) (8)) ?_
        refine lv_iload hx hb d_MD_feed_82 (lv_at hl 1 rfl) ?_
        refine lv_iadd hx hb d_MD_feed_84 ?_
        refine xtopi (y := nI ((n + 8) + 1)) (nI_add (n + 8) (1)) ?_
        refine lv_iload_n hx hb d_MD_feed_85 rfl (lv_at hl 5 rfl) ?_
        refine lv_iload hx hb d_MD_feed_86 (lv_at hl 0 rfl) ?_
        refine lv_ishr hx hb d_MD_feed_88 ?_
        refine lv_i2b hx hb d_MD_feed_89 rfl ?_
        refine xbast (k := (n + 8) + 1) (x' := (w3 >>> ((16 : Int32) &&& 31)).toInt8.toInt32) (ws1 := wsM bd cm 0 n (upd (upd (upd (upd (upd (upd (upd (upd fr (n + 0) ((w1 >>> ((24 : Int32) &&& 31)).toInt8.toInt32)) ((n + 4) + 0) ((w2 >>> ((24 : Int32) &&& 31)).toInt8.toInt32)) ((n + 8) + 0) ((w3 >>> ((24 : Int32) &&& 31)).toInt8.toInt32)) ((n + 12) + 0) ((w4 >>> ((24 : Int32) &&& 31)).toInt8.toInt32)) ((n + 16) + 0) ((w5 >>> ((24 : Int32) &&& 31)).toInt8.toInt32)) (n + 1) ((w1 >>> ((16 : Int32) &&& 31)).toInt8.toInt32)) ((n + 4) + 1) ((w2 >>> ((16 : Int32) &&& 31)).toInt8.toInt32)) ((n + 8) + 1) ((w3 >>> ((16 : Int32) &&& 31)).toInt8.toInt32)) a z le wy fo en fF fA fB fS fW sk pg ye ys yt yg yp tk gF gA gB gS gW yk) hx hb hK hP hD hS 1 0 rfl rfl (rfl) (by omega) (by decide) (pk_vb _) rfl d_MD_feed_90 (fun H locs hP hD hS => ?_)
        refine lv_aload_n hx hb d_MD_feed_91 rfl (lv_at hl 2 rfl) ?_
        refine va_get (D := (dC, dI)) (ci := 7) (v := .ref (bd 1)) (C := R_MD) (T := T_MD) (N := 28) hx hb hts i_MD hown hK hP 0 rfl rfl 2 (by decide) (hts _ wd_394) (fun _ h9 => h9) rfl d_MD_feed_92 ?_
        refine lv_aload_n hx hb d_MD_feed_95 rfl (lv_at hl 2 rfl) ?_
        refine va_get (D := (dC, dI)) (ci := 7) (v := .int (nI n)) (C := R_MD) (T := T_MD) (N := 28) hx hb hts i_MD hown hK hP 0 rfl rfl 1 (by decide) (hts _ wd_393) (fun _ h9 => h9) rfl d_MD_feed_96 ?_
        refine lv_bipush (v := 12) hx hb d_MD_feed_99 (by decide) ?_
        refine lv_iadd hx hb d_MD_feed_101 ?_
        refine xtopi (y := nI (n + 12)) (nI_add (n) (12)) ?_
        refine lv_iload hx hb d_MD_feed_102 (lv_at hl 1 rfl) ?_
        refine lv_iadd hx hb d_MD_feed_104 ?_
        refine xtopi (y := nI ((n + 12) + 1)) (nI_add (n + 12) (1)) ?_
        refine lv_iload hx hb d_MD_feed_105 (lv_at hl 6 rfl) ?_
        refine lv_iload hx hb d_MD_feed_107 (lv_at hl 0 rfl) ?_
        refine lv_ishr hx hb d_MD_feed_109 ?_
        refine lv_i2b hx hb d_MD_feed_110 rfl ?_
        refine xbast (k := (n + 12) + 1) (x' := (w4 >>> ((16 : Int32) &&& 31)).toInt8.toInt32) (ws1 := wsM bd cm 0 n (upd (upd (upd (upd (upd (upd (upd (upd (upd fr (n + 0) ((w1 >>> ((24 : Int32) &&& 31)).toInt8.toInt32)) ((n + 4) + 0) ((w2 >>> ((24 : Int32) &&& 31)).toInt8.toInt32)) ((n + 8) + 0) ((w3 >>> ((24 : Int32) &&& 31)).toInt8.toInt32)) ((n + 12) + 0) ((w4 >>> ((24 : Int32) &&& 31)).toInt8.toInt32)) ((n + 16) + 0) ((w5 >>> ((24 : Int32) &&& 31)).toInt8.toInt32)) (n + 1) ((w1 >>> ((16 : Int32) &&& 31)).toInt8.toInt32)) ((n + 4) + 1) ((w2 >>> ((16 : Int32) &&& 31)).toInt8.toInt32)) ((n + 8) + 1) ((w3 >>> ((16 : Int32) &&& 31)).toInt8.toInt32)) ((n + 12) + 1) ((w4 >>> ((16 : Int32) &&& 31)).toInt8.toInt32)) a z le wy fo en fF fA fB fS fW sk pg ye ys yt yg yp tk gF gA gB gS gW yk) hx hb hK hP hD hS 1 0 rfl rfl (rfl) (by omega) (by decide) (pk_vb _) rfl d_MD_feed_111 (fun H locs hP hD hS => ?_)
        refine lv_aload_n hx hb d_MD_feed_112 rfl (lv_at hl 2 rfl) ?_
        refine va_get (D := (dC, dI)) (ci := 7) (v := .ref (bd 1)) (C := R_MD) (T := T_MD) (N := 28) hx hb hts i_MD hown hK hP 0 rfl rfl 2 (by decide) (hts _ wd_394) (fun _ h9 => h9) rfl d_MD_feed_113 ?_
        refine lv_aload_n hx hb d_MD_feed_116 rfl (lv_at hl 2 rfl) ?_
        refine va_get (D := (dC, dI)) (ci := 7) (v := .int (nI n)) (C := R_MD) (T := T_MD) (N := 28) hx hb hts i_MD hown hK hP 0 rfl rfl 1 (by decide) (hts _ wd_393) (fun _ h9 => h9) rfl d_MD_feed_117 ?_
        refine lv_bipush (v := 16) hx hb d_MD_feed_120 (by decide) ?_
        refine lv_iadd hx hb d_MD_feed_122 ?_
        refine xtopi (y := nI (n + 16)) (nI_add (n) (16)) ?_
        refine lv_iload hx hb d_MD_feed_123 (lv_at hl 1 rfl) ?_
        refine lv_iadd hx hb d_MD_feed_125 ?_
        refine xtopi (y := nI ((n + 16) + 1)) (nI_add (n + 16) (1)) ?_
        refine lv_iload hx hb d_MD_feed_126 (lv_at hl 7 rfl) ?_
        refine lv_iload hx hb d_MD_feed_128 (lv_at hl 0 rfl) ?_
        refine lv_ishr hx hb d_MD_feed_130 ?_
        refine lv_i2b hx hb d_MD_feed_131 rfl ?_
        refine xbast (k := (n + 16) + 1) (x' := (w5 >>> ((16 : Int32) &&& 31)).toInt8.toInt32) (ws1 := wsM bd cm 0 n (upd (upd (upd (upd (upd (upd (upd (upd (upd (upd fr (n + 0) ((w1 >>> ((24 : Int32) &&& 31)).toInt8.toInt32)) ((n + 4) + 0) ((w2 >>> ((24 : Int32) &&& 31)).toInt8.toInt32)) ((n + 8) + 0) ((w3 >>> ((24 : Int32) &&& 31)).toInt8.toInt32)) ((n + 12) + 0) ((w4 >>> ((24 : Int32) &&& 31)).toInt8.toInt32)) ((n + 16) + 0) ((w5 >>> ((24 : Int32) &&& 31)).toInt8.toInt32)) (n + 1) ((w1 >>> ((16 : Int32) &&& 31)).toInt8.toInt32)) ((n + 4) + 1) ((w2 >>> ((16 : Int32) &&& 31)).toInt8.toInt32)) ((n + 8) + 1) ((w3 >>> ((16 : Int32) &&& 31)).toInt8.toInt32)) ((n + 12) + 1) ((w4 >>> ((16 : Int32) &&& 31)).toInt8.toInt32)) ((n + 16) + 1) ((w5 >>> ((16 : Int32) &&& 31)).toInt8.toInt32)) a z le wy fo en fF fA fB fS fW sk pg ye ys yt yg yp tk gF gA gB gS gW yk) hx hb hK hP hD hS 1 0 rfl rfl (rfl) (by omega) (by decide) (pk_vb _) rfl d_MD_feed_132 (fun H locs hP hD hS => ?_)
        refine lv_iinc (v := 2) (lv' := [(6, .int 2), (7, .int 16), (0, .ref (bd 0)), (1, .int w1), (2, .int w2), (3, .int w3), (4, .int w4), (5, .int w5)]) hx hb d_MD_feed_133 hl (k := 1) rfl rfl (by decide) rfl (fun ls hl => ?_)
        refine lv_goto (tgt := 19) hx hb d_MD_feed_136 (by decide) ?_
        refine lv_iload hx hb d_MD_feed_19 (lv_at hl 0 rfl) ?_
        refine lv_iconst (v := 4) hx hb d_MD_feed_21 (by decide) ?_
        refine lv_icmp_ge (tgt := 139) hx hb d_MD_feed_22 (by decide) (fun c_4 => ?_) (fun c_4 => ?_)
        · exact absurd c_4 (by decide)
        · skip
          refine lv_bipush (v := 24) hx hb d_MD_feed_25 (by decide) ?_
          refine lv_bipush (v := 8) hx hb d_MD_feed_27 (by decide) ?_
          refine lv_iload hx hb d_MD_feed_29 (lv_at hl 0 rfl) ?_
          refine lv_imul hx hb d_MD_feed_31 ?_
          refine lv_isub hx hb d_MD_feed_32 ?_
          refine xtopi (y := 8) (by decide) ?_
          refine lv_istore (lv' := [(7, .int 8), (6, .int 2), (0, .ref (bd 0)), (1, .int w1), (2, .int w2), (3, .int w3), (4, .int w4), (5, .int w5)]) hx hb d_MD_feed_33 hl (by decide) rfl (fun ls hl => ?_)
          refine lv_aload_n hx hb d_MD_feed_35 rfl (lv_at hl 2 rfl) ?_
          refine va_get (D := (dC, dI)) (ci := 7) (v := .ref (bd 1)) (C := R_MD) (T := T_MD) (N := 28) hx hb hts i_MD hown hK hP 0 rfl rfl 2 (by decide) (hts _ wd_394) (fun _ h9 => h9) rfl d_MD_feed_36 ?_
          refine lv_aload_n hx hb d_MD_feed_39 rfl (lv_at hl 2 rfl) ?_
          refine va_get (D := (dC, dI)) (ci := 7) (v := .int (nI n)) (C := R_MD) (T := T_MD) (N := 28) hx hb hts i_MD hown hK hP 0 rfl rfl 1 (by decide) (hts _ wd_393) (fun _ h9 => h9) rfl d_MD_feed_40 ?_
          refine lv_iload hx hb d_MD_feed_43 (lv_at hl 1 rfl) ?_
          refine lv_iadd hx hb d_MD_feed_45 ?_
          refine xtopi (y := nI (n + 2)) (nI_add (n) (2)) ?_
          refine lv_iload_n hx hb d_MD_feed_46 rfl (lv_at hl 3 rfl) ?_
          refine lv_iload hx hb d_MD_feed_47 (lv_at hl 0 rfl) ?_
          refine lv_ishr hx hb d_MD_feed_49 ?_
          refine lv_i2b hx hb d_MD_feed_50 rfl ?_
          refine xbast (k := n + 2) (x' := (w1 >>> ((8 : Int32) &&& 31)).toInt8.toInt32) (ws1 := wsM bd cm 0 n (upd (upd (upd (upd (upd (upd (upd (upd (upd (upd (upd fr (n + 0) ((w1 >>> ((24 : Int32) &&& 31)).toInt8.toInt32)) ((n + 4) + 0) ((w2 >>> ((24 : Int32) &&& 31)).toInt8.toInt32)) ((n + 8) + 0) ((w3 >>> ((24 : Int32) &&& 31)).toInt8.toInt32)) ((n + 12) + 0) ((w4 >>> ((24 : Int32) &&& 31)).toInt8.toInt32)) ((n + 16) + 0) ((w5 >>> ((24 : Int32) &&& 31)).toInt8.toInt32)) (n + 1) ((w1 >>> ((16 : Int32) &&& 31)).toInt8.toInt32)) ((n + 4) + 1) ((w2 >>> ((16 : Int32) &&& 31)).toInt8.toInt32)) ((n + 8) + 1) ((w3 >>> ((16 : Int32) &&& 31)).toInt8.toInt32)) ((n + 12) + 1) ((w4 >>> ((16 : Int32) &&& 31)).toInt8.toInt32)) ((n + 16) + 1) ((w5 >>> ((16 : Int32) &&& 31)).toInt8.toInt32)) (n + 2) ((w1 >>> ((8 : Int32) &&& 31)).toInt8.toInt32)) a z le wy fo en fF fA fB fS fW sk pg ye ys yt yg yp tk gF gA gB gS gW yk) hx hb hK hP hD hS 1 0 rfl rfl (rfl) (by omega) (by decide) (pk_vb _) rfl d_MD_feed_51 (fun H locs hP hD hS => ?_)
          refine lv_aload_n hx hb d_MD_feed_52 rfl (lv_at hl 2 rfl) ?_
          refine va_get (D := (dC, dI)) (ci := 7) (v := .ref (bd 1)) (C := R_MD) (T := T_MD) (N := 28) hx hb hts i_MD hown hK hP 0 rfl rfl 2 (by decide) (hts _ wd_394) (fun _ h9 => h9) rfl d_MD_feed_53 ?_
          refine lv_aload_n hx hb d_MD_feed_56 rfl (lv_at hl 2 rfl) ?_
          refine va_get (D := (dC, dI)) (ci := 7) (v := .int (nI n)) (C := R_MD) (T := T_MD) (N := 28) hx hb hts i_MD hown hK hP 0 rfl rfl 1 (by decide) (hts _ wd_393) (fun _ h9 => h9) rfl d_MD_feed_57 ?_
          refine lv_iconst (v := 4) hx hb d_MD_feed_60 (by decide) ?_
          refine lv_iadd hx hb d_MD_feed_61 ?_
          refine xtopi (y := nI (n + 4)) (nI_add (n) (4)) ?_
          refine lv_iload hx hb d_MD_feed_62 (lv_at hl 1 rfl) ?_
          refine lv_iadd hx hb d_MD_feed_64 ?_
          refine xtopi (y := nI ((n + 4) + 2)) (nI_add (n + 4) (2)) ?_
          refine lv_iload_n hx hb d_MD_feed_65 rfl (lv_at hl 4 rfl) ?_
          refine lv_iload hx hb d_MD_feed_66 (lv_at hl 0 rfl) ?_
          refine lv_ishr hx hb d_MD_feed_68 ?_
          refine lv_i2b hx hb d_MD_feed_69 rfl ?_
          refine xbast (k := (n + 4) + 2) (x' := (w2 >>> ((8 : Int32) &&& 31)).toInt8.toInt32) (ws1 := wsM bd cm 0 n (upd (upd (upd (upd (upd (upd (upd (upd (upd (upd (upd (upd fr (n + 0) ((w1 >>> ((24 : Int32) &&& 31)).toInt8.toInt32)) ((n + 4) + 0) ((w2 >>> ((24 : Int32) &&& 31)).toInt8.toInt32)) ((n + 8) + 0) ((w3 >>> ((24 : Int32) &&& 31)).toInt8.toInt32)) ((n + 12) + 0) ((w4 >>> ((24 : Int32) &&& 31)).toInt8.toInt32)) ((n + 16) + 0) ((w5 >>> ((24 : Int32) &&& 31)).toInt8.toInt32)) (n + 1) ((w1 >>> ((16 : Int32) &&& 31)).toInt8.toInt32)) ((n + 4) + 1) ((w2 >>> ((16 : Int32) &&& 31)).toInt8.toInt32)) ((n + 8) + 1) ((w3 >>> ((16 : Int32) &&& 31)).toInt8.toInt32)) ((n + 12) + 1) ((w4 >>> ((16 : Int32) &&& 31)).toInt8.toInt32)) ((n + 16) + 1) ((w5 >>> ((16 : Int32) &&& 31)).toInt8.toInt32)) (n + 2) ((w1 >>> ((8 : Int32) &&& 31)).toInt8.toInt32)) ((n + 4) + 2) ((w2 >>> ((8 : Int32) &&& 31)).toInt8.toInt32)) a z le wy fo en fF fA fB fS fW sk pg ye ys yt yg yp tk gF gA gB gS gW yk) hx hb hK hP hD hS 1 0 rfl rfl (rfl) (by omega) (by decide) (pk_vb _) rfl d_MD_feed_70 (fun H locs hP hD hS => ?_)
          refine lv_aload_n hx hb d_MD_feed_71 rfl (lv_at hl 2 rfl) ?_
          refine va_get (D := (dC, dI)) (ci := 7) (v := .ref (bd 1)) (C := R_MD) (T := T_MD) (N := 28) hx hb hts i_MD hown hK hP 0 rfl rfl 2 (by decide) (hts _ wd_394) (fun _ h9 => h9) rfl d_MD_feed_72 ?_
          refine lv_aload_n hx hb d_MD_feed_75 rfl (lv_at hl 2 rfl) ?_
          refine va_get (D := (dC, dI)) (ci := 7) (v := .int (nI n)) (C := R_MD) (T := T_MD) (N := 28) hx hb hts i_MD hown hK hP 0 rfl rfl 1 (by decide) (hts _ wd_393) (fun _ h9 => h9) rfl d_MD_feed_76 ?_
          refine lv_bipush (v := 8) hx hb d_MD_feed_79 (by decide) ?_
          refine lv_iadd hx hb d_MD_feed_81 ?_
          refine xtopi (y := nI (n + 8)) (nI_add (n) (8)) ?_
          refine lv_iload hx hb d_MD_feed_82 (lv_at hl 1 rfl) ?_
          refine lv_iadd hx hb d_MD_feed_84 ?_
          refine xtopi (y := nI ((n + 8) + 2)) (nI_add (n + 8) (2)) ?_
          refine lv_iload_n hx hb d_MD_feed_85 rfl (lv_at hl 5 rfl) ?_
          refine lv_iload hx hb d_MD_feed_86 (lv_at hl 0 rfl) ?_
          refine lv_ishr hx hb d_MD_feed_88 ?_
          refine lv_i2b hx hb d_MD_feed_89 rfl ?_
          refine xbast (k := (n + 8) + 2) (x' := (w3 >>> ((8 : Int32) &&& 31)).toInt8.toInt32) (ws1 := wsM bd cm 0 n (upd (upd (upd (upd (upd (upd (upd (upd (upd (upd (upd (upd (upd fr (n + 0) ((w1 >>> ((24 : Int32) &&& 31)).toInt8.toInt32)) ((n + 4) + 0) ((w2 >>> ((24 : Int32) &&& 31)).toInt8.toInt32)) ((n + 8) + 0) ((w3 >>> ((24 : Int32) &&& 31)).toInt8.toInt32)) ((n + 12) + 0) ((w4 >>> ((24 : Int32) &&& 31)).toInt8.toInt32)) ((n + 16) + 0) ((w5 >>> ((24 : Int32) &&& 31)).toInt8.toInt32)) (n + 1) ((w1 >>> ((16 : Int32) &&& 31)).toInt8.toInt32)) ((n + 4) + 1) ((w2 >>> ((16 : Int32) &&& 31)).toInt8.toInt32)) ((n + 8) + 1) ((w3 >>> ((16 : Int32) &&& 31)).toInt8.toInt32)) ((n + 12) + 1) ((w4 >>> ((16 : Int32) &&& 31)).toInt8.toInt32)) ((n + 16) + 1) ((w5 >>> ((16 : Int32) &&& 31)).toInt8.toInt32)) (n + 2) ((w1 >>> ((8 : Int32) &&& 31)).toInt8.toInt32)) ((n + 4) + 2) ((w2 >>> ((8 : Int32) &&& 31)).toInt8.toInt32)) ((n + 8) + 2) ((w3 >>> ((8 : Int32) &&& 31)).toInt8.toInt32)) a z le wy fo en fF fA fB fS fW sk pg ye ys yt yg yp tk gF gA gB gS gW yk) hx hb hK hP hD hS 1 0 rfl rfl (rfl) (by omega) (by decide) (pk_vb _) rfl d_MD_feed_90 (fun H locs hP hD hS => ?_)
          refine lv_aload_n hx hb d_MD_feed_91 rfl (lv_at hl 2 rfl) ?_
          refine va_get (D := (dC, dI)) (ci := 7) (v := .ref (bd 1)) (C := R_MD) (T := T_MD) (N := 28) hx hb hts i_MD hown hK hP 0 rfl rfl 2 (by decide) (hts _ wd_394) (fun _ h9 => h9) rfl d_MD_feed_92 ?_
          refine lv_aload_n hx hb d_MD_feed_95 rfl (lv_at hl 2 rfl) ?_
          refine va_get (D := (dC, dI)) (ci := 7) (v := .int (nI n)) (C := R_MD) (T := T_MD) (N := 28) hx hb hts i_MD hown hK hP 0 rfl rfl 1 (by decide) (hts _ wd_393) (fun _ h9 => h9) rfl d_MD_feed_96 ?_
          refine lv_bipush (v := 12) hx hb d_MD_feed_99 (by decide) ?_
          refine lv_iadd hx hb d_MD_feed_101 ?_
          refine xtopi (y := nI (n + 12)) (nI_add (n) (12)) ?_
          refine lv_iload hx hb d_MD_feed_102 (lv_at hl 1 rfl) ?_
          refine lv_iadd hx hb d_MD_feed_104 ?_
          refine xtopi (y := nI ((n + 12) + 2)) (nI_add (n + 12) (2)) ?_
          refine lv_iload hx hb d_MD_feed_105 (lv_at hl 6 rfl) ?_
          refine lv_iload hx hb d_MD_feed_107 (lv_at hl 0 rfl) ?_
          refine lv_ishr hx hb d_MD_feed_109 ?_
          refine lv_i2b hx hb d_MD_feed_110 rfl ?_
          refine xbast (k := (n + 12) + 2) (x' := (w4 >>> ((8 : Int32) &&& 31)).toInt8.toInt32) (ws1 := wsM bd cm 0 n (upd (upd (upd (upd (upd (upd (upd (upd (upd (upd (upd (upd (upd (upd fr (n + 0) ((w1 >>> ((24 : Int32) &&& 31)).toInt8.toInt32)) ((n + 4) + 0) ((w2 >>> ((24 : Int32) &&& 31)).toInt8.toInt32)) ((n + 8) + 0) ((w3 >>> ((24 : Int32) &&& 31)).toInt8.toInt32)) ((n + 12) + 0) ((w4 >>> ((24 : Int32) &&& 31)).toInt8.toInt32)) ((n + 16) + 0) ((w5 >>> ((24 : Int32) &&& 31)).toInt8.toInt32)) (n + 1) ((w1 >>> ((16 : Int32) &&& 31)).toInt8.toInt32)) ((n + 4) + 1) ((w2 >>> ((16 : Int32) &&& 31)).toInt8.toInt32)) ((n + 8) + 1) ((w3 >>> ((16 : Int32) &&& 31)).toInt8.toInt32)) ((n + 12) + 1) ((w4 >>> ((16 : Int32) &&& 31)).toInt8.toInt32)) ((n + 16) + 1) ((w5 >>> ((16 : Int32) &&& 31)).toInt8.toInt32)) (n + 2) ((w1 >>> ((8 : Int32) &&& 31)).toInt8.toInt32)) ((n + 4) + 2) ((w2 >>> ((8 : Int32) &&& 31)).toInt8.toInt32)) ((n + 8) + 2) ((w3 >>> ((8 : Int32) &&& 31)).toInt8.toInt32)) ((n + 12) + 2) ((w4 >>> ((8 : Int32) &&& 31)).toInt8.toInt32)) a z le wy fo en fF fA fB fS fW sk pg ye ys yt yg yp tk gF gA gB gS gW yk) hx hb hK hP hD hS 1 0 rfl rfl (rfl) (by omega) (by decide) (pk_vb _) rfl d_MD_feed_111 (fun H locs hP hD hS => ?_)
          refine lv_aload_n hx hb d_MD_feed_112 rfl (lv_at hl 2 rfl) ?_
          refine va_get (D := (dC, dI)) (ci := 7) (v := .ref (bd 1)) (C := R_MD) (T := T_MD) (N := 28) hx hb hts i_MD hown hK hP 0 rfl rfl 2 (by decide) (hts _ wd_394) (fun _ h9 => h9) rfl d_MD_feed_113 ?_
          refine lv_aload_n hx hb d_MD_feed_116 rfl (lv_at hl 2 rfl) ?_
          refine va_get (D := (dC, dI)) (ci := 7) (v := .int (nI n)) (C := R_MD) (T := T_MD) (N := 28) hx hb hts i_MD hown hK hP 0 rfl rfl 1 (by decide) (hts _ wd_393) (fun _ h9 => h9) rfl d_MD_feed_117 ?_
          refine lv_bipush (v := 16) hx hb d_MD_feed_120 (by decide) ?_
          refine lv_iadd hx hb d_MD_feed_122 ?_
          refine xtopi (y := nI (n + 16)) (nI_add (n) (16)) ?_
          refine lv_iload hx hb d_MD_feed_123 (lv_at hl 1 rfl) ?_
          refine lv_iadd hx hb d_MD_feed_125 ?_
          refine xtopi (y := nI ((n + 16) + 2)) (nI_add (n + 16) (2)) ?_
          refine lv_iload hx hb d_MD_feed_126 (lv_at hl 7 rfl) ?_
          refine lv_iload hx hb d_MD_feed_128 (lv_at hl 0 rfl) ?_
          refine lv_ishr hx hb d_MD_feed_130 ?_
          refine lv_i2b hx hb d_MD_feed_131 rfl ?_
          refine xbast (k := (n + 16) + 2) (x' := (w5 >>> ((8 : Int32) &&& 31)).toInt8.toInt32) (ws1 := wsM bd cm 0 n (upd (upd (upd (upd (upd (upd (upd (upd (upd (upd (upd (upd (upd (upd (upd fr (n + 0) ((w1 >>> ((24 : Int32) &&& 31)).toInt8.toInt32)) ((n + 4) + 0) ((w2 >>> ((24 : Int32) &&& 31)).toInt8.toInt32)) ((n + 8) + 0) ((w3 >>> ((24 : Int32) &&& 31)).toInt8.toInt32)) ((n + 12) + 0) ((w4 >>> ((24 : Int32) &&& 31)).toInt8.toInt32)) ((n + 16) + 0) ((w5 >>> ((24 : Int32) &&& 31)).toInt8.toInt32)) (n + 1) ((w1 >>> ((16 : Int32) &&& 31)).toInt8.toInt32)) ((n + 4) + 1) ((w2 >>> ((16 : Int32) &&& 31)).toInt8.toInt32)) ((n + 8) + 1) ((w3 >>> ((16 : Int32) &&& 31)).toInt8.toInt32)) ((n + 12) + 1) ((w4 >>> ((16 : Int32) &&& 31)).toInt8.toInt32)) ((n + 16) + 1) ((w5 >>> ((16 : Int32) &&& 31)).toInt8.toInt32)) (n + 2) ((w1 >>> ((8 : Int32) &&& 31)).toInt8.toInt32)) ((n + 4) + 2) ((w2 >>> ((8 : Int32) &&& 31)).toInt8.toInt32)) ((n + 8) + 2) ((w3 >>> ((8 : Int32) &&& 31)).toInt8.toInt32)) ((n + 12) + 2) ((w4 >>> ((8 : Int32) &&& 31)).toInt8.toInt32)) ((n + 16) + 2) ((w5 >>> ((8 : Int32) &&& 31)).toInt8.toInt32)) a z le wy fo en fF fA fB fS fW sk pg ye ys yt yg yp tk gF gA gB gS gW yk) hx hb hK hP hD hS 1 0 rfl rfl (rfl) (by omega) (by decide) (pk_vb _) rfl d_MD_feed_132 (fun H locs hP hD hS => ?_)
          refine lv_iinc (v := 3) (lv' := [(6, .int 3), (7, .int 8), (0, .ref (bd 0)), (1, .int w1), (2, .int w2), (3, .int w3), (4, .int w4), (5, .int w5)]) hx hb d_MD_feed_133 hl (k := 1) rfl rfl (by decide) rfl (fun ls hl => ?_)
          refine lv_goto (tgt := 19) hx hb d_MD_feed_136 (by decide) ?_
          refine lv_iload hx hb d_MD_feed_19 (lv_at hl 0 rfl) ?_
          refine lv_iconst (v := 4) hx hb d_MD_feed_21 (by decide) ?_
          refine lv_icmp_ge (tgt := 139) hx hb d_MD_feed_22 (by decide) (fun c_5 => ?_) (fun c_5 => ?_)
          · exact absurd c_5 (by decide)
          · skip
            refine lv_bipush (v := 24) hx hb d_MD_feed_25 (by decide) ?_
            refine lv_bipush (v := 8) hx hb d_MD_feed_27 (by decide) ?_
            refine lv_iload hx hb d_MD_feed_29 (lv_at hl 0 rfl) ?_
            refine lv_imul hx hb d_MD_feed_31 ?_
            refine lv_isub hx hb d_MD_feed_32 ?_
            refine xtopi (y := 0) (by decide) ?_
            refine lv_istore (lv' := [(7, .int 0), (6, .int 3), (0, .ref (bd 0)), (1, .int w1), (2, .int w2), (3, .int w3), (4, .int w4), (5, .int w5)]) hx hb d_MD_feed_33 hl (by decide) rfl (fun ls hl => ?_)
            refine lv_aload_n hx hb d_MD_feed_35 rfl (lv_at hl 2 rfl) ?_
            refine va_get (D := (dC, dI)) (ci := 7) (v := .ref (bd 1)) (C := R_MD) (T := T_MD) (N := 28) hx hb hts i_MD hown hK hP 0 rfl rfl 2 (by decide) (hts _ wd_394) (fun _ h9 => h9) rfl d_MD_feed_36 ?_
            refine lv_aload_n hx hb d_MD_feed_39 rfl (lv_at hl 2 rfl) ?_
            refine va_get (D := (dC, dI)) (ci := 7) (v := .int (nI n)) (C := R_MD) (T := T_MD) (N := 28) hx hb hts i_MD hown hK hP 0 rfl rfl 1 (by decide) (hts _ wd_393) (fun _ h9 => h9) rfl d_MD_feed_40 ?_
            refine lv_iload hx hb d_MD_feed_43 (lv_at hl 1 rfl) ?_
            refine lv_iadd hx hb d_MD_feed_45 ?_
            refine xtopi (y := nI (n + 3)) (nI_add (n) (3)) ?_
            refine lv_iload_n hx hb d_MD_feed_46 rfl (lv_at hl 3 rfl) ?_
            refine lv_iload hx hb d_MD_feed_47 (lv_at hl 0 rfl) ?_
            refine lv_ishr hx hb d_MD_feed_49 ?_
            refine lv_i2b hx hb d_MD_feed_50 rfl ?_
            refine xbast (k := n + 3) (x' := (w1 >>> ((0 : Int32) &&& 31)).toInt8.toInt32) (ws1 := wsM bd cm 0 n (upd (upd (upd (upd (upd (upd (upd (upd (upd (upd (upd (upd (upd (upd (upd (upd fr (n + 0) ((w1 >>> ((24 : Int32) &&& 31)).toInt8.toInt32)) ((n + 4) + 0) ((w2 >>> ((24 : Int32) &&& 31)).toInt8.toInt32)) ((n + 8) + 0) ((w3 >>> ((24 : Int32) &&& 31)).toInt8.toInt32)) ((n + 12) + 0) ((w4 >>> ((24 : Int32) &&& 31)).toInt8.toInt32)) ((n + 16) + 0) ((w5 >>> ((24 : Int32) &&& 31)).toInt8.toInt32)) (n + 1) ((w1 >>> ((16 : Int32) &&& 31)).toInt8.toInt32)) ((n + 4) + 1) ((w2 >>> ((16 : Int32) &&& 31)).toInt8.toInt32)) ((n + 8) + 1) ((w3 >>> ((16 : Int32) &&& 31)).toInt8.toInt32)) ((n + 12) + 1) ((w4 >>> ((16 : Int32) &&& 31)).toInt8.toInt32)) ((n + 16) + 1) ((w5 >>> ((16 : Int32) &&& 31)).toInt8.toInt32)) (n + 2) ((w1 >>> ((8 : Int32) &&& 31)).toInt8.toInt32)) ((n + 4) + 2) ((w2 >>> ((8 : Int32) &&& 31)).toInt8.toInt32)) ((n + 8) + 2) ((w3 >>> ((8 : Int32) &&& 31)).toInt8.toInt32)) ((n + 12) + 2) ((w4 >>> ((8 : Int32) &&& 31)).toInt8.toInt32)) ((n + 16) + 2) ((w5 >>> ((8 : Int32) &&& 31)).toInt8.toInt32)) (n + 3) ((w1 >>> ((0 : Int32) &&& 31)).toInt8.toInt32)) a z le wy fo en fF fA fB fS fW sk pg ye ys yt yg yp tk gF gA gB gS gW yk) hx hb hK hP hD hS 1 0 rfl rfl (rfl) (by omega) (by decide) (pk_vb _) rfl d_MD_feed_51 (fun H locs hP hD hS => ?_)
            refine lv_aload_n hx hb d_MD_feed_52 rfl (lv_at hl 2 rfl) ?_
            refine va_get (D := (dC, dI)) (ci := 7) (v := .ref (bd 1)) (C := R_MD) (T := T_MD) (N := 28) hx hb hts i_MD hown hK hP 0 rfl rfl 2 (by decide) (hts _ wd_394) (fun _ h9 => h9) rfl d_MD_feed_53 ?_
            refine lv_aload_n hx hb d_MD_feed_56 rfl (lv_at hl 2 rfl) ?_
            refine va_get (D := (dC, dI)) (ci := 7) (v := .int (nI n)) (C := R_MD) (T := T_MD) (N := 28) hx hb hts i_MD hown hK hP 0 rfl rfl 1 (by decide) (hts _ wd_393) (fun _ h9 => h9) rfl d_MD_feed_57 ?_
            refine lv_iconst (v := 4) hx hb d_MD_feed_60 (by decide) ?_
            refine lv_iadd hx hb d_MD_feed_61 ?_
            refine xtopi (y := nI (n + 4)) (nI_add (n) (4)) ?_
            refine lv_iload hx hb d_MD_feed_62 (lv_at hl 1 rfl) ?_
            refine lv_iadd hx hb d_MD_feed_64 ?_
            refine xtopi (y := nI ((n + 4) + 3)) (nI_add (n + 4) (3)) ?_
            refine lv_iload_n hx hb d_MD_feed_65 rfl (lv_at hl 4 rfl) ?_
            refine lv_iload hx hb d_MD_feed_66 (lv_at hl 0 rfl) ?_
            refine lv_ishr hx hb d_MD_feed_68 ?_
            refine lv_i2b hx hb d_MD_feed_69 rfl ?_
            refine xbast (k := (n + 4) + 3) (x' := (w2 >>> ((0 : Int32) &&& 31)).toInt8.toInt32) (ws1 := wsM bd cm 0 n (upd (upd (upd (upd (upd (upd (upd (upd (upd (upd (upd (upd (upd (upd (upd (upd (upd fr (n + 0) ((w1 >>> ((24 : Int32) &&& 31)).toInt8.toInt32)) ((n + 4) + 0) ((w2 >>> ((24 : Int32) &&& 31)).toInt8.toInt32)) ((n + 8) + 0) ((w3 >>> ((24 : Int32) &&& 31)).toInt8.toInt32)) ((n + 12) + 0) ((w4 >>> ((24 : Int32) &&& 31)).toInt8.toInt32)) ((n + 16) + 0) ((w5 >>> ((24 : Int32) &&& 31)).toInt8.toInt32)) (n + 1) ((w1 >>> ((16 : Int32) &&& 31)).toInt8.toInt32)) ((n + 4) + 1) ((w2 >>> ((16 : Int32) &&& 31)).toInt8.toInt32)) ((n + 8) + 1) ((w3 >>> ((16 : Int32) &&& 31)).toInt8.toInt32)) ((n + 12) + 1) ((w4 >>> ((16 : Int32) &&& 31)).toInt8.toInt32)) ((n + 16) + 1) ((w5 >>> ((16 : Int32) &&& 31)).toInt8.toInt32)) (n + 2) ((w1 >>> ((8 : Int32) &&& 31)).toInt8.toInt32)) ((n + 4) + 2) ((w2 >>> ((8 : Int32) &&& 31)).toInt8.toInt32)) ((n + 8) + 2) ((w3 >>> ((8 : Int32) &&& 31)).toInt8.toInt32)) ((n + 12) + 2) ((w4 >>> ((8 : Int32) &&& 31)).toInt8.toInt32)) ((n + 16) + 2) ((w5 >>> ((8 : Int32) &&& 31)).toInt8.toInt32)) (n + 3) ((w1 >>> ((0 : Int32) &&& 31)).toInt8.toInt32)) ((n + 4) + 3) ((w2 >>> ((0 : Int32) &&& 31)).toInt8.toInt32)) a z le wy fo en fF fA fB fS fW sk pg ye ys yt yg yp tk gF gA gB gS gW yk) hx hb hK hP hD hS 1 0 rfl rfl (rfl) (by omega) (by decide) (pk_vb _) rfl d_MD_feed_70 (fun H locs hP hD hS => ?_)
            refine lv_aload_n hx hb d_MD_feed_71 rfl (lv_at hl 2 rfl) ?_
            refine va_get (D := (dC, dI)) (ci := 7) (v := .ref (bd 1)) (C := R_MD) (T := T_MD) (N := 28) hx hb hts i_MD hown hK hP 0 rfl rfl 2 (by decide) (hts _ wd_394) (fun _ h9 => h9) rfl d_MD_feed_72 ?_
            refine lv_aload_n hx hb d_MD_feed_75 rfl (lv_at hl 2 rfl) ?_
            refine va_get (D := (dC, dI)) (ci := 7) (v := .int (nI n)) (C := R_MD) (T := T_MD) (N := 28) hx hb hts i_MD hown hK hP 0 rfl rfl 1 (by decide) (hts _ wd_393) (fun _ h9 => h9) rfl d_MD_feed_76 ?_
            refine lv_bipush (v := 8) hx hb d_MD_feed_79 (by decide) ?_
            refine lv_iadd hx hb d_MD_feed_81 ?_
            refine xtopi (y := nI (n + 8)) (nI_add (n) (8)) ?_
            refine lv_iload hx hb d_MD_feed_82 (lv_at hl 1 rfl) ?_
            refine lv_iadd hx hb d_MD_feed_84 ?_
            refine xtopi (y := nI ((n + 8) + 3)) (nI_add (n + 8) (3)) ?_
            refine lv_iload_n hx hb d_MD_feed_85 rfl (lv_at hl 5 rfl) ?_
            refine lv_iload hx hb d_MD_feed_86 (lv_at hl 0 rfl) ?_
            refine lv_ishr hx hb d_MD_feed_88 ?_
            refine lv_i2b hx hb d_MD_feed_89 rfl ?_
            refine xbast (k := (n + 8) + 3) (x' := (w3 >>> ((0 : Int32) &&& 31)).toInt8.toInt32) (ws1 := wsM bd cm 0 n (upd (upd (upd (upd (upd (upd (upd (upd (upd (upd (upd (upd (upd (upd (upd (upd (upd (upd fr (n + 0) ((w1 >>> ((24 : Int32) &&& 31)).toInt8.toInt32)) ((n + 4) + 0) ((w2 >>> ((24 : Int32) &&& 31)).toInt8.toInt32)) ((n + 8) + 0) ((w3 >>> ((24 : Int32) &&& 31)).toInt8.toInt32)) ((n + 12) + 0) ((w4 >>> ((24 : Int32) &&& 31)).toInt8.toInt32)) ((n + 16) + 0) ((w5 >>> ((24 : Int32) &&& 31)).toInt8.toInt32)) (n + 1) ((w1 >>> ((16 : Int32) &&& 31)).toInt8.toInt32)) ((n + 4) + 1) ((w2 >>> ((16 : Int32) &&& 31)).toInt8.toInt32)) ((n + 8) + 1) ((w3 >>> ((16 : Int32) &&& 31)).toInt8.toInt32)) ((n + 12) + 1) ((w4 >>> ((16 : Int32) &&& 31)).toInt8.toInt32)) ((n + 16) + 1) ((w5 >>> ((16 : Int32) &&& 31)).toInt8.toInt32)) (n + 2) ((w1 >>> ((8 : Int32) &&& 31)).toInt8.toInt32)) ((n + 4) + 2) ((w2 >>> ((8 : Int32) &&& 31)).toInt8.toInt32)) ((n + 8) + 2) ((w3 >>> ((8 : Int32) &&& 31)).toInt8.toInt32)) ((n + 12) + 2) ((w4 >>> ((8 : Int32) &&& 31)).toInt8.toInt32)) ((n + 16) + 2) ((w5 >>> ((8 : Int32) &&& 31)).toInt8.toInt32)) (n + 3) ((w1 >>> ((0 : Int32) &&& 31)).toInt8.toInt32)) ((n + 4) + 3) ((w2 >>> ((0 : Int32) &&& 31)).toInt8.toInt32)) ((n + 8) + 3) ((w3 >>> ((0 : Int32) &&& 31)).toInt8.toInt32)) a z le wy fo en fF fA fB fS fW sk pg ye ys yt yg yp tk gF gA gB gS gW yk) hx hb hK hP hD hS 1 0 rfl rfl (rfl) (by omega) (by decide) (pk_vb _) rfl d_MD_feed_90 (fun H locs hP hD hS => ?_)
            refine lv_aload_n hx hb d_MD_feed_91 rfl (lv_at hl 2 rfl) ?_
            refine va_get (D := (dC, dI)) (ci := 7) (v := .ref (bd 1)) (C := R_MD) (T := T_MD) (N := 28) hx hb hts i_MD hown hK hP 0 rfl rfl 2 (by decide) (hts _ wd_394) (fun _ h9 => h9) rfl d_MD_feed_92 ?_
            refine lv_aload_n hx hb d_MD_feed_95 rfl (lv_at hl 2 rfl) ?_
            refine va_get (D := (dC, dI)) (ci := 7) (v := .int (nI n)) (C := R_MD) (T := T_MD) (N := 28) hx hb hts i_MD hown hK hP 0 rfl rfl 1 (by decide) (hts _ wd_393) (fun _ h9 => h9) rfl d_MD_feed_96 ?_
            refine lv_bipush (v := 12) hx hb d_MD_feed_99 (by decide) ?_
            refine lv_iadd hx hb d_MD_feed_101 ?_
            refine xtopi (y := nI (n + 12)) (nI_add (n) (12)) ?_
            refine lv_iload hx hb d_MD_feed_102 (lv_at hl 1 rfl) ?_
            refine lv_iadd hx hb d_MD_feed_104 ?_
            refine xtopi (y := nI ((n + 12) + 3)) (nI_add (n + 12) (3)) ?_
            refine lv_iload hx hb d_MD_feed_105 (lv_at hl 6 rfl) ?_
            refine lv_iload hx hb d_MD_feed_107 (lv_at hl 0 rfl) ?_
            refine lv_ishr hx hb d_MD_feed_109 ?_
            refine lv_i2b hx hb d_MD_feed_110 rfl ?_
            refine xbast (k := (n + 12) + 3) (x' := (w4 >>> ((0 : Int32) &&& 31)).toInt8.toInt32) (ws1 := wsM bd cm 0 n (upd (upd (upd (upd (upd (upd (upd (upd (upd (upd (upd (upd (upd (upd (upd (upd (upd (upd (upd fr (n + 0) ((w1 >>> ((24 : Int32) &&& 31)).toInt8.toInt32)) ((n + 4) + 0) ((w2 >>> ((24 : Int32) &&& 31)).toInt8.toInt32)) ((n + 8) + 0) ((w3 >>> ((24 : Int32) &&& 31)).toInt8.toInt32)) ((n + 12) + 0) ((w4 >>> ((24 : Int32) &&& 31)).toInt8.toInt32)) ((n + 16) + 0) ((w5 >>> ((24 : Int32) &&& 31)).toInt8.toInt32)) (n + 1) ((w1 >>> ((16 : Int32) &&& 31)).toInt8.toInt32)) ((n + 4) + 1) ((w2 >>> ((16 : Int32) &&& 31)).toInt8.toInt32)) ((n + 8) + 1) ((w3 >>> ((16 : Int32) &&& 31)).toInt8.toInt32)) ((n + 12) + 1) ((w4 >>> ((16 : Int32) &&& 31)).toInt8.toInt32)) ((n + 16) + 1) ((w5 >>> ((16 : Int32) &&& 31)).toInt8.toInt32)) (n + 2) ((w1 >>> ((8 : Int32) &&& 31)).toInt8.toInt32)) ((n + 4) + 2) ((w2 >>> ((8 : Int32) &&& 31)).toInt8.toInt32)) ((n + 8) + 2) ((w3 >>> ((8 : Int32) &&& 31)).toInt8.toInt32)) ((n + 12) + 2) ((w4 >>> ((8 : Int32) &&& 31)).toInt8.toInt32)) ((n + 16) + 2) ((w5 >>> ((8 : Int32) &&& 31)).toInt8.toInt32)) (n + 3) ((w1 >>> ((0 : Int32) &&& 31)).toInt8.toInt32)) ((n + 4) + 3) ((w2 >>> ((0 : Int32) &&& 31)).toInt8.toInt32)) ((n + 8) + 3) ((w3 >>> ((0 : Int32) &&& 31)).toInt8.toInt32)) ((n + 12) + 3) ((w4 >>> ((0 : Int32) &&& 31)).toInt8.toInt32)) a z le wy fo en fF fA fB fS fW sk pg ye ys yt yg yp tk gF gA gB gS gW yk) hx hb hK hP hD hS 1 0 rfl rfl (rfl) (by omega) (by decide) (pk_vb _) rfl d_MD_feed_111 (fun H locs hP hD hS => ?_)
            refine lv_aload_n hx hb d_MD_feed_112 rfl (lv_at hl 2 rfl) ?_
            refine va_get (D := (dC, dI)) (ci := 7) (v := .ref (bd 1)) (C := R_MD) (T := T_MD) (N := 28) hx hb hts i_MD hown hK hP 0 rfl rfl 2 (by decide) (hts _ wd_394) (fun _ h9 => h9) rfl d_MD_feed_113 ?_
            refine lv_aload_n hx hb d_MD_feed_116 rfl (lv_at hl 2 rfl) ?_
            refine va_get (D := (dC, dI)) (ci := 7) (v := .int (nI n)) (C := R_MD) (T := T_MD) (N := 28) hx hb hts i_MD hown hK hP 0 rfl rfl 1 (by decide) (hts _ wd_393) (fun _ h9 => h9) rfl d_MD_feed_117 ?_
            refine lv_bipush (v := 16) hx hb d_MD_feed_120 (by decide) ?_
            refine lv_iadd hx hb d_MD_feed_122 ?_
            refine xtopi (y := nI (n + 16)) (nI_add (n) (16)) ?_
            refine lv_iload hx hb d_MD_feed_123 (lv_at hl 1 rfl) ?_
            refine lv_iadd hx hb d_MD_feed_125 ?_
            refine xtopi (y := nI ((n + 16) + 3)) (nI_add (n + 16) (3)) ?_
            refine lv_iload hx hb d_MD_feed_126 (lv_at hl 7 rfl) ?_
            refine lv_iload hx hb d_MD_feed_128 (lv_at hl 0 rfl) ?_
            refine lv_ishr hx hb d_MD_feed_130 ?_
            refine lv_i2b hx hb d_MD_feed_131 rfl ?_
            refine xbast (k := (n + 16) + 3) (x' := (w5 >>> ((0 : Int32) &&& 31)).toInt8.toInt32) (ws1 := wsM bd cm 0 n (upd (upd (upd (upd (upd (upd (upd (upd (upd (upd (upd (upd (upd (upd (upd (upd (upd (upd (upd (upd fr (n + 0) ((w1 >>> ((24 : Int32) &&& 31)).toInt8.toInt32)) ((n + 4) + 0) ((w2 >>> ((24 : Int32) &&& 31)).toInt8.toInt32)) ((n + 8) + 0) ((w3 >>> ((24 : Int32) &&& 31)).toInt8.toInt32)) ((n + 12) + 0) ((w4 >>> ((24 : Int32) &&& 31)).toInt8.toInt32)) ((n + 16) + 0) ((w5 >>> ((24 : Int32) &&& 31)).toInt8.toInt32)) (n + 1) ((w1 >>> ((16 : Int32) &&& 31)).toInt8.toInt32)) ((n + 4) + 1) ((w2 >>> ((16 : Int32) &&& 31)).toInt8.toInt32)) ((n + 8) + 1) ((w3 >>> ((16 : Int32) &&& 31)).toInt8.toInt32)) ((n + 12) + 1) ((w4 >>> ((16 : Int32) &&& 31)).toInt8.toInt32)) ((n + 16) + 1) ((w5 >>> ((16 : Int32) &&& 31)).toInt8.toInt32)) (n + 2) ((w1 >>> ((8 : Int32) &&& 31)).toInt8.toInt32)) ((n + 4) + 2) ((w2 >>> ((8 : Int32) &&& 31)).toInt8.toInt32)) ((n + 8) + 2) ((w3 >>> ((8 : Int32) &&& 31)).toInt8.toInt32)) ((n + 12) + 2) ((w4 >>> ((8 : Int32) &&& 31)).toInt8.toInt32)) ((n + 16) + 2) ((w5 >>> ((8 : Int32) &&& 31)).toInt8.toInt32)) (n + 3) ((w1 >>> ((0 : Int32) &&& 31)).toInt8.toInt32)) ((n + 4) + 3) ((w2 >>> ((0 : Int32) &&& 31)).toInt8.toInt32)) ((n + 8) + 3) ((w3 >>> ((0 : Int32) &&& 31)).toInt8.toInt32)) ((n + 12) + 3) ((w4 >>> ((0 : Int32) &&& 31)).toInt8.toInt32)) ((n + 16) + 3) ((w5 >>> ((0 : Int32) &&& 31)).toInt8.toInt32)) a z le wy fo en fF fA fB fS fW sk pg ye ys yt yg yp tk gF gA gB gS gW yk) hx hb hK hP hD hS 1 0 rfl rfl (rfl) (by omega) (by decide) (pk_vb _) rfl d_MD_feed_132 (fun H locs hP hD hS => ?_)
            refine lv_iinc (v := 4) (lv' := [(6, .int 4), (7, .int 0), (0, .ref (bd 0)), (1, .int w1), (2, .int w2), (3, .int w3), (4, .int w4), (5, .int w5)]) hx hb d_MD_feed_133 hl (k := 1) rfl rfl (by decide) rfl (fun ls hl => ?_)
            refine lv_goto (tgt := 19) hx hb d_MD_feed_136 (by decide) ?_
            refine lv_iload hx hb d_MD_feed_19 (lv_at hl 0 rfl) ?_
            refine lv_iconst (v := 4) hx hb d_MD_feed_21 (by decide) ?_
            refine lv_icmp_ge (tgt := 139) hx hb d_MD_feed_22 (by decide) (fun c_6 => ?_) (fun c_6 => ?_)
            · skip
              refine lv_aload_n hx hb d_MD_feed_139 rfl (lv_at hl 2 rfl) ?_
              refine lv_dup hx hb d_MD_feed_140 rfl ?_
              refine va_get (D := (dC, dI)) (ci := 7) (v := .int (nI n)) (C := R_MD) (T := T_MD) (N := 28) hx hb hts i_MD hown hK hP 0 rfl rfl 1 (by decide) (hts _ wd_393) (fun _ h9 => h9) rfl d_MD_feed_141 ?_
              refine lv_bipush (v := 20) hx hb d_MD_feed_144 (by decide) ?_
              refine lv_iadd hx hb d_MD_feed_146 ?_
              refine xtopi (y := nI (n + 20)) (nI_add (n) (20)) ?_
              refine va_put (D := (dC, dI)) (ci := 7) (v := .int (nI (n + 20))) (ty := .int) (C := R_MD) (T := T_MD) (N := 28) hx hb hts i_MD t_MD k_MD n_MD hown hK hP hD hS 0 rfl rfl 1 (by decide) (hts _ wd_393) (fun _ h9 => h9) rfl (by decide +kernel) rfl rfl (Nat.le_of_ble_eq_true rfl) d_MD_feed_147 (fun H locs hP hD hS => ?_)
              have hP : va_P (dC, dI) vwCl (wsM bd cm 0 (n + 20) (upd (upd (upd (upd (upd (upd (upd (upd (upd (upd (upd (upd (upd (upd (upd (upd (upd (upd (upd (upd fr (n + 0) ((w1 >>> ((24 : Int32) &&& 31)).toInt8.toInt32)) ((n + 4) + 0) ((w2 >>> ((24 : Int32) &&& 31)).toInt8.toInt32)) ((n + 8) + 0) ((w3 >>> ((24 : Int32) &&& 31)).toInt8.toInt32)) ((n + 12) + 0) ((w4 >>> ((24 : Int32) &&& 31)).toInt8.toInt32)) ((n + 16) + 0) ((w5 >>> ((24 : Int32) &&& 31)).toInt8.toInt32)) (n + 1) ((w1 >>> ((16 : Int32) &&& 31)).toInt8.toInt32)) ((n + 4) + 1) ((w2 >>> ((16 : Int32) &&& 31)).toInt8.toInt32)) ((n + 8) + 1) ((w3 >>> ((16 : Int32) &&& 31)).toInt8.toInt32)) ((n + 12) + 1) ((w4 >>> ((16 : Int32) &&& 31)).toInt8.toInt32)) ((n + 16) + 1) ((w5 >>> ((16 : Int32) &&& 31)).toInt8.toInt32)) (n + 2) ((w1 >>> ((8 : Int32) &&& 31)).toInt8.toInt32)) ((n + 4) + 2) ((w2 >>> ((8 : Int32) &&& 31)).toInt8.toInt32)) ((n + 8) + 2) ((w3 >>> ((8 : Int32) &&& 31)).toInt8.toInt32)) ((n + 12) + 2) ((w4 >>> ((8 : Int32) &&& 31)).toInt8.toInt32)) ((n + 16) + 2) ((w5 >>> ((8 : Int32) &&& 31)).toInt8.toInt32)) (n + 3) ((w1 >>> ((0 : Int32) &&& 31)).toInt8.toInt32)) ((n + 4) + 3) ((w2 >>> ((0 : Int32) &&& 31)).toInt8.toInt32)) ((n + 8) + 3) ((w3 >>> ((0 : Int32) &&& 31)).toInt8.toInt32)) ((n + 12) + 3) ((w4 >>> ((0 : Int32) &&& 31)).toInt8.toInt32)) ((n + 16) + 3) ((w5 >>> ((0 : Int32) &&& 31)).toInt8.toInt32)) a z le wy fo en fF fA fB fS fW sk pg ye ys yt yg yp tk gF gA gB gS gW yk) H := hP
              have hD : va_D A (wsM bd cm 0 (n + 20) (upd (upd (upd (upd (upd (upd (upd (upd (upd (upd (upd (upd (upd (upd (upd (upd (upd (upd (upd (upd fr (n + 0) ((w1 >>> ((24 : Int32) &&& 31)).toInt8.toInt32)) ((n + 4) + 0) ((w2 >>> ((24 : Int32) &&& 31)).toInt8.toInt32)) ((n + 8) + 0) ((w3 >>> ((24 : Int32) &&& 31)).toInt8.toInt32)) ((n + 12) + 0) ((w4 >>> ((24 : Int32) &&& 31)).toInt8.toInt32)) ((n + 16) + 0) ((w5 >>> ((24 : Int32) &&& 31)).toInt8.toInt32)) (n + 1) ((w1 >>> ((16 : Int32) &&& 31)).toInt8.toInt32)) ((n + 4) + 1) ((w2 >>> ((16 : Int32) &&& 31)).toInt8.toInt32)) ((n + 8) + 1) ((w3 >>> ((16 : Int32) &&& 31)).toInt8.toInt32)) ((n + 12) + 1) ((w4 >>> ((16 : Int32) &&& 31)).toInt8.toInt32)) ((n + 16) + 1) ((w5 >>> ((16 : Int32) &&& 31)).toInt8.toInt32)) (n + 2) ((w1 >>> ((8 : Int32) &&& 31)).toInt8.toInt32)) ((n + 4) + 2) ((w2 >>> ((8 : Int32) &&& 31)).toInt8.toInt32)) ((n + 8) + 2) ((w3 >>> ((8 : Int32) &&& 31)).toInt8.toInt32)) ((n + 12) + 2) ((w4 >>> ((8 : Int32) &&& 31)).toInt8.toInt32)) ((n + 16) + 2) ((w5 >>> ((8 : Int32) &&& 31)).toInt8.toInt32)) (n + 3) ((w1 >>> ((0 : Int32) &&& 31)).toInt8.toInt32)) ((n + 4) + 3) ((w2 >>> ((0 : Int32) &&& 31)).toInt8.toInt32)) ((n + 8) + 3) ((w3 >>> ((0 : Int32) &&& 31)).toInt8.toInt32)) ((n + 12) + 3) ((w4 >>> ((0 : Int32) &&& 31)).toInt8.toInt32)) ((n + 16) + 3) ((w5 >>> ((0 : Int32) &&& 31)).toInt8.toInt32)) a z le wy fo en fF fA fB fS fW sk pg ye ys yt yg yp tk gF gA gB gS gW yk) := hD
              refine lv_iconst (v := 1) hx hb d_MD_feed_150 (by decide) ?_
              have hw9 : wsM bd cm 0 (n + 20) (upd (upd (upd (upd (upd (upd (upd (upd (upd (upd (upd (upd (upd (upd (upd (upd (upd (upd (upd (upd fr (n + 0) ((w1 >>> ((24 : Int32) &&& 31)).toInt8.toInt32)) ((n + 4) + 0) ((w2 >>> ((24 : Int32) &&& 31)).toInt8.toInt32)) ((n + 8) + 0) ((w3 >>> ((24 : Int32) &&& 31)).toInt8.toInt32)) ((n + 12) + 0) ((w4 >>> ((24 : Int32) &&& 31)).toInt8.toInt32)) ((n + 16) + 0) ((w5 >>> ((24 : Int32) &&& 31)).toInt8.toInt32)) (n + 1) ((w1 >>> ((16 : Int32) &&& 31)).toInt8.toInt32)) ((n + 4) + 1) ((w2 >>> ((16 : Int32) &&& 31)).toInt8.toInt32)) ((n + 8) + 1) ((w3 >>> ((16 : Int32) &&& 31)).toInt8.toInt32)) ((n + 12) + 1) ((w4 >>> ((16 : Int32) &&& 31)).toInt8.toInt32)) ((n + 16) + 1) ((w5 >>> ((16 : Int32) &&& 31)).toInt8.toInt32)) (n + 2) ((w1 >>> ((8 : Int32) &&& 31)).toInt8.toInt32)) ((n + 4) + 2) ((w2 >>> ((8 : Int32) &&& 31)).toInt8.toInt32)) ((n + 8) + 2) ((w3 >>> ((8 : Int32) &&& 31)).toInt8.toInt32)) ((n + 12) + 2) ((w4 >>> ((8 : Int32) &&& 31)).toInt8.toInt32)) ((n + 16) + 2) ((w5 >>> ((8 : Int32) &&& 31)).toInt8.toInt32)) (n + 3) ((w1 >>> ((0 : Int32) &&& 31)).toInt8.toInt32)) ((n + 4) + 3) ((w2 >>> ((0 : Int32) &&& 31)).toInt8.toInt32)) ((n + 8) + 3) ((w3 >>> ((0 : Int32) &&& 31)).toInt8.toInt32)) ((n + 12) + 3) ((w4 >>> ((0 : Int32) &&& 31)).toInt8.toInt32)) ((n + 16) + 3) ((w5 >>> ((0 : Int32) &&& 31)).toInt8.toInt32)) a z le wy fo en fF fA fB fS fW sk pg ye ys yt yg yp tk gF gA gB gS gW yk = wsM bd cm 0 (fdN n) (mfF n fr w1 w2 w3 w4 w5) a z le wy fo en fF fA fB fS fW sk pg ye ys yt yg yp tk gF gA gB gS gW yk := by rw [fdN, mfF, if_pos (by omega), if_pos (by omega)]
              rw [hw9] at hP hD
              exact xreti (v := 1) hx hb hr hlocks hK hP hD hS (rfl) (bI_1 (by omega)) d_MD_feed_151
            · exact absurd c_6 (by decide)
  · skip
    have c_1 : ¬ (n ≤ 65516) := fun h9 => c_1 ((nI_leI (a := n) (b := 65516) (by omega) (by omega)).mpr h9)
    refine lv_iconst (v := 0) hx hb d_MD_feed_14 (by decide) ?_
    have hw9 : wsM bd cm 0 n fr a z le wy fo en fF fA fB fS fW sk pg ye ys yt yg yp tk gF gA gB gS gW yk = wsM bd cm 0 (fdN n) (mfF n fr w1 w2 w3 w4 w5) a z le wy fo en fF fA fB fS fW sk pg ye ys yt yg yp tk gF gA gB gS gW yk := by rw [fdN, mfF, if_neg (by omega), if_neg (by omega)]
    rw [hw9] at hP hD
    exact xreti (v := 0) hx hb hr hlocks hK hP hD hS (rfl) (bI_0 (by omega)) d_MD_feed_15
set_option maxHeartbeats 4000000 in
set_option maxRecDepth 100000 in
theorem m_end (l : Launch) (dC : Nat → ClassId) (dI : Nat → Nat → Nat) (bd : Nat → Nat) (cm : Nat → ClassId) (th : Int32) (n : Nat) (fr : Nat → Int32) (a : Nat) (z : Nat → Nat) (le : Nat → Int32) (wy : Int32) (fo : Nat) (en : Nat) (fF : Nat → Nat) (fA : Nat → Nat) (fB : Nat → Nat) (fS : Nat → Nat) (fW : Nat → Int32) (sk : Nat → Int32) (pg : Nat) (ye : Int32) (ys : Int32) (yt : Nat) (yg : Nat) (yp : Nat) (tk : Nat → Int32) (gF : Nat → Nat) (gA : Nat → Nat) (gB : Nat → Nat) (gS : Nat → Nat) (gW : Nat → Int32) (yk : Nat → Int32) (k : Int32) (hn : n ≤ 65536) (sz : Nat) : Met l y_MD_end w_MD_end { frames := 0, cells := 0, slots := 0, locals := 0 } (va_Pc [.ref (bd 0), .int k] (xP (dC, dI) (tyM cm) (wsM bd cm th n fr a z le wy fo en fF fA fB fS fW sk pg ye ys yt yg yp tk gF gA gB gS gW yk) sz)) (xQi (dC, dI) (tyM cm) (va_A (wsM bd cm th n fr a z le wy fo en fF fA fB fS fW sk pg ye ys yt yg yp tk gF gA gB gS gW yk) sz) (wsM bd cm 0 (fbCut n k) fr a z le wy fo en fF fA fB fS fW sk pg ye ys yt yg yp tk gF gA gB gS gW yk) (fun r => r = bI (0 ≤ k.toInt ∧ k.toInt ≤ (n : Int)))) 0 0 (va_A (wsM bd cm th n fr a z le wy fo en fF fA fB fS fW sk pg ye ys yt yg yp tk gF gA gB gS gW yk) sz) := by
  refine xof (cc := b_MD_end) (maxL := 3) (ret := (some .boolean)) (own := R_MD) (Qc := fun A => (xQi (dC, dI) (tyM cm) A (wsM bd cm 0 (fbCut n k) fr a z le wy fo en fF fA fB fS fW sk pg ye ys yt yg yp tk gF gA gB gS gW yk) (fun r => r = bI (0 ≤ k.toInt ∧ k.toInt ≤ (n : Int))))) (by decide) rfl rfl (Nat.le_of_ble_eq_true rfl) ?_ sz
  intro p e s m below meth c A C hnm hK hP hD hA hN hZ hS ls hl
  obtain ⟨hx, hb, hr, hml, hown, hts, hlocks⟩ := C
  have hl : lv_has ls 3 [(0, .ref (bd 0)), (1, .int k)] := hl
  refine lv_aload_n hx hb d_MD_end_0 rfl (lv_at hl 0 rfl) ?_
  refine lv_iconst (v := 0) hx hb d_MD_end_1 (by decide) ?_
  refine va_put (D := (dC, dI)) (ci := 7) (v := .int 0) (ty := .int) (C := R_MD) (T := T_MD) (N := 28) hx hb hts i_MD t_MD k_MD n_MD hown hK hP hD hS 0 rfl rfl 0 (by decide) (hts _ wd_392) (fun _ h9 => h9) rfl (by decide +kernel) rfl rfl (Nat.le_of_ble_eq_true rfl) d_MD_end_2 (fun H locs hP hD hS => ?_)
  have hP : va_P (dC, dI) vwCl (wsM bd cm 0 n fr a z le wy fo en fF fA fB fS fW sk pg ye ys yt yg yp tk gF gA gB gS gW yk) H := hP
  have hD : va_D A (wsM bd cm 0 n fr a z le wy fo en fF fA fB fS fW sk pg ye ys yt yg yp tk gF gA gB gS gW yk) := hD
  refine lv_iload_n hx hb d_MD_end_5 rfl (lv_at hl 1 rfl) ?_
  refine lv_if_lt (tgt := 21) hx hb d_MD_end_6 (by decide) (fun c_1 => ?_) (fun c_1 => ?_)
  · skip
    refine lv_iconst (v := 0) hx hb d_MD_end_21 (by decide) ?_
    refine lv_istore_n (lv' := [(2, .int 0), (0, .ref (bd 0)), (1, .int k)]) hx hb d_MD_end_22 rfl hl (by decide) rfl (fun ls hl => ?_)
    refine lv_aload_n hx hb d_MD_end_23 rfl (lv_at hl 1 rfl) ?_
    refine lv_iload_n hx hb d_MD_end_24 rfl (lv_at hl 0 rfl) ?_
    refine lv_if_eq (tgt := 32) hx hb d_MD_end_25 (by decide) (fun c_2 => ?_) (fun c_2 => ?_)
    · skip
      refine lv_aload_n hx hb d_MD_end_32 rfl (lv_at hl 1 rfl) ?_
      refine va_get (D := (dC, dI)) (ci := 7) (v := .int (nI n)) (C := R_MD) (T := T_MD) (N := 28) hx hb hts i_MD hown hK hP 0 rfl rfl 1 (by decide) (hts _ wd_393) (fun _ h9 => h9) rfl d_MD_end_33 ?_
      refine va_put (D := (dC, dI)) (ci := 7) (v := .int (nI n)) (ty := .int) (C := R_MD) (T := T_MD) (N := 28) hx hb hts i_MD t_MD k_MD n_MD hown hK hP hD hS 0 rfl rfl 1 (by decide) (hts _ wd_393) (fun _ h9 => h9) rfl (by decide +kernel) rfl rfl (Nat.le_of_ble_eq_true rfl) d_MD_end_36 (fun H locs hP hD hS => ?_)
      have hP : va_P (dC, dI) vwCl (wsM bd cm 0 n fr a z le wy fo en fF fA fB fS fW sk pg ye ys yt yg yp tk gF gA gB gS gW yk) H := hP
      have hD : va_D A (wsM bd cm 0 n fr a z le wy fo en fF fA fB fS fW sk pg ye ys yt yg yp tk gF gA gB gS gW yk) := hD
      refine lv_iload_n hx hb d_MD_end_39 rfl (lv_at hl 0 rfl) ?_
      have hw9 : wsM bd cm 0 n fr a z le wy fo en fF fA fB fS fW sk pg ye ys yt yg yp tk gF gA gB gS gW yk = wsM bd cm 0 (fbCut n k) fr a z le wy fo en fF fA fB fS fW sk pg ye ys yt yg yp tk gF gA gB gS gW yk := by rw [fbCut, if_neg (fun h9 => absurd c_1 (p_nneg h9.1))]
      rw [hw9] at hP hD
      exact xreti (v := 0) hx hb hr hlocks hK hP hD hS (rfl) (bI_0 (fun h9 => absurd c_1 (p_nneg h9.1))) d_MD_end_40
    · exact absurd c_2 (by decide)
  · skip
    obtain ⟨j, hj, ej⟩ := nI_of c_1
    rw [ej] at hl
    refine lv_iload_n hx hb d_MD_end_9 rfl (lv_at hl 1 rfl) ?_
    refine lv_aload_n hx hb d_MD_end_10 rfl (lv_at hl 0 rfl) ?_
    refine va_get (D := (dC, dI)) (ci := 7) (v := .int (nI n)) (C := R_MD) (T := T_MD) (N := 28) hx hb hts i_MD hown hK hP 0 rfl rfl 1 (by decide) (hts _ wd_393) (fun _ h9 => h9) rfl d_MD_end_11 ?_
    refine lv_icmp_gt (tgt := 21) hx hb d_MD_end_14 (by decide) (fun c_3 => ?_) (fun c_3 => ?_)
    · skip
      have c_3 : n < j := (nI_ltI (a := n) (b := j) (by omega) (by omega)).mp c_3
      refine lv_iconst (v := 0) hx hb d_MD_end_21 (by decide) ?_
      refine lv_istore_n (lv' := [(2, .int 0), (0, .ref (bd 0)), (1, .int (nI j))]) hx hb d_MD_end_22 rfl hl (by decide) rfl (fun ls hl => ?_)
      refine lv_aload_n hx hb d_MD_end_23 rfl (lv_at hl 1 rfl) ?_
      refine lv_iload_n hx hb d_MD_end_24 rfl (lv_at hl 0 rfl) ?_
      refine lv_if_eq (tgt := 32) hx hb d_MD_end_25 (by decide) (fun c_4 => ?_) (fun c_4 => ?_)
      · skip
        refine lv_aload_n hx hb d_MD_end_32 rfl (lv_at hl 1 rfl) ?_
        refine va_get (D := (dC, dI)) (ci := 7) (v := .int (nI n)) (C := R_MD) (T := T_MD) (N := 28) hx hb hts i_MD hown hK hP 0 rfl rfl 1 (by decide) (hts _ wd_393) (fun _ h9 => h9) rfl d_MD_end_33 ?_
        refine va_put (D := (dC, dI)) (ci := 7) (v := .int (nI n)) (ty := .int) (C := R_MD) (T := T_MD) (N := 28) hx hb hts i_MD t_MD k_MD n_MD hown hK hP hD hS 0 rfl rfl 1 (by decide) (hts _ wd_393) (fun _ h9 => h9) rfl (by decide +kernel) rfl rfl (Nat.le_of_ble_eq_true rfl) d_MD_end_36 (fun H locs hP hD hS => ?_)
        have hP : va_P (dC, dI) vwCl (wsM bd cm 0 n fr a z le wy fo en fF fA fB fS fW sk pg ye ys yt yg yp tk gF gA gB gS gW yk) H := hP
        have hD : va_D A (wsM bd cm 0 n fr a z le wy fo en fF fA fB fS fW sk pg ye ys yt yg yp tk gF gA gB gS gW yk) := hD
        refine lv_iload_n hx hb d_MD_end_39 rfl (lv_at hl 0 rfl) ?_
        have hw9 : wsM bd cm 0 n fr a z le wy fo en fF fA fB fS fW sk pg ye ys yt yg yp tk gF gA gB gS gW yk = wsM bd cm 0 (fbCut n k) fr a z le wy fo en fF fA fB fS fW sk pg ye ys yt yg yp tk gF gA gB gS gW yk := by rw [fbCut, if_neg (by rw [ej, nI_toInt hj]; omega)]
        rw [hw9] at hP hD
        exact xreti (v := 0) hx hb hr hlocks hK hP hD hS (rfl) (bI_0 (by rw [ej, nI_toInt hj]; omega)) d_MD_end_40
      · exact absurd c_4 (by decide)
    · skip
      have c_3 : ¬ (n < j) := fun h9 => c_3 ((nI_ltI (a := n) (b := j) (by omega) (by omega)).mpr h9)
      refine lv_iconst (v := 1) hx hb d_MD_end_17 (by decide) ?_
      refine lv_goto (tgt := 22) hx hb d_MD_end_18 (by decide) ?_
      refine lv_istore_n (lv' := [(2, .int 1), (0, .ref (bd 0)), (1, .int (nI j))]) hx hb d_MD_end_22 rfl hl (by decide) rfl (fun ls hl => ?_)
      refine lv_aload_n hx hb d_MD_end_23 rfl (lv_at hl 1 rfl) ?_
      refine lv_iload_n hx hb d_MD_end_24 rfl (lv_at hl 0 rfl) ?_
      refine lv_if_eq (tgt := 32) hx hb d_MD_end_25 (by decide) (fun c_5 => ?_) (fun c_5 => ?_)
      · exact absurd c_5 (by decide)
      · skip
        refine lv_iload_n hx hb d_MD_end_28 rfl (lv_at hl 2 rfl) ?_
        refine lv_goto (tgt := 36) hx hb d_MD_end_29 (by decide) ?_
        refine va_put (D := (dC, dI)) (ci := 7) (v := .int (nI j)) (ty := .int) (C := R_MD) (T := T_MD) (N := 28) hx hb hts i_MD t_MD k_MD n_MD hown hK hP hD hS 0 rfl rfl 1 (by decide) (hts _ wd_393) (fun _ h9 => h9) rfl (by decide +kernel) rfl rfl (Nat.le_of_ble_eq_true rfl) d_MD_end_36 (fun H locs hP hD hS => ?_)
        have hP : va_P (dC, dI) vwCl (wsM bd cm 0 j fr a z le wy fo en fF fA fB fS fW sk pg ye ys yt yg yp tk gF gA gB gS gW yk) H := hP
        have hD : va_D A (wsM bd cm 0 j fr a z le wy fo en fF fA fB fS fW sk pg ye ys yt yg yp tk gF gA gB gS gW yk) := hD
        refine lv_iload_n hx hb d_MD_end_39 rfl (lv_at hl 0 rfl) ?_
        have hw9 : wsM bd cm 0 j fr a z le wy fo en fF fA fB fS fW sk pg ye ys yt yg yp tk gF gA gB gS gW yk = wsM bd cm 0 (fbCut n k) fr a z le wy fo en fF fA fB fS fW sk pg ye ys yt yg yp tk gF gA gB gS gW yk := by rw [fbCut, if_pos (by rw [ej, nI_toInt hj]; omega), ej, nI_toInt hj]; rfl
        rw [hw9] at hP hD
        exact xreti (v := 1) hx hb hr hlocks hK hP hD hS (rfl) (bI_1 (by rw [ej, nI_toInt hj]; omega)) d_MD_end_40
set_option maxHeartbeats 4000000 in
set_option maxRecDepth 100000 in
theorem m_set (l : Launch) (dC : Nat → ClassId) (dI : Nat → Nat → Nat) (bd : Nat → Nat) (cm : Nat → ClassId) (th : Int32) (n : Nat) (fr : Nat → Int32) (a : Nat) (z : Nat → Nat) (le : Nat → Int32) (wy : Int32) (fo : Nat) (en : Nat) (fF : Nat → Nat) (fA : Nat → Nat) (fB : Nat → Nat) (fS : Nat → Nat) (fW : Nat → Int32) (sk : Nat → Int32) (pg : Nat) (ye : Int32) (ys : Int32) (yt : Nat) (yg : Nat) (yp : Nat) (tk : Nat → Int32) (gF : Nat → Nat) (gA : Nat → Nat) (gB : Nat → Nat) (gS : Nat → Nat) (gW : Nat → Int32) (yk : Nat → Int32) (k b : Int32) (hn : n ≤ 65536) (sz : Nat) : Met l y_MD_set w_MD_set { frames := 0, cells := 0, slots := 0, locals := 0 } (va_Pc [.ref (bd 0), .int k, .int b] (xP (dC, dI) (tyM cm) (wsM bd cm th n fr a z le wy fo en fF fA fB fS fW sk pg ye ys yt yg yp tk gF gA gB gS gW yk) sz)) (xQi (dC, dI) (tyM cm) (va_A (wsM bd cm th n fr a z le wy fo en fF fA fB fS fW sk pg ye ys yt yg yp tk gF gA gB gS gW yk) sz) (wsM bd cm 0 n (msF n fr k b) a z le wy fo en fF fA fB fS fW sk pg ye ys yt yg yp tk gF gA gB gS gW yk) (fun r => r = bI (isB b ∧ 0 ≤ k.toInt ∧ k.toInt + ((1 : Nat) : Int) ≤ (n : Int)))) 0 0 (va_A (wsM bd cm th n fr a z le wy fo en fF fA fB fS fW sk pg ye ys yt yg yp tk gF gA gB gS gW yk) sz) := by
  refine xof (cc := b_MD_set) (maxL := 3) (ret := (some .boolean)) (own := R_MD) (Qc := fun A => (xQi (dC, dI) (tyM cm) A (wsM bd cm 0 n (msF n fr k b) a z le wy fo en fF fA fB fS fW sk pg ye ys yt yg yp tk gF gA gB gS gW yk) (fun r => r = bI (isB b ∧ 0 ≤ k.toInt ∧ k.toInt + ((1 : Nat) : Int) ≤ (n : Int))))) (by decide) rfl rfl (Nat.le_of_ble_eq_true rfl) ?_ sz
  intro p e s m below meth c A C hnm hK hP hD hA hN hZ hS ls hl
  obtain ⟨hx, hb, hr, hml, hown, hts, hlocks⟩ := C
  have hl : lv_has ls 3 [(0, .ref (bd 0)), (1, .int k), (2, .int b)] := hl
  refine lv_aload_n hx hb d_MD_set_0 rfl (lv_at hl 0 rfl) ?_
  refine lv_iconst (v := 0) hx hb d_MD_set_1 (by decide) ?_
  refine va_put (D := (dC, dI)) (ci := 7) (v := .int 0) (ty := .int) (C := R_MD) (T := T_MD) (N := 28) hx hb hts i_MD t_MD k_MD n_MD hown hK hP hD hS 0 rfl rfl 0 (by decide) (hts _ wd_392) (fun _ h9 => h9) rfl (by decide +kernel) rfl rfl (Nat.le_of_ble_eq_true rfl) d_MD_set_2 (fun H locs hP hD hS => ?_)
  have hP : va_P (dC, dI) vwCl (wsM bd cm 0 n fr a z le wy fo en fF fA fB fS fW sk pg ye ys yt yg yp tk gF gA gB gS gW yk) H := hP
  have hD : va_D A (wsM bd cm 0 n fr a z le wy fo en fF fA fB fS fW sk pg ye ys yt yg yp tk gF gA gB gS gW yk) := hD
  refine lv_iload_n hx hb d_MD_set_5 rfl (lv_at hl 1 rfl) ?_
  refine lv_if_lt (tgt := 28) hx hb d_MD_set_6 (by decide) (fun c_1 => ?_) (fun c_1 => ?_)
  · skip
    refine lv_iconst (v := 0) hx hb d_MD_set_28 (by decide) ?_
    have hw9 : wsM bd cm 0 n fr a z le wy fo en fF fA fB fS fW sk pg ye ys yt yg yp tk gF gA gB gS gW yk = wsM bd cm 0 n (msF n fr k b) a z le wy fo en fF fA fB fS fW sk pg ye ys yt yg yp tk gF gA gB gS gW yk := by rw [msF, if_neg (fun h9 => absurd c_1 (p_nneg h9.2.1))]
    rw [hw9] at hP hD
    exact xreti (v := 0) hx hb hr hlocks hK hP hD hS (rfl) (bI_0 (fun h9 => absurd c_1 (p_nneg h9.2.1))) d_MD_set_29
  · skip
    obtain ⟨j, hj, ej⟩ := nI_of c_1
    rw [ej] at hl
    refine lv_iload_n hx hb d_MD_set_9 rfl (lv_at hl 1 rfl) ?_
    refine lv_aload_n hx hb d_MD_set_10 rfl (lv_at hl 0 rfl) ?_
    refine va_get (D := (dC, dI)) (ci := 7) (v := .int (nI n)) (C := R_MD) (T := T_MD) (N := 28) hx hb hts i_MD hown hK hP 0 rfl rfl 1 (by decide) (hts _ wd_393) (fun _ h9 => h9) rfl d_MD_set_11 ?_
    refine lv_icmp_ge (tgt := 28) hx hb d_MD_set_14 (by decide) (fun c_2 => ?_) (fun c_2 => ?_)
    · skip
      have c_2 : n ≤ j := (nI_leI (a := n) (b := j) (by omega) (by omega)).mp c_2
      refine lv_iconst (v := 0) hx hb d_MD_set_28 (by decide) ?_
      have hw9 : wsM bd cm 0 n fr a z le wy fo en fF fA fB fS fW sk pg ye ys yt yg yp tk gF gA gB gS gW yk = wsM bd cm 0 n (msF n fr k b) a z le wy fo en fF fA fB fS fW sk pg ye ys yt yg yp tk gF gA gB gS gW yk := by rw [msF, if_neg (fun h9 => absurd h9.2.2 (by rw [ej, nI_toInt hj]; omega))]
      rw [hw9] at hP hD
      exact xreti (v := 0) hx hb hr hlocks hK hP hD hS (rfl) (bI_0 (fun h9 => absurd h9.2.2 (by rw [ej, nI_toInt hj]; omega))) d_MD_set_29
    · skip
      have c_2 : ¬ (n ≤ j) := fun h9 => c_2 ((nI_leI (a := n) (b := j) (by omega) (by omega)).mpr h9)
      refine lv_iload_n hx hb d_MD_set_17 rfl (lv_at hl 2 rfl) ?_
      refine lv_if_lt (tgt := 28) hx hb d_MD_set_18 (by decide) (fun c_3 => ?_) (fun c_3 => ?_)
      · skip
        have hB := p_b0 c_3
        refine lv_iconst (v := 0) hx hb d_MD_set_28 (by decide) ?_
        have hw9 : wsM bd cm 0 n fr a z le wy fo en fF fA fB fS fW sk pg ye ys yt yg yp tk gF gA gB gS gW yk = wsM bd cm 0 n (msF n fr k b) a z le wy fo en fF fA fB fS fW sk pg ye ys yt yg yp tk gF gA gB gS gW yk := by rw [msF, if_neg (fun h9 => hB h9.1)]
        rw [hw9] at hP hD
        exact xreti (v := 0) hx hb hr hlocks hK hP hD hS (rfl) (bI_0 (fun h9 => hB h9.1)) d_MD_set_29
      · skip
        refine lv_iload_n hx hb d_MD_set_21 rfl (lv_at hl 2 rfl) ?_
        refine lv_sipush (v := 255) hx hb d_MD_set_22 (by decide) ?_
        refine lv_icmp_le (tgt := 30) hx hb d_MD_set_25 (by decide) (fun c_4 => ?_) (fun c_4 => ?_)
        · skip
          have hB := (p_255 c_3).mp c_4
          refine lv_aload_n hx hb d_MD_set_30 rfl (lv_at hl 0 rfl) ?_
          refine va_get (D := (dC, dI)) (ci := 7) (v := .ref (bd 1)) (C := R_MD) (T := T_MD) (N := 28) hx hb hts i_MD hown hK hP 0 rfl rfl 2 (by decide) (hts _ wd_394) (fun _ h9 => h9) rfl d_MD_set_31 ?_
          refine lv_iload_n hx hb d_MD_set_34 rfl (lv_at hl 1 rfl) ?_
          refine lv_iload_n hx hb d_MD_set_35 rfl (lv_at hl 2 rfl) ?_
          refine lv_i2b hx hb d_MD_set_36 rfl ?_
          refine xbast (k := j) (x' := b.toInt8.toInt32) (ws1 := wsM bd cm 0 n (upd fr j b.toInt8.toInt32) a z le wy fo en fF fA fB fS fW sk pg ye ys yt yg yp tk gF gA gB gS gW yk) hx hb hK hP hD hS 1 0 rfl rfl (rfl) (by omega) (by decide) (pk_vb _) rfl d_MD_set_37 (fun H locs hP hD hS => ?_)
          refine lv_iconst (v := 1) hx hb d_MD_set_38 (by decide) ?_
          have hw9 : wsM bd cm 0 n (upd fr j b.toInt8.toInt32) a z le wy fo en fF fA fB fS fW sk pg ye ys yt yg yp tk gF gA gB gS gW yk = wsM bd cm 0 n (msF n fr k b) a z le wy fo en fF fA fB fS fW sk pg ye ys yt yg yp tk gF gA gB gS gW yk := by rw [msF, if_pos ⟨hB, by rw [ej, nI_toInt hj]; omega, by rw [ej, nI_toInt hj]; omega⟩, ej, nI_toInt hj]; rfl
          rw [hw9] at hP hD
          exact xreti (v := 1) hx hb hr hlocks hK hP hD hS (rfl) (bI_1 ⟨hB, by rw [ej, nI_toInt hj]; omega, by rw [ej, nI_toInt hj]; omega⟩) d_MD_set_39
        · skip
          have hB : ¬ isB b := fun h9 => c_4 ((p_255 c_3).mpr h9)
          refine lv_iconst (v := 0) hx hb d_MD_set_28 (by decide) ?_
          have hw9 : wsM bd cm 0 n fr a z le wy fo en fF fA fB fS fW sk pg ye ys yt yg yp tk gF gA gB gS gW yk = wsM bd cm 0 n (msF n fr k b) a z le wy fo en fF fA fB fS fW sk pg ye ys yt yg yp tk gF gA gB gS gW yk := by rw [msF, if_neg (fun h9 => hB h9.1)]
          rw [hw9] at hP hD
          exact xreti (v := 0) hx hb hr hlocks hK hP hD hS (rfl) (bI_0 (fun h9 => hB h9.1)) d_MD_set_29
set_option maxHeartbeats 4000000 in
set_option maxRecDepth 100000 in
theorem m_length (l : Launch) (dC : Nat → ClassId) (dI : Nat → Nat → Nat) (bd : Nat → Nat) (cm : Nat → ClassId) (th : Int32) (n : Nat) (fr : Nat → Int32) (a : Nat) (z : Nat → Nat) (le : Nat → Int32) (wy : Int32) (fo : Nat) (en : Nat) (fF : Nat → Nat) (fA : Nat → Nat) (fB : Nat → Nat) (fS : Nat → Nat) (fW : Nat → Int32) (sk : Nat → Int32) (pg : Nat) (ye : Int32) (ys : Int32) (yt : Nat) (yg : Nat) (yp : Nat) (tk : Nat → Int32) (gF : Nat → Nat) (gA : Nat → Nat) (gB : Nat → Nat) (gS : Nat → Nat) (gW : Nat → Int32) (yk : Nat → Int32) (sz : Nat) : Met l y_MD_length w_MD_length { frames := 0, cells := 0, slots := 0, locals := 0 } (va_Pc [.ref (bd 0)] (xP (dC, dI) (tyM cm) (wsM bd cm th n fr a z le wy fo en fF fA fB fS fW sk pg ye ys yt yg yp tk gF gA gB gS gW yk) sz)) (xQi (dC, dI) (tyM cm) (va_A (wsM bd cm th n fr a z le wy fo en fF fA fB fS fW sk pg ye ys yt yg yp tk gF gA gB gS gW yk) sz) (wsM bd cm 0 n fr a z le wy fo en fF fA fB fS fW sk pg ye ys yt yg yp tk gF gA gB gS gW yk) (fun r => r = nI n)) 0 0 (va_A (wsM bd cm th n fr a z le wy fo en fF fA fB fS fW sk pg ye ys yt yg yp tk gF gA gB gS gW yk) sz) := by
  refine xof (cc := b_MD_length) (maxL := 1) (ret := (some .int)) (own := R_MD) (Qc := fun A => (xQi (dC, dI) (tyM cm) A (wsM bd cm 0 n fr a z le wy fo en fF fA fB fS fW sk pg ye ys yt yg yp tk gF gA gB gS gW yk) (fun r => r = nI n))) (by decide) rfl rfl (Nat.le_of_ble_eq_true rfl) ?_ sz
  intro p e s m below meth c A C hnm hK hP hD hA hN hZ hS ls hl
  obtain ⟨hx, hb, hr, hml, hown, hts, hlocks⟩ := C
  have hl : lv_has ls 1 [(0, .ref (bd 0))] := hl
  refine lv_aload_n hx hb d_MD_length_0 rfl (lv_at hl 0 rfl) ?_
  refine lv_iconst (v := 0) hx hb d_MD_length_1 (by decide) ?_
  refine va_put (D := (dC, dI)) (ci := 7) (v := .int 0) (ty := .int) (C := R_MD) (T := T_MD) (N := 28) hx hb hts i_MD t_MD k_MD n_MD hown hK hP hD hS 0 rfl rfl 0 (by decide) (hts _ wd_392) (fun _ h9 => h9) rfl (by decide +kernel) rfl rfl (Nat.le_of_ble_eq_true rfl) d_MD_length_2 (fun H locs hP hD hS => ?_)
  have hP : va_P (dC, dI) vwCl (wsM bd cm 0 n fr a z le wy fo en fF fA fB fS fW sk pg ye ys yt yg yp tk gF gA gB gS gW yk) H := hP
  have hD : va_D A (wsM bd cm 0 n fr a z le wy fo en fF fA fB fS fW sk pg ye ys yt yg yp tk gF gA gB gS gW yk) := hD
  refine lv_aload_n hx hb d_MD_length_5 rfl (lv_at hl 0 rfl) ?_
  refine va_get (D := (dC, dI)) (ci := 7) (v := .int (nI n)) (C := R_MD) (T := T_MD) (N := 28) hx hb hts i_MD hown hK hP 0 rfl rfl 1 (by decide) (hts _ wd_393) (fun _ h9 => h9) rfl d_MD_length_6 ?_
  exact xreti (v := nI n) hx hb hr hlocks hK hP hD hS (rfl) (rfl) d_MD_length_9
set_option maxHeartbeats 4000000 in
set_option maxRecDepth 100000 in
theorem m_argument (l : Launch) (dC : Nat → ClassId) (dI : Nat → Nat → Nat) (bd : Nat → Nat) (cm : Nat → ClassId) (th : Int32) (n : Nat) (fr : Nat → Int32) (a : Nat) (z : Nat → Nat) (le : Nat → Int32) (wy : Int32) (fo : Nat) (en : Nat) (fF : Nat → Nat) (fA : Nat → Nat) (fB : Nat → Nat) (fS : Nat → Nat) (fW : Nat → Int32) (sk : Nat → Int32) (pg : Nat) (ye : Int32) (ys : Int32) (yt : Nat) (yg : Nat) (yp : Nat) (tk : Nat → Int32) (gF : Nat → Nat) (gA : Nat → Nat) (gB : Nat → Nat) (gS : Nat → Nat) (gW : Nat → Int32) (yk : Nat → Int32) (ha : a ≤ 32) (sz : Nat) : Met l y_MD_argument w_MD_argument { frames := 0, cells := 0, slots := 0, locals := 0 } (va_Pc [.ref (bd 0)] (xP (dC, dI) (tyM cm) (wsM bd cm th n fr a z le wy fo en fF fA fB fS fW sk pg ye ys yt yg yp tk gF gA gB gS gW yk) sz)) (xQi (dC, dI) (tyM cm) (va_A (wsM bd cm th n fr a z le wy fo en fF fA fB fS fW sk pg ye ys yt yg yp tk gF gA gB gS gW yk) sz) (wsM bd cm 0 n fr (agN a) (agZ a z) le wy fo en fF fA fB fS fW sk pg ye ys yt yg yp tk gF gA gB gS gW yk) (fun r => r = bI (a < 32))) 0 0 (va_A (wsM bd cm th n fr a z le wy fo en fF fA fB fS fW sk pg ye ys yt yg yp tk gF gA gB gS gW yk) sz) := by
  refine xof (cc := b_MD_argument) (maxL := 1) (ret := (some .boolean)) (own := R_MD) (Qc := fun A => (xQi (dC, dI) (tyM cm) A (wsM bd cm 0 n fr (agN a) (agZ a z) le wy fo en fF fA fB fS fW sk pg ye ys yt yg yp tk gF gA gB gS gW yk) (fun r => r = bI (a < 32)))) (by decide) rfl rfl (Nat.le_of_ble_eq_true rfl) ?_ sz
  intro p e s m below meth c A C hnm hK hP hD hA hN hZ hS ls hl
  obtain ⟨hx, hb, hr, hml, hown, hts, hlocks⟩ := C
  have hl : lv_has ls 1 [(0, .ref (bd 0))] := hl
  refine lv_aload_n hx hb d_MD_argument_0 rfl (lv_at hl 0 rfl) ?_
  refine lv_iconst (v := 0) hx hb d_MD_argument_1 (by decide) ?_
  refine va_put (D := (dC, dI)) (ci := 7) (v := .int 0) (ty := .int) (C := R_MD) (T := T_MD) (N := 28) hx hb hts i_MD t_MD k_MD n_MD hown hK hP hD hS 0 rfl rfl 0 (by decide) (hts _ wd_392) (fun _ h9 => h9) rfl (by decide +kernel) rfl rfl (Nat.le_of_ble_eq_true rfl) d_MD_argument_2 (fun H locs hP hD hS => ?_)
  have hP : va_P (dC, dI) vwCl (wsM bd cm 0 n fr a z le wy fo en fF fA fB fS fW sk pg ye ys yt yg yp tk gF gA gB gS gW yk) H := hP
  have hD : va_D A (wsM bd cm 0 n fr a z le wy fo en fF fA fB fS fW sk pg ye ys yt yg yp tk gF gA gB gS gW yk) := hD
  refine lv_aload_n hx hb d_MD_argument_5 rfl (lv_at hl 0 rfl) ?_
  refine va_get (D := (dC, dI)) (ci := 7) (v := .int (nI a)) (C := R_MD) (T := T_MD) (N := 28) hx hb hts i_MD hown hK hP 0 rfl rfl 3 (by decide) (hts _ wd_395) (fun _ h9 => h9) rfl d_MD_argument_6 ?_
  refine lv_bipush (v := 32) hx hb d_MD_argument_9 (by decide) ?_
  refine lv_icmp_ne (tgt := 16) hx hb d_MD_argument_11 (by decide) (fun c_1 => ?_) (fun c_1 => ?_)
  · skip
    have c_1 : ¬ (a = 32) := fun h9 => c_1 ((nI_eq (a := a) (b := 32) (by omega) (by omega)).mpr h9)
    refine lv_aload_n hx hb d_MD_argument_16 rfl (lv_at hl 0 rfl) ?_
    refine va_get (D := (dC, dI)) (ci := 7) (v := .ref (bd 2)) (C := R_MD) (T := T_MD) (N := 28) hx hb hts i_MD hown hK hP 0 rfl rfl 4 (by decide) (hts _ wd_396) (fun _ h9 => h9) rfl d_MD_argument_17 ?_
    refine lv_aload_n hx hb d_MD_argument_20 rfl (lv_at hl 0 rfl) ?_
    refine va_get (D := (dC, dI)) (ci := 7) (v := .int (nI a)) (C := R_MD) (T := T_MD) (N := 28) hx hb hts i_MD hown hK hP 0 rfl rfl 3 (by decide) (hts _ wd_395) (fun _ h9 => h9) rfl d_MD_argument_21 ?_
    refine lv_iconst (v := 0) hx hb d_MD_argument_24 (by decide) ?_
    refine xiast (k := a) (ws1 := wsM bd cm 0 n fr a (upn z a 0) le wy fo en fF fA fB fS fW sk pg ye ys yt yg yp tk gF gA gB gS gW yk) hx hb hK hP hD hS 2 1 rfl rfl (rfl) (by omega) (by decide) wsM_put_z d_MD_argument_25 (fun H locs hP hD hS => ?_)
    refine lv_aload_n hx hb d_MD_argument_26 rfl (lv_at hl 0 rfl) ?_
    refine lv_dup hx hb d_MD_argument_27 rfl ?_
    refine va_get (D := (dC, dI)) (ci := 7) (v := .int (nI a)) (C := R_MD) (T := T_MD) (N := 28) hx hb hts i_MD hown hK hP 0 rfl rfl 3 (by decide) (hts _ wd_395) (fun _ h9 => h9) rfl d_MD_argument_28 ?_
    refine lv_iconst (v := 1) hx hb d_MD_argument_31 (by decide) ?_
    refine lv_iadd hx hb d_MD_argument_32 ?_
    refine xtopi (y := nI (a + 1)) (nI_add (a) (1)) ?_
    refine va_put (D := (dC, dI)) (ci := 7) (v := .int (nI (a + 1))) (ty := .int) (C := R_MD) (T := T_MD) (N := 28) hx hb hts i_MD t_MD k_MD n_MD hown hK hP hD hS 0 rfl rfl 3 (by decide) (hts _ wd_395) (fun _ h9 => h9) rfl (by decide +kernel) rfl rfl (Nat.le_of_ble_eq_true rfl) d_MD_argument_33 (fun H locs hP hD hS => ?_)
    have hP : va_P (dC, dI) vwCl (wsM bd cm 0 n fr (a + 1) (upn z a 0) le wy fo en fF fA fB fS fW sk pg ye ys yt yg yp tk gF gA gB gS gW yk) H := hP
    have hD : va_D A (wsM bd cm 0 n fr (a + 1) (upn z a 0) le wy fo en fF fA fB fS fW sk pg ye ys yt yg yp tk gF gA gB gS gW yk) := hD
    refine lv_iconst (v := 1) hx hb d_MD_argument_36 (by decide) ?_
    have hw9 : wsM bd cm 0 n fr (a + 1) (upn z a 0) le wy fo en fF fA fB fS fW sk pg ye ys yt yg yp tk gF gA gB gS gW yk = wsM bd cm 0 n fr (agN a) (agZ a z) le wy fo en fF fA fB fS fW sk pg ye ys yt yg yp tk gF gA gB gS gW yk := by rw [agN, agZ, if_pos (by omega), if_pos (by omega)]
    rw [hw9] at hP hD
    exact xreti (v := 1) hx hb hr hlocks hK hP hD hS (rfl) (bI_1 (by omega)) d_MD_argument_37
  · skip
    have c_1 : a = 32 := (nI_eq (a := a) (b := 32) (by omega) (by omega)).mp c_1
    refine lv_iconst (v := 0) hx hb d_MD_argument_14 (by decide) ?_
    have hw9 : wsM bd cm 0 n fr a z le wy fo en fF fA fB fS fW sk pg ye ys yt yg yp tk gF gA gB gS gW yk = wsM bd cm 0 n fr (agN a) (agZ a z) le wy fo en fF fA fB fS fW sk pg ye ys yt yg yp tk gF gA gB gS gW yk := by rw [agN, agZ, if_neg (by omega), if_neg (by omega)]
    rw [hw9] at hP hD
    exact xreti (v := 0) hx hb hr hlocks hK hP hD hS (rfl) (bI_0 (by omega)) d_MD_argument_15
set_option maxHeartbeats 4000000 in
set_option maxRecDepth 100000 in
theorem m_forget (l : Launch) (dC : Nat → ClassId) (dI : Nat → Nat → Nat) (bd : Nat → Nat) (cm : Nat → ClassId) (th : Int32) (n : Nat) (fr : Nat → Int32) (a : Nat) (z : Nat → Nat) (le : Nat → Int32) (wy : Int32) (fo : Nat) (en : Nat) (fF : Nat → Nat) (fA : Nat → Nat) (fB : Nat → Nat) (fS : Nat → Nat) (fW : Nat → Int32) (sk : Nat → Int32) (pg : Nat) (ye : Int32) (ys : Int32) (yt : Nat) (yg : Nat) (yp : Nat) (tk : Nat → Int32) (gF : Nat → Nat) (gA : Nat → Nat) (gB : Nat → Nat) (gS : Nat → Nat) (gW : Nat → Int32) (yk : Nat → Int32) (sz : Nat) : Met l y_MD_forget w_MD_forget { frames := 0, cells := 0, slots := 0, locals := 0 } (va_Pc [.ref (bd 0)] (xP (dC, dI) (tyM cm) (wsM bd cm th n fr a z le wy fo en fF fA fB fS fW sk pg ye ys yt yg yp tk gF gA gB gS gW yk) sz)) (xQv (dC, dI) (tyM cm) (va_A (wsM bd cm th n fr a z le wy fo en fF fA fB fS fW sk pg ye ys yt yg yp tk gF gA gB gS gW yk) sz) (wsM bd cm 0 n fr 0 z le wy fo en fF fA fB fS fW sk pg ye ys yt yg yp tk gF gA gB gS gW yk)) 0 0 (va_A (wsM bd cm th n fr a z le wy fo en fF fA fB fS fW sk pg ye ys yt yg yp tk gF gA gB gS gW yk) sz) := by
  refine xof (cc := b_MD_forget) (maxL := 1) (ret := none) (own := R_MD) (Qc := fun A => (xQv (dC, dI) (tyM cm) A (wsM bd cm 0 n fr 0 z le wy fo en fF fA fB fS fW sk pg ye ys yt yg yp tk gF gA gB gS gW yk))) (by decide) rfl rfl (Nat.le_of_ble_eq_true rfl) ?_ sz
  intro p e s m below meth c A C hnm hK hP hD hA hN hZ hS ls hl
  obtain ⟨hx, hb, hr, hml, hown, hts, hlocks⟩ := C
  have hl : lv_has ls 1 [(0, .ref (bd 0))] := hl
  refine lv_aload_n hx hb d_MD_forget_0 rfl (lv_at hl 0 rfl) ?_
  refine lv_iconst (v := 0) hx hb d_MD_forget_1 (by decide) ?_
  refine va_put (D := (dC, dI)) (ci := 7) (v := .int 0) (ty := .int) (C := R_MD) (T := T_MD) (N := 28) hx hb hts i_MD t_MD k_MD n_MD hown hK hP hD hS 0 rfl rfl 0 (by decide) (hts _ wd_392) (fun _ h9 => h9) rfl (by decide +kernel) rfl rfl (Nat.le_of_ble_eq_true rfl) d_MD_forget_2 (fun H locs hP hD hS => ?_)
  have hP : va_P (dC, dI) vwCl (wsM bd cm 0 n fr a z le wy fo en fF fA fB fS fW sk pg ye ys yt yg yp tk gF gA gB gS gW yk) H := hP
  have hD : va_D A (wsM bd cm 0 n fr a z le wy fo en fF fA fB fS fW sk pg ye ys yt yg yp tk gF gA gB gS gW yk) := hD
  refine lv_aload_n hx hb d_MD_forget_5 rfl (lv_at hl 0 rfl) ?_
  refine lv_iconst (v := 0) hx hb d_MD_forget_6 (by decide) ?_
  refine va_put (D := (dC, dI)) (ci := 7) (v := .int 0) (ty := .int) (C := R_MD) (T := T_MD) (N := 28) hx hb hts i_MD t_MD k_MD n_MD hown hK hP hD hS 0 rfl rfl 3 (by decide) (hts _ wd_395) (fun _ h9 => h9) rfl (by decide +kernel) rfl rfl (Nat.le_of_ble_eq_true rfl) d_MD_forget_7 (fun H locs hP hD hS => ?_)
  have hP : va_P (dC, dI) vwCl (wsM bd cm 0 n fr 0 z le wy fo en fF fA fB fS fW sk pg ye ys yt yg yp tk gF gA gB gS gW yk) H := hP
  have hD : va_D A (wsM bd cm 0 n fr 0 z le wy fo en fF fA fB fS fW sk pg ye ys yt yg yp tk gF gA gB gS gW yk) := hD
  exact xretv hx hb hr hlocks hK hP hD hS d_MD_forget_10
set_option maxHeartbeats 4000000 in
set_option maxRecDepth 100000 in
theorem m_why (l : Launch) (dC : Nat → ClassId) (dI : Nat → Nat → Nat) (bd : Nat → Nat) (cm : Nat → ClassId) (th : Int32) (n : Nat) (fr : Nat → Int32) (a : Nat) (z : Nat → Nat) (le : Nat → Int32) (wy : Int32) (fo : Nat) (en : Nat) (fF : Nat → Nat) (fA : Nat → Nat) (fB : Nat → Nat) (fS : Nat → Nat) (fW : Nat → Int32) (sk : Nat → Int32) (pg : Nat) (ye : Int32) (ys : Int32) (yt : Nat) (yg : Nat) (yp : Nat) (tk : Nat → Int32) (gF : Nat → Nat) (gA : Nat → Nat) (gB : Nat → Nat) (gS : Nat → Nat) (gW : Nat → Int32) (yk : Nat → Int32) (sz : Nat) : Met l y_MD_why w_MD_why { frames := 0, cells := 0, slots := 0, locals := 0 } (va_Pc [.ref (bd 0)] (xP (dC, dI) (tyM cm) (wsM bd cm th n fr a z le wy fo en fF fA fB fS fW sk pg ye ys yt yg yp tk gF gA gB gS gW yk) sz)) (xQi (dC, dI) (tyM cm) (va_A (wsM bd cm th n fr a z le wy fo en fF fA fB fS fW sk pg ye ys yt yg yp tk gF gA gB gS gW yk) sz) (wsM bd cm 0 n fr a z le wy fo en fF fA fB fS fW sk pg ye ys yt yg yp tk gF gA gB gS gW yk) (fun r => r = wy)) 0 0 (va_A (wsM bd cm th n fr a z le wy fo en fF fA fB fS fW sk pg ye ys yt yg yp tk gF gA gB gS gW yk) sz) := by
  refine xof (cc := b_MD_why) (maxL := 1) (ret := (some .int)) (own := R_MD) (Qc := fun A => (xQi (dC, dI) (tyM cm) A (wsM bd cm 0 n fr a z le wy fo en fF fA fB fS fW sk pg ye ys yt yg yp tk gF gA gB gS gW yk) (fun r => r = wy))) (by decide) rfl rfl (Nat.le_of_ble_eq_true rfl) ?_ sz
  intro p e s m below meth c A C hnm hK hP hD hA hN hZ hS ls hl
  obtain ⟨hx, hb, hr, hml, hown, hts, hlocks⟩ := C
  have hl : lv_has ls 1 [(0, .ref (bd 0))] := hl
  refine lv_aload_n hx hb d_MD_why_0 rfl (lv_at hl 0 rfl) ?_
  refine lv_iconst (v := 0) hx hb d_MD_why_1 (by decide) ?_
  refine va_put (D := (dC, dI)) (ci := 7) (v := .int 0) (ty := .int) (C := R_MD) (T := T_MD) (N := 28) hx hb hts i_MD t_MD k_MD n_MD hown hK hP hD hS 0 rfl rfl 0 (by decide) (hts _ wd_392) (fun _ h9 => h9) rfl (by decide +kernel) rfl rfl (Nat.le_of_ble_eq_true rfl) d_MD_why_2 (fun H locs hP hD hS => ?_)
  have hP : va_P (dC, dI) vwCl (wsM bd cm 0 n fr a z le wy fo en fF fA fB fS fW sk pg ye ys yt yg yp tk gF gA gB gS gW yk) H := hP
  have hD : va_D A (wsM bd cm 0 n fr a z le wy fo en fF fA fB fS fW sk pg ye ys yt yg yp tk gF gA gB gS gW yk) := hD
  refine lv_aload_n hx hb d_MD_why_5 rfl (lv_at hl 0 rfl) ?_
  refine va_get (D := (dC, dI)) (ci := 7) (v := .int wy) (C := R_MD) (T := T_MD) (N := 28) hx hb hts i_MD hown hK hP 0 rfl rfl 6 (by decide) (hts _ wd_398) (fun _ h9 => h9) rfl d_MD_why_6 ?_
  exact xreti (v := wy) hx hb hr hlocks hK hP hD hS (rfl) (rfl) d_MD_why_9
set_option maxHeartbeats 4000000 in
set_option maxRecDepth 100000 in
theorem m_number1 (l : Launch) (dC : Nat → ClassId) (dI : Nat → Nat → Nat) (bd : Nat → Nat) (cm : Nat → ClassId) (th : Int32) (n : Nat) (fr : Nat → Int32) (a : Nat) (z : Nat → Nat) (le : Nat → Int32) (wy : Int32) (fo : Nat) (en : Nat) (fF : Nat → Nat) (fA : Nat → Nat) (fB : Nat → Nat) (fS : Nat → Nat) (fW : Nat → Int32) (sk : Nat → Int32) (pg : Nat) (ye : Int32) (ys : Int32) (yt : Nat) (yg : Nat) (yp : Nat) (tk : Nat → Int32) (gF : Nat → Nat) (gA : Nat → Nat) (gB : Nat → Nat) (gS : Nat → Nat) (gW : Nat → Int32) (yk : Nat → Int32) (q : Nat) (hq : q + 1 ≤ 65536) (sz : Nat) : Met l y_MD_number w_MD_number { frames := 0, cells := 0, slots := 0, locals := 0 } (va_Pc [.ref (bd 0), .long (lN q), .int 1] (xP (dC, dI) (tyM cm) (wsM bd cm th n fr a z le wy fo en fF fA fB fS fW sk pg ye ys yt yg yp tk gF gA gB gS gW yk) sz)) (xQl (dC, dI) (tyM cm) (va_A (wsM bd cm th n fr a z le wy fo en fF fA fB fS fW sk pg ye ys yt yg yp tk gF gA gB gS gW yk) sz) (wsM bd cm th n fr a z le wy fo en fF fA fB fS fW sk pg ye ys yt yg yp tk gF gA gB gS gW yk) (fun r => r = lN (nbN fr q 1))) 0 0 (va_A (wsM bd cm th n fr a z le wy fo en fF fA fB fS fW sk pg ye ys yt yg yp tk gF gA gB gS gW yk) sz) := by
  refine xof (cc := b_MD_number) (maxL := 7) (ret := (some .long)) (own := R_MD) (Qc := fun A => (xQl (dC, dI) (tyM cm) A (wsM bd cm th n fr a z le wy fo en fF fA fB fS fW sk pg ye ys yt yg yp tk gF gA gB gS gW yk) (fun r => r = lN (nbN fr q 1)))) (by decide) rfl rfl (Nat.le_of_ble_eq_true rfl) ?_ sz
  intro p e s m below meth c A C hnm hK hP hD hA hN hZ hS ls hl
  obtain ⟨hx, hb, hr, hml, hown, hts, hlocks⟩ := C
  have hl : lv_has ls 7 [(0, .ref (bd 0)), (1, .long (lN q)), (3, .int 1)] := hl
  refine lv_lconst (v := 0) hx hb d_MD_number_0 (by decide) ?_
  refine lv_lstore (lv' := [(4, .long 0), (0, .ref (bd 0)), (1, .long (lN q)), (3, .int 1)]) hx hb d_MD_number_1 hl (by decide) rfl (fun ls hl => ?_)
  refine lv_iconst (v := 0) hx hb d_MD_number_3 (by decide) ?_
  refine lv_istore (lv' := [(6, .int 0), (4, .long 0), (0, .ref (bd 0)), (1, .long (lN q)), (3, .int 1)]) hx hb d_MD_number_4 hl (by decide) rfl (fun ls hl => ?_)
  refine lv_iload hx hb d_MD_number_6 (lv_at hl 0 rfl) ?_
  refine lv_iload_n hx hb d_MD_number_8 rfl (lv_at hl 4 rfl) ?_
  refine lv_icmp_ge (tgt := 44) hx hb d_MD_number_9 (by decide) (fun c_1 => ?_) (fun c_1 => ?_)
  · exact absurd c_1 (by decide)
  · skip
    refine lv_lload hx hb d_MD_number_12 (lv_at hl 1 rfl) ?_
    refine lv_aload_n hx hb d_MD_number_14 rfl (lv_at hl 2 rfl) ?_
    refine va_get (D := (dC, dI)) (ci := 7) (v := .ref (bd 1)) (C := R_MD) (T := T_MD) (N := 28) hx hb hts i_MD hown hK hP 0 rfl rfl 2 (by decide) (hts _ wd_394) (fun _ h9 => h9) rfl d_MD_number_15 ?_
    refine lv_lload_n hx hb d_MD_number_18 rfl (lv_at hl 3 rfl) ?_
    refine lv_l2i hx hb d_MD_number_19 rfl ?_
    refine xtopi (y := nI q) (lN_i (q)) ?_
    refine lv_iload hx hb d_MD_number_20 (lv_at hl 0 rfl) ?_
    refine lv_iadd hx hb d_MD_number_22 ?_
    refine xtopi (y := nI (q + 0)) (nI_add (q) (0)) ?_
    refine xbald (k := q + 0) hx hb hK hP 1 0 rfl rfl (rfl) (by omega) (by decide) d_MD_number_23 ?_
    refine lv_i2l hx hb d_MD_number_24 rfl ?_
    refine lv_ldc2 (v := 255) hx hb hown (hts _ wd_506) d_MD_number_25 ?_
    refine lv_land hx hb d_MD_number_28 ?_
    refine lv_bipush (v := 8) hx hb d_MD_number_29 (by decide) ?_
    refine lv_iload hx hb d_MD_number_31 (lv_at hl 0 rfl) ?_
    refine lv_imul hx hb d_MD_number_33 ?_
    refine lv_lshl hx hb d_MD_number_34 rfl ?_
    refine lv_lor hx hb d_MD_number_35 ?_
    refine xtopl (y := lN (nbP fr q 1)) (nbP_step0 fr q) ?_
    refine lv_lstore (lv' := [(4, .long (lN (nbP fr q 1))), (6, .int 0), (0, .ref (bd 0)), (1, .long (lN q)), (3, .int 1)]) hx hb d_MD_number_36 hl (by decide) rfl (fun ls hl => ?_)
    refine lv_iinc (v := 1) (lv' := [(6, .int 1), (4, .long (lN (nbP fr q 1))), (0, .ref (bd 0)), (1, .long (lN q)), (3, .int 1)]) hx hb d_MD_number_38 hl (k := 1) rfl rfl (by decide) rfl (fun ls hl => ?_)
    refine lv_goto (tgt := 6) hx hb d_MD_number_41 (by decide) ?_
    refine lv_iload hx hb d_MD_number_6 (lv_at hl 0 rfl) ?_
    refine lv_iload_n hx hb d_MD_number_8 rfl (lv_at hl 4 rfl) ?_
    refine lv_icmp_ge (tgt := 44) hx hb d_MD_number_9 (by decide) (fun c_2 => ?_) (fun c_2 => ?_)
    · skip
      refine lv_lload hx hb d_MD_number_44 (lv_at hl 1 rfl) ?_
      exact xretl hx hb hr hlocks hK hP hD hS (by rw [nbP_nbN1]) d_MD_number_46
    · exact absurd c_2 (by decide)
set_option maxHeartbeats 4000000 in
set_option maxRecDepth 100000 in
theorem m_number2 (l : Launch) (dC : Nat → ClassId) (dI : Nat → Nat → Nat) (bd : Nat → Nat) (cm : Nat → ClassId) (th : Int32) (n : Nat) (fr : Nat → Int32) (a : Nat) (z : Nat → Nat) (le : Nat → Int32) (wy : Int32) (fo : Nat) (en : Nat) (fF : Nat → Nat) (fA : Nat → Nat) (fB : Nat → Nat) (fS : Nat → Nat) (fW : Nat → Int32) (sk : Nat → Int32) (pg : Nat) (ye : Int32) (ys : Int32) (yt : Nat) (yg : Nat) (yp : Nat) (tk : Nat → Int32) (gF : Nat → Nat) (gA : Nat → Nat) (gB : Nat → Nat) (gS : Nat → Nat) (gW : Nat → Int32) (yk : Nat → Int32) (q : Nat) (hq : q + 2 ≤ 65536) (sz : Nat) : Met l y_MD_number w_MD_number { frames := 0, cells := 0, slots := 0, locals := 0 } (va_Pc [.ref (bd 0), .long (lN q), .int 2] (xP (dC, dI) (tyM cm) (wsM bd cm th n fr a z le wy fo en fF fA fB fS fW sk pg ye ys yt yg yp tk gF gA gB gS gW yk) sz)) (xQl (dC, dI) (tyM cm) (va_A (wsM bd cm th n fr a z le wy fo en fF fA fB fS fW sk pg ye ys yt yg yp tk gF gA gB gS gW yk) sz) (wsM bd cm th n fr a z le wy fo en fF fA fB fS fW sk pg ye ys yt yg yp tk gF gA gB gS gW yk) (fun r => r = lN (nbN fr q 2))) 0 0 (va_A (wsM bd cm th n fr a z le wy fo en fF fA fB fS fW sk pg ye ys yt yg yp tk gF gA gB gS gW yk) sz) := by
  refine xof (cc := b_MD_number) (maxL := 7) (ret := (some .long)) (own := R_MD) (Qc := fun A => (xQl (dC, dI) (tyM cm) A (wsM bd cm th n fr a z le wy fo en fF fA fB fS fW sk pg ye ys yt yg yp tk gF gA gB gS gW yk) (fun r => r = lN (nbN fr q 2)))) (by decide) rfl rfl (Nat.le_of_ble_eq_true rfl) ?_ sz
  intro p e s m below meth c A C hnm hK hP hD hA hN hZ hS ls hl
  obtain ⟨hx, hb, hr, hml, hown, hts, hlocks⟩ := C
  have hl : lv_has ls 7 [(0, .ref (bd 0)), (1, .long (lN q)), (3, .int 2)] := hl
  refine lv_lconst (v := 0) hx hb d_MD_number_0 (by decide) ?_
  refine lv_lstore (lv' := [(4, .long 0), (0, .ref (bd 0)), (1, .long (lN q)), (3, .int 2)]) hx hb d_MD_number_1 hl (by decide) rfl (fun ls hl => ?_)
  refine lv_iconst (v := 0) hx hb d_MD_number_3 (by decide) ?_
  refine lv_istore (lv' := [(6, .int 0), (4, .long 0), (0, .ref (bd 0)), (1, .long (lN q)), (3, .int 2)]) hx hb d_MD_number_4 hl (by decide) rfl (fun ls hl => ?_)
  refine lv_iload hx hb d_MD_number_6 (lv_at hl 0 rfl) ?_
  refine lv_iload_n hx hb d_MD_number_8 rfl (lv_at hl 4 rfl) ?_
  refine lv_icmp_ge (tgt := 44) hx hb d_MD_number_9 (by decide) (fun c_1 => ?_) (fun c_1 => ?_)
  · exact absurd c_1 (by decide)
  · skip
    refine lv_lload hx hb d_MD_number_12 (lv_at hl 1 rfl) ?_
    refine lv_aload_n hx hb d_MD_number_14 rfl (lv_at hl 2 rfl) ?_
    refine va_get (D := (dC, dI)) (ci := 7) (v := .ref (bd 1)) (C := R_MD) (T := T_MD) (N := 28) hx hb hts i_MD hown hK hP 0 rfl rfl 2 (by decide) (hts _ wd_394) (fun _ h9 => h9) rfl d_MD_number_15 ?_
    refine lv_lload_n hx hb d_MD_number_18 rfl (lv_at hl 3 rfl) ?_
    refine lv_l2i hx hb d_MD_number_19 rfl ?_
    refine xtopi (y := nI q) (lN_i (q)) ?_
    refine lv_iload hx hb d_MD_number_20 (lv_at hl 0 rfl) ?_
    refine lv_iadd hx hb d_MD_number_22 ?_
    refine xtopi (y := nI (q + 0)) (nI_add (q) (0)) ?_
    refine xbald (k := q + 0) hx hb hK hP 1 0 rfl rfl (rfl) (by omega) (by decide) d_MD_number_23 ?_
    refine lv_i2l hx hb d_MD_number_24 rfl ?_
    refine lv_ldc2 (v := 255) hx hb hown (hts _ wd_506) d_MD_number_25 ?_
    refine lv_land hx hb d_MD_number_28 ?_
    refine lv_bipush (v := 8) hx hb d_MD_number_29 (by decide) ?_
    refine lv_iload hx hb d_MD_number_31 (lv_at hl 0 rfl) ?_
    refine lv_imul hx hb d_MD_number_33 ?_
    refine lv_lshl hx hb d_MD_number_34 rfl ?_
    refine lv_lor hx hb d_MD_number_35 ?_
    refine xtopl (y := lN (nbP fr q 1)) (nbP_step0 fr q) ?_
    refine lv_lstore (lv' := [(4, .long (lN (nbP fr q 1))), (6, .int 0), (0, .ref (bd 0)), (1, .long (lN q)), (3, .int 2)]) hx hb d_MD_number_36 hl (by decide) rfl (fun ls hl => ?_)
    refine lv_iinc (v := 1) (lv' := [(6, .int 1), (4, .long (lN (nbP fr q 1))), (0, .ref (bd 0)), (1, .long (lN q)), (3, .int 2)]) hx hb d_MD_number_38 hl (k := 1) rfl rfl (by decide) rfl (fun ls hl => ?_)
    refine lv_goto (tgt := 6) hx hb d_MD_number_41 (by decide) ?_
    refine lv_iload hx hb d_MD_number_6 (lv_at hl 0 rfl) ?_
    refine lv_iload_n hx hb d_MD_number_8 rfl (lv_at hl 4 rfl) ?_
    refine lv_icmp_ge (tgt := 44) hx hb d_MD_number_9 (by decide) (fun c_2 => ?_) (fun c_2 => ?_)
    · exact absurd c_2 (by decide)
    · skip
      refine lv_lload hx hb d_MD_number_12 (lv_at hl 1 rfl) ?_
      refine lv_aload_n hx hb d_MD_number_14 rfl (lv_at hl 2 rfl) ?_
      refine va_get (D := (dC, dI)) (ci := 7) (v := .ref (bd 1)) (C := R_MD) (T := T_MD) (N := 28) hx hb hts i_MD hown hK hP 0 rfl rfl 2 (by decide) (hts _ wd_394) (fun _ h9 => h9) rfl d_MD_number_15 ?_
      refine lv_lload_n hx hb d_MD_number_18 rfl (lv_at hl 3 rfl) ?_
      refine lv_l2i hx hb d_MD_number_19 rfl ?_
      refine xtopi (y := nI q) (lN_i (q)) ?_
      refine lv_iload hx hb d_MD_number_20 (lv_at hl 0 rfl) ?_
      refine lv_iadd hx hb d_MD_number_22 ?_
      refine xtopi (y := nI (q + 1)) (nI_add (q) (1)) ?_
      refine xbald (k := q + 1) hx hb hK hP 1 0 rfl rfl (rfl) (by omega) (by decide) d_MD_number_23 ?_
      refine lv_i2l hx hb d_MD_number_24 rfl ?_
      refine lv_ldc2 (v := 255) hx hb hown (hts _ wd_506) d_MD_number_25 ?_
      refine lv_land hx hb d_MD_number_28 ?_
      refine lv_bipush (v := 8) hx hb d_MD_number_29 (by decide) ?_
      refine lv_iload hx hb d_MD_number_31 (lv_at hl 0 rfl) ?_
      refine lv_imul hx hb d_MD_number_33 ?_
      refine lv_lshl hx hb d_MD_number_34 rfl ?_
      refine lv_lor hx hb d_MD_number_35 ?_
      refine xtopl (y := lN (nbP fr q 2)) (nbP_step1 fr q) ?_
      refine lv_lstore (lv' := [(4, .long (lN (nbP fr q 2))), (6, .int 1), (0, .ref (bd 0)), (1, .long (lN q)), (3, .int 2)]) hx hb d_MD_number_36 hl (by decide) rfl (fun ls hl => ?_)
      refine lv_iinc (v := 2) (lv' := [(6, .int 2), (4, .long (lN (nbP fr q 2))), (0, .ref (bd 0)), (1, .long (lN q)), (3, .int 2)]) hx hb d_MD_number_38 hl (k := 1) rfl rfl (by decide) rfl (fun ls hl => ?_)
      refine lv_goto (tgt := 6) hx hb d_MD_number_41 (by decide) ?_
      refine lv_iload hx hb d_MD_number_6 (lv_at hl 0 rfl) ?_
      refine lv_iload_n hx hb d_MD_number_8 rfl (lv_at hl 4 rfl) ?_
      refine lv_icmp_ge (tgt := 44) hx hb d_MD_number_9 (by decide) (fun c_3 => ?_) (fun c_3 => ?_)
      · skip
        refine lv_lload hx hb d_MD_number_44 (lv_at hl 1 rfl) ?_
        exact xretl hx hb hr hlocks hK hP hD hS (by rw [nbP_nbN2]) d_MD_number_46
      · exact absurd c_3 (by decide)
set_option maxHeartbeats 4000000 in
set_option maxRecDepth 100000 in
theorem m_number4 (l : Launch) (dC : Nat → ClassId) (dI : Nat → Nat → Nat) (bd : Nat → Nat) (cm : Nat → ClassId) (th : Int32) (n : Nat) (fr : Nat → Int32) (a : Nat) (z : Nat → Nat) (le : Nat → Int32) (wy : Int32) (fo : Nat) (en : Nat) (fF : Nat → Nat) (fA : Nat → Nat) (fB : Nat → Nat) (fS : Nat → Nat) (fW : Nat → Int32) (sk : Nat → Int32) (pg : Nat) (ye : Int32) (ys : Int32) (yt : Nat) (yg : Nat) (yp : Nat) (tk : Nat → Int32) (gF : Nat → Nat) (gA : Nat → Nat) (gB : Nat → Nat) (gS : Nat → Nat) (gW : Nat → Int32) (yk : Nat → Int32) (q : Nat) (hq : q + 4 ≤ 65536) (sz : Nat) : Met l y_MD_number w_MD_number { frames := 0, cells := 0, slots := 0, locals := 0 } (va_Pc [.ref (bd 0), .long (lN q), .int 4] (xP (dC, dI) (tyM cm) (wsM bd cm th n fr a z le wy fo en fF fA fB fS fW sk pg ye ys yt yg yp tk gF gA gB gS gW yk) sz)) (xQl (dC, dI) (tyM cm) (va_A (wsM bd cm th n fr a z le wy fo en fF fA fB fS fW sk pg ye ys yt yg yp tk gF gA gB gS gW yk) sz) (wsM bd cm th n fr a z le wy fo en fF fA fB fS fW sk pg ye ys yt yg yp tk gF gA gB gS gW yk) (fun r => r = lN (nbN fr q 4))) 0 0 (va_A (wsM bd cm th n fr a z le wy fo en fF fA fB fS fW sk pg ye ys yt yg yp tk gF gA gB gS gW yk) sz) := by
  refine xof (cc := b_MD_number) (maxL := 7) (ret := (some .long)) (own := R_MD) (Qc := fun A => (xQl (dC, dI) (tyM cm) A (wsM bd cm th n fr a z le wy fo en fF fA fB fS fW sk pg ye ys yt yg yp tk gF gA gB gS gW yk) (fun r => r = lN (nbN fr q 4)))) (by decide) rfl rfl (Nat.le_of_ble_eq_true rfl) ?_ sz
  intro p e s m below meth c A C hnm hK hP hD hA hN hZ hS ls hl
  obtain ⟨hx, hb, hr, hml, hown, hts, hlocks⟩ := C
  have hl : lv_has ls 7 [(0, .ref (bd 0)), (1, .long (lN q)), (3, .int 4)] := hl
  refine lv_lconst (v := 0) hx hb d_MD_number_0 (by decide) ?_
  refine lv_lstore (lv' := [(4, .long 0), (0, .ref (bd 0)), (1, .long (lN q)), (3, .int 4)]) hx hb d_MD_number_1 hl (by decide) rfl (fun ls hl => ?_)
  refine lv_iconst (v := 0) hx hb d_MD_number_3 (by decide) ?_
  refine lv_istore (lv' := [(6, .int 0), (4, .long 0), (0, .ref (bd 0)), (1, .long (lN q)), (3, .int 4)]) hx hb d_MD_number_4 hl (by decide) rfl (fun ls hl => ?_)
  refine lv_iload hx hb d_MD_number_6 (lv_at hl 0 rfl) ?_
  refine lv_iload_n hx hb d_MD_number_8 rfl (lv_at hl 4 rfl) ?_
  refine lv_icmp_ge (tgt := 44) hx hb d_MD_number_9 (by decide) (fun c_1 => ?_) (fun c_1 => ?_)
  · exact absurd c_1 (by decide)
  · skip
    refine lv_lload hx hb d_MD_number_12 (lv_at hl 1 rfl) ?_
    refine lv_aload_n hx hb d_MD_number_14 rfl (lv_at hl 2 rfl) ?_
    refine va_get (D := (dC, dI)) (ci := 7) (v := .ref (bd 1)) (C := R_MD) (T := T_MD) (N := 28) hx hb hts i_MD hown hK hP 0 rfl rfl 2 (by decide) (hts _ wd_394) (fun _ h9 => h9) rfl d_MD_number_15 ?_
    refine lv_lload_n hx hb d_MD_number_18 rfl (lv_at hl 3 rfl) ?_
    refine lv_l2i hx hb d_MD_number_19 rfl ?_
    refine xtopi (y := nI q) (lN_i (q)) ?_
    refine lv_iload hx hb d_MD_number_20 (lv_at hl 0 rfl) ?_
    refine lv_iadd hx hb d_MD_number_22 ?_
    refine xtopi (y := nI (q + 0)) (nI_add (q) (0)) ?_
    refine xbald (k := q + 0) hx hb hK hP 1 0 rfl rfl (rfl) (by omega) (by decide) d_MD_number_23 ?_
    refine lv_i2l hx hb d_MD_number_24 rfl ?_
    refine lv_ldc2 (v := 255) hx hb hown (hts _ wd_506) d_MD_number_25 ?_
    refine lv_land hx hb d_MD_number_28 ?_
    refine lv_bipush (v := 8) hx hb d_MD_number_29 (by decide) ?_
    refine lv_iload hx hb d_MD_number_31 (lv_at hl 0 rfl) ?_
    refine lv_imul hx hb d_MD_number_33 ?_
    refine lv_lshl hx hb d_MD_number_34 rfl ?_
    refine lv_lor hx hb d_MD_number_35 ?_
    refine xtopl (y := lN (nbP fr q 1)) (nbP_step0 fr q) ?_
    refine lv_lstore (lv' := [(4, .long (lN (nbP fr q 1))), (6, .int 0), (0, .ref (bd 0)), (1, .long (lN q)), (3, .int 4)]) hx hb d_MD_number_36 hl (by decide) rfl (fun ls hl => ?_)
    refine lv_iinc (v := 1) (lv' := [(6, .int 1), (4, .long (lN (nbP fr q 1))), (0, .ref (bd 0)), (1, .long (lN q)), (3, .int 4)]) hx hb d_MD_number_38 hl (k := 1) rfl rfl (by decide) rfl (fun ls hl => ?_)
    refine lv_goto (tgt := 6) hx hb d_MD_number_41 (by decide) ?_
    refine lv_iload hx hb d_MD_number_6 (lv_at hl 0 rfl) ?_
    refine lv_iload_n hx hb d_MD_number_8 rfl (lv_at hl 4 rfl) ?_
    refine lv_icmp_ge (tgt := 44) hx hb d_MD_number_9 (by decide) (fun c_2 => ?_) (fun c_2 => ?_)
    · exact absurd c_2 (by decide)
    · skip
      refine lv_lload hx hb d_MD_number_12 (lv_at hl 1 rfl) ?_
      refine lv_aload_n hx hb d_MD_number_14 rfl (lv_at hl 2 rfl) ?_
      refine va_get (D := (dC, dI)) (ci := 7) (v := .ref (bd 1)) (C := R_MD) (T := T_MD) (N := 28) hx hb hts i_MD hown hK hP 0 rfl rfl 2 (by decide) (hts _ wd_394) (fun _ h9 => h9) rfl d_MD_number_15 ?_
      refine lv_lload_n hx hb d_MD_number_18 rfl (lv_at hl 3 rfl) ?_
      refine lv_l2i hx hb d_MD_number_19 rfl ?_
      refine xtopi (y := nI q) (lN_i (q)) ?_
      refine lv_iload hx hb d_MD_number_20 (lv_at hl 0 rfl) ?_
      refine lv_iadd hx hb d_MD_number_22 ?_
      refine xtopi (y := nI (q + 1)) (nI_add (q) (1)) ?_
      refine xbald (k := q + 1) hx hb hK hP 1 0 rfl rfl (rfl) (by omega) (by decide) d_MD_number_23 ?_
      refine lv_i2l hx hb d_MD_number_24 rfl ?_
      refine lv_ldc2 (v := 255) hx hb hown (hts _ wd_506) d_MD_number_25 ?_
      refine lv_land hx hb d_MD_number_28 ?_
      refine lv_bipush (v := 8) hx hb d_MD_number_29 (by decide) ?_
      refine lv_iload hx hb d_MD_number_31 (lv_at hl 0 rfl) ?_
      refine lv_imul hx hb d_MD_number_33 ?_
      refine lv_lshl hx hb d_MD_number_34 rfl ?_
      refine lv_lor hx hb d_MD_number_35 ?_
      refine xtopl (y := lN (nbP fr q 2)) (nbP_step1 fr q) ?_
      refine lv_lstore (lv' := [(4, .long (lN (nbP fr q 2))), (6, .int 1), (0, .ref (bd 0)), (1, .long (lN q)), (3, .int 4)]) hx hb d_MD_number_36 hl (by decide) rfl (fun ls hl => ?_)
      refine lv_iinc (v := 2) (lv' := [(6, .int 2), (4, .long (lN (nbP fr q 2))), (0, .ref (bd 0)), (1, .long (lN q)), (3, .int 4)]) hx hb d_MD_number_38 hl (k := 1) rfl rfl (by decide) rfl (fun ls hl => ?_)
      refine lv_goto (tgt := 6) hx hb d_MD_number_41 (by decide) ?_
      refine lv_iload hx hb d_MD_number_6 (lv_at hl 0 rfl) ?_
      refine lv_iload_n hx hb d_MD_number_8 rfl (lv_at hl 4 rfl) ?_
      refine lv_icmp_ge (tgt := 44) hx hb d_MD_number_9 (by decide) (fun c_3 => ?_) (fun c_3 => ?_)
      · exact absurd c_3 (by decide)
      · skip
        refine lv_lload hx hb d_MD_number_12 (lv_at hl 1 rfl) ?_
        refine lv_aload_n hx hb d_MD_number_14 rfl (lv_at hl 2 rfl) ?_
        refine va_get (D := (dC, dI)) (ci := 7) (v := .ref (bd 1)) (C := R_MD) (T := T_MD) (N := 28) hx hb hts i_MD hown hK hP 0 rfl rfl 2 (by decide) (hts _ wd_394) (fun _ h9 => h9) rfl d_MD_number_15 ?_
        refine lv_lload_n hx hb d_MD_number_18 rfl (lv_at hl 3 rfl) ?_
        refine lv_l2i hx hb d_MD_number_19 rfl ?_
        refine xtopi (y := nI q) (lN_i (q)) ?_
        refine lv_iload hx hb d_MD_number_20 (lv_at hl 0 rfl) ?_
        refine lv_iadd hx hb d_MD_number_22 ?_
        refine xtopi (y := nI (q + 2)) (nI_add (q) (2)) ?_
        refine xbald (k := q + 2) hx hb hK hP 1 0 rfl rfl (rfl) (by omega) (by decide) d_MD_number_23 ?_
        refine lv_i2l hx hb d_MD_number_24 rfl ?_
        refine lv_ldc2 (v := 255) hx hb hown (hts _ wd_506) d_MD_number_25 ?_
        refine lv_land hx hb d_MD_number_28 ?_
        refine lv_bipush (v := 8) hx hb d_MD_number_29 (by decide) ?_
        refine lv_iload hx hb d_MD_number_31 (lv_at hl 0 rfl) ?_
        refine lv_imul hx hb d_MD_number_33 ?_
        refine lv_lshl hx hb d_MD_number_34 rfl ?_
        refine lv_lor hx hb d_MD_number_35 ?_
        refine xtopl (y := lN (nbP fr q 3)) (nbP_step2 fr q) ?_
        refine lv_lstore (lv' := [(4, .long (lN (nbP fr q 3))), (6, .int 2), (0, .ref (bd 0)), (1, .long (lN q)), (3, .int 4)]) hx hb d_MD_number_36 hl (by decide) rfl (fun ls hl => ?_)
        refine lv_iinc (v := 3) (lv' := [(6, .int 3), (4, .long (lN (nbP fr q 3))), (0, .ref (bd 0)), (1, .long (lN q)), (3, .int 4)]) hx hb d_MD_number_38 hl (k := 1) rfl rfl (by decide) rfl (fun ls hl => ?_)
        refine lv_goto (tgt := 6) hx hb d_MD_number_41 (by decide) ?_
        refine lv_iload hx hb d_MD_number_6 (lv_at hl 0 rfl) ?_
        refine lv_iload_n hx hb d_MD_number_8 rfl (lv_at hl 4 rfl) ?_
        refine lv_icmp_ge (tgt := 44) hx hb d_MD_number_9 (by decide) (fun c_4 => ?_) (fun c_4 => ?_)
        · exact absurd c_4 (by decide)
        · skip
          refine lv_lload hx hb d_MD_number_12 (lv_at hl 1 rfl) ?_
          refine lv_aload_n hx hb d_MD_number_14 rfl (lv_at hl 2 rfl) ?_
          refine va_get (D := (dC, dI)) (ci := 7) (v := .ref (bd 1)) (C := R_MD) (T := T_MD) (N := 28) hx hb hts i_MD hown hK hP 0 rfl rfl 2 (by decide) (hts _ wd_394) (fun _ h9 => h9) rfl d_MD_number_15 ?_
          refine lv_lload_n hx hb d_MD_number_18 rfl (lv_at hl 3 rfl) ?_
          refine lv_l2i hx hb d_MD_number_19 rfl ?_
          refine xtopi (y := nI q) (lN_i (q)) ?_
          refine lv_iload hx hb d_MD_number_20 (lv_at hl 0 rfl) ?_
          refine lv_iadd hx hb d_MD_number_22 ?_
          refine xtopi (y := nI (q + 3)) (nI_add (q) (3)) ?_
          refine xbald (k := q + 3) hx hb hK hP 1 0 rfl rfl (rfl) (by omega) (by decide) d_MD_number_23 ?_
          refine lv_i2l hx hb d_MD_number_24 rfl ?_
          refine lv_ldc2 (v := 255) hx hb hown (hts _ wd_506) d_MD_number_25 ?_
          refine lv_land hx hb d_MD_number_28 ?_
          refine lv_bipush (v := 8) hx hb d_MD_number_29 (by decide) ?_
          refine lv_iload hx hb d_MD_number_31 (lv_at hl 0 rfl) ?_
          refine lv_imul hx hb d_MD_number_33 ?_
          refine lv_lshl hx hb d_MD_number_34 rfl ?_
          refine lv_lor hx hb d_MD_number_35 ?_
          refine xtopl (y := lN (nbP fr q 4)) (nbP_step3 fr q) ?_
          refine lv_lstore (lv' := [(4, .long (lN (nbP fr q 4))), (6, .int 3), (0, .ref (bd 0)), (1, .long (lN q)), (3, .int 4)]) hx hb d_MD_number_36 hl (by decide) rfl (fun ls hl => ?_)
          refine lv_iinc (v := 4) (lv' := [(6, .int 4), (4, .long (lN (nbP fr q 4))), (0, .ref (bd 0)), (1, .long (lN q)), (3, .int 4)]) hx hb d_MD_number_38 hl (k := 1) rfl rfl (by decide) rfl (fun ls hl => ?_)
          refine lv_goto (tgt := 6) hx hb d_MD_number_41 (by decide) ?_
          refine lv_iload hx hb d_MD_number_6 (lv_at hl 0 rfl) ?_
          refine lv_iload_n hx hb d_MD_number_8 rfl (lv_at hl 4 rfl) ?_
          refine lv_icmp_ge (tgt := 44) hx hb d_MD_number_9 (by decide) (fun c_5 => ?_) (fun c_5 => ?_)
          · skip
            refine lv_lload hx hb d_MD_number_44 (lv_at hl 1 rfl) ?_
            exact xretl hx hb hr hlocks hK hP hD hS (by rw [nbP_nbN4]) d_MD_number_46
          · exact absurd c_5 (by decide)
set_option maxHeartbeats 4000000 in
set_option maxRecDepth 100000 in
theorem m_isMarked (l : Launch) (dC : Nat → ClassId) (dI : Nat → Nat → Nat) (bd : Nat → Nat) (cm : Nat → ClassId) (th : Int32) (n : Nat) (fr : Nat → Int32) (a : Nat) (z : Nat → Nat) (le : Nat → Int32) (wy : Int32) (fo : Nat) (en : Nat) (fF : Nat → Nat) (fA : Nat → Nat) (fB : Nat → Nat) (fS : Nat → Nat) (fW : Nat → Int32) (sk : Nat → Int32) (pg : Nat) (ye : Int32) (ys : Int32) (yt : Nat) (yg : Nat) (yp : Nat) (tk : Nat → Int32) (gF : Nat → Nat) (gA : Nat → Nat) (gB : Nat → Nat) (gS : Nat → Nat) (gW : Nat → Int32) (yk : Nat → Int32) (hn : n ≤ 65536) (sz : Nat) : Met l y_MD_isMarked w_MD_isMarked { frames := 1, cells := 0, slots := 0, locals := 26 } (va_Pc [.ref (bd 0)] (xP (dC, dI) (tyM cm) (wsM bd cm th n fr a z le wy fo en fF fA fB fS fW sk pg ye ys yt yg yp tk gF gA gB gS gW yk) sz)) (xQi (dC, dI) (tyM cm) (va_A (wsM bd cm th n fr a z le wy fo en fF fA fB fS fW sk pg ye ys yt yg yp tk gF gA gB gS gW yk) sz) (wsM bd cm th n fr a z le wy fo en fF fA fB fS fW sk pg ye ys yt yg yp tk gF gA gB gS gW yk) (fun r => r = bI (52 ≤ n ∧ nbN fr 0 4 = 1179403647 ∧ nbN fr 4 2 = 257 ∧ nbN fr 6 1 = 1))) 0 0 (va_A (wsM bd cm th n fr a z le wy fo en fF fA fB fS fW sk pg ye ys yt yg yp tk gF gA gB gS gW yk) sz) := by
  refine xof (cc := b_MD_isMarked) (maxL := 1) (ret := (some .boolean)) (own := R_MD) (Qc := fun A => (xQi (dC, dI) (tyM cm) A (wsM bd cm th n fr a z le wy fo en fF fA fB fS fW sk pg ye ys yt yg yp tk gF gA gB gS gW yk) (fun r => r = bI (52 ≤ n ∧ nbN fr 0 4 = 1179403647 ∧ nbN fr 4 2 = 257 ∧ nbN fr 6 1 = 1)))) (by decide) rfl rfl (Nat.le_of_ble_eq_true rfl) ?_ sz
  intro p e s m below meth c A C hnm hK hP hD hA hN hZ hS ls hl
  obtain ⟨hx, hb, hr, hml, hown, hts, hlocks⟩ := C
  have hl : lv_has ls 1 [(0, .ref (bd 0))] := hl
  have b1 := nbN_lt4 fr 0
  have b2 := nbN_lt2 fr 4
  have b3 := nbN_lt1 fr 6
  refine lv_aload_n hx hb d_MD_isMarked_0 rfl (lv_at hl 0 rfl) ?_
  refine va_get (D := (dC, dI)) (ci := 7) (v := .int (nI n)) (C := R_MD) (T := T_MD) (N := 28) hx hb hts i_MD hown hK hP 0 rfl rfl 1 (by decide) (hts _ wd_393) (fun _ h9 => h9) rfl d_MD_isMarked_1 ?_
  refine lv_bipush (v := 52) hx hb d_MD_isMarked_4 (by decide) ?_
  refine lv_icmp_lt (tgt := 54) hx hb d_MD_isMarked_6 (by decide) (fun c_1 => ?_) (fun c_1 => ?_)
  · skip
    have c_1 : n < 52 := (nI_ltI (a := n) (b := 52) (by omega) (by omega)).mp c_1
    refine lv_iconst (v := 0) hx hb d_MD_isMarked_54 (by decide) ?_
    exact xreti (v := 0) hx hb hr hlocks hK hP hD hS (rfl) (bI_0 (fun h9 => absurd h9.1 (by omega))) d_MD_isMarked_55
  · skip
    have c_1 : ¬ (n < 52) := fun h9 => c_1 ((nI_ltI (a := n) (b := 52) (by omega) (by omega)).mpr h9)
    refine lv_aload_n hx hb d_MD_isMarked_9 rfl (lv_at hl 0 rfl) ?_
    refine lv_lconst (v := 0) hx hb d_MD_isMarked_10 (by decide) ?_
    refine lv_iconst (v := 4) hx hb d_MD_isMarked_11 (by decide) ?_
    refine xcalll (va_runV (As := [.long 0, .int 4]) (rest := []) ⟨hx, hb, hml, hown, hts⟩ (m_number4 l dC dI bd cm th n fr a z le wy fo en fF fA fB fS fW sk pg ye ys yt yg yp tk gF gA gB gS gW yk 0 (by omega) s.heap.size) (cwV 2 hts (xgV wd_523 wd_525 wd_7 wd_22 wd_526) rfl rfl rfl (by decide +kernel) ⟨Nat.le_of_ble_eq_true rfl, Nat.le_of_ble_eq_true rfl⟩) (xpreV (q0 := 0) hK hN hZ hA hS hP hD rfl rfl) rfl rfl hl.1 rfl (lv_room (Nat.le_of_ble_eq_true rfl)) d_MD_isMarked_12 ⟨Nat.zero_le _, Nat.zero_le _⟩) hD hS hA (fun r_2 H locs hr_2 hP hD hS => ?_)
    subst hr_2
    refine lv_ldc2 (v := 1179403647) hx hb hown (hts _ wd_527) d_MD_isMarked_15 ?_
    refine W.lcmp hx hb d_MD_isMarked_18 ?_
    refine lv_if_ne (tgt := 54) hx hb d_MD_isMarked_19 (by decide) (fun c_3 => ?_) (fun c_3 => ?_)
    · skip
      rw [lg_cmp_eq] at c_3
      have c_3 : ¬ (nbN fr 0 4 = 1179403647) := fun h9 => c_3 ((pk_lEQ (a := nbN fr 0 4) (b := 1179403647) (by omega) (by omega)).mpr h9)
      refine lv_iconst (v := 0) hx hb d_MD_isMarked_54 (by decide) ?_
      exact xreti (v := 0) hx hb hr hlocks hK hP hD hS (rfl) (bI_0 (fun h9 => absurd h9.2.1 (by omega))) d_MD_isMarked_55
    · skip
      rw [lg_cmp_eq] at c_3
      have c_3 : nbN fr 0 4 = 1179403647 := (pk_lEQ (a := nbN fr 0 4) (b := 1179403647) (by omega) (by omega)).mp c_3
      refine lv_aload_n hx hb d_MD_isMarked_22 rfl (lv_at hl 0 rfl) ?_
      refine lv_ldc2 (v := 4) hx hb hown (hts _ wd_528) d_MD_isMarked_23 ?_
      refine lv_iconst (v := 2) hx hb d_MD_isMarked_26 (by decide) ?_
      refine xcalll (va_runV (As := [.long 4, .int 2]) (rest := []) ⟨hx, hb, hml, hown, hts⟩ (m_number2 l dC dI bd cm th n fr a z le wy fo en fF fA fB fS fW sk pg ye ys yt yg yp tk gF gA gB gS gW yk 4 (by omega) H.size) (cwV 2 hts (xgV wd_523 wd_525 wd_7 wd_22 wd_526) rfl rfl rfl (by decide +kernel) ⟨Nat.le_of_ble_eq_true rfl, Nat.le_of_ble_eq_true rfl⟩) (xpreV (q0 := 0) hK hN hZ hA hS hP hD rfl rfl) rfl rfl hl.1 rfl (lv_room (Nat.le_of_ble_eq_true rfl)) d_MD_isMarked_27 ⟨Nat.zero_le _, Nat.zero_le _⟩) hD hS hA (fun r_4 H locs hr_4 hP hD hS => ?_)
      subst hr_4
      refine lv_ldc2 (v := 257) hx hb hown (hts _ wd_529) d_MD_isMarked_30 ?_
      refine W.lcmp hx hb d_MD_isMarked_33 ?_
      refine lv_if_ne (tgt := 54) hx hb d_MD_isMarked_34 (by decide) (fun c_5 => ?_) (fun c_5 => ?_)
      · skip
        rw [lg_cmp_eq] at c_5
        have c_5 : ¬ (nbN fr 4 2 = 257) := fun h9 => c_5 ((pk_lEQ (a := nbN fr 4 2) (b := 257) (by omega) (by omega)).mpr h9)
        refine lv_iconst (v := 0) hx hb d_MD_isMarked_54 (by decide) ?_
        exact xreti (v := 0) hx hb hr hlocks hK hP hD hS (rfl) (bI_0 (fun h9 => absurd h9.2.2.1 (by omega))) d_MD_isMarked_55
      · skip
        rw [lg_cmp_eq] at c_5
        have c_5 : nbN fr 4 2 = 257 := (pk_lEQ (a := nbN fr 4 2) (b := 257) (by omega) (by omega)).mp c_5
        refine lv_aload_n hx hb d_MD_isMarked_37 rfl (lv_at hl 0 rfl) ?_
        refine lv_ldc2 (v := 6) hx hb hown (hts _ wd_530) d_MD_isMarked_38 ?_
        refine lv_iconst (v := 1) hx hb d_MD_isMarked_41 (by decide) ?_
        refine xcalll (va_runV (As := [.long 6, .int 1]) (rest := []) ⟨hx, hb, hml, hown, hts⟩ (m_number1 l dC dI bd cm th n fr a z le wy fo en fF fA fB fS fW sk pg ye ys yt yg yp tk gF gA gB gS gW yk 6 (by omega) H.size) (cwV 2 hts (xgV wd_523 wd_525 wd_7 wd_22 wd_526) rfl rfl rfl (by decide +kernel) ⟨Nat.le_of_ble_eq_true rfl, Nat.le_of_ble_eq_true rfl⟩) (xpreV (q0 := 0) hK hN hZ hA hS hP hD rfl rfl) rfl rfl hl.1 rfl (lv_room (Nat.le_of_ble_eq_true rfl)) d_MD_isMarked_42 ⟨Nat.zero_le _, Nat.zero_le _⟩) hD hS hA (fun r_6 H locs hr_6 hP hD hS => ?_)
        subst hr_6
        refine lv_lconst (v := 1) hx hb d_MD_isMarked_45 (by decide) ?_
        refine W.lcmp hx hb d_MD_isMarked_46 ?_
        refine lv_if_ne (tgt := 54) hx hb d_MD_isMarked_47 (by decide) (fun c_7 => ?_) (fun c_7 => ?_)
        · skip
          rw [lg_cmp_eq] at c_7
          have c_7 : ¬ (nbN fr 6 1 = 1) := fun h9 => c_7 ((pk_lEQ (a := nbN fr 6 1) (b := 1) (by omega) (by omega)).mpr h9)
          refine lv_iconst (v := 0) hx hb d_MD_isMarked_54 (by decide) ?_
          exact xreti (v := 0) hx hb hr hlocks hK hP hD hS (rfl) (bI_0 (fun h9 => absurd h9.2.2.2 (by omega))) d_MD_isMarked_55
        · skip
          rw [lg_cmp_eq] at c_7
          have c_7 : nbN fr 6 1 = 1 := (pk_lEQ (a := nbN fr 6 1) (b := 1) (by omega) (by omega)).mp c_7
          refine lv_iconst (v := 1) hx hb d_MD_isMarked_50 (by decide) ?_
          refine lv_goto (tgt := 55) hx hb d_MD_isMarked_51 (by decide) ?_
          exact xreti (v := 1) hx hb hr hlocks hK hP hD hS (rfl) (bI_1 ⟨by omega, by omega, by omega, by omega⟩) d_MD_isMarked_55
set_option maxHeartbeats 4000000 in
set_option maxRecDepth 100000 in
theorem m_isKind (l : Launch) (dC : Nat → ClassId) (dI : Nat → Nat → Nat) (bd : Nat → Nat) (cm : Nat → ClassId) (th : Int32) (n : Nat) (fr : Nat → Int32) (a : Nat) (z : Nat → Nat) (le : Nat → Int32) (wy : Int32) (fo : Nat) (en : Nat) (fF : Nat → Nat) (fA : Nat → Nat) (fB : Nat → Nat) (fS : Nat → Nat) (fW : Nat → Int32) (sk : Nat → Int32) (pg : Nat) (ye : Int32) (ys : Int32) (yt : Nat) (yg : Nat) (yp : Nat) (tk : Nat → Int32) (gF : Nat → Nat) (gA : Nat → Nat) (gB : Nat → Nat) (gS : Nat → Nat) (gW : Nat → Int32) (yk : Nat → Int32) (sz : Nat) : Met l y_MD_isKind w_MD_isKind { frames := 1, cells := 0, slots := 0, locals := 26 } (va_Pc [.ref (bd 0)] (xP (dC, dI) (tyM cm) (wsM bd cm th n fr a z le wy fo en fF fA fB fS fW sk pg ye ys yt yg yp tk gF gA gB gS gW yk) sz)) (xQi (dC, dI) (tyM cm) (va_A (wsM bd cm th n fr a z le wy fo en fF fA fB fS fW sk pg ye ys yt yg yp tk gF gA gB gS gW yk) sz) (wsM bd cm th n fr a z le wy fo en fF fA fB fS fW sk pg ye ys yt yg yp tk gF gA gB gS gW yk) (fun r => r = bI (nbN fr 16 2 = 2 ∧ nbN fr 18 2 = 243 ∧ nbN fr 20 4 = 1 ∧ nbN fr 42 2 = 32 ∧ nbN fr 44 2 < 9))) 0 0 (va_A (wsM bd cm th n fr a z le wy fo en fF fA fB fS fW sk pg ye ys yt yg yp tk gF gA gB gS gW yk) sz) := by
  refine xof (cc := b_MD_isKind) (maxL := 1) (ret := (some .boolean)) (own := R_MD) (Qc := fun A => (xQi (dC, dI) (tyM cm) A (wsM bd cm th n fr a z le wy fo en fF fA fB fS fW sk pg ye ys yt yg yp tk gF gA gB gS gW yk) (fun r => r = bI (nbN fr 16 2 = 2 ∧ nbN fr 18 2 = 243 ∧ nbN fr 20 4 = 1 ∧ nbN fr 42 2 = 32 ∧ nbN fr 44 2 < 9)))) (by decide) rfl rfl (Nat.le_of_ble_eq_true rfl) ?_ sz
  intro p e s m below meth c A C hnm hK hP hD hA hN hZ hS ls hl
  obtain ⟨hx, hb, hr, hml, hown, hts, hlocks⟩ := C
  have hl : lv_has ls 1 [(0, .ref (bd 0))] := hl
  have b1 := nbN_lt2 fr 16
  have b2 := nbN_lt2 fr 18
  have b3 := nbN_lt4 fr 20
  have b4 := nbN_lt2 fr 42
  have b5 := nbN_lt2 fr 44
  refine lv_aload_n hx hb d_MD_isKind_0 rfl (lv_at hl 0 rfl) ?_
  refine lv_ldc2 (v := 16) hx hb hown (hts _ wd_535) d_MD_isKind_1 ?_
  refine lv_iconst (v := 2) hx hb d_MD_isKind_4 (by decide) ?_
  refine xcalll (va_runV (As := [.long 16, .int 2]) (rest := []) ⟨hx, hb, hml, hown, hts⟩ (m_number2 l dC dI bd cm th n fr a z le wy fo en fF fA fB fS fW sk pg ye ys yt yg yp tk gF gA gB gS gW yk 16 (by omega) s.heap.size) (cwV 2 hts (xgV wd_523 wd_525 wd_7 wd_22 wd_526) rfl rfl rfl (by decide +kernel) ⟨Nat.le_of_ble_eq_true rfl, Nat.le_of_ble_eq_true rfl⟩) (xpreV (q0 := 0) hK hN hZ hA hS hP hD rfl rfl) rfl rfl hl.1 rfl (lv_room (Nat.le_of_ble_eq_true rfl)) d_MD_isKind_5 ⟨Nat.zero_le _, Nat.zero_le _⟩) hD hS hA (fun r_1 H locs hr_1 hP hD hS => ?_)
  subst hr_1
  refine lv_ldc2 (v := 2) hx hb hown (hts _ wd_536) d_MD_isKind_8 ?_
  refine W.lcmp hx hb d_MD_isKind_11 ?_
  refine lv_if_ne (tgt := 77) hx hb d_MD_isKind_12 (by decide) (fun c_2 => ?_) (fun c_2 => ?_)
  · skip
    rw [lg_cmp_eq] at c_2
    have c_2 : ¬ (nbN fr 16 2 = 2) := fun h9 => c_2 ((pk_lEQ (a := nbN fr 16 2) (b := 2) (by omega) (by omega)).mpr h9)
    refine lv_iconst (v := 0) hx hb d_MD_isKind_77 (by decide) ?_
    exact xreti (v := 0) hx hb hr hlocks hK hP hD hS (rfl) (bI_0 (fun h9 => absurd h9.1 (by omega))) d_MD_isKind_78
  · skip
    rw [lg_cmp_eq] at c_2
    have c_2 : nbN fr 16 2 = 2 := (pk_lEQ (a := nbN fr 16 2) (b := 2) (by omega) (by omega)).mp c_2
    refine lv_aload_n hx hb d_MD_isKind_15 rfl (lv_at hl 0 rfl) ?_
    refine lv_ldc2 (v := 18) hx hb hown (hts _ wd_537) d_MD_isKind_16 ?_
    refine lv_iconst (v := 2) hx hb d_MD_isKind_19 (by decide) ?_
    refine xcalll (va_runV (As := [.long 18, .int 2]) (rest := []) ⟨hx, hb, hml, hown, hts⟩ (m_number2 l dC dI bd cm th n fr a z le wy fo en fF fA fB fS fW sk pg ye ys yt yg yp tk gF gA gB gS gW yk 18 (by omega) H.size) (cwV 2 hts (xgV wd_523 wd_525 wd_7 wd_22 wd_526) rfl rfl rfl (by decide +kernel) ⟨Nat.le_of_ble_eq_true rfl, Nat.le_of_ble_eq_true rfl⟩) (xpreV (q0 := 0) hK hN hZ hA hS hP hD rfl rfl) rfl rfl hl.1 rfl (lv_room (Nat.le_of_ble_eq_true rfl)) d_MD_isKind_20 ⟨Nat.zero_le _, Nat.zero_le _⟩) hD hS hA (fun r_3 H locs hr_3 hP hD hS => ?_)
    subst hr_3
    refine lv_ldc2 (v := 243) hx hb hown (hts _ wd_538) d_MD_isKind_23 ?_
    refine W.lcmp hx hb d_MD_isKind_26 ?_
    refine lv_if_ne (tgt := 77) hx hb d_MD_isKind_27 (by decide) (fun c_4 => ?_) (fun c_4 => ?_)
    · skip
      rw [lg_cmp_eq] at c_4
      have c_4 : ¬ (nbN fr 18 2 = 243) := fun h9 => c_4 ((pk_lEQ (a := nbN fr 18 2) (b := 243) (by omega) (by omega)).mpr h9)
      refine lv_iconst (v := 0) hx hb d_MD_isKind_77 (by decide) ?_
      exact xreti (v := 0) hx hb hr hlocks hK hP hD hS (rfl) (bI_0 (fun h9 => absurd h9.2.1 (by omega))) d_MD_isKind_78
    · skip
      rw [lg_cmp_eq] at c_4
      have c_4 : nbN fr 18 2 = 243 := (pk_lEQ (a := nbN fr 18 2) (b := 243) (by omega) (by omega)).mp c_4
      refine lv_aload_n hx hb d_MD_isKind_30 rfl (lv_at hl 0 rfl) ?_
      refine lv_ldc2 (v := 20) hx hb hown (hts _ wd_539) d_MD_isKind_31 ?_
      refine lv_iconst (v := 4) hx hb d_MD_isKind_34 (by decide) ?_
      refine xcalll (va_runV (As := [.long 20, .int 4]) (rest := []) ⟨hx, hb, hml, hown, hts⟩ (m_number4 l dC dI bd cm th n fr a z le wy fo en fF fA fB fS fW sk pg ye ys yt yg yp tk gF gA gB gS gW yk 20 (by omega) H.size) (cwV 2 hts (xgV wd_523 wd_525 wd_7 wd_22 wd_526) rfl rfl rfl (by decide +kernel) ⟨Nat.le_of_ble_eq_true rfl, Nat.le_of_ble_eq_true rfl⟩) (xpreV (q0 := 0) hK hN hZ hA hS hP hD rfl rfl) rfl rfl hl.1 rfl (lv_room (Nat.le_of_ble_eq_true rfl)) d_MD_isKind_35 ⟨Nat.zero_le _, Nat.zero_le _⟩) hD hS hA (fun r_5 H locs hr_5 hP hD hS => ?_)
      subst hr_5
      refine lv_lconst (v := 1) hx hb d_MD_isKind_38 (by decide) ?_
      refine W.lcmp hx hb d_MD_isKind_39 ?_
      refine lv_if_ne (tgt := 77) hx hb d_MD_isKind_40 (by decide) (fun c_6 => ?_) (fun c_6 => ?_)
      · skip
        rw [lg_cmp_eq] at c_6
        have c_6 : ¬ (nbN fr 20 4 = 1) := fun h9 => c_6 ((pk_lEQ (a := nbN fr 20 4) (b := 1) (by omega) (by omega)).mpr h9)
        refine lv_iconst (v := 0) hx hb d_MD_isKind_77 (by decide) ?_
        exact xreti (v := 0) hx hb hr hlocks hK hP hD hS (rfl) (bI_0 (fun h9 => absurd h9.2.2.1 (by omega))) d_MD_isKind_78
      · skip
        rw [lg_cmp_eq] at c_6
        have c_6 : nbN fr 20 4 = 1 := (pk_lEQ (a := nbN fr 20 4) (b := 1) (by omega) (by omega)).mp c_6
        refine lv_aload_n hx hb d_MD_isKind_43 rfl (lv_at hl 0 rfl) ?_
        refine lv_ldc2 (v := 42) hx hb hown (hts _ wd_540) d_MD_isKind_44 ?_
        refine lv_iconst (v := 2) hx hb d_MD_isKind_47 (by decide) ?_
        refine xcalll (va_runV (As := [.long 42, .int 2]) (rest := []) ⟨hx, hb, hml, hown, hts⟩ (m_number2 l dC dI bd cm th n fr a z le wy fo en fF fA fB fS fW sk pg ye ys yt yg yp tk gF gA gB gS gW yk 42 (by omega) H.size) (cwV 2 hts (xgV wd_523 wd_525 wd_7 wd_22 wd_526) rfl rfl rfl (by decide +kernel) ⟨Nat.le_of_ble_eq_true rfl, Nat.le_of_ble_eq_true rfl⟩) (xpreV (q0 := 0) hK hN hZ hA hS hP hD rfl rfl) rfl rfl hl.1 rfl (lv_room (Nat.le_of_ble_eq_true rfl)) d_MD_isKind_48 ⟨Nat.zero_le _, Nat.zero_le _⟩) hD hS hA (fun r_7 H locs hr_7 hP hD hS => ?_)
        subst hr_7
        refine lv_ldc2 (v := 32) hx hb hown (hts _ wd_541) d_MD_isKind_51 ?_
        refine W.lcmp hx hb d_MD_isKind_54 ?_
        refine lv_if_ne (tgt := 77) hx hb d_MD_isKind_55 (by decide) (fun c_8 => ?_) (fun c_8 => ?_)
        · skip
          rw [lg_cmp_eq] at c_8
          have c_8 : ¬ (nbN fr 42 2 = 32) := fun h9 => c_8 ((pk_lEQ (a := nbN fr 42 2) (b := 32) (by omega) (by omega)).mpr h9)
          refine lv_iconst (v := 0) hx hb d_MD_isKind_77 (by decide) ?_
          exact xreti (v := 0) hx hb hr hlocks hK hP hD hS (rfl) (bI_0 (fun h9 => absurd h9.2.2.2.1 (by omega))) d_MD_isKind_78
        · skip
          rw [lg_cmp_eq] at c_8
          have c_8 : nbN fr 42 2 = 32 := (pk_lEQ (a := nbN fr 42 2) (b := 32) (by omega) (by omega)).mp c_8
          refine lv_aload_n hx hb d_MD_isKind_58 rfl (lv_at hl 0 rfl) ?_
          refine lv_ldc2 (v := 44) hx hb hown (hts _ wd_542) d_MD_isKind_59 ?_
          refine lv_iconst (v := 2) hx hb d_MD_isKind_62 (by decide) ?_
          refine xcalll (va_runV (As := [.long 44, .int 2]) (rest := []) ⟨hx, hb, hml, hown, hts⟩ (m_number2 l dC dI bd cm th n fr a z le wy fo en fF fA fB fS fW sk pg ye ys yt yg yp tk gF gA gB gS gW yk 44 (by omega) H.size) (cwV 2 hts (xgV wd_523 wd_525 wd_7 wd_22 wd_526) rfl rfl rfl (by decide +kernel) ⟨Nat.le_of_ble_eq_true rfl, Nat.le_of_ble_eq_true rfl⟩) (xpreV (q0 := 0) hK hN hZ hA hS hP hD rfl rfl) rfl rfl hl.1 rfl (lv_room (Nat.le_of_ble_eq_true rfl)) d_MD_isKind_63 ⟨Nat.zero_le _, Nat.zero_le _⟩) hD hS hA (fun r_9 H locs hr_9 hP hD hS => ?_)
          subst hr_9
          refine lv_ldc2 (v := 9) hx hb hown (hts _ wd_543) d_MD_isKind_66 ?_
          refine W.lcmp hx hb d_MD_isKind_69 ?_
          refine lv_if_ge (tgt := 77) hx hb d_MD_isKind_70 (by decide) (fun c_10 => ?_) (fun c_10 => ?_)
          · skip
            rw [lg_cmp_ge] at c_10
            have c_10 : 9 ≤ nbN fr 44 2 := (pk_lLE (a := 9) (b := nbN fr 44 2) (by omega) (by omega)).mp c_10
            refine lv_iconst (v := 0) hx hb d_MD_isKind_77 (by decide) ?_
            exact xreti (v := 0) hx hb hr hlocks hK hP hD hS (rfl) (bI_0 (fun h9 => absurd h9.2.2.2.2 (by omega))) d_MD_isKind_78
          · skip
            rw [lg_cmp_ge] at c_10
            have c_10 : ¬ (9 ≤ nbN fr 44 2) := fun h9 => c_10 ((pk_lLE (a := 9) (b := nbN fr 44 2) (by omega) (by omega)).mpr h9)
            refine lv_iconst (v := 1) hx hb d_MD_isKind_73 (by decide) ?_
            refine lv_goto (tgt := 78) hx hb d_MD_isKind_74 (by decide) ?_
            exact xreti (v := 1) hx hb hr hlocks hK hP hD hS (rfl) (bI_1 ⟨by omega, by omega, by omega, by omega, by omega⟩) d_MD_isKind_78
set_option maxHeartbeats 4000000 in
set_option maxRecDepth 100000 in
theorem m_up (l : Launch) (dC : Nat → ClassId) (dI : Nat → Nat → Nat) (bd : Nat → Nat) (cm : Nat → ClassId) (th : Int32) (n : Nat) (fr : Nat → Int32) (a : Nat) (z : Nat → Nat) (le : Nat → Int32) (wy : Int32) (fo : Nat) (en : Nat) (fF : Nat → Nat) (fA : Nat → Nat) (fB : Nat → Nat) (fS : Nat → Nat) (fW : Nat → Int32) (sk : Nat → Int32) (pg : Nat) (ye : Int32) (ys : Int32) (yt : Nat) (yg : Nat) (yp : Nat) (tk : Nat → Int32) (gF : Nat → Nat) (gA : Nat → Nat) (gB : Nat → Nat) (gS : Nat → Nat) (gW : Nat → Int32) (yk : Nat → Int32) (q : Nat) (hq : q < 1099511627776) (sz : Nat) : Met l y_MD_up w_MD_up { frames := 0, cells := 0, slots := 0, locals := 0 } (va_Pc [.long (lN q)] (xP (dC, dI) (tyM cm) (wsM bd cm th n fr a z le wy fo en fF fA fB fS fW sk pg ye ys yt yg yp tk gF gA gB gS gW yk) sz)) (xQl (dC, dI) (tyM cm) (va_A (wsM bd cm th n fr a z le wy fo en fF fA fB fS fW sk pg ye ys yt yg yp tk gF gA gB gS gW yk) sz) (wsM bd cm th n fr a z le wy fo en fF fA fB fS fW sk pg ye ys yt yg yp tk gF gA gB gS gW yk) (fun r => r = lN ((q + 4095) / 4096 * 4096))) 0 0 (va_A (wsM bd cm th n fr a z le wy fo en fF fA fB fS fW sk pg ye ys yt yg yp tk gF gA gB gS gW yk) sz) := by
  refine xof (cc := b_MD_up) (maxL := 2) (ret := (some .long)) (own := R_MD) (Qc := fun A => (xQl (dC, dI) (tyM cm) A (wsM bd cm th n fr a z le wy fo en fF fA fB fS fW sk pg ye ys yt yg yp tk gF gA gB gS gW yk) (fun r => r = lN ((q + 4095) / 4096 * 4096)))) (by decide) rfl rfl (Nat.le_of_ble_eq_true rfl) ?_ sz
  intro p e s m below meth c A C hnm hK hP hD hA hN hZ hS ls hl
  obtain ⟨hx, hb, hr, hml, hown, hts, hlocks⟩ := C
  have hl : lv_has ls 2 [(0, .long (lN q))] := hl
  refine lv_lload_n hx hb d_MD_up_0 rfl (lv_at hl 0 rfl) ?_
  refine lv_ldc2 (v := 4095) hx hb hown (hts _ wd_556) d_MD_up_1 ?_
  refine lv_ladd hx hb d_MD_up_4 ?_
  refine xtopl (y := lN (q + 4095)) (lN_add (q) (4095)) ?_
  refine lv_ldc2 (v := 4096) hx hb hown (hts _ wd_550) d_MD_up_5 ?_
  refine lv_ldiv hx hb d_MD_up_8 (by decide) ?_
  refine xtopl (y := lN ((q + 4095) / 4096)) (pk_lDiv (a := q + 4095) (b := 4096) (by omega) (by omega) (by omega)) ?_
  refine lv_ldc2 (v := 4096) hx hb hown (hts _ wd_550) d_MD_up_9 ?_
  refine lv_lmul hx hb d_MD_up_12 ?_
  refine xtopl (y := lN (((q + 4095) / 4096) * 4096)) (lN_mul ((q + 4095) / 4096) (4096)) ?_
  exact xretl hx hb hr hlocks hK hP hD hS (rfl) d_MD_up_13
end
section
def mpF (n : Nat) (fr : Nat → Int32) (k kn w : Int32) : Nat → Int32 := if mOK kn ∧ 0 ≤ k.toInt ∧ k.toInt + ((tN kn : Nat) : Int) ≤ (n : Int) then wrN fr k.toInt.toNat w (tN kn) else fr
theorem p_put {j n M : Nat} (hj : j < 2 ^ 31) (hn : n ≤ 65536) (hM : M ≤ 4) : nI j ≤ nI n - nI M ↔ j + M ≤ n := by
  rw [Int32.le_iff_toInt_le, nI_toInt hj, pk_sub_toInt (by omega) (by omega)]
  omega
def svK (t : Nat) : Int32 := 7 - nI t
theorem svK_fin : ∀ t, t < 9 → (svK t < 0 → t = 8) ∧ (¬ svK t < 0 → t < 8) ∧ (t < 8 → svK t + Int32.ofInt (-1) = svK (t + 1)) ∧ (t < 8 → ((8 * svK t).toInt64 &&& 63) = ((shv t).toInt64 &&& 63)) ∧ (t < 8 → ((nI (8 * t)).toInt64 &&& 63) = ((shv (7 - t)).toInt64 &&& 63)) := by decide
theorem svK_neg {t : Nat} (h : t ≤ 8) (c : svK t < 0) : t = 8 := (svK_fin t (by omega)).1 c
theorem svK_pos {t : Nat} (h : t ≤ 8) (c : ¬ svK t < 0) : t < 8 := (svK_fin t (by omega)).2.1 c
theorem svK_step {t : Nat} (h : t < 8) : svK t + Int32.ofInt (-1) = svK (t + 1) := (svK_fin t (by omega)).2.2.1 h
def mlb (w : Int64) (t : Nat) : Int32 := (w >>> ((8 * svK t).toInt64 &&& 63)).toInt32 &&& 255
def mby (w : Int64) (t : Nat) : Int64 := (w >>> ((nI (8 * t)).toInt64 &&& 63)) &&& 255
theorem i8_bv (x : Int32) : x.toInt8.toInt32.toBitVec = (x.toBitVec.setWidth 8).signExtend 32 := by
  have e : x.toInt8.toInt32.toBitVec = (x.toBitVec.signExtend 8).signExtend 32 := rfl
  rw [e, BitVec.signExtend_eq_setWidth_of_le x.toBitVec (by decide)]
theorem i8_and (x : Int32) : (x &&& 255).toInt8.toInt32 = x.toInt8.toInt32 := by
  apply Int32.toBitVec_inj.mp
  rw [i8_bv, i8_bv]
  congr 1
  have e1 : (x &&& 255).toBitVec = x.toBitVec &&& BitVec.ofNat 32 (2 ^ 8 - 1) := rfl
  rw [e1]
  apply BitVec.eq_of_getLsbD_eq
  intro i hi
  simp only [BitVec.getLsbD_setWidth, BitVec.getLsbD_and, BitVec.getLsbD_ofNat, Nat.testBit_two_pow_sub_one]
  simp [hi, show i < 32 from by omega]
theorem b8_i8 (x : Int32) : x.toInt8.toInt32 = 0 ↔ b8 x = 0 := by
  have e : x.toInt8.toInt32 = 0 ↔ x.toBitVec.setWidth 8 = 0#8 := by
    constructor
    · intro h
      have h1 := congrArg (fun y : Int32 => y.toBitVec.setWidth 8) h
      simp only [i8_bv] at h1
      have h2 : ((x.toBitVec.setWidth 8).signExtend 32).setWidth 8 = x.toBitVec.setWidth 8 := by
        apply BitVec.eq_of_getLsbD_eq
        intro i hi
        simp only [BitVec.getLsbD_setWidth, BitVec.getLsbD_signExtend]
        simp [hi, show i < 32 from by omega]
      rw [h2] at h1
      exact h1
    · intro h
      apply Int32.toBitVec_inj.mp
      rw [i8_bv, h]
      rfl
  rw [e]
  constructor
  · intro h
    have := congrArg BitVec.toNat h
    simpa [b8, BitVec.toNat_setWidth] using this
  · intro h
    apply BitVec.eq_of_toNat_eq
    simpa [b8, BitVec.toNat_setWidth] using h
theorem and255 (x : Int32) : x &&& 255 = nI (b8 x) := pk_and x 8 (by decide)
theorem mlb_b (w : Int64) {t : Nat} (h : t < 8) : (mlb w t).toInt8.toInt32 = lby w t := by
  unfold mlb lby
  rw [i8_and, (svK_fin t (by omega)).2.2.2.1 h]
theorem mlb_le (w : Int64) {t : Nat} (h : t < 8) : mlb w t ≤ 0 ↔ lby w t = 0 := by
  unfold lby
  rw [b8_i8]
  unfold mlb
  rw [(svK_fin t (by omega)).2.2.2.1 h, and255]
  have hb := b8_lt (w >>> ((shv t).toInt64 &&& 63)).toInt32
  rw [show (0 : Int32) = nI 0 from rfl, nI_leI (by omega) (by decide)]
  omega
theorem l_and (x : Int64) : x &&& 255 = lN (b8 x.toInt32) := by
  apply Int64.toBitVec_inj.mp
  apply BitVec.eq_of_getLsbD_eq
  intro i hi
  have e1 : (x &&& 255).toBitVec = x.toBitVec &&& BitVec.ofNat 64 (2 ^ 8 - 1) := rfl
  have e2 : (lN (b8 x.toInt32)).toBitVec = BitVec.ofNat 64 ((x.toBitVec.signExtend 32).toNat % 2 ^ 8) := rfl
  rw [e1, e2, BitVec.signExtend_eq_setWidth_of_le x.toBitVec (by decide)]
  simp only [BitVec.getLsbD_and, BitVec.getLsbD_ofNat, Nat.testBit_two_pow_sub_one, Nat.testBit_mod_two_pow, BitVec.testBit_toNat, BitVec.getLsbD_setWidth]
  by_cases h8 : i < 8
  · simp [hi, h8, show i < 32 from by omega]
  · simp [h8]
theorem mby_le (w : Int64) {t : Nat} (h : t < 8) : mby w t ≤ 0 ↔ lby w (7 - t) = 0 := by
  unfold lby
  rw [b8_i8]
  unfold mby
  rw [(svK_fin t (by omega)).2.2.2.2 h, l_and]
  have hb := b8_lt (w >>> ((shv (7 - t)).toInt64 &&& 63)).toInt32
  rw [show (0 : Int64) = lN 0 from rfl, pk_lLE (by omega) (by decide)]
  omega
def mcN (w : Int64) : Nat → Nat
  | 0 => 0
  | t + 1 => if mby w t ≤ 0 then mcN w t else mcN w t + 1
theorem mcN_le (w : Int64) (t : Nat) : mcN w t ≤ t := by
  induction t with
  | zero => exact Nat.le_refl _
  | succ t ih =>
    rw [mcN]
    split <;> omega
def nz (w : Int64) (t : Nat) : Nat := if lby w t = 0 then 0 else 1
theorem ltN_s (w : Int64) (t : Nat) : ltN w (t + 1) = ltN w t + nz w t := by
  rw [ltN, nz]
  split <;> rfl
theorem mcN_s (w : Int64) {t : Nat} (h : t < 8) : mcN w (t + 1) = mcN w t + nz w (7 - t) := by
  rw [mcN, nz]
  by_cases c : lby w (7 - t) = 0
  · rw [if_pos ((mby_le w h).mpr c), if_pos c]; rfl
  · rw [if_neg (fun h9 => c ((mby_le w h).mp h9)), if_neg c]
theorem mcN_lt (w : Int64) : mcN w 8 = ltN w 8 := by
  rw [mcN_s w (t := 7) (by decide), mcN_s w (t := 6) (by decide), mcN_s w (t := 5) (by decide), mcN_s w (t := 4) (by decide), mcN_s w (t := 3) (by decide), mcN_s w (t := 2) (by decide), mcN_s w (t := 1) (by decide), mcN_s w (t := 0) (by decide)]
  rw [ltN_s w 7, ltN_s w 6, ltN_s w 5, ltN_s w 4, ltN_s w 3, ltN_s w 2, ltN_s w 1, ltN_s w 0]
  simp only [mcN, ltN, show 7 - 7 = 0 from rfl, show 7 - 6 = 1 from rfl, show 7 - 5 = 2 from rfl, show 7 - 4 = 3 from rfl, show 7 - 3 = 4 from rfl, show 7 - 2 = 5 from rfl, show 7 - 1 = 6 from rfl, show 7 - 0 = 7 from rfl]
  omega
def mxA (le : Nat → Int32) (z : Nat → Nat) (b : Nat) (w : Int64) : Nat → Nat → Int32
  | 0 => le
  | t + 1 => if lby w t = 0 then mxA le z b w t else upd (mxA le z b w t) (128 * b + (z b + ltN w t)) (lby w t)
def mxFA (a : Nat) (le : Nat → Int32) (z : Nat → Nat) (w : Int64) : Nat → Int32 := if 0 < a ∧ z (a - 1) + ltN w 8 ≤ 127 then mxA le z (a - 1) w 8 else le
end
section
theorem d_MD_put_0 : decode b_MD_put 0 = .ok (.aload_n 0, 1) := by decide +kernel
theorem d_MD_put_1 : decode b_MD_put 1 = .ok (.iconst 0, 1) := by decide +kernel
theorem d_MD_put_2 : decode b_MD_put 2 = .ok (.putfield 60, 3) := by decide +kernel
theorem d_MD_put_5 : decode b_MD_put 5 = .ok (.iload_n 2, 1) := by decide +kernel
theorem d_MD_put_6 : decode b_MD_put 6 = .ok (.iconst 1, 1) := by decide +kernel
theorem d_MD_put_7 : decode b_MD_put 7 = .ok (.if_icmp .eq 13, 3) := by decide +kernel
theorem d_MD_put_10 : decode b_MD_put 10 = .ok (.iload_n 2, 1) := by decide +kernel
theorem d_MD_put_11 : decode b_MD_put 11 = .ok (.iconst 2, 1) := by decide +kernel
theorem d_MD_put_12 : decode b_MD_put 12 = .ok (.if_icmp .eq 8, 3) := by decide +kernel
theorem d_MD_put_15 : decode b_MD_put 15 = .ok (.iload_n 2, 1) := by decide +kernel
theorem d_MD_put_16 : decode b_MD_put 16 = .ok (.iconst 4, 1) := by decide +kernel
theorem d_MD_put_17 : decode b_MD_put 17 = .ok (.if_icmp .ne 17, 3) := by decide +kernel
theorem d_MD_put_20 : decode b_MD_put 20 = .ok (.iload_n 1, 1) := by decide +kernel
theorem d_MD_put_21 : decode b_MD_put 21 = .ok (.ifCond .lt 13, 3) := by decide +kernel
theorem d_MD_put_24 : decode b_MD_put 24 = .ok (.iload_n 1, 1) := by decide +kernel
theorem d_MD_put_25 : decode b_MD_put 25 = .ok (.aload_n 0, 1) := by decide +kernel
theorem d_MD_put_26 : decode b_MD_put 26 = .ok (.getfield 64, 3) := by decide +kernel
theorem d_MD_put_29 : decode b_MD_put 29 = .ok (.iload_n 2, 1) := by decide +kernel
theorem d_MD_put_30 : decode b_MD_put 30 = .ok (.isub, 1) := by decide +kernel
theorem d_MD_put_31 : decode b_MD_put 31 = .ok (.if_icmp .le 5, 3) := by decide +kernel
theorem d_MD_put_34 : decode b_MD_put 34 = .ok (.iconst 0, 1) := by decide +kernel
theorem d_MD_put_35 : decode b_MD_put 35 = .ok (.ireturn, 1) := by decide +kernel
theorem d_MD_put_36 : decode b_MD_put 36 = .ok (.iconst 0, 1) := by decide +kernel
theorem d_MD_put_37 : decode b_MD_put 37 = .ok (.istore 4, 2) := by decide +kernel
theorem d_MD_put_39 : decode b_MD_put 39 = .ok (.iload 4, 2) := by decide +kernel
theorem d_MD_put_41 : decode b_MD_put 41 = .ok (.iload_n 2, 1) := by decide +kernel
theorem d_MD_put_42 : decode b_MD_put 42 = .ok (.if_icmp .ge 26, 3) := by decide +kernel
theorem d_MD_put_45 : decode b_MD_put 45 = .ok (.aload_n 0, 1) := by decide +kernel
theorem d_MD_put_46 : decode b_MD_put 46 = .ok (.getfield 8, 3) := by decide +kernel
theorem d_MD_put_49 : decode b_MD_put 49 = .ok (.iload_n 1, 1) := by decide +kernel
theorem d_MD_put_50 : decode b_MD_put 50 = .ok (.iload 4, 2) := by decide +kernel
theorem d_MD_put_52 : decode b_MD_put 52 = .ok (.iadd, 1) := by decide +kernel
theorem d_MD_put_53 : decode b_MD_put 53 = .ok (.iload_n 3, 1) := by decide +kernel
theorem d_MD_put_54 : decode b_MD_put 54 = .ok (.bipush 8, 2) := by decide +kernel
theorem d_MD_put_56 : decode b_MD_put 56 = .ok (.iload 4, 2) := by decide +kernel
theorem d_MD_put_58 : decode b_MD_put 58 = .ok (.imul, 1) := by decide +kernel
theorem d_MD_put_59 : decode b_MD_put 59 = .ok (.ishr, 1) := by decide +kernel
theorem d_MD_put_60 : decode b_MD_put 60 = .ok (.i2b, 1) := by decide +kernel
theorem d_MD_put_61 : decode b_MD_put 61 = .ok (.bastore, 1) := by decide +kernel
theorem d_MD_put_62 : decode b_MD_put 62 = .ok (.iinc 4 1, 3) := by decide +kernel
theorem d_MD_put_65 : decode b_MD_put 65 = .ok (.goto (-26), 3) := by decide +kernel
theorem d_MD_put_68 : decode b_MD_put 68 = .ok (.iconst 1, 1) := by decide +kernel
theorem d_MD_put_69 : decode b_MD_put 69 = .ok (.ireturn, 1) := by decide +kernel
theorem d_MD_letters_0 : decode b_MD_letters 0 = .ok (.aload_n 0, 1) := by decide +kernel
theorem d_MD_letters_1 : decode b_MD_letters 1 = .ok (.iconst 0, 1) := by decide +kernel
theorem d_MD_letters_2 : decode b_MD_letters 2 = .ok (.putfield 60, 3) := by decide +kernel
theorem d_MD_letters_5 : decode b_MD_letters 5 = .ok (.iconst 0, 1) := by decide +kernel
theorem d_MD_letters_6 : decode b_MD_letters 6 = .ok (.istore_n 3, 1) := by decide +kernel
theorem d_MD_letters_7 : decode b_MD_letters 7 = .ok (.iconst 0, 1) := by decide +kernel
theorem d_MD_letters_8 : decode b_MD_letters 8 = .ok (.istore 4, 2) := by decide +kernel
theorem d_MD_letters_10 : decode b_MD_letters 10 = .ok (.iload 4, 2) := by decide +kernel
theorem d_MD_letters_12 : decode b_MD_letters 12 = .ok (.bipush 8, 2) := by decide +kernel
theorem d_MD_letters_14 : decode b_MD_letters 14 = .ok (.if_icmp .ge 33, 3) := by decide +kernel
theorem d_MD_letters_17 : decode b_MD_letters 17 = .ok (.iload_n 3, 1) := by decide +kernel
theorem d_MD_letters_18 : decode b_MD_letters 18 = .ok (.lload_n 1, 1) := by decide +kernel
theorem d_MD_letters_19 : decode b_MD_letters 19 = .ok (.bipush 8, 2) := by decide +kernel
theorem d_MD_letters_21 : decode b_MD_letters 21 = .ok (.iload 4, 2) := by decide +kernel
theorem d_MD_letters_23 : decode b_MD_letters 23 = .ok (.imul, 1) := by decide +kernel
theorem d_MD_letters_24 : decode b_MD_letters 24 = .ok (.lshr, 1) := by decide +kernel
theorem d_MD_letters_25 : decode b_MD_letters 25 = .ok (.ldc2_w 71, 3) := by decide +kernel
theorem d_MD_letters_28 : decode b_MD_letters 28 = .ok (.land, 1) := by decide +kernel
theorem d_MD_letters_29 : decode b_MD_letters 29 = .ok (.lconst 0, 1) := by decide +kernel
theorem d_MD_letters_30 : decode b_MD_letters 30 = .ok (.lcmp, 1) := by decide +kernel
theorem d_MD_letters_31 : decode b_MD_letters 31 = .ok (.ifCond .le 7, 3) := by decide +kernel
theorem d_MD_letters_34 : decode b_MD_letters 34 = .ok (.iconst 1, 1) := by decide +kernel
theorem d_MD_letters_35 : decode b_MD_letters 35 = .ok (.goto 4, 3) := by decide +kernel
theorem d_MD_letters_38 : decode b_MD_letters 38 = .ok (.iconst 0, 1) := by decide +kernel
theorem d_MD_letters_39 : decode b_MD_letters 39 = .ok (.iadd, 1) := by decide +kernel
theorem d_MD_letters_40 : decode b_MD_letters 40 = .ok (.istore_n 3, 1) := by decide +kernel
theorem d_MD_letters_41 : decode b_MD_letters 41 = .ok (.iinc 4 1, 3) := by decide +kernel
theorem d_MD_letters_44 : decode b_MD_letters 44 = .ok (.goto (-34), 3) := by decide +kernel
theorem d_MD_letters_47 : decode b_MD_letters 47 = .ok (.aload_n 0, 1) := by decide +kernel
theorem d_MD_letters_48 : decode b_MD_letters 48 = .ok (.getfield 68, 3) := by decide +kernel
theorem d_MD_letters_51 : decode b_MD_letters 51 = .ok (.ifCond .eq 21, 3) := by decide +kernel
theorem d_MD_letters_54 : decode b_MD_letters 54 = .ok (.aload_n 0, 1) := by decide +kernel
theorem d_MD_letters_55 : decode b_MD_letters 55 = .ok (.getfield 14, 3) := by decide +kernel
theorem d_MD_letters_58 : decode b_MD_letters 58 = .ok (.aload_n 0, 1) := by decide +kernel
theorem d_MD_letters_59 : decode b_MD_letters 59 = .ok (.getfield 68, 3) := by decide +kernel
theorem d_MD_letters_62 : decode b_MD_letters 62 = .ok (.iconst 1, 1) := by decide +kernel
theorem d_MD_letters_63 : decode b_MD_letters 63 = .ok (.isub, 1) := by decide +kernel
theorem d_MD_letters_64 : decode b_MD_letters 64 = .ok (.iaload, 1) := by decide +kernel
theorem d_MD_letters_65 : decode b_MD_letters 65 = .ok (.iload_n 3, 1) := by decide +kernel
theorem d_MD_letters_66 : decode b_MD_letters 66 = .ok (.iadd, 1) := by decide +kernel
theorem d_MD_letters_67 : decode b_MD_letters 67 = .ok (.bipush 127, 2) := by decide +kernel
theorem d_MD_letters_69 : decode b_MD_letters 69 = .ok (.if_icmp .le 5, 3) := by decide +kernel
theorem d_MD_letters_72 : decode b_MD_letters 72 = .ok (.iconst 0, 1) := by decide +kernel
theorem d_MD_letters_73 : decode b_MD_letters 73 = .ok (.ireturn, 1) := by decide +kernel
theorem d_MD_letters_74 : decode b_MD_letters 74 = .ok (.bipush 7, 2) := by decide +kernel
theorem d_MD_letters_76 : decode b_MD_letters 76 = .ok (.istore 4, 2) := by decide +kernel
theorem d_MD_letters_78 : decode b_MD_letters 78 = .ok (.iload 4, 2) := by decide +kernel
theorem d_MD_letters_80 : decode b_MD_letters 80 = .ok (.ifCond .lt 73, 3) := by decide +kernel
theorem d_MD_letters_83 : decode b_MD_letters 83 = .ok (.lload_n 1, 1) := by decide +kernel
theorem d_MD_letters_84 : decode b_MD_letters 84 = .ok (.bipush 8, 2) := by decide +kernel
theorem d_MD_letters_86 : decode b_MD_letters 86 = .ok (.iload 4, 2) := by decide +kernel
theorem d_MD_letters_88 : decode b_MD_letters 88 = .ok (.imul, 1) := by decide +kernel
theorem d_MD_letters_89 : decode b_MD_letters 89 = .ok (.lshr, 1) := by decide +kernel
theorem d_MD_letters_90 : decode b_MD_letters 90 = .ok (.l2i, 1) := by decide +kernel
theorem d_MD_letters_91 : decode b_MD_letters 91 = .ok (.sipush 255, 3) := by decide +kernel
theorem d_MD_letters_94 : decode b_MD_letters 94 = .ok (.iand, 1) := by decide +kernel
theorem d_MD_letters_95 : decode b_MD_letters 95 = .ok (.istore 5, 2) := by decide +kernel
theorem d_MD_letters_97 : decode b_MD_letters 97 = .ok (.iload 5, 2) := by decide +kernel
theorem d_MD_letters_99 : decode b_MD_letters 99 = .ok (.ifCond .le 48, 3) := by decide +kernel
theorem d_MD_letters_102 : decode b_MD_letters 102 = .ok (.aload_n 0, 1) := by decide +kernel
theorem d_MD_letters_103 : decode b_MD_letters 103 = .ok (.getfield 18, 3) := by decide +kernel
theorem d_MD_letters_106 : decode b_MD_letters 106 = .ok (.sipush 128, 3) := by decide +kernel
theorem d_MD_letters_109 : decode b_MD_letters 109 = .ok (.aload_n 0, 1) := by decide +kernel
theorem d_MD_letters_110 : decode b_MD_letters 110 = .ok (.getfield 68, 3) := by decide +kernel
theorem d_MD_letters_113 : decode b_MD_letters 113 = .ok (.iconst 1, 1) := by decide +kernel
theorem d_MD_letters_114 : decode b_MD_letters 114 = .ok (.isub, 1) := by decide +kernel
theorem d_MD_letters_115 : decode b_MD_letters 115 = .ok (.imul, 1) := by decide +kernel
theorem d_MD_letters_116 : decode b_MD_letters 116 = .ok (.aload_n 0, 1) := by decide +kernel
theorem d_MD_letters_117 : decode b_MD_letters 117 = .ok (.getfield 14, 3) := by decide +kernel
theorem d_MD_letters_120 : decode b_MD_letters 120 = .ok (.aload_n 0, 1) := by decide +kernel
theorem d_MD_letters_121 : decode b_MD_letters 121 = .ok (.getfield 68, 3) := by decide +kernel
theorem d_MD_letters_124 : decode b_MD_letters 124 = .ok (.iconst 1, 1) := by decide +kernel
theorem d_MD_letters_125 : decode b_MD_letters 125 = .ok (.isub, 1) := by decide +kernel
theorem d_MD_letters_126 : decode b_MD_letters 126 = .ok (.iaload, 1) := by decide +kernel
theorem d_MD_letters_127 : decode b_MD_letters 127 = .ok (.iadd, 1) := by decide +kernel
theorem d_MD_letters_128 : decode b_MD_letters 128 = .ok (.iload 5, 2) := by decide +kernel
theorem d_MD_letters_130 : decode b_MD_letters 130 = .ok (.i2b, 1) := by decide +kernel
theorem d_MD_letters_131 : decode b_MD_letters 131 = .ok (.bastore, 1) := by decide +kernel
theorem d_MD_letters_132 : decode b_MD_letters 132 = .ok (.aload_n 0, 1) := by decide +kernel
theorem d_MD_letters_133 : decode b_MD_letters 133 = .ok (.getfield 14, 3) := by decide +kernel
theorem d_MD_letters_136 : decode b_MD_letters 136 = .ok (.aload_n 0, 1) := by decide +kernel
theorem d_MD_letters_137 : decode b_MD_letters 137 = .ok (.getfield 68, 3) := by decide +kernel
theorem d_MD_letters_140 : decode b_MD_letters 140 = .ok (.iconst 1, 1) := by decide +kernel
theorem d_MD_letters_141 : decode b_MD_letters 141 = .ok (.isub, 1) := by decide +kernel
theorem d_MD_letters_142 : decode b_MD_letters 142 = .ok (.dup2, 1) := by decide +kernel
theorem d_MD_letters_143 : decode b_MD_letters 143 = .ok (.iaload, 1) := by decide +kernel
theorem d_MD_letters_144 : decode b_MD_letters 144 = .ok (.iconst 1, 1) := by decide +kernel
theorem d_MD_letters_145 : decode b_MD_letters 145 = .ok (.iadd, 1) := by decide +kernel
theorem d_MD_letters_146 : decode b_MD_letters 146 = .ok (.iastore, 1) := by decide +kernel
theorem d_MD_letters_147 : decode b_MD_letters 147 = .ok (.iinc 4 (-1), 3) := by decide +kernel
theorem d_MD_letters_150 : decode b_MD_letters 150 = .ok (.goto (-72), 3) := by decide +kernel
theorem d_MD_letters_153 : decode b_MD_letters 153 = .ok (.iconst 1, 1) := by decide +kernel
theorem d_MD_letters_154 : decode b_MD_letters 154 = .ok (.ireturn, 1) := by decide +kernel
end
section
set_option maxHeartbeats 4000000 in
set_option maxRecDepth 100000 in
theorem m_put (l : Launch) (dC : Nat → ClassId) (dI : Nat → Nat → Nat) (bd : Nat → Nat) (cm : Nat → ClassId) (th : Int32) (n : Nat) (fr : Nat → Int32) (a : Nat) (z : Nat → Nat) (le : Nat → Int32) (wy : Int32) (fo : Nat) (en : Nat) (fF : Nat → Nat) (fA : Nat → Nat) (fB : Nat → Nat) (fS : Nat → Nat) (fW : Nat → Int32) (sk : Nat → Int32) (pg : Nat) (ye : Int32) (ys : Int32) (yt : Nat) (yg : Nat) (yp : Nat) (tk : Nat → Int32) (gF : Nat → Nat) (gA : Nat → Nat) (gB : Nat → Nat) (gS : Nat → Nat) (gW : Nat → Int32) (yk : Nat → Int32) (k kn w : Int32) (hn : n ≤ 65536) (sz : Nat) : Met l y_MD_put w_MD_put { frames := 0, cells := 0, slots := 0, locals := 0 } (va_Pc [.ref (bd 0), .int k, .int kn, .int w] (xP (dC, dI) (tyM cm) (wsM bd cm th n fr a z le wy fo en fF fA fB fS fW sk pg ye ys yt yg yp tk gF gA gB gS gW yk) sz)) (xQi (dC, dI) (tyM cm) (va_A (wsM bd cm th n fr a z le wy fo en fF fA fB fS fW sk pg ye ys yt yg yp tk gF gA gB gS gW yk) sz) (wsM bd cm 0 n (mpF n fr k kn w) a z le wy fo en fF fA fB fS fW sk pg ye ys yt yg yp tk gF gA gB gS gW yk) (fun r => r = bI (mOK kn ∧ 0 ≤ k.toInt ∧ k.toInt + ((tN kn : Nat) : Int) ≤ (n : Int)))) 0 0 (va_A (wsM bd cm th n fr a z le wy fo en fF fA fB fS fW sk pg ye ys yt yg yp tk gF gA gB gS gW yk) sz) := by
  refine xof (cc := b_MD_put) (maxL := 5) (ret := (some .boolean)) (own := R_MD) (Qc := fun A => (xQi (dC, dI) (tyM cm) A (wsM bd cm 0 n (mpF n fr k kn w) a z le wy fo en fF fA fB fS fW sk pg ye ys yt yg yp tk gF gA gB gS gW yk) (fun r => r = bI (mOK kn ∧ 0 ≤ k.toInt ∧ k.toInt + ((tN kn : Nat) : Int) ≤ (n : Int))))) (by decide) rfl rfl (Nat.le_of_ble_eq_true rfl) ?_ sz
  intro p e s m below meth c A C hnm hK hP hD hA hN hZ hS ls hl
  obtain ⟨hx, hb, hr, hml, hown, hts, hlocks⟩ := C
  have hl : lv_has ls 5 [(0, .ref (bd 0)), (1, .int k), (2, .int kn), (3, .int w)] := hl
  refine lv_aload_n hx hb d_MD_put_0 rfl (lv_at hl 0 rfl) ?_
  refine lv_iconst (v := 0) hx hb d_MD_put_1 (by decide) ?_
  refine va_put (D := (dC, dI)) (ci := 7) (v := .int 0) (ty := .int) (C := R_MD) (T := T_MD) (N := 28) hx hb hts i_MD t_MD k_MD n_MD hown hK hP hD hS 0 rfl rfl 0 (by decide) (hts _ wd_392) (fun _ h9 => h9) rfl (by decide +kernel) rfl rfl (Nat.le_of_ble_eq_true rfl) d_MD_put_2 (fun H locs hP hD hS => ?_)
  have hP : va_P (dC, dI) vwCl (wsM bd cm 0 n fr a z le wy fo en fF fA fB fS fW sk pg ye ys yt yg yp tk gF gA gB gS gW yk) H := hP
  have hD : va_D A (wsM bd cm 0 n fr a z le wy fo en fF fA fB fS fW sk pg ye ys yt yg yp tk gF gA gB gS gW yk) := hD
  refine lv_iload_n hx hb d_MD_put_5 rfl (lv_at hl 2 rfl) ?_
  refine lv_iconst (v := 1) hx hb d_MD_put_6 (by decide) ?_
  refine lv_icmp_eq (tgt := 20) hx hb d_MD_put_7 (by decide) (fun c_1 => ?_) (fun c_1 => ?_)
  · skip
    rw [c_1] at hl
    have hM : mOK kn := Or.inl c_1
    have hT : tN kn = 1 := by rw [c_1]; rfl
    refine lv_iload_n hx hb d_MD_put_20 rfl (lv_at hl 1 rfl) ?_
    refine lv_if_lt (tgt := 34) hx hb d_MD_put_21 (by decide) (fun c_2 => ?_) (fun c_2 => ?_)
    · skip
      refine lv_iconst (v := 0) hx hb d_MD_put_34 (by decide) ?_
      have hw9 : wsM bd cm 0 n fr a z le wy fo en fF fA fB fS fW sk pg ye ys yt yg yp tk gF gA gB gS gW yk = wsM bd cm 0 n (mpF n fr k kn w) a z le wy fo en fF fA fB fS fW sk pg ye ys yt yg yp tk gF gA gB gS gW yk := by rw [mpF, if_neg (fun h9 => absurd c_2 (p_nneg h9.2.1))]
      rw [hw9] at hP hD
      exact xreti (v := 0) hx hb hr hlocks hK hP hD hS (rfl) (bI_0 (fun h9 => absurd c_2 (p_nneg h9.2.1))) d_MD_put_35
    · skip
      obtain ⟨j, hj, ej⟩ := nI_of c_2
      rw [ej] at hl
      refine lv_iload_n hx hb d_MD_put_24 rfl (lv_at hl 1 rfl) ?_
      refine lv_aload_n hx hb d_MD_put_25 rfl (lv_at hl 0 rfl) ?_
      refine va_get (D := (dC, dI)) (ci := 7) (v := .int (nI n)) (C := R_MD) (T := T_MD) (N := 28) hx hb hts i_MD hown hK hP 0 rfl rfl 1 (by decide) (hts _ wd_393) (fun _ h9 => h9) rfl d_MD_put_26 ?_
      refine lv_iload_n hx hb d_MD_put_29 rfl (lv_at hl 2 rfl) ?_
      refine lv_isub hx hb d_MD_put_30 ?_
      refine lv_icmp_le (tgt := 36) hx hb d_MD_put_31 (by decide) (fun c_3 => ?_) (fun c_3 => ?_)
      · skip
        have c_3 : j + 1 ≤ n := (p_put (M := 1) hj hn (by decide)).mp c_3
        refine lv_iconst (v := 0) hx hb d_MD_put_36 (by decide) ?_
        refine lv_istore (lv' := [(4, .int 0), (0, .ref (bd 0)), (1, .int (nI j)), (2, .int 1), (3, .int w)]) hx hb d_MD_put_37 hl (by decide) rfl (fun ls hl => ?_)
        refine lv_iload hx hb d_MD_put_39 (lv_at hl 0 rfl) ?_
        refine lv_iload_n hx hb d_MD_put_41 rfl (lv_at hl 3 rfl) ?_
        refine lv_icmp_ge (tgt := 68) hx hb d_MD_put_42 (by decide) (fun c_4 => ?_) (fun c_4 => ?_)
        · exact absurd c_4 (by decide)
        · skip
          refine lv_aload_n hx hb d_MD_put_45 rfl (lv_at hl 1 rfl) ?_
          refine va_get (D := (dC, dI)) (ci := 7) (v := .ref (bd 1)) (C := R_MD) (T := T_MD) (N := 28) hx hb hts i_MD hown hK hP 0 rfl rfl 2 (by decide) (hts _ wd_394) (fun _ h9 => h9) rfl d_MD_put_46 ?_
          refine lv_iload_n hx hb d_MD_put_49 rfl (lv_at hl 2 rfl) ?_
          refine lv_iload hx hb d_MD_put_50 (lv_at hl 0 rfl) ?_
          refine lv_iadd hx hb d_MD_put_52 ?_
          refine xtopi (y := nI (j + 0)) (nI_add (j) (0)) ?_
          refine lv_iload_n hx hb d_MD_put_53 rfl (lv_at hl 4 rfl) ?_
          refine lv_bipush (v := 8) hx hb d_MD_put_54 (by decide) ?_
          refine lv_iload hx hb d_MD_put_56 (lv_at hl 0 rfl) ?_
          refine lv_imul hx hb d_MD_put_58 ?_
          refine lv_ishr hx hb d_MD_put_59 ?_
          refine lv_i2b hx hb d_MD_put_60 rfl ?_
          refine xbast (k := j + 0) (x' := (w >>> ((8 * 0 : Int32) &&& 31)).toInt8.toInt32) (ws1 := wsM bd cm 0 n (upd fr (j + 0) ((w >>> ((8 * 0 : Int32) &&& 31)).toInt8.toInt32)) a z le wy fo en fF fA fB fS fW sk pg ye ys yt yg yp tk gF gA gB gS gW yk) hx hb hK hP hD hS 1 0 rfl rfl (rfl) (by omega) (by decide) (pk_vb _) rfl d_MD_put_61 (fun H locs hP hD hS => ?_)
          refine lv_iinc (v := 1) (lv' := [(4, .int 1), (0, .ref (bd 0)), (1, .int (nI j)), (2, .int 1), (3, .int w)]) hx hb d_MD_put_62 hl (k := 0) rfl rfl (by decide) rfl (fun ls hl => ?_)
          refine lv_goto (tgt := 39) hx hb d_MD_put_65 (by decide) ?_
          refine lv_iload hx hb d_MD_put_39 (lv_at hl 0 rfl) ?_
          refine lv_iload_n hx hb d_MD_put_41 rfl (lv_at hl 3 rfl) ?_
          refine lv_icmp_ge (tgt := 68) hx hb d_MD_put_42 (by decide) (fun c_5 => ?_) (fun c_5 => ?_)
          · skip
            refine lv_iconst (v := 1) hx hb d_MD_put_68 (by decide) ?_
            have hw9 : wsM bd cm 0 n (upd fr (j + 0) ((w >>> ((8 * 0 : Int32) &&& 31)).toInt8.toInt32)) a z le wy fo en fF fA fB fS fW sk pg ye ys yt yg yp tk gF gA gB gS gW yk = wsM bd cm 0 n (mpF n fr k kn w) a z le wy fo en fF fA fB fS fW sk pg ye ys yt yg yp tk gF gA gB gS gW yk := by rw [mpF, if_pos ⟨hM, by rw [ej, nI_toInt hj]; omega, by rw [ej, nI_toInt hj, hT]; omega⟩, ej, nI_toInt hj, hT]; rfl
            rw [hw9] at hP hD
            exact xreti (v := 1) hx hb hr hlocks hK hP hD hS (rfl) (bI_1 ⟨hM, by rw [ej, nI_toInt hj]; omega, by rw [ej, nI_toInt hj, hT]; omega⟩) d_MD_put_69
          · exact absurd c_5 (by decide)
      · skip
        have c_3 : ¬ (j + 1 ≤ n) := fun h9 => c_3 ((p_put (M := 1) hj hn (by decide)).mpr h9)
        refine lv_iconst (v := 0) hx hb d_MD_put_34 (by decide) ?_
        have hw9 : wsM bd cm 0 n fr a z le wy fo en fF fA fB fS fW sk pg ye ys yt yg yp tk gF gA gB gS gW yk = wsM bd cm 0 n (mpF n fr k kn w) a z le wy fo en fF fA fB fS fW sk pg ye ys yt yg yp tk gF gA gB gS gW yk := by rw [mpF, if_neg (fun h9 => absurd h9.2.2 (by rw [ej, nI_toInt hj, hT]; omega))]
        rw [hw9] at hP hD
        exact xreti (v := 0) hx hb hr hlocks hK hP hD hS (rfl) (bI_0 (fun h9 => absurd h9.2.2 (by rw [ej, nI_toInt hj, hT]; omega))) d_MD_put_35
  · skip
    refine lv_iload_n hx hb d_MD_put_10 rfl (lv_at hl 2 rfl) ?_
    refine lv_iconst (v := 2) hx hb d_MD_put_11 (by decide) ?_
    refine lv_icmp_eq (tgt := 20) hx hb d_MD_put_12 (by decide) (fun c_6 => ?_) (fun c_6 => ?_)
    · skip
      rw [c_6] at hl
      have hM : mOK kn := Or.inr (Or.inl c_6)
      have hT : tN kn = 2 := by rw [c_6]; rfl
      refine lv_iload_n hx hb d_MD_put_20 rfl (lv_at hl 1 rfl) ?_
      refine lv_if_lt (tgt := 34) hx hb d_MD_put_21 (by decide) (fun c_7 => ?_) (fun c_7 => ?_)
      · skip
        refine lv_iconst (v := 0) hx hb d_MD_put_34 (by decide) ?_
        have hw9 : wsM bd cm 0 n fr a z le wy fo en fF fA fB fS fW sk pg ye ys yt yg yp tk gF gA gB gS gW yk = wsM bd cm 0 n (mpF n fr k kn w) a z le wy fo en fF fA fB fS fW sk pg ye ys yt yg yp tk gF gA gB gS gW yk := by rw [mpF, if_neg (fun h9 => absurd c_7 (p_nneg h9.2.1))]
        rw [hw9] at hP hD
        exact xreti (v := 0) hx hb hr hlocks hK hP hD hS (rfl) (bI_0 (fun h9 => absurd c_7 (p_nneg h9.2.1))) d_MD_put_35
      · skip
        obtain ⟨j, hj, ej⟩ := nI_of c_7
        rw [ej] at hl
        refine lv_iload_n hx hb d_MD_put_24 rfl (lv_at hl 1 rfl) ?_
        refine lv_aload_n hx hb d_MD_put_25 rfl (lv_at hl 0 rfl) ?_
        refine va_get (D := (dC, dI)) (ci := 7) (v := .int (nI n)) (C := R_MD) (T := T_MD) (N := 28) hx hb hts i_MD hown hK hP 0 rfl rfl 1 (by decide) (hts _ wd_393) (fun _ h9 => h9) rfl d_MD_put_26 ?_
        refine lv_iload_n hx hb d_MD_put_29 rfl (lv_at hl 2 rfl) ?_
        refine lv_isub hx hb d_MD_put_30 ?_
        refine lv_icmp_le (tgt := 36) hx hb d_MD_put_31 (by decide) (fun c_8 => ?_) (fun c_8 => ?_)
        · skip
          have c_8 : j + 2 ≤ n := (p_put (M := 2) hj hn (by decide)).mp c_8
          refine lv_iconst (v := 0) hx hb d_MD_put_36 (by decide) ?_
          refine lv_istore (lv' := [(4, .int 0), (0, .ref (bd 0)), (1, .int (nI j)), (2, .int 2), (3, .int w)]) hx hb d_MD_put_37 hl (by decide) rfl (fun ls hl => ?_)
          refine lv_iload hx hb d_MD_put_39 (lv_at hl 0 rfl) ?_
          refine lv_iload_n hx hb d_MD_put_41 rfl (lv_at hl 3 rfl) ?_
          refine lv_icmp_ge (tgt := 68) hx hb d_MD_put_42 (by decide) (fun c_9 => ?_) (fun c_9 => ?_)
          · exact absurd c_9 (by decide)
          · skip
            refine lv_aload_n hx hb d_MD_put_45 rfl (lv_at hl 1 rfl) ?_
            refine va_get (D := (dC, dI)) (ci := 7) (v := .ref (bd 1)) (C := R_MD) (T := T_MD) (N := 28) hx hb hts i_MD hown hK hP 0 rfl rfl 2 (by decide) (hts _ wd_394) (fun _ h9 => h9) rfl d_MD_put_46 ?_
            refine lv_iload_n hx hb d_MD_put_49 rfl (lv_at hl 2 rfl) ?_
            refine lv_iload hx hb d_MD_put_50 (lv_at hl 0 rfl) ?_
            refine lv_iadd hx hb d_MD_put_52 ?_
            refine xtopi (y := nI (j + 0)) (nI_add (j) (0)) ?_
            refine lv_iload_n hx hb d_MD_put_53 rfl (lv_at hl 4 rfl) ?_
            refine lv_bipush (v := 8) hx hb d_MD_put_54 (by decide) ?_
            refine lv_iload hx hb d_MD_put_56 (lv_at hl 0 rfl) ?_
            refine lv_imul hx hb d_MD_put_58 ?_
            refine lv_ishr hx hb d_MD_put_59 ?_
            refine lv_i2b hx hb d_MD_put_60 rfl ?_
            refine xbast (k := j + 0) (x' := (w >>> ((8 * 0 : Int32) &&& 31)).toInt8.toInt32) (ws1 := wsM bd cm 0 n (upd fr (j + 0) ((w >>> ((8 * 0 : Int32) &&& 31)).toInt8.toInt32)) a z le wy fo en fF fA fB fS fW sk pg ye ys yt yg yp tk gF gA gB gS gW yk) hx hb hK hP hD hS 1 0 rfl rfl (rfl) (by omega) (by decide) (pk_vb _) rfl d_MD_put_61 (fun H locs hP hD hS => ?_)
            refine lv_iinc (v := 1) (lv' := [(4, .int 1), (0, .ref (bd 0)), (1, .int (nI j)), (2, .int 2), (3, .int w)]) hx hb d_MD_put_62 hl (k := 0) rfl rfl (by decide) rfl (fun ls hl => ?_)
            refine lv_goto (tgt := 39) hx hb d_MD_put_65 (by decide) ?_
            refine lv_iload hx hb d_MD_put_39 (lv_at hl 0 rfl) ?_
            refine lv_iload_n hx hb d_MD_put_41 rfl (lv_at hl 3 rfl) ?_
            refine lv_icmp_ge (tgt := 68) hx hb d_MD_put_42 (by decide) (fun c_10 => ?_) (fun c_10 => ?_)
            · exact absurd c_10 (by decide)
            · skip
              refine lv_aload_n hx hb d_MD_put_45 rfl (lv_at hl 1 rfl) ?_
              refine va_get (D := (dC, dI)) (ci := 7) (v := .ref (bd 1)) (C := R_MD) (T := T_MD) (N := 28) hx hb hts i_MD hown hK hP 0 rfl rfl 2 (by decide) (hts _ wd_394) (fun _ h9 => h9) rfl d_MD_put_46 ?_
              refine lv_iload_n hx hb d_MD_put_49 rfl (lv_at hl 2 rfl) ?_
              refine lv_iload hx hb d_MD_put_50 (lv_at hl 0 rfl) ?_
              refine lv_iadd hx hb d_MD_put_52 ?_
              refine xtopi (y := nI (j + 1)) (nI_add (j) (1)) ?_
              refine lv_iload_n hx hb d_MD_put_53 rfl (lv_at hl 4 rfl) ?_
              refine lv_bipush (v := 8) hx hb d_MD_put_54 (by decide) ?_
              refine lv_iload hx hb d_MD_put_56 (lv_at hl 0 rfl) ?_
              refine lv_imul hx hb d_MD_put_58 ?_
              refine lv_ishr hx hb d_MD_put_59 ?_
              refine lv_i2b hx hb d_MD_put_60 rfl ?_
              refine xbast (k := j + 1) (x' := (w >>> ((8 * 1 : Int32) &&& 31)).toInt8.toInt32) (ws1 := wsM bd cm 0 n (upd (upd fr (j + 0) ((w >>> ((8 * 0 : Int32) &&& 31)).toInt8.toInt32)) (j + 1) ((w >>> ((8 * 1 : Int32) &&& 31)).toInt8.toInt32)) a z le wy fo en fF fA fB fS fW sk pg ye ys yt yg yp tk gF gA gB gS gW yk) hx hb hK hP hD hS 1 0 rfl rfl (rfl) (by omega) (by decide) (pk_vb _) rfl d_MD_put_61 (fun H locs hP hD hS => ?_)
              refine lv_iinc (v := 2) (lv' := [(4, .int 2), (0, .ref (bd 0)), (1, .int (nI j)), (2, .int 2), (3, .int w)]) hx hb d_MD_put_62 hl (k := 0) rfl rfl (by decide) rfl (fun ls hl => ?_)
              refine lv_goto (tgt := 39) hx hb d_MD_put_65 (by decide) ?_
              refine lv_iload hx hb d_MD_put_39 (lv_at hl 0 rfl) ?_
              refine lv_iload_n hx hb d_MD_put_41 rfl (lv_at hl 3 rfl) ?_
              refine lv_icmp_ge (tgt := 68) hx hb d_MD_put_42 (by decide) (fun c_11 => ?_) (fun c_11 => ?_)
              · skip
                refine lv_iconst (v := 1) hx hb d_MD_put_68 (by decide) ?_
                have hw9 : wsM bd cm 0 n (upd (upd fr (j + 0) ((w >>> ((8 * 0 : Int32) &&& 31)).toInt8.toInt32)) (j + 1) ((w >>> ((8 * 1 : Int32) &&& 31)).toInt8.toInt32)) a z le wy fo en fF fA fB fS fW sk pg ye ys yt yg yp tk gF gA gB gS gW yk = wsM bd cm 0 n (mpF n fr k kn w) a z le wy fo en fF fA fB fS fW sk pg ye ys yt yg yp tk gF gA gB gS gW yk := by rw [mpF, if_pos ⟨hM, by rw [ej, nI_toInt hj]; omega, by rw [ej, nI_toInt hj, hT]; omega⟩, ej, nI_toInt hj, hT]; rfl
                rw [hw9] at hP hD
                exact xreti (v := 1) hx hb hr hlocks hK hP hD hS (rfl) (bI_1 ⟨hM, by rw [ej, nI_toInt hj]; omega, by rw [ej, nI_toInt hj, hT]; omega⟩) d_MD_put_69
              · exact absurd c_11 (by decide)
        · skip
          have c_8 : ¬ (j + 2 ≤ n) := fun h9 => c_8 ((p_put (M := 2) hj hn (by decide)).mpr h9)
          refine lv_iconst (v := 0) hx hb d_MD_put_34 (by decide) ?_
          have hw9 : wsM bd cm 0 n fr a z le wy fo en fF fA fB fS fW sk pg ye ys yt yg yp tk gF gA gB gS gW yk = wsM bd cm 0 n (mpF n fr k kn w) a z le wy fo en fF fA fB fS fW sk pg ye ys yt yg yp tk gF gA gB gS gW yk := by rw [mpF, if_neg (fun h9 => absurd h9.2.2 (by rw [ej, nI_toInt hj, hT]; omega))]
          rw [hw9] at hP hD
          exact xreti (v := 0) hx hb hr hlocks hK hP hD hS (rfl) (bI_0 (fun h9 => absurd h9.2.2 (by rw [ej, nI_toInt hj, hT]; omega))) d_MD_put_35
    · skip
      refine lv_iload_n hx hb d_MD_put_15 rfl (lv_at hl 2 rfl) ?_
      refine lv_iconst (v := 4) hx hb d_MD_put_16 (by decide) ?_
      refine lv_icmp_ne (tgt := 34) hx hb d_MD_put_17 (by decide) (fun c_12 => ?_) (fun c_12 => ?_)
      · skip
        have hM : ¬ mOK kn := fun h9 => h9.elim c_1 (fun h9 => h9.elim c_6 c_12)
        refine lv_iconst (v := 0) hx hb d_MD_put_34 (by decide) ?_
        have hw9 : wsM bd cm 0 n fr a z le wy fo en fF fA fB fS fW sk pg ye ys yt yg yp tk gF gA gB gS gW yk = wsM bd cm 0 n (mpF n fr k kn w) a z le wy fo en fF fA fB fS fW sk pg ye ys yt yg yp tk gF gA gB gS gW yk := by rw [mpF, if_neg (fun h9 => hM h9.1)]
        rw [hw9] at hP hD
        exact xreti (v := 0) hx hb hr hlocks hK hP hD hS (rfl) (bI_0 (fun h9 => hM h9.1)) d_MD_put_35
      · skip
        rw [c_12] at hl
        have hM : mOK kn := Or.inr (Or.inr c_12)
        have hT : tN kn = 4 := by rw [c_12]; rfl
        refine lv_iload_n hx hb d_MD_put_20 rfl (lv_at hl 1 rfl) ?_
        refine lv_if_lt (tgt := 34) hx hb d_MD_put_21 (by decide) (fun c_13 => ?_) (fun c_13 => ?_)
        · skip
          refine lv_iconst (v := 0) hx hb d_MD_put_34 (by decide) ?_
          have hw9 : wsM bd cm 0 n fr a z le wy fo en fF fA fB fS fW sk pg ye ys yt yg yp tk gF gA gB gS gW yk = wsM bd cm 0 n (mpF n fr k kn w) a z le wy fo en fF fA fB fS fW sk pg ye ys yt yg yp tk gF gA gB gS gW yk := by rw [mpF, if_neg (fun h9 => absurd c_13 (p_nneg h9.2.1))]
          rw [hw9] at hP hD
          exact xreti (v := 0) hx hb hr hlocks hK hP hD hS (rfl) (bI_0 (fun h9 => absurd c_13 (p_nneg h9.2.1))) d_MD_put_35
        · skip
          obtain ⟨j, hj, ej⟩ := nI_of c_13
          rw [ej] at hl
          refine lv_iload_n hx hb d_MD_put_24 rfl (lv_at hl 1 rfl) ?_
          refine lv_aload_n hx hb d_MD_put_25 rfl (lv_at hl 0 rfl) ?_
          refine va_get (D := (dC, dI)) (ci := 7) (v := .int (nI n)) (C := R_MD) (T := T_MD) (N := 28) hx hb hts i_MD hown hK hP 0 rfl rfl 1 (by decide) (hts _ wd_393) (fun _ h9 => h9) rfl d_MD_put_26 ?_
          refine lv_iload_n hx hb d_MD_put_29 rfl (lv_at hl 2 rfl) ?_
          refine lv_isub hx hb d_MD_put_30 ?_
          refine lv_icmp_le (tgt := 36) hx hb d_MD_put_31 (by decide) (fun c_14 => ?_) (fun c_14 => ?_)
          · skip
            have c_14 : j + 4 ≤ n := (p_put (M := 4) hj hn (by decide)).mp c_14
            refine lv_iconst (v := 0) hx hb d_MD_put_36 (by decide) ?_
            refine lv_istore (lv' := [(4, .int 0), (0, .ref (bd 0)), (1, .int (nI j)), (2, .int 4), (3, .int w)]) hx hb d_MD_put_37 hl (by decide) rfl (fun ls hl => ?_)
            refine lv_iload hx hb d_MD_put_39 (lv_at hl 0 rfl) ?_
            refine lv_iload_n hx hb d_MD_put_41 rfl (lv_at hl 3 rfl) ?_
            refine lv_icmp_ge (tgt := 68) hx hb d_MD_put_42 (by decide) (fun c_15 => ?_) (fun c_15 => ?_)
            · exact absurd c_15 (by decide)
            · skip
              refine lv_aload_n hx hb d_MD_put_45 rfl (lv_at hl 1 rfl) ?_
              refine va_get (D := (dC, dI)) (ci := 7) (v := .ref (bd 1)) (C := R_MD) (T := T_MD) (N := 28) hx hb hts i_MD hown hK hP 0 rfl rfl 2 (by decide) (hts _ wd_394) (fun _ h9 => h9) rfl d_MD_put_46 ?_
              refine lv_iload_n hx hb d_MD_put_49 rfl (lv_at hl 2 rfl) ?_
              refine lv_iload hx hb d_MD_put_50 (lv_at hl 0 rfl) ?_
              refine lv_iadd hx hb d_MD_put_52 ?_
              refine xtopi (y := nI (j + 0)) (nI_add (j) (0)) ?_
              refine lv_iload_n hx hb d_MD_put_53 rfl (lv_at hl 4 rfl) ?_
              refine lv_bipush (v := 8) hx hb d_MD_put_54 (by decide) ?_
              refine lv_iload hx hb d_MD_put_56 (lv_at hl 0 rfl) ?_
              refine lv_imul hx hb d_MD_put_58 ?_
              refine lv_ishr hx hb d_MD_put_59 ?_
              refine lv_i2b hx hb d_MD_put_60 rfl ?_
              refine xbast (k := j + 0) (x' := (w >>> ((8 * 0 : Int32) &&& 31)).toInt8.toInt32) (ws1 := wsM bd cm 0 n (upd fr (j + 0) ((w >>> ((8 * 0 : Int32) &&& 31)).toInt8.toInt32)) a z le wy fo en fF fA fB fS fW sk pg ye ys yt yg yp tk gF gA gB gS gW yk) hx hb hK hP hD hS 1 0 rfl rfl (rfl) (by omega) (by decide) (pk_vb _) rfl d_MD_put_61 (fun H locs hP hD hS => ?_)
              refine lv_iinc (v := 1) (lv' := [(4, .int 1), (0, .ref (bd 0)), (1, .int (nI j)), (2, .int 4), (3, .int w)]) hx hb d_MD_put_62 hl (k := 0) rfl rfl (by decide) rfl (fun ls hl => ?_)
              refine lv_goto (tgt := 39) hx hb d_MD_put_65 (by decide) ?_
              refine lv_iload hx hb d_MD_put_39 (lv_at hl 0 rfl) ?_
              refine lv_iload_n hx hb d_MD_put_41 rfl (lv_at hl 3 rfl) ?_
              refine lv_icmp_ge (tgt := 68) hx hb d_MD_put_42 (by decide) (fun c_16 => ?_) (fun c_16 => ?_)
              · exact absurd c_16 (by decide)
              · skip
                refine lv_aload_n hx hb d_MD_put_45 rfl (lv_at hl 1 rfl) ?_
                refine va_get (D := (dC, dI)) (ci := 7) (v := .ref (bd 1)) (C := R_MD) (T := T_MD) (N := 28) hx hb hts i_MD hown hK hP 0 rfl rfl 2 (by decide) (hts _ wd_394) (fun _ h9 => h9) rfl d_MD_put_46 ?_
                refine lv_iload_n hx hb d_MD_put_49 rfl (lv_at hl 2 rfl) ?_
                refine lv_iload hx hb d_MD_put_50 (lv_at hl 0 rfl) ?_
                refine lv_iadd hx hb d_MD_put_52 ?_
                refine xtopi (y := nI (j + 1)) (nI_add (j) (1)) ?_
                refine lv_iload_n hx hb d_MD_put_53 rfl (lv_at hl 4 rfl) ?_
                refine lv_bipush (v := 8) hx hb d_MD_put_54 (by decide) ?_
                refine lv_iload hx hb d_MD_put_56 (lv_at hl 0 rfl) ?_
                refine lv_imul hx hb d_MD_put_58 ?_
                refine lv_ishr hx hb d_MD_put_59 ?_
                refine lv_i2b hx hb d_MD_put_60 rfl ?_
                refine xbast (k := j + 1) (x' := (w >>> ((8 * 1 : Int32) &&& 31)).toInt8.toInt32) (ws1 := wsM bd cm 0 n (upd (upd fr (j + 0) ((w >>> ((8 * 0 : Int32) &&& 31)).toInt8.toInt32)) (j + 1) ((w >>> ((8 * 1 : Int32) &&& 31)).toInt8.toInt32)) a z le wy fo en fF fA fB fS fW sk pg ye ys yt yg yp tk gF gA gB gS gW yk) hx hb hK hP hD hS 1 0 rfl rfl (rfl) (by omega) (by decide) (pk_vb _) rfl d_MD_put_61 (fun H locs hP hD hS => ?_)
                refine lv_iinc (v := 2) (lv' := [(4, .int 2), (0, .ref (bd 0)), (1, .int (nI j)), (2, .int 4), (3, .int w)]) hx hb d_MD_put_62 hl (k := 0) rfl rfl (by decide) rfl (fun ls hl => ?_)
                refine lv_goto (tgt := 39) hx hb d_MD_put_65 (by decide) ?_
                refine lv_iload hx hb d_MD_put_39 (lv_at hl 0 rfl) ?_
                refine lv_iload_n hx hb d_MD_put_41 rfl (lv_at hl 3 rfl) ?_
                refine lv_icmp_ge (tgt := 68) hx hb d_MD_put_42 (by decide) (fun c_17 => ?_) (fun c_17 => ?_)
                · exact absurd c_17 (by decide)
                · skip
                  refine lv_aload_n hx hb d_MD_put_45 rfl (lv_at hl 1 rfl) ?_
                  refine va_get (D := (dC, dI)) (ci := 7) (v := .ref (bd 1)) (C := R_MD) (T := T_MD) (N := 28) hx hb hts i_MD hown hK hP 0 rfl rfl 2 (by decide) (hts _ wd_394) (fun _ h9 => h9) rfl d_MD_put_46 ?_
                  refine lv_iload_n hx hb d_MD_put_49 rfl (lv_at hl 2 rfl) ?_
                  refine lv_iload hx hb d_MD_put_50 (lv_at hl 0 rfl) ?_
                  refine lv_iadd hx hb d_MD_put_52 ?_
                  refine xtopi (y := nI (j + 2)) (nI_add (j) (2)) ?_
                  refine lv_iload_n hx hb d_MD_put_53 rfl (lv_at hl 4 rfl) ?_
                  refine lv_bipush (v := 8) hx hb d_MD_put_54 (by decide) ?_
                  refine lv_iload hx hb d_MD_put_56 (lv_at hl 0 rfl) ?_
                  refine lv_imul hx hb d_MD_put_58 ?_
                  refine lv_ishr hx hb d_MD_put_59 ?_
                  refine lv_i2b hx hb d_MD_put_60 rfl ?_
                  refine xbast (k := j + 2) (x' := (w >>> ((8 * 2 : Int32) &&& 31)).toInt8.toInt32) (ws1 := wsM bd cm 0 n (upd (upd (upd fr (j + 0) ((w >>> ((8 * 0 : Int32) &&& 31)).toInt8.toInt32)) (j + 1) ((w >>> ((8 * 1 : Int32) &&& 31)).toInt8.toInt32)) (j + 2) ((w >>> ((8 * 2 : Int32) &&& 31)).toInt8.toInt32)) a z le wy fo en fF fA fB fS fW sk pg ye ys yt yg yp tk gF gA gB gS gW yk) hx hb hK hP hD hS 1 0 rfl rfl (rfl) (by omega) (by decide) (pk_vb _) rfl d_MD_put_61 (fun H locs hP hD hS => ?_)
                  refine lv_iinc (v := 3) (lv' := [(4, .int 3), (0, .ref (bd 0)), (1, .int (nI j)), (2, .int 4), (3, .int w)]) hx hb d_MD_put_62 hl (k := 0) rfl rfl (by decide) rfl (fun ls hl => ?_)
                  refine lv_goto (tgt := 39) hx hb d_MD_put_65 (by decide) ?_
                  refine lv_iload hx hb d_MD_put_39 (lv_at hl 0 rfl) ?_
                  refine lv_iload_n hx hb d_MD_put_41 rfl (lv_at hl 3 rfl) ?_
                  refine lv_icmp_ge (tgt := 68) hx hb d_MD_put_42 (by decide) (fun c_18 => ?_) (fun c_18 => ?_)
                  · exact absurd c_18 (by decide)
                  · skip
                    refine lv_aload_n hx hb d_MD_put_45 rfl (lv_at hl 1 rfl) ?_
                    refine va_get (D := (dC, dI)) (ci := 7) (v := .ref (bd 1)) (C := R_MD) (T := T_MD) (N := 28) hx hb hts i_MD hown hK hP 0 rfl rfl 2 (by decide) (hts _ wd_394) (fun _ h9 => h9) rfl d_MD_put_46 ?_
                    refine lv_iload_n hx hb d_MD_put_49 rfl (lv_at hl 2 rfl) ?_
                    refine lv_iload hx hb d_MD_put_50 (lv_at hl 0 rfl) ?_
                    refine lv_iadd hx hb d_MD_put_52 ?_
                    refine xtopi (y := nI (j + 3)) (nI_add (j) (3)) ?_
                    refine lv_iload_n hx hb d_MD_put_53 rfl (lv_at hl 4 rfl) ?_
                    refine lv_bipush (v := 8) hx hb d_MD_put_54 (by decide) ?_
                    refine lv_iload hx hb d_MD_put_56 (lv_at hl 0 rfl) ?_
                    refine lv_imul hx hb d_MD_put_58 ?_
                    refine lv_ishr hx hb d_MD_put_59 ?_
                    refine lv_i2b hx hb d_MD_put_60 rfl ?_
                    refine xbast (k := j + 3) (x' := (w >>> ((8 * 3 : Int32) &&& 31)).toInt8.toInt32) (ws1 := wsM bd cm 0 n (upd (upd (upd (upd fr (j + 0) ((w >>> ((8 * 0 : Int32) &&& 31)).toInt8.toInt32)) (j + 1) ((w >>> ((8 * 1 : Int32) &&& 31)).toInt8.toInt32)) (j + 2) ((w >>> ((8 * 2 : Int32) &&& 31)).toInt8.toInt32)) (j + 3) ((w >>> ((8 * 3 : Int32) &&& 31)).toInt8.toInt32)) a z le wy fo en fF fA fB fS fW sk pg ye ys yt yg yp tk gF gA gB gS gW yk) hx hb hK hP hD hS 1 0 rfl rfl (rfl) (by omega) (by decide) (pk_vb _) rfl d_MD_put_61 (fun H locs hP hD hS => ?_)
                    refine lv_iinc (v := 4) (lv' := [(4, .int 4), (0, .ref (bd 0)), (1, .int (nI j)), (2, .int 4), (3, .int w)]) hx hb d_MD_put_62 hl (k := 0) rfl rfl (by decide) rfl (fun ls hl => ?_)
                    refine lv_goto (tgt := 39) hx hb d_MD_put_65 (by decide) ?_
                    refine lv_iload hx hb d_MD_put_39 (lv_at hl 0 rfl) ?_
                    refine lv_iload_n hx hb d_MD_put_41 rfl (lv_at hl 3 rfl) ?_
                    refine lv_icmp_ge (tgt := 68) hx hb d_MD_put_42 (by decide) (fun c_19 => ?_) (fun c_19 => ?_)
                    · skip
                      refine lv_iconst (v := 1) hx hb d_MD_put_68 (by decide) ?_
                      have hw9 : wsM bd cm 0 n (upd (upd (upd (upd fr (j + 0) ((w >>> ((8 * 0 : Int32) &&& 31)).toInt8.toInt32)) (j + 1) ((w >>> ((8 * 1 : Int32) &&& 31)).toInt8.toInt32)) (j + 2) ((w >>> ((8 * 2 : Int32) &&& 31)).toInt8.toInt32)) (j + 3) ((w >>> ((8 * 3 : Int32) &&& 31)).toInt8.toInt32)) a z le wy fo en fF fA fB fS fW sk pg ye ys yt yg yp tk gF gA gB gS gW yk = wsM bd cm 0 n (mpF n fr k kn w) a z le wy fo en fF fA fB fS fW sk pg ye ys yt yg yp tk gF gA gB gS gW yk := by rw [mpF, if_pos ⟨hM, by rw [ej, nI_toInt hj]; omega, by rw [ej, nI_toInt hj, hT]; omega⟩, ej, nI_toInt hj, hT]; rfl
                      rw [hw9] at hP hD
                      exact xreti (v := 1) hx hb hr hlocks hK hP hD hS (rfl) (bI_1 ⟨hM, by rw [ej, nI_toInt hj]; omega, by rw [ej, nI_toInt hj, hT]; omega⟩) d_MD_put_69
                    · exact absurd c_19 (by decide)
          · skip
            have c_14 : ¬ (j + 4 ≤ n) := fun h9 => c_14 ((p_put (M := 4) hj hn (by decide)).mpr h9)
            refine lv_iconst (v := 0) hx hb d_MD_put_34 (by decide) ?_
            have hw9 : wsM bd cm 0 n fr a z le wy fo en fF fA fB fS fW sk pg ye ys yt yg yp tk gF gA gB gS gW yk = wsM bd cm 0 n (mpF n fr k kn w) a z le wy fo en fF fA fB fS fW sk pg ye ys yt yg yp tk gF gA gB gS gW yk := by rw [mpF, if_neg (fun h9 => absurd h9.2.2 (by rw [ej, nI_toInt hj, hT]; omega))]
            rw [hw9] at hP hD
            exact xreti (v := 0) hx hb hr hlocks hK hP hD hS (rfl) (bI_0 (fun h9 => absurd h9.2.2 (by rw [ej, nI_toInt hj, hT]; omega))) d_MD_put_35
set_option maxHeartbeats 4000000 in
set_option maxRecDepth 100000 in
theorem m_letters (l : Launch) (dC : Nat → ClassId) (dI : Nat → Nat → Nat) (bd : Nat → Nat) (cm : Nat → ClassId) (th : Int32) (n : Nat) (fr : Nat → Int32) (a : Nat) (z : Nat → Nat) (le : Nat → Int32) (wy : Int32) (fo : Nat) (en : Nat) (fF : Nat → Nat) (fA : Nat → Nat) (fB : Nat → Nat) (fS : Nat → Nat) (fW : Nat → Int32) (sk : Nat → Int32) (pg : Nat) (ye : Int32) (ys : Int32) (yt : Nat) (yg : Nat) (yp : Nat) (tk : Nat → Int32) (gF : Nat → Nat) (gA : Nat → Nat) (gB : Nat → Nat) (gS : Nat → Nat) (gW : Nat → Int32) (yk : Nat → Int32) (w : Int64) (ha : a ≤ 32) (hz : ∀ j, z j ≤ 127) (sz : Nat) : Met l y_MD_letters w_MD_letters { frames := 0, cells := 0, slots := 0, locals := 0 } (va_Pc [.ref (bd 0), .long w] (xP (dC, dI) (tyM cm) (wsM bd cm th n fr a z le wy fo en fF fA fB fS fW sk pg ye ys yt yg yp tk gF gA gB gS gW yk) sz)) (xQi (dC, dI) (tyM cm) (va_A (wsM bd cm th n fr a z le wy fo en fF fA fB fS fW sk pg ye ys yt yg yp tk gF gA gB gS gW yk) sz) (wsM bd cm 0 n fr a (exFZ a z w) (mxFA a le z w) wy fo en fF fA fB fS fW sk pg ye ys yt yg yp tk gF gA gB gS gW yk) (fun r => r = bI (0 < a ∧ z (a - 1) + ltN w 8 ≤ 127))) 0 0 (va_A (wsM bd cm th n fr a z le wy fo en fF fA fB fS fW sk pg ye ys yt yg yp tk gF gA gB gS gW yk) sz) := by
  refine xof (cc := b_MD_letters) (maxL := 6) (ret := (some .boolean)) (own := R_MD) (Qc := fun A => (xQi (dC, dI) (tyM cm) A (wsM bd cm 0 n fr a (exFZ a z w) (mxFA a le z w) wy fo en fF fA fB fS fW sk pg ye ys yt yg yp tk gF gA gB gS gW yk) (fun r => r = bI (0 < a ∧ z (a - 1) + ltN w 8 ≤ 127)))) (by decide) rfl rfl (Nat.le_of_ble_eq_true rfl) ?_ sz
  intro p e s m below meth c A C hnm hK hP hD hA hN hZ hS ls hl
  obtain ⟨hx, hb, hr, hml, hown, hts, hlocks⟩ := C
  have hl : lv_has ls 6 [(0, .ref (bd 0)), (1, .long w)] := hl
  have hmcl := fun t => mcN_le w t
  refine lv_aload_n hx hb d_MD_letters_0 rfl (lv_at hl 0 rfl) ?_
  refine lv_iconst (v := 0) hx hb d_MD_letters_1 (by decide) ?_
  refine va_put (D := (dC, dI)) (ci := 7) (v := .int 0) (ty := .int) (C := R_MD) (T := T_MD) (N := 28) hx hb hts i_MD t_MD k_MD n_MD hown hK hP hD hS 0 rfl rfl 0 (by decide) (hts _ wd_392) (fun _ h9 => h9) rfl (by decide +kernel) rfl rfl (Nat.le_of_ble_eq_true rfl) d_MD_letters_2 (fun H locs hP hD hS => ?_)
  have hP : va_P (dC, dI) vwCl (wsM bd cm 0 n fr a z le wy fo en fF fA fB fS fW sk pg ye ys yt yg yp tk gF gA gB gS gW yk) H := hP
  have hD : va_D A (wsM bd cm 0 n fr a z le wy fo en fF fA fB fS fW sk pg ye ys yt yg yp tk gF gA gB gS gW yk) := hD
  refine lv_iconst (v := 0) hx hb d_MD_letters_5 (by decide) ?_
  refine lv_istore_n (lv' := [(3, .int 0), (0, .ref (bd 0)), (1, .long w)]) hx hb d_MD_letters_6 rfl hl (by decide) rfl (fun ls hl => ?_)
  refine lv_iconst (v := 0) hx hb d_MD_letters_7 (by decide) ?_
  refine lv_istore (lv' := [(4, .int 0), (3, .int 0), (0, .ref (bd 0)), (1, .long w)]) hx hb d_MD_letters_8 hl (by decide) rfl (fun ls hl => ?_)
  have lp10 : ∀ (fu : Nat) (t : Nat), (8 - t < fu) → (t ≤ 8) → ∀ (H : Heap) (locs : List Loc), va_P (dC, dI) vwCl (wsM bd cm 0 n fr a z le wy fo en fF fA fB fS fW sk pg ye ys yt yg yp tk gF gA gB gS gW yk) H → va_D A (wsM bd cm 0 n fr a z le wy fo en fF fA fB fS fW sk pg ye ys yt yg yp tk gF gA gB gS gW yk) → va_S A s.heap H locs → ∀ ls : Array Slot, lv_has ls 6 [(0, .ref (bd 0)), (1, .long w), (3, .int (nI (mcN w t))), (4, .int (nI t))] → W p l e { frames := 0, cells := 0, slots := 0, locals := 0 } s m [.ref (bd 0), .long w].toArray below meth c H locs 0 0 (MQ below (xQi (dC, dI) (tyM cm) A (wsM bd cm 0 n fr a (exFZ a z w) (mxFA a le z w) wy fo en fF fA fB fS fW sk pg ye ys yt yg yp tk gF gA gB gS gW yk) (fun r => r = bI (0 < a ∧ z (a - 1) + ltN w 8 ≤ 127))) [.ref (bd 0), .long w].toArray s 0 0 A) (F0 m 10 ls []) := by
    intro fu
    induction fu with
    | zero => intro t hfu; exact absurd hfu (Nat.not_lt_zero _)
    | succ fu ih =>
      intro t hfu ht H locs hP hD hS ls hl
      refine lv_iload hx hb d_MD_letters_10 (lv_at hl 3 rfl) ?_
      refine lv_bipush (v := 8) hx hb d_MD_letters_12 (by decide) ?_
      refine lv_icmp_ge (tgt := 47) hx hb d_MD_letters_14 (by decide) (fun c_1 => ?_) (fun c_1 => ?_)
      · skip
        have c_1 : 8 ≤ t := (nI_leI (a := 8) (b := t) (by omega) (by omega)).mp c_1
        have e8 : t = 8 := by omega
        rw [e8, mcN_lt] at hl
        have hzb := hz (a - 1)
        have hl8 := ltN_le w 8
        have hl := lv_sub hl [0, 1, 2] rfl
        have hl : lv_has ls 6 [(0, .ref (bd 0)), (1, .long w), (3, .int (nI (ltN w 8)))] := hl
        refine lv_aload_n hx hb d_MD_letters_47 rfl (lv_at hl 0 rfl) ?_
        refine va_get (D := (dC, dI)) (ci := 7) (v := .int (nI a)) (C := R_MD) (T := T_MD) (N := 28) hx hb hts i_MD hown hK hP 0 rfl rfl 3 (by decide) (hts _ wd_395) (fun _ h9 => h9) rfl d_MD_letters_48 ?_
        refine lv_if_eq (tgt := 72) hx hb d_MD_letters_51 (by decide) (fun c_2 => ?_) (fun c_2 => ?_)
        · skip
          have c_2 : a = 0 := (nI_eq (a := a) (b := 0) (by omega) (by omega)).mp c_2
          refine lv_iconst (v := 0) hx hb d_MD_letters_72 (by decide) ?_
          have hw9 : wsM bd cm 0 n fr a z le wy fo en fF fA fB fS fW sk pg ye ys yt yg yp tk gF gA gB gS gW yk = wsM bd cm 0 n fr a (exFZ a z w) (mxFA a le z w) wy fo en fF fA fB fS fW sk pg ye ys yt yg yp tk gF gA gB gS gW yk := by rw [mxFA, exFZ, if_neg (show ¬ (0 < a ∧ z (a - 1) + ltN w 8 ≤ 127) from by omega), if_neg (show ¬ (0 < a ∧ z (a - 1) + ltN w 8 ≤ 127) from by omega)]
          rw [hw9] at hP hD
          exact xreti (v := 0) hx hb hr hlocks hK hP hD hS (rfl) (bI_0 (by omega)) d_MD_letters_73
        · skip
          have c_2 : ¬ (a = 0) := fun h9 => c_2 ((nI_eq (a := a) (b := 0) (by omega) (by omega)).mpr h9)
          refine lv_aload_n hx hb d_MD_letters_54 rfl (lv_at hl 0 rfl) ?_
          refine va_get (D := (dC, dI)) (ci := 7) (v := .ref (bd 2)) (C := R_MD) (T := T_MD) (N := 28) hx hb hts i_MD hown hK hP 0 rfl rfl 4 (by decide) (hts _ wd_396) (fun _ h9 => h9) rfl d_MD_letters_55 ?_
          refine lv_aload_n hx hb d_MD_letters_58 rfl (lv_at hl 0 rfl) ?_
          refine va_get (D := (dC, dI)) (ci := 7) (v := .int (nI a)) (C := R_MD) (T := T_MD) (N := 28) hx hb hts i_MD hown hK hP 0 rfl rfl 3 (by decide) (hts _ wd_395) (fun _ h9 => h9) rfl d_MD_letters_59 ?_
          refine lv_iconst (v := 1) hx hb d_MD_letters_62 (by decide) ?_
          refine lv_isub hx hb d_MD_letters_63 ?_
          refine xtopi (y := nI (a - 1)) (pk_sub (a := a) (b := 1) (by omega)) ?_
          refine xiald (k := a - 1) hx hb hK hP 2 1 rfl rfl (rfl) (by omega) (by decide) d_MD_letters_64 ?_
          refine lv_iload_n hx hb d_MD_letters_65 rfl (lv_at hl 2 rfl) ?_
          refine lv_iadd hx hb d_MD_letters_66 ?_
          refine xtopi (y := nI ((z (a - 1)) + (ltN w 8))) (nI_add (z (a - 1)) (ltN w 8)) ?_
          refine lv_bipush (v := 127) hx hb d_MD_letters_67 (by decide) ?_
          refine lv_icmp_le (tgt := 74) hx hb d_MD_letters_69 (by decide) (fun c_3 => ?_) (fun c_3 => ?_)
          · skip
            have c_3 : (z (a - 1)) + (ltN w 8) ≤ 127 := (nI_leI (a := (z (a - 1)) + (ltN w 8)) (b := 127) (by omega) (by omega)).mp c_3
            refine lv_bipush (v := 7) hx hb d_MD_letters_74 (by decide) ?_
            refine lv_istore (lv' := [(4, .int 7), (0, .ref (bd 0)), (1, .long w), (3, .int (nI (ltN w 8)))]) hx hb d_MD_letters_76 hl (by decide) rfl (fun ls hl => ?_)
            have lp78 : ∀ (fu : Nat) (t : Nat), (8 - t < fu) → (t ≤ 8) → ∀ (H : Heap) (locs : List Loc), va_P (dC, dI) vwCl (wsM bd cm 0 n fr a (upn z (a - 1) (z (a - 1) + ltN w t)) (mxA le z (a - 1) w t) wy fo en fF fA fB fS fW sk pg ye ys yt yg yp tk gF gA gB gS gW yk) H → va_D A (wsM bd cm 0 n fr a (upn z (a - 1) (z (a - 1) + ltN w t)) (mxA le z (a - 1) w t) wy fo en fF fA fB fS fW sk pg ye ys yt yg yp tk gF gA gB gS gW yk) → va_S A s.heap H locs → ∀ ls : Array Slot, lv_has ls 6 [(0, .ref (bd 0)), (1, .long w), (3, .int (nI (ltN w 8))), (4, .int (svK t))] → W p l e { frames := 0, cells := 0, slots := 0, locals := 0 } s m [.ref (bd 0), .long w].toArray below meth c H locs 0 0 (MQ below (xQi (dC, dI) (tyM cm) A (wsM bd cm 0 n fr a (exFZ a z w) (mxFA a le z w) wy fo en fF fA fB fS fW sk pg ye ys yt yg yp tk gF gA gB gS gW yk) (fun r => r = bI (0 < a ∧ z (a - 1) + ltN w 8 ≤ 127))) [.ref (bd 0), .long w].toArray s 0 0 A) (F0 m 78 ls []) := by
              intro fu
              induction fu with
              | zero => intro t hfu; exact absurd hfu (Nat.not_lt_zero _)
              | succ fu ih =>
                intro t hfu ht H locs hP hD hS ls hl
                refine lv_iload hx hb d_MD_letters_78 (lv_at hl 3 rfl) ?_
                refine lv_if_lt (tgt := 153) hx hb d_MD_letters_80 (by decide) (fun c_4 => ?_) (fun c_4 => ?_)
                · skip
                  have h8 : t = 8 := svK_neg ht c_4
                  refine lv_iconst (v := 1) hx hb d_MD_letters_153 (by decide) ?_
                  have hw9 : wsM bd cm 0 n fr a (upn z (a - 1) (z (a - 1) + ltN w t)) (mxA le z (a - 1) w t) wy fo en fF fA fB fS fW sk pg ye ys yt yg yp tk gF gA gB gS gW yk = wsM bd cm 0 n fr a (exFZ a z w) (mxFA a le z w) wy fo en fF fA fB fS fW sk pg ye ys yt yg yp tk gF gA gB gS gW yk := by rw [mxFA, exFZ, if_pos (show 0 < a ∧ z (a - 1) + ltN w 8 ≤ 127 from by omega), if_pos (show 0 < a ∧ z (a - 1) + ltN w 8 ≤ 127 from by omega), h8]
                  rw [hw9] at hP hD
                  exact xreti (v := 1) hx hb hr hlocks hK hP hD hS (rfl) (bI_1 ⟨by omega, by omega⟩) d_MD_letters_154
                · skip
                  have h8 : t < 8 := svK_pos ht c_4
                  have hzt : upn z (a - 1) (z (a - 1) + ltN w t) (a - 1) = z (a - 1) + ltN w t := upn_eq _ _ _
                  have hmb : ((w >>> ((8 * svK t).toInt64 &&& 63)).toInt32 &&& 255).toInt8.toInt32 = lby w t := mlb_b w h8
                  refine lv_lload_n hx hb d_MD_letters_83 rfl (lv_at hl 1 rfl) ?_
                  refine lv_bipush (v := 8) hx hb d_MD_letters_84 (by decide) ?_
                  refine lv_iload hx hb d_MD_letters_86 (lv_at hl 3 rfl) ?_
                  refine lv_imul hx hb d_MD_letters_88 ?_
                  refine lv_lshr hx hb d_MD_letters_89 rfl ?_
                  refine lv_l2i hx hb d_MD_letters_90 rfl ?_
                  refine lv_sipush (v := 255) hx hb d_MD_letters_91 (by decide) ?_
                  refine lv_iand hx hb d_MD_letters_94 ?_
                  refine lv_istore (lv' := [(5, .int (((w >>> ((8 * (svK t)).toInt64 &&& 63)).toInt32) &&& 255)), (0, .ref (bd 0)), (1, .long w), (3, .int (nI (ltN w 8))), (4, .int (svK t))]) hx hb d_MD_letters_95 hl (by decide) rfl (fun ls hl => ?_)
                  refine lv_iload hx hb d_MD_letters_97 (lv_at hl 0 rfl) ?_
                  refine lv_if_le (tgt := 147) hx hb d_MD_letters_99 (by decide) (fun c_5 => ?_) (fun c_5 => ?_)
                  · skip
                    have hc9 : lby w t = 0 := (mlb_le w h8).mp c_5
                    refine lv_iinc (v := svK (t + 1)) (lv' := [(4, .int (svK (t + 1))), (5, .int (((w >>> ((8 * (svK t)).toInt64 &&& 63)).toInt32) &&& 255)), (0, .ref (bd 0)), (1, .long w), (3, .int (nI (ltN w 8)))]) hx hb d_MD_letters_147 hl (k := 4) rfl (svK_step h8) (by decide) rfl (fun ls hl => ?_)
                    refine lv_goto (tgt := 78) hx hb d_MD_letters_150 (by decide) ?_
                    have hw9 : wsM bd cm 0 n fr a (upn z (a - 1) (z (a - 1) + ltN w t)) (mxA le z (a - 1) w t) wy fo en fF fA fB fS fW sk pg ye ys yt yg yp tk gF gA gB gS gW yk = wsM bd cm 0 n fr a (upn z (a - 1) (z (a - 1) + ltN w (t + 1))) (mxA le z (a - 1) w (t + 1)) wy fo en fF fA fB fS fW sk pg ye ys yt yg yp tk gF gA gB gS gW yk := by rw [mxA, ltN, if_pos hc9, if_pos hc9]
                    rw [hw9] at hP hD
                    exact ih (t + 1) (by omega) (by omega) _ _ hP hD hS _ (lv_sub hl [2, 3, 4, 0] rfl)
                  · skip
                    have hc9 : ¬ lby w t = 0 := fun h9 => c_5 ((mlb_le w h8).mpr h9)
                    have hm8 := ltN_mono w (t + 1) (8 - (t + 1))
                    rw [show t + 1 + (8 - (t + 1)) = 8 from by omega, ltN, if_neg hc9] at hm8
                    refine lv_aload_n hx hb d_MD_letters_102 rfl (lv_at hl 1 rfl) ?_
                    refine va_get (D := (dC, dI)) (ci := 7) (v := .ref (bd 3)) (C := R_MD) (T := T_MD) (N := 28) hx hb hts i_MD hown hK hP 0 rfl rfl 5 (by decide) (hts _ wd_397) (fun _ h9 => h9) rfl d_MD_letters_103 ?_
                    refine lv_sipush (v := 128) hx hb d_MD_letters_106 (by decide) ?_
                    refine lv_aload_n hx hb d_MD_letters_109 rfl (lv_at hl 1 rfl) ?_
                    refine va_get (D := (dC, dI)) (ci := 7) (v := .int (nI a)) (C := R_MD) (T := T_MD) (N := 28) hx hb hts i_MD hown hK hP 0 rfl rfl 3 (by decide) (hts _ wd_395) (fun _ h9 => h9) rfl d_MD_letters_110 ?_
                    refine lv_iconst (v := 1) hx hb d_MD_letters_113 (by decide) ?_
                    refine lv_isub hx hb d_MD_letters_114 ?_
                    refine xtopi (y := nI (a - 1)) (pk_sub (a := a) (b := 1) (by omega)) ?_
                    refine lv_imul hx hb d_MD_letters_115 ?_
                    refine xtopi (y := nI (128 * (a - 1))) (pk_mul (128) (a - 1)) ?_
                    refine lv_aload_n hx hb d_MD_letters_116 rfl (lv_at hl 1 rfl) ?_
                    refine va_get (D := (dC, dI)) (ci := 7) (v := .ref (bd 2)) (C := R_MD) (T := T_MD) (N := 28) hx hb hts i_MD hown hK hP 0 rfl rfl 4 (by decide) (hts _ wd_396) (fun _ h9 => h9) rfl d_MD_letters_117 ?_
                    refine lv_aload_n hx hb d_MD_letters_120 rfl (lv_at hl 1 rfl) ?_
                    refine va_get (D := (dC, dI)) (ci := 7) (v := .int (nI a)) (C := R_MD) (T := T_MD) (N := 28) hx hb hts i_MD hown hK hP 0 rfl rfl 3 (by decide) (hts _ wd_395) (fun _ h9 => h9) rfl d_MD_letters_121 ?_
                    refine lv_iconst (v := 1) hx hb d_MD_letters_124 (by decide) ?_
                    refine lv_isub hx hb d_MD_letters_125 ?_
                    refine xtopi (y := nI (a - 1)) (pk_sub (a := a) (b := 1) (by omega)) ?_
                    refine xiald (k := a - 1) hx hb hK hP 2 1 rfl rfl (rfl) (by omega) (by decide) d_MD_letters_126 ?_
                    refine lv_iadd hx hb d_MD_letters_127 ?_
                    refine xtopi (y := nI ((128 * (a - 1)) + ((upn z (a - 1) (z (a - 1) + ltN w t)) (a - 1)))) (nI_add (128 * (a - 1)) ((upn z (a - 1) (z (a - 1) + ltN w t)) (a - 1))) ?_
                    refine lv_iload hx hb d_MD_letters_128 (lv_at hl 0 rfl) ?_
                    refine lv_i2b hx hb d_MD_letters_130 rfl ?_
                    refine xbast (k := (128 * (a - 1)) + ((upn z (a - 1) (z (a - 1) + ltN w t)) (a - 1))) (x' := (((w >>> ((8 * (svK t)).toInt64 &&& 63)).toInt32) &&& 255).toInt8.toInt32) (ws1 := wsM bd cm 0 n fr a (upn z (a - 1) (z (a - 1) + ltN w t)) (upd (mxA le z (a - 1) w t) ((128 * (a - 1)) + ((upn z (a - 1) (z (a - 1) + ltN w t)) (a - 1))) ((((w >>> ((8 * (svK t)).toInt64 &&& 63)).toInt32) &&& 255).toInt8.toInt32)) wy fo en fF fA fB fS fW sk pg ye ys yt yg yp tk gF gA gB gS gW yk) hx hb hK hP hD hS 3 0 rfl rfl (rfl) (by omega) (by decide) (pk_vb _) rfl d_MD_letters_131 (fun H locs hP hD hS => ?_)
                    refine lv_aload_n hx hb d_MD_letters_132 rfl (lv_at hl 1 rfl) ?_
                    refine va_get (D := (dC, dI)) (ci := 7) (v := .ref (bd 2)) (C := R_MD) (T := T_MD) (N := 28) hx hb hts i_MD hown hK hP 0 rfl rfl 4 (by decide) (hts _ wd_396) (fun _ h9 => h9) rfl d_MD_letters_133 ?_
                    refine lv_aload_n hx hb d_MD_letters_136 rfl (lv_at hl 1 rfl) ?_
                    refine va_get (D := (dC, dI)) (ci := 7) (v := .int (nI a)) (C := R_MD) (T := T_MD) (N := 28) hx hb hts i_MD hown hK hP 0 rfl rfl 3 (by decide) (hts _ wd_395) (fun _ h9 => h9) rfl d_MD_letters_137 ?_
                    refine lv_iconst (v := 1) hx hb d_MD_letters_140 (by decide) ?_
                    refine lv_isub hx hb d_MD_letters_141 ?_
                    refine xtopi (y := nI (a - 1)) (pk_sub (a := a) (b := 1) (by omega)) ?_
                    refine lv_dup2_11 hx hb d_MD_letters_142 rfl rfl ?_
                    refine xiald (k := a - 1) hx hb hK hP 2 1 rfl rfl (rfl) (by omega) (by decide) d_MD_letters_143 ?_
                    refine lv_iconst (v := 1) hx hb d_MD_letters_144 (by decide) ?_
                    refine lv_iadd hx hb d_MD_letters_145 ?_
                    refine xtopi (y := nI (((upn z (a - 1) (z (a - 1) + ltN w t)) (a - 1)) + 1)) (nI_add ((upn z (a - 1) (z (a - 1) + ltN w t)) (a - 1)) (1)) ?_
                    refine xiast (k := a - 1) (ws1 := wsM bd cm 0 n fr a (upn (upn z (a - 1) (z (a - 1) + ltN w t)) (a - 1) (((upn z (a - 1) (z (a - 1) + ltN w t)) (a - 1)) + 1)) (upd (mxA le z (a - 1) w t) ((128 * (a - 1)) + ((upn z (a - 1) (z (a - 1) + ltN w t)) (a - 1))) ((((w >>> ((8 * (svK t)).toInt64 &&& 63)).toInt32) &&& 255).toInt8.toInt32)) wy fo en fF fA fB fS fW sk pg ye ys yt yg yp tk gF gA gB gS gW yk) hx hb hK hP hD hS 2 1 rfl rfl (rfl) (by omega) (by decide) wsM_put_z d_MD_letters_146 (fun H locs hP hD hS => ?_)
                    refine lv_iinc (v := svK (t + 1)) (lv' := [(4, .int (svK (t + 1))), (5, .int (((w >>> ((8 * (svK t)).toInt64 &&& 63)).toInt32) &&& 255)), (0, .ref (bd 0)), (1, .long w), (3, .int (nI (ltN w 8)))]) hx hb d_MD_letters_147 hl (k := 4) rfl (svK_step h8) (by decide) rfl (fun ls hl => ?_)
                    refine lv_goto (tgt := 78) hx hb d_MD_letters_150 (by decide) ?_
                    have hw9 : wsM bd cm 0 n fr a (upn (upn z (a - 1) (z (a - 1) + ltN w t)) (a - 1) (((upn z (a - 1) (z (a - 1) + ltN w t)) (a - 1)) + 1)) (upd (mxA le z (a - 1) w t) ((128 * (a - 1)) + ((upn z (a - 1) (z (a - 1) + ltN w t)) (a - 1))) ((((w >>> ((8 * (svK t)).toInt64 &&& 63)).toInt32) &&& 255).toInt8.toInt32)) wy fo en fF fA fB fS fW sk pg ye ys yt yg yp tk gF gA gB gS gW yk = wsM bd cm 0 n fr a (upn z (a - 1) (z (a - 1) + ltN w (t + 1))) (mxA le z (a - 1) w (t + 1)) wy fo en fF fA fB fS fW sk pg ye ys yt yg yp tk gF gA gB gS gW yk := by rw [mxA, ltN, if_neg hc9, if_neg hc9, hzt, upn_upn, Nat.add_assoc, hmb]
                    rw [hw9] at hP hD
                    exact ih (t + 1) (by omega) (by omega) _ _ hP hD hS _ (lv_sub hl [2, 3, 4, 0] rfl)
            have ez0 : upn z (a - 1) (z (a - 1) + ltN w 0) = z := upn_self z (a - 1)
            have hP : va_P (dC, dI) vwCl (wsM bd cm 0 n fr a (upn z (a - 1) (z (a - 1) + ltN w 0)) le wy fo en fF fA fB fS fW sk pg ye ys yt yg yp tk gF gA gB gS gW yk) H := by rw [ez0]; exact hP
            have hD : va_D A (wsM bd cm 0 n fr a (upn z (a - 1) (z (a - 1) + ltN w 0)) le wy fo en fF fA fB fS fW sk pg ye ys yt yg yp tk gF gA gB gS gW yk) := by rw [ez0]; exact hD
            exact lp78 ((8 - 0) + 1) 0 (Nat.lt_succ_self _) (by omega) _ _ hP hD hS _ (lv_sub hl [1, 2, 3, 0] rfl)
          · skip
            have c_3 : ¬ ((z (a - 1)) + (ltN w 8) ≤ 127) := fun h9 => c_3 ((nI_leI (a := (z (a - 1)) + (ltN w 8)) (b := 127) (by omega) (by omega)).mpr h9)
            refine lv_iconst (v := 0) hx hb d_MD_letters_72 (by decide) ?_
            have hw9 : wsM bd cm 0 n fr a z le wy fo en fF fA fB fS fW sk pg ye ys yt yg yp tk gF gA gB gS gW yk = wsM bd cm 0 n fr a (exFZ a z w) (mxFA a le z w) wy fo en fF fA fB fS fW sk pg ye ys yt yg yp tk gF gA gB gS gW yk := by rw [mxFA, exFZ, if_neg (show ¬ (0 < a ∧ z (a - 1) + ltN w 8 ≤ 127) from by omega), if_neg (show ¬ (0 < a ∧ z (a - 1) + ltN w 8 ≤ 127) from by omega)]
            rw [hw9] at hP hD
            exact xreti (v := 0) hx hb hr hlocks hK hP hD hS (rfl) (bI_0 (by omega)) d_MD_letters_73
      · skip
        have c_1 : ¬ (8 ≤ t) := fun h9 => c_1 ((nI_leI (a := 8) (b := t) (by omega) (by omega)).mpr h9)
        have hmc := hmcl t
        refine lv_iload_n hx hb d_MD_letters_17 rfl (lv_at hl 2 rfl) ?_
        refine lv_lload_n hx hb d_MD_letters_18 rfl (lv_at hl 1 rfl) ?_
        refine lv_bipush (v := 8) hx hb d_MD_letters_19 (by decide) ?_
        refine lv_iload hx hb d_MD_letters_21 (lv_at hl 3 rfl) ?_
        refine lv_imul hx hb d_MD_letters_23 ?_
        refine xtopi (y := nI (8 * t)) (pk_mul (8) (t)) ?_
        refine lv_lshr hx hb d_MD_letters_24 rfl ?_
        refine lv_ldc2 (v := 255) hx hb hown (hts _ wd_506) d_MD_letters_25 ?_
        refine lv_land hx hb d_MD_letters_28 ?_
        refine lv_lconst (v := 0) hx hb d_MD_letters_29 (by decide) ?_
        refine W.lcmp hx hb d_MD_letters_30 ?_
        refine lv_if_le (tgt := 38) hx hb d_MD_letters_31 (by decide) (fun c_6 => ?_) (fun c_6 => ?_)
        · skip
          rw [lg_cmp_le] at c_6
          refine lv_iconst (v := 0) hx hb d_MD_letters_38 (by decide) ?_
          refine lv_iadd hx hb d_MD_letters_39 ?_
          refine xtopi (y := nI ((mcN w t) + 0)) (nI_add (mcN w t) (0)) ?_
          refine lv_istore_n (lv' := [(3, .int (nI ((mcN w t) + 0))), (0, .ref (bd 0)), (1, .long w), (4, .int (nI t))]) hx hb d_MD_letters_40 rfl hl (by decide) rfl (fun ls hl => ?_)
          refine lv_iinc (v := nI (t + 1)) (lv' := [(4, .int (nI (t + 1))), (3, .int (nI ((mcN w t) + 0))), (0, .ref (bd 0)), (1, .long w)]) hx hb d_MD_letters_41 hl (k := 3) rfl (nI_1 _) (by decide) rfl (fun ls hl => ?_)
          refine lv_goto (tgt := 10) hx hb d_MD_letters_44 (by decide) ?_
          have e9 : mcN w t + 0 = mcN w (t + 1) := by rw [mcN, if_pos (show mby w t ≤ 0 from c_6)]; rfl
          rw [e9] at hl
          exact ih (t + 1) (by omega) (by omega) _ _ hP hD hS _ (lv_sub hl [2, 3, 1, 0] rfl)
        · skip
          rw [lg_cmp_le] at c_6
          refine lv_iconst (v := 1) hx hb d_MD_letters_34 (by decide) ?_
          refine lv_goto (tgt := 39) hx hb d_MD_letters_35 (by decide) ?_
          refine lv_iadd hx hb d_MD_letters_39 ?_
          refine xtopi (y := nI ((mcN w t) + 1)) (nI_add (mcN w t) (1)) ?_
          refine lv_istore_n (lv' := [(3, .int (nI ((mcN w t) + 1))), (0, .ref (bd 0)), (1, .long w), (4, .int (nI t))]) hx hb d_MD_letters_40 rfl hl (by decide) rfl (fun ls hl => ?_)
          refine lv_iinc (v := nI (t + 1)) (lv' := [(4, .int (nI (t + 1))), (3, .int (nI ((mcN w t) + 1))), (0, .ref (bd 0)), (1, .long w)]) hx hb d_MD_letters_41 hl (k := 3) rfl (nI_1 _) (by decide) rfl (fun ls hl => ?_)
          refine lv_goto (tgt := 10) hx hb d_MD_letters_44 (by decide) ?_
          have e9 : mcN w t + 1 = mcN w (t + 1) := by rw [mcN, if_neg (show ¬ mby w t ≤ 0 from c_6)]
          rw [e9] at hl
          exact ih (t + 1) (by omega) (by omega) _ _ hP hD hS _ (lv_sub hl [2, 3, 1, 0] rfl)
  exact lp10 ((8 - 0) + 1) 0 (Nat.lt_succ_self _) (by omega) _ _ hP hD hS _ (lv_sub hl [2, 3, 1, 0] rfl)
end
section
abbrev MS : Type := Nat × Nat × (Nat → Nat) × (Nat → Nat) × (Nat → Nat) × (Nat → Nat) × (Nat → Int32)
def mgO (w : Int32) : Int32 := ((8 + ((w >>> ((2 : Int32) &&& 31)) &&& 1)) + (w &&& 2)) + (4 * (w &&& 1))
def msPush (f : Nat → Int32) (q : Nat) (s : MS) : MS := (s.1 + 1, (hdA f q + hdS f q + 4095) / 4096 * 4096, upn s.2.2.1 s.1 (hdF f q), upn s.2.2.2.1 s.1 (hdA f q), upn s.2.2.2.2.1 s.1 (hdB f q), upn s.2.2.2.2.2.1 s.1 (hdS f q), upd s.2.2.2.2.2.2 s.1 (mgO (nI (hdW f q))))
def msStep (f : Nat → Int32) (n q : Nat) (s : MS) : MS := if hdSkip f q then s else if hdGood f n s.2.1 q then msPush f q s else s
theorem msStep_skip {f : Nat → Int32} {n q : Nat} {s : MS} (h : hdSkip f q) : msStep f n q s = s := by rw [msStep, if_pos h]
theorem msStep_good {f : Nat → Int32} {n q : Nat} {s : MS} (h : ¬ hdSkip f q) (h2 : hdGood f n s.2.1 q) : msStep f n q s = msPush f q s := by rw [msStep, if_neg h, if_pos h2]
theorem msStep_bad {f : Nat → Int32} {n q : Nat} {s : MS} (h2 : ¬ hdGood f n s.2.1 q) : msStep f n q s = s := by
  unfold msStep
  by_cases h1 : hdSkip f q
  · rw [if_pos h1]
  · rw [if_neg h1, if_neg h2]
def wsum (g : Nat → Nat) : Nat → Nat
  | 0 => 0
  | p + 1 => wsum g p + (g p + 4095) / 4096 * 4096 / 4096
end
section
theorem d_MD_header_0 : decode b_MD_header 0 = .ok (.aload_n 0, 1) := by decide +kernel
theorem d_MD_header_1 : decode b_MD_header 1 = .ok (.lload_n 1, 1) := by decide +kernel
theorem d_MD_header_2 : decode b_MD_header 2 = .ok (.ldc2_w 79, 3) := by decide +kernel
theorem d_MD_header_5 : decode b_MD_header 5 = .ok (.ladd, 1) := by decide +kernel
theorem d_MD_header_6 : decode b_MD_header 6 = .ok (.iconst 4, 1) := by decide +kernel
theorem d_MD_header_7 : decode b_MD_header 7 = .ok (.invokevirtual 73, 3) := by decide +kernel
theorem d_MD_header_10 : decode b_MD_header 10 = .ok (.lstore_n 3, 1) := by decide +kernel
theorem d_MD_header_11 : decode b_MD_header 11 = .ok (.aload_n 0, 1) := by decide +kernel
theorem d_MD_header_12 : decode b_MD_header 12 = .ok (.lload_n 1, 1) := by decide +kernel
theorem d_MD_header_13 : decode b_MD_header 13 = .ok (.ldc2_w 107, 3) := by decide +kernel
theorem d_MD_header_16 : decode b_MD_header 16 = .ok (.ladd, 1) := by decide +kernel
theorem d_MD_header_17 : decode b_MD_header 17 = .ok (.iconst 4, 1) := by decide +kernel
theorem d_MD_header_18 : decode b_MD_header 18 = .ok (.invokevirtual 73, 3) := by decide +kernel
theorem d_MD_header_21 : decode b_MD_header 21 = .ok (.lstore 5, 2) := by decide +kernel
theorem d_MD_header_23 : decode b_MD_header 23 = .ok (.aload_n 0, 1) := by decide +kernel
theorem d_MD_header_24 : decode b_MD_header 24 = .ok (.lload_n 1, 1) := by decide +kernel
theorem d_MD_header_25 : decode b_MD_header 25 = .ok (.ldc2_w 85, 3) := by decide +kernel
theorem d_MD_header_28 : decode b_MD_header 28 = .ok (.ladd, 1) := by decide +kernel
theorem d_MD_header_29 : decode b_MD_header 29 = .ok (.iconst 4, 1) := by decide +kernel
theorem d_MD_header_30 : decode b_MD_header 30 = .ok (.invokevirtual 73, 3) := by decide +kernel
theorem d_MD_header_33 : decode b_MD_header 33 = .ok (.lstore 7, 2) := by decide +kernel
theorem d_MD_header_35 : decode b_MD_header 35 = .ok (.aload_n 0, 1) := by decide +kernel
theorem d_MD_header_36 : decode b_MD_header 36 = .ok (.lload_n 1, 1) := by decide +kernel
theorem d_MD_header_37 : decode b_MD_header 37 = .ok (.ldc2_w 93, 3) := by decide +kernel
theorem d_MD_header_40 : decode b_MD_header 40 = .ok (.ladd, 1) := by decide +kernel
theorem d_MD_header_41 : decode b_MD_header 41 = .ok (.iconst 4, 1) := by decide +kernel
theorem d_MD_header_42 : decode b_MD_header 42 = .ok (.invokevirtual 73, 3) := by decide +kernel
theorem d_MD_header_45 : decode b_MD_header 45 = .ok (.lstore 9, 2) := by decide +kernel
theorem d_MD_header_47 : decode b_MD_header 47 = .ok (.aload_n 0, 1) := by decide +kernel
theorem d_MD_header_48 : decode b_MD_header 48 = .ok (.lload_n 1, 1) := by decide +kernel
theorem d_MD_header_49 : decode b_MD_header 49 = .ok (.iconst 4, 1) := by decide +kernel
theorem d_MD_header_50 : decode b_MD_header 50 = .ok (.invokevirtual 73, 3) := by decide +kernel
theorem d_MD_header_53 : decode b_MD_header 53 = .ok (.lconst 1, 1) := by decide +kernel
theorem d_MD_header_54 : decode b_MD_header 54 = .ok (.lcmp, 1) := by decide +kernel
theorem d_MD_header_55 : decode b_MD_header 55 = .ok (.ifCond .ne 10, 3) := by decide +kernel
theorem d_MD_header_58 : decode b_MD_header 58 = .ok (.lload 9, 2) := by decide +kernel
theorem d_MD_header_60 : decode b_MD_header 60 = .ok (.lconst 0, 1) := by decide +kernel
theorem d_MD_header_61 : decode b_MD_header 61 = .ok (.lcmp, 1) := by decide +kernel
theorem d_MD_header_62 : decode b_MD_header 62 = .ok (.ifCond .ne 5, 3) := by decide +kernel
theorem d_MD_header_65 : decode b_MD_header 65 = .ok (.iconst 1, 1) := by decide +kernel
theorem d_MD_header_66 : decode b_MD_header 66 = .ok (.ireturn, 1) := by decide +kernel
theorem d_MD_header_67 : decode b_MD_header 67 = .ok (.lload 5, 2) := by decide +kernel
theorem d_MD_header_69 : decode b_MD_header 69 = .ok (.ldc2_w 105, 3) := by decide +kernel
theorem d_MD_header_72 : decode b_MD_header 72 = .ok (.lrem, 1) := by decide +kernel
theorem d_MD_header_73 : decode b_MD_header 73 = .ok (.lconst 0, 1) := by decide +kernel
theorem d_MD_header_74 : decode b_MD_header 74 = .ok (.lcmp, 1) := by decide +kernel
theorem d_MD_header_75 : decode b_MD_header 75 = .ok (.ifCond .ne 29, 3) := by decide +kernel
theorem d_MD_header_78 : decode b_MD_header 78 = .ok (.lload 5, 2) := by decide +kernel
theorem d_MD_header_80 : decode b_MD_header 80 = .ok (.aload_n 0, 1) := by decide +kernel
theorem d_MD_header_81 : decode b_MD_header 81 = .ok (.getfield 109, 3) := by decide +kernel
theorem d_MD_header_84 : decode b_MD_header 84 = .ok (.lcmp, 1) := by decide +kernel
theorem d_MD_header_85 : decode b_MD_header 85 = .ok (.ifCond .lt 19, 3) := by decide +kernel
theorem d_MD_header_88 : decode b_MD_header 88 = .ok (.lload 5, 2) := by decide +kernel
theorem d_MD_header_90 : decode b_MD_header 90 = .ok (.lload 9, 2) := by decide +kernel
theorem d_MD_header_92 : decode b_MD_header 92 = .ok (.ladd, 1) := by decide +kernel
theorem d_MD_header_93 : decode b_MD_header 93 = .ok (.ldc2_w 113, 3) := by decide +kernel
theorem d_MD_header_96 : decode b_MD_header 96 = .ok (.lcmp, 1) := by decide +kernel
theorem d_MD_header_97 : decode b_MD_header 97 = .ok (.ifCond .gt 7, 3) := by decide +kernel
theorem d_MD_header_100 : decode b_MD_header 100 = .ok (.iconst 1, 1) := by decide +kernel
theorem d_MD_header_101 : decode b_MD_header 101 = .ok (.goto 4, 3) := by decide +kernel
theorem d_MD_header_104 : decode b_MD_header 104 = .ok (.iconst 0, 1) := by decide +kernel
theorem d_MD_header_105 : decode b_MD_header 105 = .ok (.istore 11, 2) := by decide +kernel
theorem d_MD_header_107 : decode b_MD_header 107 = .ok (.lload 7, 2) := by decide +kernel
theorem d_MD_header_109 : decode b_MD_header 109 = .ok (.lload 9, 2) := by decide +kernel
theorem d_MD_header_111 : decode b_MD_header 111 = .ok (.lcmp, 1) := by decide +kernel
theorem d_MD_header_112 : decode b_MD_header 112 = .ok (.ifCond .gt 20, 3) := by decide +kernel
theorem d_MD_header_115 : decode b_MD_header 115 = .ok (.lload_n 3, 1) := by decide +kernel
theorem d_MD_header_116 : decode b_MD_header 116 = .ok (.lload 7, 2) := by decide +kernel
theorem d_MD_header_118 : decode b_MD_header 118 = .ok (.ladd, 1) := by decide +kernel
theorem d_MD_header_119 : decode b_MD_header 119 = .ok (.aload_n 0, 1) := by decide +kernel
theorem d_MD_header_120 : decode b_MD_header 120 = .ok (.getfield 64, 3) := by decide +kernel
theorem d_MD_header_123 : decode b_MD_header 123 = .ok (.i2l, 1) := by decide +kernel
theorem d_MD_header_124 : decode b_MD_header 124 = .ok (.lcmp, 1) := by decide +kernel
theorem d_MD_header_125 : decode b_MD_header 125 = .ok (.ifCond .gt 7, 3) := by decide +kernel
theorem d_MD_header_128 : decode b_MD_header 128 = .ok (.iconst 1, 1) := by decide +kernel
theorem d_MD_header_129 : decode b_MD_header 129 = .ok (.goto 4, 3) := by decide +kernel
theorem d_MD_header_132 : decode b_MD_header 132 = .ok (.iconst 0, 1) := by decide +kernel
theorem d_MD_header_133 : decode b_MD_header 133 = .ok (.istore 12, 2) := by decide +kernel
theorem d_MD_header_135 : decode b_MD_header 135 = .ok (.iload 11, 2) := by decide +kernel
theorem d_MD_header_137 : decode b_MD_header 137 = .ok (.ifCond .eq 8, 3) := by decide +kernel
theorem d_MD_header_140 : decode b_MD_header 140 = .ok (.iload 12, 2) := by decide +kernel
theorem d_MD_header_142 : decode b_MD_header 142 = .ok (.ifCond .ne 5, 3) := by decide +kernel
theorem d_MD_header_145 : decode b_MD_header 145 = .ok (.iconst 0, 1) := by decide +kernel
theorem d_MD_header_146 : decode b_MD_header 146 = .ok (.ireturn, 1) := by decide +kernel
theorem d_MD_header_147 : decode b_MD_header 147 = .ok (.aload_n 0, 1) := by decide +kernel
theorem d_MD_header_148 : decode b_MD_header 148 = .ok (.getfield 21, 3) := by decide +kernel
theorem d_MD_header_151 : decode b_MD_header 151 = .ok (.aload_n 0, 1) := by decide +kernel
theorem d_MD_header_152 : decode b_MD_header 152 = .ok (.getfield 115, 3) := by decide +kernel
theorem d_MD_header_155 : decode b_MD_header 155 = .ok (.lload_n 3, 1) := by decide +kernel
theorem d_MD_header_156 : decode b_MD_header 156 = .ok (.l2i, 1) := by decide +kernel
theorem d_MD_header_157 : decode b_MD_header 157 = .ok (.iastore, 1) := by decide +kernel
theorem d_MD_header_158 : decode b_MD_header 158 = .ok (.aload_n 0, 1) := by decide +kernel
theorem d_MD_header_159 : decode b_MD_header 159 = .ok (.getfield 24, 3) := by decide +kernel
theorem d_MD_header_162 : decode b_MD_header 162 = .ok (.aload_n 0, 1) := by decide +kernel
theorem d_MD_header_163 : decode b_MD_header 163 = .ok (.getfield 115, 3) := by decide +kernel
theorem d_MD_header_166 : decode b_MD_header 166 = .ok (.lload 5, 2) := by decide +kernel
theorem d_MD_header_168 : decode b_MD_header 168 = .ok (.l2i, 1) := by decide +kernel
theorem d_MD_header_169 : decode b_MD_header 169 = .ok (.iastore, 1) := by decide +kernel
theorem d_MD_header_170 : decode b_MD_header 170 = .ok (.aload_n 0, 1) := by decide +kernel
theorem d_MD_header_171 : decode b_MD_header 171 = .ok (.getfield 27, 3) := by decide +kernel
theorem d_MD_header_174 : decode b_MD_header 174 = .ok (.aload_n 0, 1) := by decide +kernel
theorem d_MD_header_175 : decode b_MD_header 175 = .ok (.getfield 115, 3) := by decide +kernel
theorem d_MD_header_178 : decode b_MD_header 178 = .ok (.lload 7, 2) := by decide +kernel
theorem d_MD_header_180 : decode b_MD_header 180 = .ok (.l2i, 1) := by decide +kernel
theorem d_MD_header_181 : decode b_MD_header 181 = .ok (.iastore, 1) := by decide +kernel
theorem d_MD_header_182 : decode b_MD_header 182 = .ok (.aload_n 0, 1) := by decide +kernel
theorem d_MD_header_183 : decode b_MD_header 183 = .ok (.getfield 30, 3) := by decide +kernel
theorem d_MD_header_186 : decode b_MD_header 186 = .ok (.aload_n 0, 1) := by decide +kernel
theorem d_MD_header_187 : decode b_MD_header 187 = .ok (.getfield 115, 3) := by decide +kernel
theorem d_MD_header_190 : decode b_MD_header 190 = .ok (.lload 9, 2) := by decide +kernel
theorem d_MD_header_192 : decode b_MD_header 192 = .ok (.l2i, 1) := by decide +kernel
theorem d_MD_header_193 : decode b_MD_header 193 = .ok (.iastore, 1) := by decide +kernel
theorem d_MD_header_194 : decode b_MD_header 194 = .ok (.aload_n 0, 1) := by decide +kernel
theorem d_MD_header_195 : decode b_MD_header 195 = .ok (.lload_n 1, 1) := by decide +kernel
theorem d_MD_header_196 : decode b_MD_header 196 = .ok (.ldc2_w 118, 3) := by decide +kernel
theorem d_MD_header_199 : decode b_MD_header 199 = .ok (.ladd, 1) := by decide +kernel
theorem d_MD_header_200 : decode b_MD_header 200 = .ok (.iconst 4, 1) := by decide +kernel
theorem d_MD_header_201 : decode b_MD_header 201 = .ok (.invokevirtual 73, 3) := by decide +kernel
theorem d_MD_header_204 : decode b_MD_header 204 = .ok (.l2i, 1) := by decide +kernel
theorem d_MD_header_205 : decode b_MD_header 205 = .ok (.istore 13, 2) := by decide +kernel
theorem d_MD_header_207 : decode b_MD_header 207 = .ok (.aload_n 0, 1) := by decide +kernel
theorem d_MD_header_208 : decode b_MD_header 208 = .ok (.getfield 33, 3) := by decide +kernel
theorem d_MD_header_211 : decode b_MD_header 211 = .ok (.aload_n 0, 1) := by decide +kernel
theorem d_MD_header_212 : decode b_MD_header 212 = .ok (.getfield 115, 3) := by decide +kernel
theorem d_MD_header_215 : decode b_MD_header 215 = .ok (.bipush 8, 2) := by decide +kernel
theorem d_MD_header_217 : decode b_MD_header 217 = .ok (.iload 13, 2) := by decide +kernel
theorem d_MD_header_219 : decode b_MD_header 219 = .ok (.iconst 2, 1) := by decide +kernel
theorem d_MD_header_220 : decode b_MD_header 220 = .ok (.ishr, 1) := by decide +kernel
theorem d_MD_header_221 : decode b_MD_header 221 = .ok (.iconst 1, 1) := by decide +kernel
theorem d_MD_header_222 : decode b_MD_header 222 = .ok (.iand, 1) := by decide +kernel
theorem d_MD_header_223 : decode b_MD_header 223 = .ok (.iadd, 1) := by decide +kernel
theorem d_MD_header_224 : decode b_MD_header 224 = .ok (.iload 13, 2) := by decide +kernel
theorem d_MD_header_226 : decode b_MD_header 226 = .ok (.iconst 2, 1) := by decide +kernel
theorem d_MD_header_227 : decode b_MD_header 227 = .ok (.iand, 1) := by decide +kernel
theorem d_MD_header_228 : decode b_MD_header 228 = .ok (.iadd, 1) := by decide +kernel
theorem d_MD_header_229 : decode b_MD_header 229 = .ok (.iconst 4, 1) := by decide +kernel
theorem d_MD_header_230 : decode b_MD_header 230 = .ok (.iload 13, 2) := by decide +kernel
theorem d_MD_header_232 : decode b_MD_header 232 = .ok (.iconst 1, 1) := by decide +kernel
theorem d_MD_header_233 : decode b_MD_header 233 = .ok (.iand, 1) := by decide +kernel
theorem d_MD_header_234 : decode b_MD_header 234 = .ok (.imul, 1) := by decide +kernel
theorem d_MD_header_235 : decode b_MD_header 235 = .ok (.iadd, 1) := by decide +kernel
theorem d_MD_header_236 : decode b_MD_header 236 = .ok (.iastore, 1) := by decide +kernel
theorem d_MD_header_237 : decode b_MD_header 237 = .ok (.aload_n 0, 1) := by decide +kernel
theorem d_MD_header_238 : decode b_MD_header 238 = .ok (.dup, 1) := by decide +kernel
theorem d_MD_header_239 : decode b_MD_header 239 = .ok (.getfield 115, 3) := by decide +kernel
theorem d_MD_header_242 : decode b_MD_header 242 = .ok (.iconst 1, 1) := by decide +kernel
theorem d_MD_header_243 : decode b_MD_header 243 = .ok (.iadd, 1) := by decide +kernel
theorem d_MD_header_244 : decode b_MD_header 244 = .ok (.putfield 115, 3) := by decide +kernel
theorem d_MD_header_247 : decode b_MD_header 247 = .ok (.aload_n 0, 1) := by decide +kernel
theorem d_MD_header_248 : decode b_MD_header 248 = .ok (.lload 5, 2) := by decide +kernel
theorem d_MD_header_250 : decode b_MD_header 250 = .ok (.lload 9, 2) := by decide +kernel
theorem d_MD_header_252 : decode b_MD_header 252 = .ok (.ladd, 1) := by decide +kernel
theorem d_MD_header_253 : decode b_MD_header 253 = .ok (.invokestatic 120, 3) := by decide +kernel
theorem d_MD_header_256 : decode b_MD_header 256 = .ok (.putfield 109, 3) := by decide +kernel
theorem d_MD_header_259 : decode b_MD_header 259 = .ok (.iconst 1, 1) := by decide +kernel
theorem d_MD_header_260 : decode b_MD_header 260 = .ok (.ireturn, 1) := by decide +kernel
theorem d_MD_wanted_0 : decode b_MD_wanted 0 = .ok (.ldc2_w 87, 3) := by decide +kernel
theorem d_MD_wanted_3 : decode b_MD_wanted 3 = .ok (.lstore_n 1, 1) := by decide +kernel
theorem d_MD_wanted_4 : decode b_MD_wanted 4 = .ok (.iconst 0, 1) := by decide +kernel
theorem d_MD_wanted_5 : decode b_MD_wanted 5 = .ok (.istore_n 3, 1) := by decide +kernel
theorem d_MD_wanted_6 : decode b_MD_wanted 6 = .ok (.iload_n 3, 1) := by decide +kernel
theorem d_MD_wanted_7 : decode b_MD_wanted 7 = .ok (.aload_n 0, 1) := by decide +kernel
theorem d_MD_wanted_8 : decode b_MD_wanted 8 = .ok (.getfield 115, 3) := by decide +kernel
theorem d_MD_wanted_11 : decode b_MD_wanted 11 = .ok (.if_icmp .ge 26, 3) := by decide +kernel
theorem d_MD_wanted_14 : decode b_MD_wanted 14 = .ok (.lload_n 1, 1) := by decide +kernel
theorem d_MD_wanted_15 : decode b_MD_wanted 15 = .ok (.aload_n 0, 1) := by decide +kernel
theorem d_MD_wanted_16 : decode b_MD_wanted 16 = .ok (.getfield 30, 3) := by decide +kernel
theorem d_MD_wanted_19 : decode b_MD_wanted 19 = .ok (.iload_n 3, 1) := by decide +kernel
theorem d_MD_wanted_20 : decode b_MD_wanted 20 = .ok (.iaload, 1) := by decide +kernel
theorem d_MD_wanted_21 : decode b_MD_wanted 21 = .ok (.i2l, 1) := by decide +kernel
theorem d_MD_wanted_22 : decode b_MD_wanted 22 = .ok (.invokestatic 120, 3) := by decide +kernel
theorem d_MD_wanted_25 : decode b_MD_wanted 25 = .ok (.ldc2_w 105, 3) := by decide +kernel
theorem d_MD_wanted_28 : decode b_MD_wanted 28 = .ok (.ldiv, 1) := by decide +kernel
theorem d_MD_wanted_29 : decode b_MD_wanted 29 = .ok (.ladd, 1) := by decide +kernel
theorem d_MD_wanted_30 : decode b_MD_wanted 30 = .ok (.lstore_n 1, 1) := by decide +kernel
theorem d_MD_wanted_31 : decode b_MD_wanted 31 = .ok (.iinc 3 1, 3) := by decide +kernel
theorem d_MD_wanted_34 : decode b_MD_wanted 34 = .ok (.goto (-28), 3) := by decide +kernel
theorem d_MD_wanted_37 : decode b_MD_wanted 37 = .ok (.lload_n 1, 1) := by decide +kernel
theorem d_MD_wanted_38 : decode b_MD_wanted 38 = .ok (.l2i, 1) := by decide +kernel
theorem d_MD_wanted_39 : decode b_MD_wanted 39 = .ok (.ireturn, 1) := by decide +kernel
end
section
set_option maxHeartbeats 4000000 in
set_option maxRecDepth 100000 in
theorem m_header (l : Launch) (dC : Nat → ClassId) (dI : Nat → Nat → Nat) (bd : Nat → Nat) (cm : Nat → ClassId) (th : Int32) (n : Nat) (fr : Nat → Int32) (a : Nat) (z : Nat → Nat) (le : Nat → Int32) (wy : Int32) (fo : Nat) (en : Nat) (fF : Nat → Nat) (fA : Nat → Nat) (fB : Nat → Nat) (fS : Nat → Nat) (fW : Nat → Int32) (sk : Nat → Int32) (pg : Nat) (ye : Int32) (ys : Int32) (yt : Nat) (yg : Nat) (yp : Nat) (tk : Nat → Int32) (gF : Nat → Nat) (gA : Nat → Nat) (gB : Nat → Nat) (gS : Nat → Nat) (gW : Nat → Int32) (yk : Nat → Int32) (q : Nat) (hq : q + 32 ≤ n) (hfo : fo < 8) (hen : en ≤ 1073733632) (hn : n ≤ 65536) (sz : Nat) : Met l y_MD_header w_MD_header { frames := 1, cells := 0, slots := 0, locals := 30 } (va_Pc [.ref (bd 0), .long (lN q)] (xP (dC, dI) (tyM cm) (wsM bd cm th n fr a z le wy fo en fF fA fB fS fW sk pg ye ys yt yg yp tk gF gA gB gS gW yk) sz)) (xQi (dC, dI) (tyM cm) (va_A (wsM bd cm th n fr a z le wy fo en fF fA fB fS fW sk pg ye ys yt yg yp tk gF gA gB gS gW yk) sz) (wsM bd cm th n fr a z le wy ((msStep fr n q (fo, en, fF, fA, fB, fS, fW)).1) ((msStep fr n q (fo, en, fF, fA, fB, fS, fW)).2.1) ((msStep fr n q (fo, en, fF, fA, fB, fS, fW)).2.2.1) ((msStep fr n q (fo, en, fF, fA, fB, fS, fW)).2.2.2.1) ((msStep fr n q (fo, en, fF, fA, fB, fS, fW)).2.2.2.2.1) ((msStep fr n q (fo, en, fF, fA, fB, fS, fW)).2.2.2.2.2.1) ((msStep fr n q (fo, en, fF, fA, fB, fS, fW)).2.2.2.2.2.2) sk pg ye ys yt yg yp tk gF gA gB gS gW yk) (fun r => r = bI (hdSkip fr q ∨ hdGood fr n en q))) 0 0 (va_A (wsM bd cm th n fr a z le wy fo en fF fA fB fS fW sk pg ye ys yt yg yp tk gF gA gB gS gW yk) sz) := by
  refine xof (cc := b_MD_header) (maxL := 14) (ret := (some .boolean)) (own := R_MD) (Qc := fun A => (xQi (dC, dI) (tyM cm) A (wsM bd cm th n fr a z le wy ((msStep fr n q (fo, en, fF, fA, fB, fS, fW)).1) ((msStep fr n q (fo, en, fF, fA, fB, fS, fW)).2.1) ((msStep fr n q (fo, en, fF, fA, fB, fS, fW)).2.2.1) ((msStep fr n q (fo, en, fF, fA, fB, fS, fW)).2.2.2.1) ((msStep fr n q (fo, en, fF, fA, fB, fS, fW)).2.2.2.2.1) ((msStep fr n q (fo, en, fF, fA, fB, fS, fW)).2.2.2.2.2.1) ((msStep fr n q (fo, en, fF, fA, fB, fS, fW)).2.2.2.2.2.2) sk pg ye ys yt yg yp tk gF gA gB gS gW yk) (fun r => r = bI (hdSkip fr q ∨ hdGood fr n en q)))) (by decide) rfl rfl (Nat.le_of_ble_eq_true rfl) ?_ sz
  intro p e s m below meth c A C hnm hK hP hD hA hN hZ hS ls hl
  obtain ⟨hx, hb, hr, hml, hown, hts, hlocks⟩ := C
  have hl : lv_has ls 14 [(0, .ref (bd 0)), (1, .long (lN q))] := hl
  have b0 := nbN_lt4 fr q
  have b1 := nbN_lt4 fr (q + 4)
  have b2 := nbN_lt4 fr (q + 8)
  have b3 := nbN_lt4 fr (q + 16)
  have b4 := nbN_lt4 fr (q + 20)
  refine lv_aload_n hx hb d_MD_header_0 rfl (lv_at hl 0 rfl) ?_
  refine lv_lload_n hx hb d_MD_header_1 rfl (lv_at hl 1 rfl) ?_
  refine lv_ldc2 (v := 4) hx hb hown (hts _ wd_528) d_MD_header_2 ?_
  refine lv_ladd hx hb d_MD_header_5 ?_
  refine xtopl (y := lN (q + 4)) (lN_add (q) (4)) ?_
  refine lv_iconst (v := 4) hx hb d_MD_header_6 (by decide) ?_
  refine xcalll (va_runV (As := [.long (lN (q + 4)), .int 4]) (rest := []) ⟨hx, hb, hml, hown, hts⟩ (m_number4 l dC dI bd cm th n fr a z le wy fo en fF fA fB fS fW sk pg ye ys yt yg yp tk gF gA gB gS gW yk (q + 4) (by omega) s.heap.size) (cwV 2 hts (xgV wd_523 wd_525 wd_7 wd_22 wd_526) rfl rfl rfl (by decide +kernel) ⟨Nat.le_of_ble_eq_true rfl, Nat.le_of_ble_eq_true rfl⟩) (xpreV (q0 := 0) hK hN hZ hA hS hP hD rfl rfl) rfl rfl hl.1 rfl (lv_room (Nat.le_of_ble_eq_true rfl)) d_MD_header_7 ⟨Nat.zero_le _, Nat.zero_le _⟩) hD hS hA (fun r_1 H locs hr_1 hP hD hS => ?_)
  subst hr_1
  refine lv_lstore_n (lv' := [(3, .long (lN (nbN fr (q + 4) 4))), (0, .ref (bd 0)), (1, .long (lN q))]) hx hb d_MD_header_10 rfl hl (by decide) rfl (fun ls hl => ?_)
  refine lv_aload_n hx hb d_MD_header_11 rfl (lv_at hl 1 rfl) ?_
  refine lv_lload_n hx hb d_MD_header_12 rfl (lv_at hl 2 rfl) ?_
  refine lv_ldc2 (v := 8) hx hb hown (hts _ wd_549) d_MD_header_13 ?_
  refine lv_ladd hx hb d_MD_header_16 ?_
  refine xtopl (y := lN (q + 8)) (lN_add (q) (8)) ?_
  refine lv_iconst (v := 4) hx hb d_MD_header_17 (by decide) ?_
  refine xcalll (va_runV (As := [.long (lN (q + 8)), .int 4]) (rest := []) ⟨hx, hb, hml, hown, hts⟩ (m_number4 l dC dI bd cm th n fr a z le wy fo en fF fA fB fS fW sk pg ye ys yt yg yp tk gF gA gB gS gW yk (q + 8) (by omega) H.size) (cwV 2 hts (xgV wd_523 wd_525 wd_7 wd_22 wd_526) rfl rfl rfl (by decide +kernel) ⟨Nat.le_of_ble_eq_true rfl, Nat.le_of_ble_eq_true rfl⟩) (xpreV (q0 := 0) hK hN hZ hA hS hP hD rfl rfl) rfl rfl hl.1 rfl (lv_room (Nat.le_of_ble_eq_true rfl)) d_MD_header_18 ⟨Nat.zero_le _, Nat.zero_le _⟩) hD hS hA (fun r_2 H locs hr_2 hP hD hS => ?_)
  subst hr_2
  refine lv_lstore (lv' := [(5, .long (lN (nbN fr (q + 8) 4))), (3, .long (lN (nbN fr (q + 4) 4))), (0, .ref (bd 0)), (1, .long (lN q))]) hx hb d_MD_header_21 hl (by decide) rfl (fun ls hl => ?_)
  refine lv_aload_n hx hb d_MD_header_23 rfl (lv_at hl 2 rfl) ?_
  refine lv_lload_n hx hb d_MD_header_24 rfl (lv_at hl 3 rfl) ?_
  refine lv_ldc2 (v := 16) hx hb hown (hts _ wd_535) d_MD_header_25 ?_
  refine lv_ladd hx hb d_MD_header_28 ?_
  refine xtopl (y := lN (q + 16)) (lN_add (q) (16)) ?_
  refine lv_iconst (v := 4) hx hb d_MD_header_29 (by decide) ?_
  refine xcalll (va_runV (As := [.long (lN (q + 16)), .int 4]) (rest := []) ⟨hx, hb, hml, hown, hts⟩ (m_number4 l dC dI bd cm th n fr a z le wy fo en fF fA fB fS fW sk pg ye ys yt yg yp tk gF gA gB gS gW yk (q + 16) (by omega) H.size) (cwV 2 hts (xgV wd_523 wd_525 wd_7 wd_22 wd_526) rfl rfl rfl (by decide +kernel) ⟨Nat.le_of_ble_eq_true rfl, Nat.le_of_ble_eq_true rfl⟩) (xpreV (q0 := 0) hK hN hZ hA hS hP hD rfl rfl) rfl rfl hl.1 rfl (lv_room (Nat.le_of_ble_eq_true rfl)) d_MD_header_30 ⟨Nat.zero_le _, Nat.zero_le _⟩) hD hS hA (fun r_3 H locs hr_3 hP hD hS => ?_)
  subst hr_3
  refine lv_lstore (lv' := [(7, .long (lN (nbN fr (q + 16) 4))), (5, .long (lN (nbN fr (q + 8) 4))), (3, .long (lN (nbN fr (q + 4) 4))), (0, .ref (bd 0)), (1, .long (lN q))]) hx hb d_MD_header_33 hl (by decide) rfl (fun ls hl => ?_)
  refine lv_aload_n hx hb d_MD_header_35 rfl (lv_at hl 3 rfl) ?_
  refine lv_lload_n hx hb d_MD_header_36 rfl (lv_at hl 4 rfl) ?_
  refine lv_ldc2 (v := 20) hx hb hown (hts _ wd_539) d_MD_header_37 ?_
  refine lv_ladd hx hb d_MD_header_40 ?_
  refine xtopl (y := lN (q + 20)) (lN_add (q) (20)) ?_
  refine lv_iconst (v := 4) hx hb d_MD_header_41 (by decide) ?_
  refine xcalll (va_runV (As := [.long (lN (q + 20)), .int 4]) (rest := []) ⟨hx, hb, hml, hown, hts⟩ (m_number4 l dC dI bd cm th n fr a z le wy fo en fF fA fB fS fW sk pg ye ys yt yg yp tk gF gA gB gS gW yk (q + 20) (by omega) H.size) (cwV 2 hts (xgV wd_523 wd_525 wd_7 wd_22 wd_526) rfl rfl rfl (by decide +kernel) ⟨Nat.le_of_ble_eq_true rfl, Nat.le_of_ble_eq_true rfl⟩) (xpreV (q0 := 0) hK hN hZ hA hS hP hD rfl rfl) rfl rfl hl.1 rfl (lv_room (Nat.le_of_ble_eq_true rfl)) d_MD_header_42 ⟨Nat.zero_le _, Nat.zero_le _⟩) hD hS hA (fun r_4 H locs hr_4 hP hD hS => ?_)
  subst hr_4
  refine lv_lstore (lv' := [(9, .long (lN (nbN fr (q + 20) 4))), (7, .long (lN (nbN fr (q + 16) 4))), (5, .long (lN (nbN fr (q + 8) 4))), (3, .long (lN (nbN fr (q + 4) 4))), (0, .ref (bd 0)), (1, .long (lN q))]) hx hb d_MD_header_45 hl (by decide) rfl (fun ls hl => ?_)
  refine lv_aload_n hx hb d_MD_header_47 rfl (lv_at hl 4 rfl) ?_
  refine lv_lload_n hx hb d_MD_header_48 rfl (lv_at hl 5 rfl) ?_
  refine lv_iconst (v := 4) hx hb d_MD_header_49 (by decide) ?_
  refine xcalll (va_runV (As := [.long (lN q), .int 4]) (rest := []) ⟨hx, hb, hml, hown, hts⟩ (m_number4 l dC dI bd cm th n fr a z le wy fo en fF fA fB fS fW sk pg ye ys yt yg yp tk gF gA gB gS gW yk q (by omega) H.size) (cwV 2 hts (xgV wd_523 wd_525 wd_7 wd_22 wd_526) rfl rfl rfl (by decide +kernel) ⟨Nat.le_of_ble_eq_true rfl, Nat.le_of_ble_eq_true rfl⟩) (xpreV (q0 := 0) hK hN hZ hA hS hP hD rfl rfl) rfl rfl hl.1 rfl (lv_room (Nat.le_of_ble_eq_true rfl)) d_MD_header_50 ⟨Nat.zero_le _, Nat.zero_le _⟩) hD hS hA (fun r_5 H locs hr_5 hP hD hS => ?_)
  subst hr_5
  refine lv_lconst (v := 1) hx hb d_MD_header_53 (by decide) ?_
  refine W.lcmp hx hb d_MD_header_54 ?_
  refine lv_if_ne (tgt := 65) hx hb d_MD_header_55 (by decide) (fun c_6 => ?_) (fun c_6 => ?_)
  · skip
    rw [lg_cmp_eq] at c_6
    have c_6 : ¬ (nbN fr q 4 = 1) := fun h9 => c_6 ((pk_lEQ (a := nbN fr q 4) (b := 1) (by omega) (by omega)).mpr h9)
    refine lv_iconst (v := 1) hx hb d_MD_header_65 (by decide) ?_
    have hw9 : wsM bd cm th n fr a z le wy fo en fF fA fB fS fW sk pg ye ys yt yg yp tk gF gA gB gS gW yk = wsM bd cm th n fr a z le wy ((msStep fr n q (fo, en, fF, fA, fB, fS, fW)).1) ((msStep fr n q (fo, en, fF, fA, fB, fS, fW)).2.1) ((msStep fr n q (fo, en, fF, fA, fB, fS, fW)).2.2.1) ((msStep fr n q (fo, en, fF, fA, fB, fS, fW)).2.2.2.1) ((msStep fr n q (fo, en, fF, fA, fB, fS, fW)).2.2.2.2.1) ((msStep fr n q (fo, en, fF, fA, fB, fS, fW)).2.2.2.2.2.1) ((msStep fr n q (fo, en, fF, fA, fB, fS, fW)).2.2.2.2.2.2) sk pg ye ys yt yg yp tk gF gA gB gS gW yk := by rw [msStep_skip (Or.inl c_6)]
    rw [hw9] at hP hD
    exact xreti (v := 1) hx hb hr hlocks hK hP hD hS (rfl) (bI_1 (Or.inl (Or.inl c_6))) d_MD_header_66
  · skip
    rw [lg_cmp_eq] at c_6
    have c_6 : nbN fr q 4 = 1 := (pk_lEQ (a := nbN fr q 4) (b := 1) (by omega) (by omega)).mp c_6
    refine lv_lload hx hb d_MD_header_58 (lv_at hl 0 rfl) ?_
    refine lv_lconst (v := 0) hx hb d_MD_header_60 (by decide) ?_
    refine W.lcmp hx hb d_MD_header_61 ?_
    refine lv_if_ne (tgt := 67) hx hb d_MD_header_62 (by decide) (fun c_7 => ?_) (fun c_7 => ?_)
    · skip
      rw [lg_cmp_eq] at c_7
      have c_7 : ¬ (nbN fr (q + 20) 4 = 0) := fun h9 => c_7 ((pk_lEQ (a := nbN fr (q + 20) 4) (b := 0) (by omega) (by omega)).mpr h9)
      have hskip : ¬ hdSkip fr q := fun h9 => h9.elim (fun h8 => h8 c_6) c_7
      refine lv_lload hx hb d_MD_header_67 (lv_at hl 2 rfl) ?_
      refine lv_ldc2 (v := 4096) hx hb hown (hts _ wd_550) d_MD_header_69 ?_
      refine lv_lrem hx hb d_MD_header_72 (by decide) ?_
      refine xtopl (y := lN ((nbN fr (q + 8) 4) % 4096)) (pk_lRem (a := nbN fr (q + 8) 4) (b := 4096) (by omega) (by omega) (by omega)) ?_
      refine lv_lconst (v := 0) hx hb d_MD_header_73 (by decide) ?_
      refine W.lcmp hx hb d_MD_header_74 ?_
      refine lv_if_ne (tgt := 104) hx hb d_MD_header_75 (by decide) (fun c_8 => ?_) (fun c_8 => ?_)
      · skip
        rw [lg_cmp_eq] at c_8
        have c_8 : ¬ ((nbN fr (q + 8) 4) % 4096 = 0) := fun h9 => c_8 ((pk_lEQ (a := (nbN fr (q + 8) 4) % 4096) (b := 0) (by omega) (by omega)).mpr h9)
        have hgood : ¬ hdGood fr n en q := fun h9 => absurd (show nbN fr (q + 8) 4 % 4096 = 0 from h9.1) (by omega)
        refine lv_iconst (v := 0) hx hb d_MD_header_104 (by decide) ?_
        refine lv_istore (lv' := [(11, .int 0), (9, .long (lN (nbN fr (q + 20) 4))), (7, .long (lN (nbN fr (q + 16) 4))), (5, .long (lN (nbN fr (q + 8) 4))), (3, .long (lN (nbN fr (q + 4) 4))), (0, .ref (bd 0)), (1, .long (lN q))]) hx hb d_MD_header_105 hl (by decide) rfl (fun ls hl => ?_)
        refine lv_lload hx hb d_MD_header_107 (lv_at hl 2 rfl) ?_
        refine lv_lload hx hb d_MD_header_109 (lv_at hl 1 rfl) ?_
        refine W.lcmp hx hb d_MD_header_111 ?_
        refine lv_if_gt (tgt := 132) hx hb d_MD_header_112 (by decide) (fun c_9 => ?_) (fun c_9 => ?_)
        · skip
          rw [lg_cmp_gt] at c_9
          have c_9 : nbN fr (q + 20) 4 < nbN fr (q + 16) 4 := (pk_lLT (a := nbN fr (q + 20) 4) (b := nbN fr (q + 16) 4) (by omega) (by omega)).mp c_9
          refine lv_iconst (v := 0) hx hb d_MD_header_132 (by decide) ?_
          refine lv_istore (lv' := [(12, .int 0), (11, .int 0), (9, .long (lN (nbN fr (q + 20) 4))), (7, .long (lN (nbN fr (q + 16) 4))), (5, .long (lN (nbN fr (q + 8) 4))), (3, .long (lN (nbN fr (q + 4) 4))), (0, .ref (bd 0)), (1, .long (lN q))]) hx hb d_MD_header_133 hl (by decide) rfl (fun ls hl => ?_)
          refine lv_iload hx hb d_MD_header_135 (lv_at hl 1 rfl) ?_
          refine lv_if_eq (tgt := 145) hx hb d_MD_header_137 (by decide) (fun c_10 => ?_) (fun c_10 => ?_)
          · skip
            refine lv_iconst (v := 0) hx hb d_MD_header_145 (by decide) ?_
            have hw9 : wsM bd cm th n fr a z le wy fo en fF fA fB fS fW sk pg ye ys yt yg yp tk gF gA gB gS gW yk = wsM bd cm th n fr a z le wy ((msStep fr n q (fo, en, fF, fA, fB, fS, fW)).1) ((msStep fr n q (fo, en, fF, fA, fB, fS, fW)).2.1) ((msStep fr n q (fo, en, fF, fA, fB, fS, fW)).2.2.1) ((msStep fr n q (fo, en, fF, fA, fB, fS, fW)).2.2.2.1) ((msStep fr n q (fo, en, fF, fA, fB, fS, fW)).2.2.2.2.1) ((msStep fr n q (fo, en, fF, fA, fB, fS, fW)).2.2.2.2.2.1) ((msStep fr n q (fo, en, fF, fA, fB, fS, fW)).2.2.2.2.2.2) sk pg ye ys yt yg yp tk gF gA gB gS gW yk := by rw [msStep_bad hgood]
            rw [hw9] at hP hD
            exact xreti (v := 0) hx hb hr hlocks hK hP hD hS (rfl) (bI_0 (fun h9 => h9.elim hskip hgood)) d_MD_header_146
          · exact absurd c_10 (by decide)
        · skip
          rw [lg_cmp_gt] at c_9
          have c_9 : ¬ (nbN fr (q + 20) 4 < nbN fr (q + 16) 4) := fun h9 => c_9 ((pk_lLT (a := nbN fr (q + 20) 4) (b := nbN fr (q + 16) 4) (by omega) (by omega)).mpr h9)
          refine lv_lload_n hx hb d_MD_header_115 rfl (lv_at hl 4 rfl) ?_
          refine lv_lload hx hb d_MD_header_116 (lv_at hl 2 rfl) ?_
          refine lv_ladd hx hb d_MD_header_118 ?_
          refine xtopl (y := lN ((nbN fr (q + 4) 4) + (nbN fr (q + 16) 4))) (lN_add (nbN fr (q + 4) 4) (nbN fr (q + 16) 4)) ?_
          refine lv_aload_n hx hb d_MD_header_119 rfl (lv_at hl 5 rfl) ?_
          refine va_get (D := (dC, dI)) (ci := 7) (v := .int (nI n)) (C := R_MD) (T := T_MD) (N := 28) hx hb hts i_MD hown hK hP 0 rfl rfl 1 (by decide) (hts _ wd_393) (fun _ h9 => h9) rfl d_MD_header_120 ?_
          refine lv_i2l hx hb d_MD_header_123 rfl ?_
          refine xtopl (y := lN n) (nI_l (n := n) (by omega)) ?_
          refine W.lcmp hx hb d_MD_header_124 ?_
          refine lv_if_gt (tgt := 132) hx hb d_MD_header_125 (by decide) (fun c_11 => ?_) (fun c_11 => ?_)
          · skip
            rw [lg_cmp_gt] at c_11
            have c_11 : n < (nbN fr (q + 4) 4) + (nbN fr (q + 16) 4) := (pk_lLT (a := n) (b := (nbN fr (q + 4) 4) + (nbN fr (q + 16) 4)) (by omega) (by omega)).mp c_11
            refine lv_iconst (v := 0) hx hb d_MD_header_132 (by decide) ?_
            refine lv_istore (lv' := [(12, .int 0), (11, .int 0), (9, .long (lN (nbN fr (q + 20) 4))), (7, .long (lN (nbN fr (q + 16) 4))), (5, .long (lN (nbN fr (q + 8) 4))), (3, .long (lN (nbN fr (q + 4) 4))), (0, .ref (bd 0)), (1, .long (lN q))]) hx hb d_MD_header_133 hl (by decide) rfl (fun ls hl => ?_)
            refine lv_iload hx hb d_MD_header_135 (lv_at hl 1 rfl) ?_
            refine lv_if_eq (tgt := 145) hx hb d_MD_header_137 (by decide) (fun c_12 => ?_) (fun c_12 => ?_)
            · skip
              refine lv_iconst (v := 0) hx hb d_MD_header_145 (by decide) ?_
              have hw9 : wsM bd cm th n fr a z le wy fo en fF fA fB fS fW sk pg ye ys yt yg yp tk gF gA gB gS gW yk = wsM bd cm th n fr a z le wy ((msStep fr n q (fo, en, fF, fA, fB, fS, fW)).1) ((msStep fr n q (fo, en, fF, fA, fB, fS, fW)).2.1) ((msStep fr n q (fo, en, fF, fA, fB, fS, fW)).2.2.1) ((msStep fr n q (fo, en, fF, fA, fB, fS, fW)).2.2.2.1) ((msStep fr n q (fo, en, fF, fA, fB, fS, fW)).2.2.2.2.1) ((msStep fr n q (fo, en, fF, fA, fB, fS, fW)).2.2.2.2.2.1) ((msStep fr n q (fo, en, fF, fA, fB, fS, fW)).2.2.2.2.2.2) sk pg ye ys yt yg yp tk gF gA gB gS gW yk := by rw [msStep_bad hgood]
              rw [hw9] at hP hD
              exact xreti (v := 0) hx hb hr hlocks hK hP hD hS (rfl) (bI_0 (fun h9 => h9.elim hskip hgood)) d_MD_header_146
            · exact absurd c_12 (by decide)
          · skip
            rw [lg_cmp_gt] at c_11
            have c_11 : ¬ (n < (nbN fr (q + 4) 4) + (nbN fr (q + 16) 4)) := fun h9 => c_11 ((pk_lLT (a := n) (b := (nbN fr (q + 4) 4) + (nbN fr (q + 16) 4)) (by omega) (by omega)).mpr h9)
            refine lv_iconst (v := 1) hx hb d_MD_header_128 (by decide) ?_
            refine lv_goto (tgt := 133) hx hb d_MD_header_129 (by decide) ?_
            refine lv_istore (lv' := [(12, .int 1), (11, .int 0), (9, .long (lN (nbN fr (q + 20) 4))), (7, .long (lN (nbN fr (q + 16) 4))), (5, .long (lN (nbN fr (q + 8) 4))), (3, .long (lN (nbN fr (q + 4) 4))), (0, .ref (bd 0)), (1, .long (lN q))]) hx hb d_MD_header_133 hl (by decide) rfl (fun ls hl => ?_)
            refine lv_iload hx hb d_MD_header_135 (lv_at hl 1 rfl) ?_
            refine lv_if_eq (tgt := 145) hx hb d_MD_header_137 (by decide) (fun c_13 => ?_) (fun c_13 => ?_)
            · skip
              refine lv_iconst (v := 0) hx hb d_MD_header_145 (by decide) ?_
              have hw9 : wsM bd cm th n fr a z le wy fo en fF fA fB fS fW sk pg ye ys yt yg yp tk gF gA gB gS gW yk = wsM bd cm th n fr a z le wy ((msStep fr n q (fo, en, fF, fA, fB, fS, fW)).1) ((msStep fr n q (fo, en, fF, fA, fB, fS, fW)).2.1) ((msStep fr n q (fo, en, fF, fA, fB, fS, fW)).2.2.1) ((msStep fr n q (fo, en, fF, fA, fB, fS, fW)).2.2.2.1) ((msStep fr n q (fo, en, fF, fA, fB, fS, fW)).2.2.2.2.1) ((msStep fr n q (fo, en, fF, fA, fB, fS, fW)).2.2.2.2.2.1) ((msStep fr n q (fo, en, fF, fA, fB, fS, fW)).2.2.2.2.2.2) sk pg ye ys yt yg yp tk gF gA gB gS gW yk := by rw [msStep_bad hgood]
              rw [hw9] at hP hD
              exact xreti (v := 0) hx hb hr hlocks hK hP hD hS (rfl) (bI_0 (fun h9 => h9.elim hskip hgood)) d_MD_header_146
            · exact absurd c_13 (by decide)
      · skip
        rw [lg_cmp_eq] at c_8
        have c_8 : (nbN fr (q + 8) 4) % 4096 = 0 := (pk_lEQ (a := (nbN fr (q + 8) 4) % 4096) (b := 0) (by omega) (by omega)).mp c_8
        refine lv_lload hx hb d_MD_header_78 (lv_at hl 2 rfl) ?_
        refine lv_aload_n hx hb d_MD_header_80 rfl (lv_at hl 4 rfl) ?_
        refine va_get (D := (dC, dI)) (ci := 7) (v := .long (lN en)) (C := R_MD) (T := T_MD) (N := 28) hx hb hts i_MD hown hK hP 0 rfl rfl 8 (by decide) (hts _ wd_400) (fun _ h9 => h9) rfl d_MD_header_81 ?_
        refine W.lcmp hx hb d_MD_header_84 ?_
        refine lv_if_lt (tgt := 104) hx hb d_MD_header_85 (by decide) (fun c_14 => ?_) (fun c_14 => ?_)
        · skip
          rw [lg_cmp_lt] at c_14
          have c_14 : nbN fr (q + 8) 4 < en := (pk_lLT (a := nbN fr (q + 8) 4) (b := en) (by omega) (by omega)).mp c_14
          have hgood : ¬ hdGood fr n en q := fun h9 => absurd (show en ≤ nbN fr (q + 8) 4 from h9.2.1) (by omega)
          refine lv_iconst (v := 0) hx hb d_MD_header_104 (by decide) ?_
          refine lv_istore (lv' := [(11, .int 0), (9, .long (lN (nbN fr (q + 20) 4))), (7, .long (lN (nbN fr (q + 16) 4))), (5, .long (lN (nbN fr (q + 8) 4))), (3, .long (lN (nbN fr (q + 4) 4))), (0, .ref (bd 0)), (1, .long (lN q))]) hx hb d_MD_header_105 hl (by decide) rfl (fun ls hl => ?_)
          refine lv_lload hx hb d_MD_header_107 (lv_at hl 2 rfl) ?_
          refine lv_lload hx hb d_MD_header_109 (lv_at hl 1 rfl) ?_
          refine W.lcmp hx hb d_MD_header_111 ?_
          refine lv_if_gt (tgt := 132) hx hb d_MD_header_112 (by decide) (fun c_15 => ?_) (fun c_15 => ?_)
          · skip
            rw [lg_cmp_gt] at c_15
            have c_15 : nbN fr (q + 20) 4 < nbN fr (q + 16) 4 := (pk_lLT (a := nbN fr (q + 20) 4) (b := nbN fr (q + 16) 4) (by omega) (by omega)).mp c_15
            refine lv_iconst (v := 0) hx hb d_MD_header_132 (by decide) ?_
            refine lv_istore (lv' := [(12, .int 0), (11, .int 0), (9, .long (lN (nbN fr (q + 20) 4))), (7, .long (lN (nbN fr (q + 16) 4))), (5, .long (lN (nbN fr (q + 8) 4))), (3, .long (lN (nbN fr (q + 4) 4))), (0, .ref (bd 0)), (1, .long (lN q))]) hx hb d_MD_header_133 hl (by decide) rfl (fun ls hl => ?_)
            refine lv_iload hx hb d_MD_header_135 (lv_at hl 1 rfl) ?_
            refine lv_if_eq (tgt := 145) hx hb d_MD_header_137 (by decide) (fun c_16 => ?_) (fun c_16 => ?_)
            · skip
              refine lv_iconst (v := 0) hx hb d_MD_header_145 (by decide) ?_
              have hw9 : wsM bd cm th n fr a z le wy fo en fF fA fB fS fW sk pg ye ys yt yg yp tk gF gA gB gS gW yk = wsM bd cm th n fr a z le wy ((msStep fr n q (fo, en, fF, fA, fB, fS, fW)).1) ((msStep fr n q (fo, en, fF, fA, fB, fS, fW)).2.1) ((msStep fr n q (fo, en, fF, fA, fB, fS, fW)).2.2.1) ((msStep fr n q (fo, en, fF, fA, fB, fS, fW)).2.2.2.1) ((msStep fr n q (fo, en, fF, fA, fB, fS, fW)).2.2.2.2.1) ((msStep fr n q (fo, en, fF, fA, fB, fS, fW)).2.2.2.2.2.1) ((msStep fr n q (fo, en, fF, fA, fB, fS, fW)).2.2.2.2.2.2) sk pg ye ys yt yg yp tk gF gA gB gS gW yk := by rw [msStep_bad hgood]
              rw [hw9] at hP hD
              exact xreti (v := 0) hx hb hr hlocks hK hP hD hS (rfl) (bI_0 (fun h9 => h9.elim hskip hgood)) d_MD_header_146
            · exact absurd c_16 (by decide)
          · skip
            rw [lg_cmp_gt] at c_15
            have c_15 : ¬ (nbN fr (q + 20) 4 < nbN fr (q + 16) 4) := fun h9 => c_15 ((pk_lLT (a := nbN fr (q + 20) 4) (b := nbN fr (q + 16) 4) (by omega) (by omega)).mpr h9)
            refine lv_lload_n hx hb d_MD_header_115 rfl (lv_at hl 4 rfl) ?_
            refine lv_lload hx hb d_MD_header_116 (lv_at hl 2 rfl) ?_
            refine lv_ladd hx hb d_MD_header_118 ?_
            refine xtopl (y := lN ((nbN fr (q + 4) 4) + (nbN fr (q + 16) 4))) (lN_add (nbN fr (q + 4) 4) (nbN fr (q + 16) 4)) ?_
            refine lv_aload_n hx hb d_MD_header_119 rfl (lv_at hl 5 rfl) ?_
            refine va_get (D := (dC, dI)) (ci := 7) (v := .int (nI n)) (C := R_MD) (T := T_MD) (N := 28) hx hb hts i_MD hown hK hP 0 rfl rfl 1 (by decide) (hts _ wd_393) (fun _ h9 => h9) rfl d_MD_header_120 ?_
            refine lv_i2l hx hb d_MD_header_123 rfl ?_
            refine xtopl (y := lN n) (nI_l (n := n) (by omega)) ?_
            refine W.lcmp hx hb d_MD_header_124 ?_
            refine lv_if_gt (tgt := 132) hx hb d_MD_header_125 (by decide) (fun c_17 => ?_) (fun c_17 => ?_)
            · skip
              rw [lg_cmp_gt] at c_17
              have c_17 : n < (nbN fr (q + 4) 4) + (nbN fr (q + 16) 4) := (pk_lLT (a := n) (b := (nbN fr (q + 4) 4) + (nbN fr (q + 16) 4)) (by omega) (by omega)).mp c_17
              refine lv_iconst (v := 0) hx hb d_MD_header_132 (by decide) ?_
              refine lv_istore (lv' := [(12, .int 0), (11, .int 0), (9, .long (lN (nbN fr (q + 20) 4))), (7, .long (lN (nbN fr (q + 16) 4))), (5, .long (lN (nbN fr (q + 8) 4))), (3, .long (lN (nbN fr (q + 4) 4))), (0, .ref (bd 0)), (1, .long (lN q))]) hx hb d_MD_header_133 hl (by decide) rfl (fun ls hl => ?_)
              refine lv_iload hx hb d_MD_header_135 (lv_at hl 1 rfl) ?_
              refine lv_if_eq (tgt := 145) hx hb d_MD_header_137 (by decide) (fun c_18 => ?_) (fun c_18 => ?_)
              · skip
                refine lv_iconst (v := 0) hx hb d_MD_header_145 (by decide) ?_
                have hw9 : wsM bd cm th n fr a z le wy fo en fF fA fB fS fW sk pg ye ys yt yg yp tk gF gA gB gS gW yk = wsM bd cm th n fr a z le wy ((msStep fr n q (fo, en, fF, fA, fB, fS, fW)).1) ((msStep fr n q (fo, en, fF, fA, fB, fS, fW)).2.1) ((msStep fr n q (fo, en, fF, fA, fB, fS, fW)).2.2.1) ((msStep fr n q (fo, en, fF, fA, fB, fS, fW)).2.2.2.1) ((msStep fr n q (fo, en, fF, fA, fB, fS, fW)).2.2.2.2.1) ((msStep fr n q (fo, en, fF, fA, fB, fS, fW)).2.2.2.2.2.1) ((msStep fr n q (fo, en, fF, fA, fB, fS, fW)).2.2.2.2.2.2) sk pg ye ys yt yg yp tk gF gA gB gS gW yk := by rw [msStep_bad hgood]
                rw [hw9] at hP hD
                exact xreti (v := 0) hx hb hr hlocks hK hP hD hS (rfl) (bI_0 (fun h9 => h9.elim hskip hgood)) d_MD_header_146
              · exact absurd c_18 (by decide)
            · skip
              rw [lg_cmp_gt] at c_17
              have c_17 : ¬ (n < (nbN fr (q + 4) 4) + (nbN fr (q + 16) 4)) := fun h9 => c_17 ((pk_lLT (a := n) (b := (nbN fr (q + 4) 4) + (nbN fr (q + 16) 4)) (by omega) (by omega)).mpr h9)
              refine lv_iconst (v := 1) hx hb d_MD_header_128 (by decide) ?_
              refine lv_goto (tgt := 133) hx hb d_MD_header_129 (by decide) ?_
              refine lv_istore (lv' := [(12, .int 1), (11, .int 0), (9, .long (lN (nbN fr (q + 20) 4))), (7, .long (lN (nbN fr (q + 16) 4))), (5, .long (lN (nbN fr (q + 8) 4))), (3, .long (lN (nbN fr (q + 4) 4))), (0, .ref (bd 0)), (1, .long (lN q))]) hx hb d_MD_header_133 hl (by decide) rfl (fun ls hl => ?_)
              refine lv_iload hx hb d_MD_header_135 (lv_at hl 1 rfl) ?_
              refine lv_if_eq (tgt := 145) hx hb d_MD_header_137 (by decide) (fun c_19 => ?_) (fun c_19 => ?_)
              · skip
                refine lv_iconst (v := 0) hx hb d_MD_header_145 (by decide) ?_
                have hw9 : wsM bd cm th n fr a z le wy fo en fF fA fB fS fW sk pg ye ys yt yg yp tk gF gA gB gS gW yk = wsM bd cm th n fr a z le wy ((msStep fr n q (fo, en, fF, fA, fB, fS, fW)).1) ((msStep fr n q (fo, en, fF, fA, fB, fS, fW)).2.1) ((msStep fr n q (fo, en, fF, fA, fB, fS, fW)).2.2.1) ((msStep fr n q (fo, en, fF, fA, fB, fS, fW)).2.2.2.1) ((msStep fr n q (fo, en, fF, fA, fB, fS, fW)).2.2.2.2.1) ((msStep fr n q (fo, en, fF, fA, fB, fS, fW)).2.2.2.2.2.1) ((msStep fr n q (fo, en, fF, fA, fB, fS, fW)).2.2.2.2.2.2) sk pg ye ys yt yg yp tk gF gA gB gS gW yk := by rw [msStep_bad hgood]
                rw [hw9] at hP hD
                exact xreti (v := 0) hx hb hr hlocks hK hP hD hS (rfl) (bI_0 (fun h9 => h9.elim hskip hgood)) d_MD_header_146
              · exact absurd c_19 (by decide)
        · skip
          rw [lg_cmp_lt] at c_14
          have c_14 : ¬ (nbN fr (q + 8) 4 < en) := fun h9 => c_14 ((pk_lLT (a := nbN fr (q + 8) 4) (b := en) (by omega) (by omega)).mpr h9)
          refine lv_lload hx hb d_MD_header_88 (lv_at hl 2 rfl) ?_
          refine lv_lload hx hb d_MD_header_90 (lv_at hl 0 rfl) ?_
          refine lv_ladd hx hb d_MD_header_92 ?_
          refine xtopl (y := lN ((nbN fr (q + 8) 4) + (nbN fr (q + 20) 4))) (lN_add (nbN fr (q + 8) 4) (nbN fr (q + 20) 4)) ?_
          refine lv_ldc2 (v := 1073733632) hx hb hown (hts _ wd_551) d_MD_header_93 ?_
          refine W.lcmp hx hb d_MD_header_96 ?_
          refine lv_if_gt (tgt := 104) hx hb d_MD_header_97 (by decide) (fun c_20 => ?_) (fun c_20 => ?_)
          · skip
            rw [lg_cmp_gt] at c_20
            have c_20 : 1073733632 < (nbN fr (q + 8) 4) + (nbN fr (q + 20) 4) := (pk_lLT (a := 1073733632) (b := (nbN fr (q + 8) 4) + (nbN fr (q + 20) 4)) (by omega) (by omega)).mp c_20
            have hgood : ¬ hdGood fr n en q := fun h9 => absurd (show nbN fr (q + 8) 4 + nbN fr (q + 20) 4 ≤ 1073733632 from h9.2.2.1) (by omega)
            refine lv_iconst (v := 0) hx hb d_MD_header_104 (by decide) ?_
            refine lv_istore (lv' := [(11, .int 0), (9, .long (lN (nbN fr (q + 20) 4))), (7, .long (lN (nbN fr (q + 16) 4))), (5, .long (lN (nbN fr (q + 8) 4))), (3, .long (lN (nbN fr (q + 4) 4))), (0, .ref (bd 0)), (1, .long (lN q))]) hx hb d_MD_header_105 hl (by decide) rfl (fun ls hl => ?_)
            refine lv_lload hx hb d_MD_header_107 (lv_at hl 2 rfl) ?_
            refine lv_lload hx hb d_MD_header_109 (lv_at hl 1 rfl) ?_
            refine W.lcmp hx hb d_MD_header_111 ?_
            refine lv_if_gt (tgt := 132) hx hb d_MD_header_112 (by decide) (fun c_21 => ?_) (fun c_21 => ?_)
            · skip
              rw [lg_cmp_gt] at c_21
              have c_21 : nbN fr (q + 20) 4 < nbN fr (q + 16) 4 := (pk_lLT (a := nbN fr (q + 20) 4) (b := nbN fr (q + 16) 4) (by omega) (by omega)).mp c_21
              refine lv_iconst (v := 0) hx hb d_MD_header_132 (by decide) ?_
              refine lv_istore (lv' := [(12, .int 0), (11, .int 0), (9, .long (lN (nbN fr (q + 20) 4))), (7, .long (lN (nbN fr (q + 16) 4))), (5, .long (lN (nbN fr (q + 8) 4))), (3, .long (lN (nbN fr (q + 4) 4))), (0, .ref (bd 0)), (1, .long (lN q))]) hx hb d_MD_header_133 hl (by decide) rfl (fun ls hl => ?_)
              refine lv_iload hx hb d_MD_header_135 (lv_at hl 1 rfl) ?_
              refine lv_if_eq (tgt := 145) hx hb d_MD_header_137 (by decide) (fun c_22 => ?_) (fun c_22 => ?_)
              · skip
                refine lv_iconst (v := 0) hx hb d_MD_header_145 (by decide) ?_
                have hw9 : wsM bd cm th n fr a z le wy fo en fF fA fB fS fW sk pg ye ys yt yg yp tk gF gA gB gS gW yk = wsM bd cm th n fr a z le wy ((msStep fr n q (fo, en, fF, fA, fB, fS, fW)).1) ((msStep fr n q (fo, en, fF, fA, fB, fS, fW)).2.1) ((msStep fr n q (fo, en, fF, fA, fB, fS, fW)).2.2.1) ((msStep fr n q (fo, en, fF, fA, fB, fS, fW)).2.2.2.1) ((msStep fr n q (fo, en, fF, fA, fB, fS, fW)).2.2.2.2.1) ((msStep fr n q (fo, en, fF, fA, fB, fS, fW)).2.2.2.2.2.1) ((msStep fr n q (fo, en, fF, fA, fB, fS, fW)).2.2.2.2.2.2) sk pg ye ys yt yg yp tk gF gA gB gS gW yk := by rw [msStep_bad hgood]
                rw [hw9] at hP hD
                exact xreti (v := 0) hx hb hr hlocks hK hP hD hS (rfl) (bI_0 (fun h9 => h9.elim hskip hgood)) d_MD_header_146
              · exact absurd c_22 (by decide)
            · skip
              rw [lg_cmp_gt] at c_21
              have c_21 : ¬ (nbN fr (q + 20) 4 < nbN fr (q + 16) 4) := fun h9 => c_21 ((pk_lLT (a := nbN fr (q + 20) 4) (b := nbN fr (q + 16) 4) (by omega) (by omega)).mpr h9)
              refine lv_lload_n hx hb d_MD_header_115 rfl (lv_at hl 4 rfl) ?_
              refine lv_lload hx hb d_MD_header_116 (lv_at hl 2 rfl) ?_
              refine lv_ladd hx hb d_MD_header_118 ?_
              refine xtopl (y := lN ((nbN fr (q + 4) 4) + (nbN fr (q + 16) 4))) (lN_add (nbN fr (q + 4) 4) (nbN fr (q + 16) 4)) ?_
              refine lv_aload_n hx hb d_MD_header_119 rfl (lv_at hl 5 rfl) ?_
              refine va_get (D := (dC, dI)) (ci := 7) (v := .int (nI n)) (C := R_MD) (T := T_MD) (N := 28) hx hb hts i_MD hown hK hP 0 rfl rfl 1 (by decide) (hts _ wd_393) (fun _ h9 => h9) rfl d_MD_header_120 ?_
              refine lv_i2l hx hb d_MD_header_123 rfl ?_
              refine xtopl (y := lN n) (nI_l (n := n) (by omega)) ?_
              refine W.lcmp hx hb d_MD_header_124 ?_
              refine lv_if_gt (tgt := 132) hx hb d_MD_header_125 (by decide) (fun c_23 => ?_) (fun c_23 => ?_)
              · skip
                rw [lg_cmp_gt] at c_23
                have c_23 : n < (nbN fr (q + 4) 4) + (nbN fr (q + 16) 4) := (pk_lLT (a := n) (b := (nbN fr (q + 4) 4) + (nbN fr (q + 16) 4)) (by omega) (by omega)).mp c_23
                refine lv_iconst (v := 0) hx hb d_MD_header_132 (by decide) ?_
                refine lv_istore (lv' := [(12, .int 0), (11, .int 0), (9, .long (lN (nbN fr (q + 20) 4))), (7, .long (lN (nbN fr (q + 16) 4))), (5, .long (lN (nbN fr (q + 8) 4))), (3, .long (lN (nbN fr (q + 4) 4))), (0, .ref (bd 0)), (1, .long (lN q))]) hx hb d_MD_header_133 hl (by decide) rfl (fun ls hl => ?_)
                refine lv_iload hx hb d_MD_header_135 (lv_at hl 1 rfl) ?_
                refine lv_if_eq (tgt := 145) hx hb d_MD_header_137 (by decide) (fun c_24 => ?_) (fun c_24 => ?_)
                · skip
                  refine lv_iconst (v := 0) hx hb d_MD_header_145 (by decide) ?_
                  have hw9 : wsM bd cm th n fr a z le wy fo en fF fA fB fS fW sk pg ye ys yt yg yp tk gF gA gB gS gW yk = wsM bd cm th n fr a z le wy ((msStep fr n q (fo, en, fF, fA, fB, fS, fW)).1) ((msStep fr n q (fo, en, fF, fA, fB, fS, fW)).2.1) ((msStep fr n q (fo, en, fF, fA, fB, fS, fW)).2.2.1) ((msStep fr n q (fo, en, fF, fA, fB, fS, fW)).2.2.2.1) ((msStep fr n q (fo, en, fF, fA, fB, fS, fW)).2.2.2.2.1) ((msStep fr n q (fo, en, fF, fA, fB, fS, fW)).2.2.2.2.2.1) ((msStep fr n q (fo, en, fF, fA, fB, fS, fW)).2.2.2.2.2.2) sk pg ye ys yt yg yp tk gF gA gB gS gW yk := by rw [msStep_bad hgood]
                  rw [hw9] at hP hD
                  exact xreti (v := 0) hx hb hr hlocks hK hP hD hS (rfl) (bI_0 (fun h9 => h9.elim hskip hgood)) d_MD_header_146
                · exact absurd c_24 (by decide)
              · skip
                rw [lg_cmp_gt] at c_23
                have c_23 : ¬ (n < (nbN fr (q + 4) 4) + (nbN fr (q + 16) 4)) := fun h9 => c_23 ((pk_lLT (a := n) (b := (nbN fr (q + 4) 4) + (nbN fr (q + 16) 4)) (by omega) (by omega)).mpr h9)
                refine lv_iconst (v := 1) hx hb d_MD_header_128 (by decide) ?_
                refine lv_goto (tgt := 133) hx hb d_MD_header_129 (by decide) ?_
                refine lv_istore (lv' := [(12, .int 1), (11, .int 0), (9, .long (lN (nbN fr (q + 20) 4))), (7, .long (lN (nbN fr (q + 16) 4))), (5, .long (lN (nbN fr (q + 8) 4))), (3, .long (lN (nbN fr (q + 4) 4))), (0, .ref (bd 0)), (1, .long (lN q))]) hx hb d_MD_header_133 hl (by decide) rfl (fun ls hl => ?_)
                refine lv_iload hx hb d_MD_header_135 (lv_at hl 1 rfl) ?_
                refine lv_if_eq (tgt := 145) hx hb d_MD_header_137 (by decide) (fun c_25 => ?_) (fun c_25 => ?_)
                · skip
                  refine lv_iconst (v := 0) hx hb d_MD_header_145 (by decide) ?_
                  have hw9 : wsM bd cm th n fr a z le wy fo en fF fA fB fS fW sk pg ye ys yt yg yp tk gF gA gB gS gW yk = wsM bd cm th n fr a z le wy ((msStep fr n q (fo, en, fF, fA, fB, fS, fW)).1) ((msStep fr n q (fo, en, fF, fA, fB, fS, fW)).2.1) ((msStep fr n q (fo, en, fF, fA, fB, fS, fW)).2.2.1) ((msStep fr n q (fo, en, fF, fA, fB, fS, fW)).2.2.2.1) ((msStep fr n q (fo, en, fF, fA, fB, fS, fW)).2.2.2.2.1) ((msStep fr n q (fo, en, fF, fA, fB, fS, fW)).2.2.2.2.2.1) ((msStep fr n q (fo, en, fF, fA, fB, fS, fW)).2.2.2.2.2.2) sk pg ye ys yt yg yp tk gF gA gB gS gW yk := by rw [msStep_bad hgood]
                  rw [hw9] at hP hD
                  exact xreti (v := 0) hx hb hr hlocks hK hP hD hS (rfl) (bI_0 (fun h9 => h9.elim hskip hgood)) d_MD_header_146
                · exact absurd c_25 (by decide)
          · skip
            rw [lg_cmp_gt] at c_20
            have c_20 : ¬ (1073733632 < (nbN fr (q + 8) 4) + (nbN fr (q + 20) 4)) := fun h9 => c_20 ((pk_lLT (a := 1073733632) (b := (nbN fr (q + 8) 4) + (nbN fr (q + 20) 4)) (by omega) (by omega)).mpr h9)
            refine lv_iconst (v := 1) hx hb d_MD_header_100 (by decide) ?_
            refine lv_goto (tgt := 105) hx hb d_MD_header_101 (by decide) ?_
            refine lv_istore (lv' := [(11, .int 1), (9, .long (lN (nbN fr (q + 20) 4))), (7, .long (lN (nbN fr (q + 16) 4))), (5, .long (lN (nbN fr (q + 8) 4))), (3, .long (lN (nbN fr (q + 4) 4))), (0, .ref (bd 0)), (1, .long (lN q))]) hx hb d_MD_header_105 hl (by decide) rfl (fun ls hl => ?_)
            refine lv_lload hx hb d_MD_header_107 (lv_at hl 2 rfl) ?_
            refine lv_lload hx hb d_MD_header_109 (lv_at hl 1 rfl) ?_
            refine W.lcmp hx hb d_MD_header_111 ?_
            refine lv_if_gt (tgt := 132) hx hb d_MD_header_112 (by decide) (fun c_26 => ?_) (fun c_26 => ?_)
            · skip
              rw [lg_cmp_gt] at c_26
              have c_26 : nbN fr (q + 20) 4 < nbN fr (q + 16) 4 := (pk_lLT (a := nbN fr (q + 20) 4) (b := nbN fr (q + 16) 4) (by omega) (by omega)).mp c_26
              have hgood : ¬ hdGood fr n en q := fun h9 => absurd (show nbN fr (q + 16) 4 ≤ nbN fr (q + 20) 4 from h9.2.2.2.1) (by omega)
              refine lv_iconst (v := 0) hx hb d_MD_header_132 (by decide) ?_
              refine lv_istore (lv' := [(12, .int 0), (11, .int 1), (9, .long (lN (nbN fr (q + 20) 4))), (7, .long (lN (nbN fr (q + 16) 4))), (5, .long (lN (nbN fr (q + 8) 4))), (3, .long (lN (nbN fr (q + 4) 4))), (0, .ref (bd 0)), (1, .long (lN q))]) hx hb d_MD_header_133 hl (by decide) rfl (fun ls hl => ?_)
              refine lv_iload hx hb d_MD_header_135 (lv_at hl 1 rfl) ?_
              refine lv_if_eq (tgt := 145) hx hb d_MD_header_137 (by decide) (fun c_27 => ?_) (fun c_27 => ?_)
              · exact absurd c_27 (by decide)
              · skip
                refine lv_iload hx hb d_MD_header_140 (lv_at hl 0 rfl) ?_
                refine lv_if_ne (tgt := 147) hx hb d_MD_header_142 (by decide) (fun c_28 => ?_) (fun c_28 => ?_)
                · exact absurd c_28 (by decide)
                · skip
                  refine lv_iconst (v := 0) hx hb d_MD_header_145 (by decide) ?_
                  have hw9 : wsM bd cm th n fr a z le wy fo en fF fA fB fS fW sk pg ye ys yt yg yp tk gF gA gB gS gW yk = wsM bd cm th n fr a z le wy ((msStep fr n q (fo, en, fF, fA, fB, fS, fW)).1) ((msStep fr n q (fo, en, fF, fA, fB, fS, fW)).2.1) ((msStep fr n q (fo, en, fF, fA, fB, fS, fW)).2.2.1) ((msStep fr n q (fo, en, fF, fA, fB, fS, fW)).2.2.2.1) ((msStep fr n q (fo, en, fF, fA, fB, fS, fW)).2.2.2.2.1) ((msStep fr n q (fo, en, fF, fA, fB, fS, fW)).2.2.2.2.2.1) ((msStep fr n q (fo, en, fF, fA, fB, fS, fW)).2.2.2.2.2.2) sk pg ye ys yt yg yp tk gF gA gB gS gW yk := by rw [msStep_bad hgood]
                  rw [hw9] at hP hD
                  exact xreti (v := 0) hx hb hr hlocks hK hP hD hS (rfl) (bI_0 (fun h9 => h9.elim hskip hgood)) d_MD_header_146
            · skip
              rw [lg_cmp_gt] at c_26
              have c_26 : ¬ (nbN fr (q + 20) 4 < nbN fr (q + 16) 4) := fun h9 => c_26 ((pk_lLT (a := nbN fr (q + 20) 4) (b := nbN fr (q + 16) 4) (by omega) (by omega)).mpr h9)
              refine lv_lload_n hx hb d_MD_header_115 rfl (lv_at hl 4 rfl) ?_
              refine lv_lload hx hb d_MD_header_116 (lv_at hl 2 rfl) ?_
              refine lv_ladd hx hb d_MD_header_118 ?_
              refine xtopl (y := lN ((nbN fr (q + 4) 4) + (nbN fr (q + 16) 4))) (lN_add (nbN fr (q + 4) 4) (nbN fr (q + 16) 4)) ?_
              refine lv_aload_n hx hb d_MD_header_119 rfl (lv_at hl 5 rfl) ?_
              refine va_get (D := (dC, dI)) (ci := 7) (v := .int (nI n)) (C := R_MD) (T := T_MD) (N := 28) hx hb hts i_MD hown hK hP 0 rfl rfl 1 (by decide) (hts _ wd_393) (fun _ h9 => h9) rfl d_MD_header_120 ?_
              refine lv_i2l hx hb d_MD_header_123 rfl ?_
              refine xtopl (y := lN n) (nI_l (n := n) (by omega)) ?_
              refine W.lcmp hx hb d_MD_header_124 ?_
              refine lv_if_gt (tgt := 132) hx hb d_MD_header_125 (by decide) (fun c_29 => ?_) (fun c_29 => ?_)
              · skip
                rw [lg_cmp_gt] at c_29
                have c_29 : n < (nbN fr (q + 4) 4) + (nbN fr (q + 16) 4) := (pk_lLT (a := n) (b := (nbN fr (q + 4) 4) + (nbN fr (q + 16) 4)) (by omega) (by omega)).mp c_29
                have hgood : ¬ hdGood fr n en q := fun h9 => absurd (show nbN fr (q + 4) 4 + nbN fr (q + 16) 4 ≤ n from h9.2.2.2.2) (by omega)
                refine lv_iconst (v := 0) hx hb d_MD_header_132 (by decide) ?_
                refine lv_istore (lv' := [(12, .int 0), (11, .int 1), (9, .long (lN (nbN fr (q + 20) 4))), (7, .long (lN (nbN fr (q + 16) 4))), (5, .long (lN (nbN fr (q + 8) 4))), (3, .long (lN (nbN fr (q + 4) 4))), (0, .ref (bd 0)), (1, .long (lN q))]) hx hb d_MD_header_133 hl (by decide) rfl (fun ls hl => ?_)
                refine lv_iload hx hb d_MD_header_135 (lv_at hl 1 rfl) ?_
                refine lv_if_eq (tgt := 145) hx hb d_MD_header_137 (by decide) (fun c_30 => ?_) (fun c_30 => ?_)
                · exact absurd c_30 (by decide)
                · skip
                  refine lv_iload hx hb d_MD_header_140 (lv_at hl 0 rfl) ?_
                  refine lv_if_ne (tgt := 147) hx hb d_MD_header_142 (by decide) (fun c_31 => ?_) (fun c_31 => ?_)
                  · exact absurd c_31 (by decide)
                  · skip
                    refine lv_iconst (v := 0) hx hb d_MD_header_145 (by decide) ?_
                    have hw9 : wsM bd cm th n fr a z le wy fo en fF fA fB fS fW sk pg ye ys yt yg yp tk gF gA gB gS gW yk = wsM bd cm th n fr a z le wy ((msStep fr n q (fo, en, fF, fA, fB, fS, fW)).1) ((msStep fr n q (fo, en, fF, fA, fB, fS, fW)).2.1) ((msStep fr n q (fo, en, fF, fA, fB, fS, fW)).2.2.1) ((msStep fr n q (fo, en, fF, fA, fB, fS, fW)).2.2.2.1) ((msStep fr n q (fo, en, fF, fA, fB, fS, fW)).2.2.2.2.1) ((msStep fr n q (fo, en, fF, fA, fB, fS, fW)).2.2.2.2.2.1) ((msStep fr n q (fo, en, fF, fA, fB, fS, fW)).2.2.2.2.2.2) sk pg ye ys yt yg yp tk gF gA gB gS gW yk := by rw [msStep_bad hgood]
                    rw [hw9] at hP hD
                    exact xreti (v := 0) hx hb hr hlocks hK hP hD hS (rfl) (bI_0 (fun h9 => h9.elim hskip hgood)) d_MD_header_146
              · skip
                rw [lg_cmp_gt] at c_29
                have c_29 : ¬ (n < (nbN fr (q + 4) 4) + (nbN fr (q + 16) 4)) := fun h9 => c_29 ((pk_lLT (a := n) (b := (nbN fr (q + 4) 4) + (nbN fr (q + 16) 4)) (by omega) (by omega)).mpr h9)
                have hgood : hdGood fr n en q := ⟨by show nbN fr (q + 8) 4 % 4096 = 0; omega, by show en ≤ nbN fr (q + 8) 4; omega, by show nbN fr (q + 8) 4 + nbN fr (q + 20) 4 ≤ 1073733632; omega, by show nbN fr (q + 16) 4 ≤ nbN fr (q + 20) 4; omega, by show nbN fr (q + 4) 4 + nbN fr (q + 16) 4 ≤ n; omega⟩
                refine lv_iconst (v := 1) hx hb d_MD_header_128 (by decide) ?_
                refine lv_goto (tgt := 133) hx hb d_MD_header_129 (by decide) ?_
                refine lv_istore (lv' := [(12, .int 1), (11, .int 1), (9, .long (lN (nbN fr (q + 20) 4))), (7, .long (lN (nbN fr (q + 16) 4))), (5, .long (lN (nbN fr (q + 8) 4))), (3, .long (lN (nbN fr (q + 4) 4))), (0, .ref (bd 0)), (1, .long (lN q))]) hx hb d_MD_header_133 hl (by decide) rfl (fun ls hl => ?_)
                refine lv_iload hx hb d_MD_header_135 (lv_at hl 1 rfl) ?_
                refine lv_if_eq (tgt := 145) hx hb d_MD_header_137 (by decide) (fun c_32 => ?_) (fun c_32 => ?_)
                · exact absurd c_32 (by decide)
                · skip
                  refine lv_iload hx hb d_MD_header_140 (lv_at hl 0 rfl) ?_
                  refine lv_if_ne (tgt := 147) hx hb d_MD_header_142 (by decide) (fun c_33 => ?_) (fun c_33 => ?_)
                  · skip
                    refine lv_aload_n hx hb d_MD_header_147 rfl (lv_at hl 6 rfl) ?_
                    refine va_get (D := (dC, dI)) (ci := 7) (v := .ref (bd 4)) (C := R_MD) (T := T_MD) (N := 28) hx hb hts i_MD hown hK hP 0 rfl rfl 9 (by decide) (hts _ wd_401) (fun _ h9 => h9) rfl d_MD_header_148 ?_
                    refine lv_aload_n hx hb d_MD_header_151 rfl (lv_at hl 6 rfl) ?_
                    refine va_get (D := (dC, dI)) (ci := 7) (v := .int (nI fo)) (C := R_MD) (T := T_MD) (N := 28) hx hb hts i_MD hown hK hP 0 rfl rfl 7 (by decide) (hts _ wd_399) (fun _ h9 => h9) rfl d_MD_header_152 ?_
                    refine lv_lload_n hx hb d_MD_header_155 rfl (lv_at hl 5 rfl) ?_
                    refine lv_l2i hx hb d_MD_header_156 rfl ?_
                    refine xtopi (y := nI (nbN fr (q + 4) 4)) (lN_i (nbN fr (q + 4) 4)) ?_
                    refine xiast (k := fo) (ws1 := wsM bd cm th n fr a z le wy fo en (upn fF fo (nbN fr (q + 4) 4)) fA fB fS fW sk pg ye ys yt yg yp tk gF gA gB gS gW yk) hx hb hK hP hD hS 4 1 rfl rfl (rfl) (by omega) (by decide) wsM_put_fF d_MD_header_157 (fun H locs hP hD hS => ?_)
                    refine lv_aload_n hx hb d_MD_header_158 rfl (lv_at hl 6 rfl) ?_
                    refine va_get (D := (dC, dI)) (ci := 7) (v := .ref (bd 5)) (C := R_MD) (T := T_MD) (N := 28) hx hb hts i_MD hown hK hP 0 rfl rfl 10 (by decide) (hts _ wd_402) (fun _ h9 => h9) rfl d_MD_header_159 ?_
                    refine lv_aload_n hx hb d_MD_header_162 rfl (lv_at hl 6 rfl) ?_
                    refine va_get (D := (dC, dI)) (ci := 7) (v := .int (nI fo)) (C := R_MD) (T := T_MD) (N := 28) hx hb hts i_MD hown hK hP 0 rfl rfl 7 (by decide) (hts _ wd_399) (fun _ h9 => h9) rfl d_MD_header_163 ?_
                    refine lv_lload hx hb d_MD_header_166 (lv_at hl 4 rfl) ?_
                    refine lv_l2i hx hb d_MD_header_168 rfl ?_
                    refine xtopi (y := nI (nbN fr (q + 8) 4)) (lN_i (nbN fr (q + 8) 4)) ?_
                    refine xiast (k := fo) (ws1 := wsM bd cm th n fr a z le wy fo en (upn fF fo (nbN fr (q + 4) 4)) (upn fA fo (nbN fr (q + 8) 4)) fB fS fW sk pg ye ys yt yg yp tk gF gA gB gS gW yk) hx hb hK hP hD hS 5 1 rfl rfl (rfl) (by omega) (by decide) wsM_put_fA d_MD_header_169 (fun H locs hP hD hS => ?_)
                    refine lv_aload_n hx hb d_MD_header_170 rfl (lv_at hl 6 rfl) ?_
                    refine va_get (D := (dC, dI)) (ci := 7) (v := .ref (bd 6)) (C := R_MD) (T := T_MD) (N := 28) hx hb hts i_MD hown hK hP 0 rfl rfl 11 (by decide) (hts _ wd_403) (fun _ h9 => h9) rfl d_MD_header_171 ?_
                    refine lv_aload_n hx hb d_MD_header_174 rfl (lv_at hl 6 rfl) ?_
                    refine va_get (D := (dC, dI)) (ci := 7) (v := .int (nI fo)) (C := R_MD) (T := T_MD) (N := 28) hx hb hts i_MD hown hK hP 0 rfl rfl 7 (by decide) (hts _ wd_399) (fun _ h9 => h9) rfl d_MD_header_175 ?_
                    refine lv_lload hx hb d_MD_header_178 (lv_at hl 3 rfl) ?_
                    refine lv_l2i hx hb d_MD_header_180 rfl ?_
                    refine xtopi (y := nI (nbN fr (q + 16) 4)) (lN_i (nbN fr (q + 16) 4)) ?_
                    refine xiast (k := fo) (ws1 := wsM bd cm th n fr a z le wy fo en (upn fF fo (nbN fr (q + 4) 4)) (upn fA fo (nbN fr (q + 8) 4)) (upn fB fo (nbN fr (q + 16) 4)) fS fW sk pg ye ys yt yg yp tk gF gA gB gS gW yk) hx hb hK hP hD hS 6 1 rfl rfl (rfl) (by omega) (by decide) wsM_put_fB d_MD_header_181 (fun H locs hP hD hS => ?_)
                    refine lv_aload_n hx hb d_MD_header_182 rfl (lv_at hl 6 rfl) ?_
                    refine va_get (D := (dC, dI)) (ci := 7) (v := .ref (bd 7)) (C := R_MD) (T := T_MD) (N := 28) hx hb hts i_MD hown hK hP 0 rfl rfl 12 (by decide) (hts _ wd_404) (fun _ h9 => h9) rfl d_MD_header_183 ?_
                    refine lv_aload_n hx hb d_MD_header_186 rfl (lv_at hl 6 rfl) ?_
                    refine va_get (D := (dC, dI)) (ci := 7) (v := .int (nI fo)) (C := R_MD) (T := T_MD) (N := 28) hx hb hts i_MD hown hK hP 0 rfl rfl 7 (by decide) (hts _ wd_399) (fun _ h9 => h9) rfl d_MD_header_187 ?_
                    refine lv_lload hx hb d_MD_header_190 (lv_at hl 2 rfl) ?_
                    refine lv_l2i hx hb d_MD_header_192 rfl ?_
                    refine xtopi (y := nI (nbN fr (q + 20) 4)) (lN_i (nbN fr (q + 20) 4)) ?_
                    refine xiast (k := fo) (ws1 := wsM bd cm th n fr a z le wy fo en (upn fF fo (nbN fr (q + 4) 4)) (upn fA fo (nbN fr (q + 8) 4)) (upn fB fo (nbN fr (q + 16) 4)) (upn fS fo (nbN fr (q + 20) 4)) fW sk pg ye ys yt yg yp tk gF gA gB gS gW yk) hx hb hK hP hD hS 7 1 rfl rfl (rfl) (by omega) (by decide) wsM_put_fS d_MD_header_193 (fun H locs hP hD hS => ?_)
                    refine lv_aload_n hx hb d_MD_header_194 rfl (lv_at hl 6 rfl) ?_
                    refine lv_lload_n hx hb d_MD_header_195 rfl (lv_at hl 7 rfl) ?_
                    refine lv_ldc2 (v := 24) hx hb hown (hts _ wd_552) d_MD_header_196 ?_
                    refine lv_ladd hx hb d_MD_header_199 ?_
                    refine xtopl (y := lN (q + 24)) (lN_add (q) (24)) ?_
                    refine lv_iconst (v := 4) hx hb d_MD_header_200 (by decide) ?_
                    refine xcalll (va_runV (As := [.long (lN (q + 24)), .int 4]) (rest := []) ⟨hx, hb, hml, hown, hts⟩ (m_number4 l dC dI bd cm th n fr a z le wy fo en (upn fF fo (nbN fr (q + 4) 4)) (upn fA fo (nbN fr (q + 8) 4)) (upn fB fo (nbN fr (q + 16) 4)) (upn fS fo (nbN fr (q + 20) 4)) fW sk pg ye ys yt yg yp tk gF gA gB gS gW yk (q + 24) (by omega) H.size) (cwV 2 hts (xgV wd_523 wd_525 wd_7 wd_22 wd_526) rfl rfl rfl (by decide +kernel) ⟨Nat.le_of_ble_eq_true rfl, Nat.le_of_ble_eq_true rfl⟩) (xpreV (q0 := 0) hK hN hZ hA hS hP hD rfl rfl) rfl rfl hl.1 rfl (lv_room (Nat.le_of_ble_eq_true rfl)) d_MD_header_201 ⟨Nat.zero_le _, Nat.zero_le _⟩) hD hS hA (fun r_34 H locs hr_34 hP hD hS => ?_)
                    subst hr_34
                    refine lv_l2i hx hb d_MD_header_204 rfl ?_
                    refine xtopi (y := nI (nbN fr (q + 24) 4)) (lN_i (nbN fr (q + 24) 4)) ?_
                    refine lv_istore (lv' := [(13, .int (nI (nbN fr (q + 24) 4))), (12, .int 1), (11, .int 1), (9, .long (lN (nbN fr (q + 20) 4))), (7, .long (lN (nbN fr (q + 16) 4))), (5, .long (lN (nbN fr (q + 8) 4))), (3, .long (lN (nbN fr (q + 4) 4))), (0, .ref (bd 0)), (1, .long (lN q))]) hx hb d_MD_header_205 hl (by decide) rfl (fun ls hl => ?_)
                    refine lv_aload_n hx hb d_MD_header_207 rfl (lv_at hl 7 rfl) ?_
                    refine va_get (D := (dC, dI)) (ci := 7) (v := .ref (bd 8)) (C := R_MD) (T := T_MD) (N := 28) hx hb hts i_MD hown hK hP 0 rfl rfl 13 (by decide) (hts _ wd_405) (fun _ h9 => h9) rfl d_MD_header_208 ?_
                    refine lv_aload_n hx hb d_MD_header_211 rfl (lv_at hl 7 rfl) ?_
                    refine va_get (D := (dC, dI)) (ci := 7) (v := .int (nI fo)) (C := R_MD) (T := T_MD) (N := 28) hx hb hts i_MD hown hK hP 0 rfl rfl 7 (by decide) (hts _ wd_399) (fun _ h9 => h9) rfl d_MD_header_212 ?_
                    refine lv_bipush (v := 8) hx hb d_MD_header_215 (by decide) ?_
                    refine lv_iload hx hb d_MD_header_217 (lv_at hl 0 rfl) ?_
                    refine lv_iconst (v := 2) hx hb d_MD_header_219 (by decide) ?_
                    refine lv_ishr hx hb d_MD_header_220 ?_
                    refine lv_iconst (v := 1) hx hb d_MD_header_221 (by decide) ?_
                    refine lv_iand hx hb d_MD_header_222 ?_
                    refine lv_iadd hx hb d_MD_header_223 ?_
                    refine lv_iload hx hb d_MD_header_224 (lv_at hl 0 rfl) ?_
                    refine lv_iconst (v := 2) hx hb d_MD_header_226 (by decide) ?_
                    refine lv_iand hx hb d_MD_header_227 ?_
                    refine lv_iadd hx hb d_MD_header_228 ?_
                    refine lv_iconst (v := 4) hx hb d_MD_header_229 (by decide) ?_
                    refine lv_iload hx hb d_MD_header_230 (lv_at hl 0 rfl) ?_
                    refine lv_iconst (v := 1) hx hb d_MD_header_232 (by decide) ?_
                    refine lv_iand hx hb d_MD_header_233 ?_
                    refine lv_imul hx hb d_MD_header_234 ?_
                    refine lv_iadd hx hb d_MD_header_235 ?_
                    refine xiast (k := fo) (ws1 := wsM bd cm th n fr a z le wy fo en (upn fF fo (nbN fr (q + 4) 4)) (upn fA fo (nbN fr (q + 8) 4)) (upn fB fo (nbN fr (q + 16) 4)) (upn fS fo (nbN fr (q + 20) 4)) (upd fW fo (((8 + (((nI (nbN fr (q + 24) 4)) >>> ((2 : Int32) &&& 31)) &&& 1)) + ((nI (nbN fr (q + 24) 4)) &&& 2)) + (4 * ((nI (nbN fr (q + 24) 4)) &&& 1)))) sk pg ye ys yt yg yp tk gF gA gB gS gW yk) hx hb hK hP hD hS 8 1 rfl rfl (rfl) (by omega) (by decide) rfl d_MD_header_236 (fun H locs hP hD hS => ?_)
                    refine lv_aload_n hx hb d_MD_header_237 rfl (lv_at hl 7 rfl) ?_
                    refine lv_dup hx hb d_MD_header_238 rfl ?_
                    refine va_get (D := (dC, dI)) (ci := 7) (v := .int (nI fo)) (C := R_MD) (T := T_MD) (N := 28) hx hb hts i_MD hown hK hP 0 rfl rfl 7 (by decide) (hts _ wd_399) (fun _ h9 => h9) rfl d_MD_header_239 ?_
                    refine lv_iconst (v := 1) hx hb d_MD_header_242 (by decide) ?_
                    refine lv_iadd hx hb d_MD_header_243 ?_
                    refine xtopi (y := nI (fo + 1)) (nI_add (fo) (1)) ?_
                    refine va_put (D := (dC, dI)) (ci := 7) (v := .int (nI (fo + 1))) (ty := .int) (C := R_MD) (T := T_MD) (N := 28) hx hb hts i_MD t_MD k_MD n_MD hown hK hP hD hS 0 rfl rfl 7 (by decide) (hts _ wd_399) (fun _ h9 => h9) rfl (by decide +kernel) rfl rfl (Nat.le_of_ble_eq_true rfl) d_MD_header_244 (fun H locs hP hD hS => ?_)
                    have hP : va_P (dC, dI) vwCl (wsM bd cm th n fr a z le wy (fo + 1) en (upn fF fo (nbN fr (q + 4) 4)) (upn fA fo (nbN fr (q + 8) 4)) (upn fB fo (nbN fr (q + 16) 4)) (upn fS fo (nbN fr (q + 20) 4)) (upd fW fo (((8 + (((nI (nbN fr (q + 24) 4)) >>> ((2 : Int32) &&& 31)) &&& 1)) + ((nI (nbN fr (q + 24) 4)) &&& 2)) + (4 * ((nI (nbN fr (q + 24) 4)) &&& 1)))) sk pg ye ys yt yg yp tk gF gA gB gS gW yk) H := hP
                    have hD : va_D A (wsM bd cm th n fr a z le wy (fo + 1) en (upn fF fo (nbN fr (q + 4) 4)) (upn fA fo (nbN fr (q + 8) 4)) (upn fB fo (nbN fr (q + 16) 4)) (upn fS fo (nbN fr (q + 20) 4)) (upd fW fo (((8 + (((nI (nbN fr (q + 24) 4)) >>> ((2 : Int32) &&& 31)) &&& 1)) + ((nI (nbN fr (q + 24) 4)) &&& 2)) + (4 * ((nI (nbN fr (q + 24) 4)) &&& 1)))) sk pg ye ys yt yg yp tk gF gA gB gS gW yk) := hD
                    refine lv_aload_n hx hb d_MD_header_247 rfl (lv_at hl 7 rfl) ?_
                    refine lv_lload hx hb d_MD_header_248 (lv_at hl 5 rfl) ?_
                    refine lv_lload hx hb d_MD_header_250 (lv_at hl 3 rfl) ?_
                    refine lv_ladd hx hb d_MD_header_252 ?_
                    refine xtopl (y := lN ((nbN fr (q + 8) 4) + (nbN fr (q + 20) 4))) (lN_add (nbN fr (q + 8) 4) (nbN fr (q + 20) 4)) ?_
                    refine xcalll (va_runS (As := [.long (lN ((nbN fr (q + 8) 4) + (nbN fr (q + 20) 4)))]) (rest := [.ref (bd 0)]) ⟨hx, hb, hml, hown, hts⟩ (m_up l dC dI bd cm th n fr a z le wy (fo + 1) en (upn fF fo (nbN fr (q + 4) 4)) (upn fA fo (nbN fr (q + 8) 4)) (upn fB fo (nbN fr (q + 16) 4)) (upn fS fo (nbN fr (q + 20) 4)) (upd fW fo (((8 + (((nI (nbN fr (q + 24) 4)) >>> ((2 : Int32) &&& 31)) &&& 1)) + ((nI (nbN fr (q + 24) 4)) &&& 2)) + (4 * ((nI (nbN fr (q + 24) 4)) &&& 1)))) sk pg ye ys yt yg yp tk gF gA gB gS gW yk ((nbN fr (q + 8) 4) + (nbN fr (q + 20) 4)) (by omega) H.size) (cwS 1 hts (xgS wd_553 wd_554 wd_22 wd_555) rfl rfl rfl (by decide +kernel) ⟨Nat.le_of_ble_eq_true rfl, Nat.le_of_ble_eq_true rfl⟩) (xpreS hK hN hZ hA hS hP hD) rfl rfl hl.1 rfl (lv_room (Nat.le_of_ble_eq_true rfl)) d_MD_header_253 ⟨Nat.zero_le _, Nat.zero_le _⟩) hD hS hA (fun r_35 H locs hr_35 hP hD hS => ?_)
                    subst hr_35
                    refine va_put (D := (dC, dI)) (ci := 7) (v := .long (lN (((nbN fr (q + 8) 4) + (nbN fr (q + 20) 4) + 4095) / 4096 * 4096))) (ty := .long) (C := R_MD) (T := T_MD) (N := 28) hx hb hts i_MD t_MD k_MD n_MD hown hK hP hD hS 0 rfl rfl 8 (by decide) (hts _ wd_400) (fun _ h9 => h9) rfl (by decide +kernel) rfl rfl (Nat.le_of_ble_eq_true rfl) d_MD_header_256 (fun H locs hP hD hS => ?_)
                    have hP : va_P (dC, dI) vwCl (wsM bd cm th n fr a z le wy (fo + 1) (((nbN fr (q + 8) 4) + (nbN fr (q + 20) 4) + 4095) / 4096 * 4096) (upn fF fo (nbN fr (q + 4) 4)) (upn fA fo (nbN fr (q + 8) 4)) (upn fB fo (nbN fr (q + 16) 4)) (upn fS fo (nbN fr (q + 20) 4)) (upd fW fo (((8 + (((nI (nbN fr (q + 24) 4)) >>> ((2 : Int32) &&& 31)) &&& 1)) + ((nI (nbN fr (q + 24) 4)) &&& 2)) + (4 * ((nI (nbN fr (q + 24) 4)) &&& 1)))) sk pg ye ys yt yg yp tk gF gA gB gS gW yk) H := hP
                    have hD : va_D A (wsM bd cm th n fr a z le wy (fo + 1) (((nbN fr (q + 8) 4) + (nbN fr (q + 20) 4) + 4095) / 4096 * 4096) (upn fF fo (nbN fr (q + 4) 4)) (upn fA fo (nbN fr (q + 8) 4)) (upn fB fo (nbN fr (q + 16) 4)) (upn fS fo (nbN fr (q + 20) 4)) (upd fW fo (((8 + (((nI (nbN fr (q + 24) 4)) >>> ((2 : Int32) &&& 31)) &&& 1)) + ((nI (nbN fr (q + 24) 4)) &&& 2)) + (4 * ((nI (nbN fr (q + 24) 4)) &&& 1)))) sk pg ye ys yt yg yp tk gF gA gB gS gW yk) := hD
                    refine lv_iconst (v := 1) hx hb d_MD_header_259 (by decide) ?_
                    have hw9 : wsM bd cm th n fr a z le wy (fo + 1) (((nbN fr (q + 8) 4) + (nbN fr (q + 20) 4) + 4095) / 4096 * 4096) (upn fF fo (nbN fr (q + 4) 4)) (upn fA fo (nbN fr (q + 8) 4)) (upn fB fo (nbN fr (q + 16) 4)) (upn fS fo (nbN fr (q + 20) 4)) (upd fW fo (((8 + (((nI (nbN fr (q + 24) 4)) >>> ((2 : Int32) &&& 31)) &&& 1)) + ((nI (nbN fr (q + 24) 4)) &&& 2)) + (4 * ((nI (nbN fr (q + 24) 4)) &&& 1)))) sk pg ye ys yt yg yp tk gF gA gB gS gW yk = wsM bd cm th n fr a z le wy ((msStep fr n q (fo, en, fF, fA, fB, fS, fW)).1) ((msStep fr n q (fo, en, fF, fA, fB, fS, fW)).2.1) ((msStep fr n q (fo, en, fF, fA, fB, fS, fW)).2.2.1) ((msStep fr n q (fo, en, fF, fA, fB, fS, fW)).2.2.2.1) ((msStep fr n q (fo, en, fF, fA, fB, fS, fW)).2.2.2.2.1) ((msStep fr n q (fo, en, fF, fA, fB, fS, fW)).2.2.2.2.2.1) ((msStep fr n q (fo, en, fF, fA, fB, fS, fW)).2.2.2.2.2.2) sk pg ye ys yt yg yp tk gF gA gB gS gW yk := by rw [msStep_good hskip hgood]; rfl
                    rw [hw9] at hP hD
                    exact xreti (v := 1) hx hb hr hlocks hK hP hD hS (rfl) (bI_1 (Or.inr hgood)) d_MD_header_260
                  · exact absurd c_33 (by decide)
    · skip
      rw [lg_cmp_eq] at c_7
      have c_7 : nbN fr (q + 20) 4 = 0 := (pk_lEQ (a := nbN fr (q + 20) 4) (b := 0) (by omega) (by omega)).mp c_7
      refine lv_iconst (v := 1) hx hb d_MD_header_65 (by decide) ?_
      have hw9 : wsM bd cm th n fr a z le wy fo en fF fA fB fS fW sk pg ye ys yt yg yp tk gF gA gB gS gW yk = wsM bd cm th n fr a z le wy ((msStep fr n q (fo, en, fF, fA, fB, fS, fW)).1) ((msStep fr n q (fo, en, fF, fA, fB, fS, fW)).2.1) ((msStep fr n q (fo, en, fF, fA, fB, fS, fW)).2.2.1) ((msStep fr n q (fo, en, fF, fA, fB, fS, fW)).2.2.2.1) ((msStep fr n q (fo, en, fF, fA, fB, fS, fW)).2.2.2.2.1) ((msStep fr n q (fo, en, fF, fA, fB, fS, fW)).2.2.2.2.2.1) ((msStep fr n q (fo, en, fF, fA, fB, fS, fW)).2.2.2.2.2.2) sk pg ye ys yt yg yp tk gF gA gB gS gW yk := by rw [msStep_skip (Or.inr c_7)]
      rw [hw9] at hP hD
      exact xreti (v := 1) hx hb hr hlocks hK hP hD hS (rfl) (bI_1 (Or.inl (Or.inr c_7))) d_MD_header_66
set_option maxHeartbeats 4000000 in
set_option maxRecDepth 100000 in
theorem m_wanted (l : Launch) (dC : Nat → ClassId) (dI : Nat → Nat → Nat) (bd : Nat → Nat) (cm : Nat → ClassId) (th : Int32) (n : Nat) (fr : Nat → Int32) (a : Nat) (z : Nat → Nat) (le : Nat → Int32) (wy : Int32) (fo : Nat) (en : Nat) (fF : Nat → Nat) (fA : Nat → Nat) (fB : Nat → Nat) (fS : Nat → Nat) (fW : Nat → Int32) (sk : Nat → Int32) (pg : Nat) (ye : Int32) (ys : Int32) (yt : Nat) (yg : Nat) (yp : Nat) (tk : Nat → Int32) (gF : Nat → Nat) (gA : Nat → Nat) (gB : Nat → Nat) (gS : Nat → Nat) (gW : Nat → Int32) (yk : Nat → Int32) (hfo : fo ≤ 8) (hfS : ∀ j, j < fo → fS j ≤ 1073733632) (sz : Nat) : Met l y_MD_wanted w_MD_wanted { frames := 1, cells := 0, slots := 0, locals := 30 } (va_Pc [.ref (bd 0)] (xP (dC, dI) (tyM cm) (wsM bd cm th n fr a z le wy fo en fF fA fB fS fW sk pg ye ys yt yg yp tk gF gA gB gS gW yk) sz)) (xQi (dC, dI) (tyM cm) (va_A (wsM bd cm th n fr a z le wy fo en fF fA fB fS fW sk pg ye ys yt yg yp tk gF gA gB gS gW yk) sz) (wsM bd cm th n fr a z le wy fo en fF fA fB fS fW sk pg ye ys yt yg yp tk gF gA gB gS gW yk) (fun r => r = nI (2 + wsum fS fo))) 0 0 (va_A (wsM bd cm th n fr a z le wy fo en fF fA fB fS fW sk pg ye ys yt yg yp tk gF gA gB gS gW yk) sz) := by
  refine xof (cc := b_MD_wanted) (maxL := 4) (ret := (some .int)) (own := R_MD) (Qc := fun A => (xQi (dC, dI) (tyM cm) A (wsM bd cm th n fr a z le wy fo en fF fA fB fS fW sk pg ye ys yt yg yp tk gF gA gB gS gW yk) (fun r => r = nI (2 + wsum fS fo)))) (by decide) rfl rfl (Nat.le_of_ble_eq_true rfl) ?_ sz
  intro p e s m below meth c A C hnm hK hP hD hA hN hZ hS ls hl
  obtain ⟨hx, hb, hr, hml, hown, hts, hlocks⟩ := C
  have hl : lv_has ls 4 [(0, .ref (bd 0))] := hl
  refine lv_ldc2 (v := 2) hx hb hown (hts _ wd_536) d_MD_wanted_0 ?_
  refine lv_lstore_n (lv' := [(1, .long 2), (0, .ref (bd 0))]) hx hb d_MD_wanted_3 rfl hl (by decide) rfl (fun ls hl => ?_)
  refine lv_iconst (v := 0) hx hb d_MD_wanted_4 (by decide) ?_
  refine lv_istore_n (lv' := [(3, .int 0), (1, .long 2), (0, .ref (bd 0))]) hx hb d_MD_wanted_5 rfl hl (by decide) rfl (fun ls hl => ?_)
  have lp6 : ∀ (fu : Nat) (j : Nat), (fo - j < fu) → (j ≤ fo) → ∀ (H : Heap) (locs : List Loc), va_P (dC, dI) vwCl (wsM bd cm th n fr a z le wy fo en fF fA fB fS fW sk pg ye ys yt yg yp tk gF gA gB gS gW yk) H → va_D A (wsM bd cm th n fr a z le wy fo en fF fA fB fS fW sk pg ye ys yt yg yp tk gF gA gB gS gW yk) → va_S A s.heap H locs → ∀ ls : Array Slot, lv_has ls 4 [(0, .ref (bd 0)), (1, .long (lN (2 + wsum fS j))), (3, .int (nI j))] → W p l e { frames := 1, cells := 0, slots := 0, locals := 30 } s m [.ref (bd 0)].toArray below meth c H locs 0 0 (MQ below (xQi (dC, dI) (tyM cm) A (wsM bd cm th n fr a z le wy fo en fF fA fB fS fW sk pg ye ys yt yg yp tk gF gA gB gS gW yk) (fun r => r = nI (2 + wsum fS fo))) [.ref (bd 0)].toArray s 0 0 A) (F0 m 6 ls []) := by
    intro fu
    induction fu with
    | zero => intro j hfu; exact absurd hfu (Nat.not_lt_zero _)
    | succ fu ih =>
      intro j hfu hj H locs hP hD hS ls hl
      refine lv_iload_n hx hb d_MD_wanted_6 rfl (lv_at hl 2 rfl) ?_
      refine lv_aload_n hx hb d_MD_wanted_7 rfl (lv_at hl 0 rfl) ?_
      refine va_get (D := (dC, dI)) (ci := 7) (v := .int (nI fo)) (C := R_MD) (T := T_MD) (N := 28) hx hb hts i_MD hown hK hP 0 rfl rfl 7 (by decide) (hts _ wd_399) (fun _ h9 => h9) rfl d_MD_wanted_8 ?_
      refine lv_icmp_ge (tgt := 37) hx hb d_MD_wanted_11 (by decide) (fun c_1 => ?_) (fun c_1 => ?_)
      · skip
        have c_1 : fo ≤ j := (nI_leI (a := fo) (b := j) (by omega) (by omega)).mp c_1
        have e9 : j = fo := by omega
        refine lv_lload_n hx hb d_MD_wanted_37 rfl (lv_at hl 1 rfl) ?_
        refine lv_l2i hx hb d_MD_wanted_38 rfl ?_
        refine xtopi (y := nI (2 + wsum fS j)) (lN_i (2 + wsum fS j)) ?_
        exact xreti (v := nI (2 + wsum fS j)) hx hb hr hlocks hK hP hD hS (rfl) (by rw [e9]) d_MD_wanted_39
      · skip
        have c_1 : ¬ (fo ≤ j) := fun h9 => c_1 ((nI_leI (a := fo) (b := j) (by omega) (by omega)).mpr h9)
        have hs := hfS j (by omega)
        refine lv_lload_n hx hb d_MD_wanted_14 rfl (lv_at hl 1 rfl) ?_
        refine lv_aload_n hx hb d_MD_wanted_15 rfl (lv_at hl 0 rfl) ?_
        refine va_get (D := (dC, dI)) (ci := 7) (v := .ref (bd 7)) (C := R_MD) (T := T_MD) (N := 28) hx hb hts i_MD hown hK hP 0 rfl rfl 12 (by decide) (hts _ wd_404) (fun _ h9 => h9) rfl d_MD_wanted_16 ?_
        refine lv_iload_n hx hb d_MD_wanted_19 rfl (lv_at hl 2 rfl) ?_
        refine xiald (k := j) hx hb hK hP 7 1 rfl rfl (rfl) (by omega) (by decide) d_MD_wanted_20 ?_
        refine lv_i2l hx hb d_MD_wanted_21 rfl ?_
        refine xtopl (y := lN (fS j)) (nI_l (n := fS j) (by omega)) ?_
        refine xcalll (va_runS (As := [.long (lN (fS j))]) (rest := [.long (lN (2 + wsum fS j))]) ⟨hx, hb, hml, hown, hts⟩ (m_up l dC dI bd cm th n fr a z le wy fo en fF fA fB fS fW sk pg ye ys yt yg yp tk gF gA gB gS gW yk (fS j) (by omega) H.size) (cwS 1 hts (xgS wd_553 wd_554 wd_22 wd_555) rfl rfl rfl (by decide +kernel) ⟨Nat.le_of_ble_eq_true rfl, Nat.le_of_ble_eq_true rfl⟩) (xpreS hK hN hZ hA hS hP hD) rfl rfl hl.1 rfl (lv_room (Nat.le_of_ble_eq_true rfl)) d_MD_wanted_22 ⟨Nat.zero_le _, Nat.zero_le _⟩) hD hS hA (fun r_2 H locs hr_2 hP hD hS => ?_)
        subst hr_2
        refine lv_ldc2 (v := 4096) hx hb hown (hts _ wd_550) d_MD_wanted_25 ?_
        refine lv_ldiv hx hb d_MD_wanted_28 (by decide) ?_
        refine xtopl (y := lN (((fS j + 4095) / 4096 * 4096) / 4096)) (pk_lDiv (a := (fS j + 4095) / 4096 * 4096) (b := 4096) (by omega) (by omega) (by omega)) ?_
        refine lv_ladd hx hb d_MD_wanted_29 ?_
        refine xtopl (y := lN ((2 + wsum fS j) + (((fS j + 4095) / 4096 * 4096) / 4096))) (lN_add (2 + wsum fS j) (((fS j + 4095) / 4096 * 4096) / 4096)) ?_
        refine lv_lstore_n (lv' := [(1, .long (lN ((2 + wsum fS j) + (((fS j + 4095) / 4096 * 4096) / 4096)))), (0, .ref (bd 0)), (3, .int (nI j))]) hx hb d_MD_wanted_30 rfl hl (by decide) rfl (fun ls hl => ?_)
        refine lv_iinc (v := nI (j + 1)) (lv' := [(3, .int (nI (j + 1))), (1, .long (lN ((2 + wsum fS j) + (((fS j + 4095) / 4096 * 4096) / 4096)))), (0, .ref (bd 0))]) hx hb d_MD_wanted_31 hl (k := 2) rfl (nI_1 _) (by decide) rfl (fun ls hl => ?_)
        refine lv_goto (tgt := 6) hx hb d_MD_wanted_34 (by decide) ?_
        exact ih (j + 1) (by omega) (by omega) _ _ hP hD hS _ (lv_sub hl [2, 1, 0] rfl)
  exact lp6 ((fo - 0) + 1) 0 (Nat.lt_succ_self _) (by omega) _ _ hP hD hS _ (lv_sub hl [2, 1, 0] rfl)
end
