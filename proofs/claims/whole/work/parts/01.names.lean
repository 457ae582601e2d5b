-- ===== PART A: goes FIRST, ahead of the names: the tables' words, and 'selects' of the private methods out of them =====
/-- a private method of a class that the tables say can be made, by its rows of tables_1 -/
def lw_okq (q : MethodName × Nat) : Prop := (q.1.cls ≠ "java/lang/invoke/MethodHandle" ∧ q.1.cls ≠ "java/lang/invoke/VarHandle") ∧ Cond.instantiable q.1.cls q.2 ∈ tables_1 ∧ Cond.privateMethod q.1 ∈ tables_1 ∧ Cond.instanceMethod q.1 ∈ tables_1
theorem lw_p0 : lw_okq (⟨"ListWords", "nextElement", "()I"⟩, 6) := ⟨⟨by decide +kernel, by decide +kernel⟩, List.mem_of_getElem? (i := 12) (by decide +kernel), List.mem_of_getElem? (i := 100) (by decide +kernel), List.mem_of_getElem? (i := 101) (by decide +kernel)⟩
theorem lw_p1 : lw_okq (⟨"ListWords", "behindSpaces", "(I)I"⟩, 6) := ⟨⟨by decide +kernel, by decide +kernel⟩, List.mem_of_getElem? (i := 12) (by decide +kernel), List.mem_of_getElem? (i := 104) (by decide +kernel), List.mem_of_getElem? (i := 105) (by decide +kernel)⟩
theorem lw_p2 : lw_okq (⟨"ListWords", "readBraced", "(I)I"⟩, 6) := ⟨⟨by decide +kernel, by decide +kernel⟩, List.mem_of_getElem? (i := 12) (by decide +kernel), List.mem_of_getElem? (i := 118) (by decide +kernel), List.mem_of_getElem? (i := 119) (by decide +kernel)⟩
theorem lw_p3 : lw_okq (⟨"ListWords", "behindCloser", "(I)I"⟩, 6) := ⟨⟨by decide +kernel, by decide +kernel⟩, List.mem_of_getElem? (i := 12) (by decide +kernel), List.mem_of_getElem? (i := 123) (by decide +kernel), List.mem_of_getElem? (i := 124) (by decide +kernel)⟩
theorem lw_p4 : lw_okq (⟨"ListWords", "readUnbraced", "(IZ)I"⟩, 6) := ⟨⟨by decide +kernel, by decide +kernel⟩, List.mem_of_getElem? (i := 12) (by decide +kernel), List.mem_of_getElem? (i := 127) (by decide +kernel), List.mem_of_getElem? (i := 128) (by decide +kernel)⟩
theorem lw_p5 : lw_okq (⟨"ListWords", "meaningOfBackslash", "(I)I"⟩, 6) := ⟨⟨by decide +kernel, by decide +kernel⟩, List.mem_of_getElem? (i := 12) (by decide +kernel), List.mem_of_getElem? (i := 131) (by decide +kernel), List.mem_of_getElem? (i := 132) (by decide +kernel)⟩
theorem lw_p6 : lw_okq (⟨"ListWords", "countDigits", "(III)I"⟩, 6) := ⟨⟨by decide +kernel, by decide +kernel⟩, List.mem_of_getElem? (i := 12) (by decide +kernel), List.mem_of_getElem? (i := 135) (by decide +kernel), List.mem_of_getElem? (i := 136) (by decide +kernel)⟩
theorem lw_p7 : lw_okq (⟨"ListWords", "numberAt", "(III)I"⟩, 6) := ⟨⟨by decide +kernel, by decide +kernel⟩, List.mem_of_getElem? (i := 12) (by decide +kernel), List.mem_of_getElem? (i := 142) (by decide +kernel), List.mem_of_getElem? (i := 143) (by decide +kernel)⟩
theorem lw_p8 : lw_okq (⟨"ListWords", "bytesBehindBackslash", "(I)I"⟩, 6) := ⟨⟨by decide +kernel, by decide +kernel⟩, List.mem_of_getElem? (i := 12) (by decide +kernel), List.mem_of_getElem? (i := 233) (by decide +kernel), List.mem_of_getElem? (i := 234) (by decide +kernel)⟩
theorem lw_p9 : lw_okq (⟨"ListWords", "countBlanks", "(I)I"⟩, 6) := ⟨⟨by decide +kernel, by decide +kernel⟩, List.mem_of_getElem? (i := 12) (by decide +kernel), List.mem_of_getElem? (i := 237) (by decide +kernel), List.mem_of_getElem? (i := 238) (by decide +kernel)⟩
theorem lw_p10 : lw_okq (⟨"ListWordsModel", "goOver", "(I)I"⟩, 10) := ⟨⟨by decide +kernel, by decide +kernel⟩, List.mem_of_getElem? (i := 305) (by decide +kernel), List.mem_of_getElem? (i := 362) (by decide +kernel), List.mem_of_getElem? (i := 363) (by decide +kernel)⟩
theorem lw_p11 : lw_okq (⟨"ListWordsModel", "skip", "(I)I"⟩, 10) := ⟨⟨by decide +kernel, by decide +kernel⟩, List.mem_of_getElem? (i := 305) (by decide +kernel), List.mem_of_getElem? (i := 366) (by decide +kernel), List.mem_of_getElem? (i := 367) (by decide +kernel)⟩
theorem lw_p12 : lw_okq (⟨"ListWordsModel", "at", "(I)I"⟩, 10) := ⟨⟨by decide +kernel, by decide +kernel⟩, List.mem_of_getElem? (i := 305) (by decide +kernel), List.mem_of_getElem? (i := 370) (by decide +kernel), List.mem_of_getElem? (i := 371) (by decide +kernel)⟩
theorem lw_p13 : lw_okq (⟨"ListWordsModel", "ending", "(I)I"⟩, 10) := ⟨⟨by decide +kernel, by decide +kernel⟩, List.mem_of_getElem? (i := 305) (by decide +kernel), List.mem_of_getElem? (i := 377) (by decide +kernel), List.mem_of_getElem? (i := 378) (by decide +kernel)⟩
theorem lw_p14 : lw_okq (⟨"ListWordsModel", "bare", "(I)I"⟩, 10) := ⟨⟨by decide +kernel, by decide +kernel⟩, List.mem_of_getElem? (i := 305) (by decide +kernel), List.mem_of_getElem? (i := 381) (by decide +kernel), List.mem_of_getElem? (i := 382) (by decide +kernel)⟩
theorem lw_p15 : lw_okq (⟨"ListWordsModel", "behind", "(I)I"⟩, 10) := ⟨⟨by decide +kernel, by decide +kernel⟩, List.mem_of_getElem? (i := 305) (by decide +kernel), List.mem_of_getElem? (i := 385) (by decide +kernel), List.mem_of_getElem? (i := 386) (by decide +kernel)⟩
def lw_privs_1 : List (MethodName × Nat) := [(⟨"ListWords", "nextElement", "()I"⟩, 6), (⟨"ListWords", "behindSpaces", "(I)I"⟩, 6), (⟨"ListWords", "readBraced", "(I)I"⟩, 6), (⟨"ListWords", "behindCloser", "(I)I"⟩, 6), (⟨"ListWords", "readUnbraced", "(IZ)I"⟩, 6), (⟨"ListWords", "meaningOfBackslash", "(I)I"⟩, 6), (⟨"ListWords", "countDigits", "(III)I"⟩, 6), (⟨"ListWords", "numberAt", "(III)I"⟩, 6), (⟨"ListWords", "bytesBehindBackslash", "(I)I"⟩, 6), (⟨"ListWords", "countBlanks", "(I)I"⟩, 6), (⟨"ListWordsModel", "goOver", "(I)I"⟩, 10), (⟨"ListWordsModel", "skip", "(I)I"⟩, 10), (⟨"ListWordsModel", "at", "(I)I"⟩, 10), (⟨"ListWordsModel", "ending", "(I)I"⟩, 10), (⟨"ListWordsModel", "bare", "(I)I"⟩, 10), (⟨"ListWordsModel", "behind", "(I)I"⟩, 10)]
theorem lw_r1 : ∀ q ∈ lw_privs_1, lw_okq q := List.forall_mem_cons.mpr ⟨lw_p0, List.forall_mem_cons.mpr ⟨lw_p1, List.forall_mem_cons.mpr ⟨lw_p2, List.forall_mem_cons.mpr ⟨lw_p3, List.forall_mem_cons.mpr ⟨lw_p4, List.forall_mem_cons.mpr ⟨lw_p5, List.forall_mem_cons.mpr ⟨lw_p6, List.forall_mem_cons.mpr ⟨lw_p7, List.forall_mem_cons.mpr ⟨lw_p8, List.forall_mem_cons.mpr ⟨lw_p9, List.forall_mem_cons.mpr ⟨lw_p10, List.forall_mem_cons.mpr ⟨lw_p11, List.forall_mem_cons.mpr ⟨lw_p12, List.forall_mem_cons.mpr ⟨lw_p13, List.forall_mem_cons.mpr ⟨lw_p14, List.forall_mem_cons.mpr ⟨lw_p15, fun _ h => absurd h List.not_mem_nil⟩⟩⟩⟩⟩⟩⟩⟩⟩⟩⟩⟩⟩⟩⟩⟩
theorem lw_p16 : lw_okq (⟨"ListWordsModel", "closing", "(I)I"⟩, 10) := ⟨⟨by decide +kernel, by decide +kernel⟩, List.mem_of_getElem? (i := 305) (by decide +kernel), List.mem_of_getElem? (i := 389) (by decide +kernel), List.mem_of_getElem? (i := 390) (by decide +kernel)⟩
theorem lw_p17 : lw_okq (⟨"ListWordsModel", "quote", "(I)I"⟩, 10) := ⟨⟨by decide +kernel, by decide +kernel⟩, List.mem_of_getElem? (i := 305) (by decide +kernel), List.mem_of_getElem? (i := 393) (by decide +kernel), List.mem_of_getElem? (i := 394) (by decide +kernel)⟩
theorem lw_p18 : lw_okq (⟨"ListWordsModel", "read", "(II)V"⟩, 10) := ⟨⟨by decide +kernel, by decide +kernel⟩, List.mem_of_getElem? (i := 305) (by decide +kernel), List.mem_of_getElem? (i := 397) (by decide +kernel), List.mem_of_getElem? (i := 398) (by decide +kernel)⟩
theorem lw_p19 : lw_okq (⟨"ListWordsModel", "meaning", "(II)I"⟩, 10) := ⟨⟨by decide +kernel, by decide +kernel⟩, List.mem_of_getElem? (i := 305) (by decide +kernel), List.mem_of_getElem? (i := 401) (by decide +kernel), List.mem_of_getElem? (i := 402) (by decide +kernel)⟩
theorem lw_p20 : lw_okq (⟨"ListWordsModel", "add", "(I)V"⟩, 10) := ⟨⟨by decide +kernel, by decide +kernel⟩, List.mem_of_getElem? (i := 305) (by decide +kernel), List.mem_of_getElem? (i := 405) (by decide +kernel), List.mem_of_getElem? (i := 406) (by decide +kernel)⟩
theorem lw_p21 : lw_okq (⟨"ListWordsModel", "put", "(I)V"⟩, 10) := ⟨⟨by decide +kernel, by decide +kernel⟩, List.mem_of_getElem? (i := 305) (by decide +kernel), List.mem_of_getElem? (i := 423) (by decide +kernel), List.mem_of_getElem? (i := 424) (by decide +kernel)⟩
theorem lw_p22 : lw_okq (⟨"ListWordsModel", "write", "()V"⟩, 10) := ⟨⟨by decide +kernel, by decide +kernel⟩, List.mem_of_getElem? (i := 305) (by decide +kernel), List.mem_of_getElem? (i := 427) (by decide +kernel), List.mem_of_getElem? (i := 428) (by decide +kernel)⟩
theorem lw_p23 : lw_okq (⟨"ListWordsModel", "isPlain", "()Z"⟩, 10) := ⟨⟨by decide +kernel, by decide +kernel⟩, List.mem_of_getElem? (i := 305) (by decide +kernel), List.mem_of_getElem? (i := 431) (by decide +kernel), List.mem_of_getElem? (i := 432) (by decide +kernel)⟩
theorem lw_p24 : lw_okq (⟨"ListWordsModel", "isBraced", "()Z"⟩, 10) := ⟨⟨by decide +kernel, by decide +kernel⟩, List.mem_of_getElem? (i := 305) (by decide +kernel), List.mem_of_getElem? (i := 438) (by decide +kernel), List.mem_of_getElem? (i := 439) (by decide +kernel)⟩
theorem lw_p25 : lw_okq (⟨"ListWordsModel", "escape", "(IZ)V"⟩, 10) := ⟨⟨by decide +kernel, by decide +kernel⟩, List.mem_of_getElem? (i := 305) (by decide +kernel), List.mem_of_getElem? (i := 442) (by decide +kernel), List.mem_of_getElem? (i := 443) (by decide +kernel)⟩
theorem lw_p26 : lw_okq (⟨"ListWordsModel", "settle", "()I"⟩, 10) := ⟨⟨by decide +kernel, by decide +kernel⟩, List.mem_of_getElem? (i := 305) (by decide +kernel), List.mem_of_getElem? (i := 446) (by decide +kernel), List.mem_of_getElem? (i := 447) (by decide +kernel)⟩
def lw_privs_2 : List (MethodName × Nat) := [(⟨"ListWordsModel", "closing", "(I)I"⟩, 10), (⟨"ListWordsModel", "quote", "(I)I"⟩, 10), (⟨"ListWordsModel", "read", "(II)V"⟩, 10), (⟨"ListWordsModel", "meaning", "(II)I"⟩, 10), (⟨"ListWordsModel", "add", "(I)V"⟩, 10), (⟨"ListWordsModel", "put", "(I)V"⟩, 10), (⟨"ListWordsModel", "write", "()V"⟩, 10), (⟨"ListWordsModel", "isPlain", "()Z"⟩, 10), (⟨"ListWordsModel", "isBraced", "()Z"⟩, 10), (⟨"ListWordsModel", "escape", "(IZ)V"⟩, 10), (⟨"ListWordsModel", "settle", "()I"⟩, 10)]
theorem lw_r2 : ∀ q ∈ lw_privs_2, lw_okq q := List.forall_mem_cons.mpr ⟨lw_p16, List.forall_mem_cons.mpr ⟨lw_p17, List.forall_mem_cons.mpr ⟨lw_p18, List.forall_mem_cons.mpr ⟨lw_p19, List.forall_mem_cons.mpr ⟨lw_p20, List.forall_mem_cons.mpr ⟨lw_p21, List.forall_mem_cons.mpr ⟨lw_p22, List.forall_mem_cons.mpr ⟨lw_p23, List.forall_mem_cons.mpr ⟨lw_p24, List.forall_mem_cons.mpr ⟨lw_p25, List.forall_mem_cons.mpr ⟨lw_p26, fun _ h => absurd h List.not_mem_nil⟩⟩⟩⟩⟩⟩⟩⟩⟩⟩⟩
def lw_privs : List (MethodName × Nat) := lw_privs_1 ++ (lw_privs_2)
def lw_tbl : List Cond := k2_sels lw_privs ++ tables_1
theorem lw_privs_ok : ∀ q ∈ lw_privs, lw_okq q := by
  show ∀ q ∈ lw_privs_1 ++ (lw_privs_2), lw_okq q
  exact List.forall_mem_append.mpr ⟨lw_r1, lw_r2⟩

-- names
def wG : List Cond := lw_tbl.filter goodWord
theorem wG_good : ∀ w ∈ wG, (w.onTables && w.keeps) = true ∨ ∃ ty, w = .arrayClass ty := fun _ h => good_of_word (List.mem_filter.mp h).2
theorem mTP {i : Nat} {w : Cond} (h : (k2_sels lw_privs)[i]? = some w) (hg : goodWord w = true) : w ∈ wG := List.mem_filter.mpr ⟨List.mem_append_left _ (List.mem_of_getElem? h), hg⟩
theorem mT1 {i : Nat} {w : Cond} (h : tables_1_1[i]? = some w) (hg : goodWord w = true) : w ∈ wG := List.mem_filter.mpr ⟨List.mem_append_right _ (List.mem_append_left _ (List.mem_of_getElem? h)), hg⟩
theorem mT2 {i : Nat} {w : Cond} (h : tables_1_2[i]? = some w) (hg : goodWord w = true) : w ∈ wG := List.mem_filter.mpr ⟨List.mem_append_right _ (List.mem_append_right _ (List.mem_of_getElem? h)), hg⟩
def R_R : String := "ListWords$Row"
def F_R : u_T := fun k => match k with
  | 0 => ("ListWords$Row", "bytes", "[I", true)
  | _ => ("ListWords$Row", "size", "I", false)
def t_R : Nat → FieldType := fun k => match k with
  | 0 => .array .int
  | _ => .int
theorem n_R : ∀ a, a < 2 → ∀ b, b < 2 → a ≠ b → (F_R a).2.1 ≠ (F_R b).2.1 := by decide +kernel
theorem t_R_ok : ∀ k, k < 2 → parseFieldDescriptor (F_R k).2.2.1 = some (t_R k) := by decide +kernel
theorem i_R : ∀ w ∈ u_ws R_R F_R 2, w ∈ wG := List.forall_mem_cons.mpr ⟨(mT1 (i := 27) rfl rfl), List.forall_mem_cons.mpr ⟨(mT1 (i := 29) rfl rfl), fun _ h => absurd h List.not_mem_nil⟩⟩
theorem w_R_inst : Cond.instantiable R_R 2 ∈ wG := (mT1 (i := 20) rfl rfl)
theorem w_R_init : Cond.initialized R_R ∈ wG := (mT1 (i := 2) rfl rfl)
def R_X : String := "ListWords"
def F_X : u_T := fun k => match k with
  | 0 => ("ListWords", "tape", "LListWords$Row;", true)
  | 1 => ("ListWords", "list", "LListWords$Row;", true)
  | 2 => ("ListWords", "item", "LListWords$Row;", true)
  | 3 => ("ListWords", "word", "LListWords$Row;", true)
  | 4 => ("ListWords", "written", "LListWords$Row;", true)
  | _ => ("ListWords", "place", "I", false)
def t_X : Nat → FieldType := fun k => match k with
  | 0 => .object "ListWords$Row"
  | 1 => .object "ListWords$Row"
  | 2 => .object "ListWords$Row"
  | 3 => .object "ListWords$Row"
  | 4 => .object "ListWords$Row"
  | _ => .int
theorem n_X : ∀ a, a < 6 → ∀ b, b < 6 → a ≠ b → (F_X a).2.1 ≠ (F_X b).2.1 := by decide +kernel
theorem t_X_ok : ∀ k, k < 6 → parseFieldDescriptor (F_X k).2.2.1 = some (t_X k) := by decide +kernel
theorem i_X : ∀ w ∈ u_ws R_X F_X 6, w ∈ wG := List.forall_mem_cons.mpr ⟨(mT1 (i := 39) rfl rfl), List.forall_mem_cons.mpr ⟨(mT1 (i := 41) rfl rfl), List.forall_mem_cons.mpr ⟨(mT1 (i := 43) rfl rfl), List.forall_mem_cons.mpr ⟨(mT1 (i := 45) rfl rfl), List.forall_mem_cons.mpr ⟨(mT1 (i := 47) rfl rfl), List.forall_mem_cons.mpr ⟨(mT1 (i := 49) rfl rfl), fun _ h => absurd h List.not_mem_nil⟩⟩⟩⟩⟩⟩
theorem w_X_inst : Cond.instantiable R_X 6 ∈ wG := (mT1 (i := 12) rfl rfl)
theorem w_X_init : Cond.initialized R_X ∈ wG := (mT1 (i := 1) rfl rfl)
def R_M : String := "ListWordsModel"
def F_M : u_T := fun k => match k with
  | 0 => ("ListWordsModel", "tape", "[I", true)
  | 1 => ("ListWordsModel", "tapeSize", "I", false)
  | 2 => ("ListWordsModel", "list", "[I", true)
  | 3 => ("ListWordsModel", "listSize", "I", false)
  | 4 => ("ListWordsModel", "item", "[I", true)
  | 5 => ("ListWordsModel", "itemSize", "I", false)
  | 6 => ("ListWordsModel", "word", "[I", true)
  | 7 => ("ListWordsModel", "wordSize", "I", false)
  | 8 => ("ListWordsModel", "text", "[I", true)
  | _ => ("ListWordsModel", "textSize", "I", false)
def t_M : Nat → FieldType := fun k => match k with
  | 0 => .array .int
  | 1 => .int
  | 2 => .array .int
  | 3 => .int
  | 4 => .array .int
  | 5 => .int
  | 6 => .array .int
  | 7 => .int
  | 8 => .array .int
  | _ => .int
theorem n_M : ∀ a, a < 10 → ∀ b, b < 10 → a ≠ b → (F_M a).2.1 ≠ (F_M b).2.1 := by decide +kernel
theorem t_M_ok : ∀ k, k < 10 → parseFieldDescriptor (F_M k).2.2.1 = some (t_M k) := by decide +kernel
theorem i_M : ∀ w ∈ u_ws R_M F_M 10, w ∈ wG := List.forall_mem_cons.mpr ⟨(mT2 (i := 80) rfl rfl), List.forall_mem_cons.mpr ⟨(mT2 (i := 82) rfl rfl), List.forall_mem_cons.mpr ⟨(mT2 (i := 84) rfl rfl), List.forall_mem_cons.mpr ⟨(mT2 (i := 86) rfl rfl), List.forall_mem_cons.mpr ⟨(mT2 (i := 88) rfl rfl), List.forall_mem_cons.mpr ⟨(mT2 (i := 90) rfl rfl), List.forall_mem_cons.mpr ⟨(mT2 (i := 92) rfl rfl), List.forall_mem_cons.mpr ⟨(mT2 (i := 94) rfl rfl), List.forall_mem_cons.mpr ⟨(mT2 (i := 96) rfl rfl), List.forall_mem_cons.mpr ⟨(mT2 (i := 98) rfl rfl), fun _ h => absurd h List.not_mem_nil⟩⟩⟩⟩⟩⟩⟩⟩⟩⟩
theorem w_M_inst : Cond.instantiable R_M 10 ∈ wG := (mT2 (i := 65) rfl rfl)
theorem w_M_init : Cond.initialized R_M ∈ wG := (mT1 (i := 3) rfl rfl)
def R_S : String := "java/lang/String"
def R_SL : String := "java/lang/StringLatin1"
def R_PC : String := "jdk/internal/util/Preconditions"
abbrev classes : List vw_C := [(R_R, F_R, 2), (R_X, F_X, 6), (R_M, F_M, 10)]
theorem w_obj_inst : Cond.instanceMethod objectInit ∈ wG := (mT1 (i := 17) rfl rfl)
theorem w_obj_code : Cond.code objectInit ⟨#[0xb1]⟩ 1 none ∈ wG := (mT1 (i := 18) rfl rfl)
theorem w_arr_int : Cond.arrayClass (newarray.typeOf .int) ∈ wG := (mT1 (i := 32) rfl rfl)
theorem w_math_init : Cond.initialized "java/lang/Math" ∈ wG := (mT1 (i := 7) rfl rfl)
theorem w_math_max_static : Cond.static Lib.Math.max.name ∈ wG := (mT1 (i := 175) rfl rfl)
theorem w_math_max_code : Cond.code Lib.Math.max.name Lib.Math.max.code 2 (some .int) ∈ wG := (mT1 (i := 176) rfl rfl)
theorem w_math_min_static : Cond.static Lib.Math.min.name ∈ wG := (mT1 (i := 178) rfl rfl)
theorem w_math_min_code : Cond.code Lib.Math.min.name Lib.Math.min.code 2 (some .int) ∈ wG := (mT1 (i := 179) rfl rfl)
theorem w_copy_native : Cond.native arraycopyName ∈ wG := (mT1 (i := 90) rfl rfl)
theorem w_copy_static : Cond.static arraycopyName ∈ wG := (mT1 (i := 89) rfl rfl)
theorem w_system_init : Cond.initialized "java/lang/System" ∈ wG := (mT1 (i := 4) rfl rfl)
abbrev b_R_byteAt : ByteArray := prog_2_method_3_code
def y_R_byteAt : MethodName := ⟨R_R, "byteAt", "(I)I"⟩
abbrev b_X_itemAt : ByteArray := prog_1_method_12_code
def y_X_itemAt : MethodName := ⟨R_X, "itemAt", "(I)I"⟩
abbrev b_M_itemAt : ByteArray := prog_4_method_34_code
def y_M_itemAt : MethodName := ⟨R_M, "itemAt", "(I)I"⟩
abbrev b_X_listAt : ByteArray := prog_1_method_11_code
def y_X_listAt : MethodName := ⟨R_X, "listAt", "(I)I"⟩
abbrev b_M_listAt : ByteArray := prog_4_method_33_code
def y_M_listAt : MethodName := ⟨R_M, "listAt", "(I)I"⟩
abbrev b_R_putAll : ByteArray := prog_2_method_6_code
def y_R_putAll : MethodName := ⟨R_R, "putAll", "(LListWords$Row;)Z"⟩
abbrev b_R_takeAll : ByteArray := prog_2_method_8_code
def y_R_takeAll : MethodName := ⟨R_R, "takeAll", "(LListWords$Row;)I"⟩
abbrev b_X_wrap : ByteArray := prog_1_method_10_code
def y_X_wrap : MethodName := ⟨R_X, "wrap", "()I"⟩
abbrev b_M_wrap : ByteArray := prog_4_method_32_code
def y_M_wrap : MethodName := ⟨R_M, "wrap", "()I"⟩
abbrev b_R_size : ByteArray := prog_2_method_2_code
def y_R_size : MethodName := ⟨R_R, "size", "()I"⟩
abbrev b_X_isNamedSpace : ByteArray := prog_1_method_25_code
def y_X_isNamedSpace : MethodName := ⟨R_X, "isNamedSpace", "(I)Z"⟩
abbrev b_X_isSpace : ByteArray := prog_1_method_24_code
def y_X_isSpace : MethodName := ⟨R_X, "isSpace", "(I)Z"⟩
abbrev b_X_behindSpaces : ByteArray := prog_1_method_14_code
def y_X_behindSpaces : MethodName := ⟨R_X, "behindSpaces", "(I)I"⟩
abbrev b_R_cutTo : ByteArray := prog_2_method_7_code
def y_R_cutTo : MethodName := ⟨R_R, "cutTo", "(I)Z"⟩
abbrev b_R_put : ByteArray := prog_2_method_4_code
def y_R_put : MethodName := ⟨R_R, "put", "(I)Z"⟩
abbrev b_X_readBraced : ByteArray := prog_1_method_15_code
def y_X_readBraced : MethodName := ⟨R_X, "readBraced", "(I)I"⟩
abbrev b_X_behindCloser : ByteArray := prog_1_method_17_code
def y_X_behindCloser : MethodName := ⟨R_X, "behindCloser", "(I)I"⟩
abbrev b_X_digitOf : ByteArray := prog_1_method_23_code
def y_X_digitOf : MethodName := ⟨R_X, "digitOf", "(I)I"⟩
abbrev b_X_countDigits : ByteArray := prog_1_method_21_code
def y_X_countDigits : MethodName := ⟨R_X, "countDigits", "(III)I"⟩
abbrev b_X_numberAt : ByteArray := prog_1_method_22_code
def y_X_numberAt : MethodName := ⟨R_X, "numberAt", "(III)I"⟩
abbrev b_S_isLatin1 : ByteArray := prog_7_method_154_code
def y_S_isLatin1 : MethodName := ⟨R_S, "isLatin1", "()Z"⟩
abbrev b_S_coder : ByteArray := prog_7_method_152_code
def y_S_coder : MethodName := ⟨R_S, "coder", "()B"⟩
abbrev b_S_length : ByteArray := prog_7_method_54_code
def y_S_length : MethodName := ⟨R_S, "length", "()I"⟩
abbrev b_SL_canEncode1 : ByteArray := prog_8_method_4_code
def y_SL_canEncode1 : MethodName := ⟨R_SL, "canEncode", "(I)Z"⟩
abbrev b_SL_indexOfChar : ByteArray := prog_8_method_23_code
def y_SL_indexOfChar : MethodName := ⟨R_SL, "indexOfChar", "([BIII)I"⟩
abbrev b_SL_indexOf0 : ByteArray := prog_8_method_22_code
def y_SL_indexOf0 : MethodName := ⟨R_SL, "indexOf", "([BIII)I"⟩
abbrev b_S_indexOf1 : ByteArray := prog_7_method_80_code
def y_S_indexOf1 : MethodName := ⟨R_S, "indexOf", "(II)I"⟩
abbrev b_S_indexOf0 : ByteArray := prog_7_method_79_code
def y_S_indexOf0 : MethodName := ⟨R_S, "indexOf", "(I)I"⟩
abbrev b_X_meaningOfBackslash : ByteArray := prog_1_method_18_code
def y_X_meaningOfBackslash : MethodName := ⟨R_X, "meaningOfBackslash", "(I)I"⟩
abbrev b_X_countBlanks : ByteArray := prog_1_method_20_code
def y_X_countBlanks : MethodName := ⟨R_X, "countBlanks", "(I)I"⟩
abbrev b_X_bytesBehindBackslash : ByteArray := prog_1_method_19_code
def y_X_bytesBehindBackslash : MethodName := ⟨R_X, "bytesBehindBackslash", "(I)I"⟩
abbrev b_X_readUnbraced : ByteArray := prog_1_method_16_code
def y_X_readUnbraced : MethodName := ⟨R_X, "readUnbraced", "(IZ)I"⟩
abbrev b_X_nextElement : ByteArray := prog_1_method_13_code
def y_X_nextElement : MethodName := ⟨R_X, "nextElement", "()I"⟩
abbrev b_X_count : ByteArray := prog_1_method_6_code
def y_X_count : MethodName := ⟨R_X, "count", "()I"⟩
abbrev b_X_needsBackslash : ByteArray := prog_1_method_30_code
def y_X_needsBackslash : MethodName := ⟨R_X, "needsBackslash", "(LListWords$Row;I)Z"⟩
abbrev b_X_canStandBare : ByteArray := prog_1_method_27_code
def y_X_canStandBare : MethodName := ⟨R_X, "canStandBare", "(LListWords$Row;)Z"⟩
abbrev b_X_canStandInBraces : ByteArray := prog_1_method_28_code
def y_X_canStandInBraces : MethodName := ⟨R_X, "canStandInBraces", "(LListWords$Row;)Z"⟩
abbrev b_PC_checkIndex0 : ByteArray := prog_11_method_11_code
def y_PC_checkIndex0 : MethodName := ⟨R_PC, "checkIndex", "(IILjava/util/function/BiFunction;)I"⟩
abbrev b_S_checkIndex : ByteArray := prog_7_method_155_code
def y_S_checkIndex : MethodName := ⟨R_S, "checkIndex", "(II)V"⟩
abbrev b_SL_charAt : ByteArray := prog_8_method_2_code
def y_SL_charAt : MethodName := ⟨R_SL, "charAt", "([BI)C"⟩
abbrev b_S_charAt : ByteArray := prog_7_method_56_code
def y_S_charAt : MethodName := ⟨R_S, "charAt", "(I)C"⟩
abbrev b_X_writeWithBackslashes : ByteArray := prog_1_method_29_code
def y_X_writeWithBackslashes : MethodName := ⟨R_X, "writeWithBackslashes", "(LListWords$Row;LListWords$Row;)Z"⟩
abbrev b_X_writeBehind : ByteArray := prog_1_method_26_code
def y_X_writeBehind : MethodName := ⟨R_X, "writeBehind", "(LListWords$Row;LListWords$Row;)Z"⟩
abbrev b_X_again : ByteArray := prog_1_method_9_code
def y_X_again : MethodName := ⟨R_X, "again", "()I"⟩
abbrev b_M_at : ByteArray := prog_4_method_5_code
def y_M_at : MethodName := ⟨R_M, "at", "(I)I"⟩
abbrev b_M_isSpace : ByteArray := prog_4_method_3_code
def y_M_isSpace : MethodName := ⟨R_M, "isSpace", "(I)Z"⟩
abbrev b_M_skip : ByteArray := prog_4_method_11_code
def y_M_skip : MethodName := ⟨R_M, "skip", "(I)I"⟩
abbrev b_M_behind : ByteArray := prog_4_method_6_code
def y_M_behind : MethodName := ⟨R_M, "behind", "(I)I"⟩
abbrev b_M_bare : ByteArray := prog_4_method_9_code
def y_M_bare : MethodName := ⟨R_M, "bare", "(I)I"⟩
abbrev b_M_closing : ByteArray := prog_4_method_7_code
def y_M_closing : MethodName := ⟨R_M, "closing", "(I)I"⟩
abbrev b_M_quote : ByteArray := prog_4_method_8_code
def y_M_quote : MethodName := ⟨R_M, "quote", "(I)I"⟩
abbrev b_M_ending : ByteArray := prog_4_method_10_code
def y_M_ending : MethodName := ⟨R_M, "ending", "(I)I"⟩
abbrev b_M_add : ByteArray := prog_4_method_12_code
def y_M_add : MethodName := ⟨R_M, "add", "(I)V"⟩
abbrev b_M_digit : ByteArray := prog_4_method_4_code
def y_M_digit : MethodName := ⟨R_M, "digit", "(I)I"⟩
abbrev b_M_letter : ByteArray := prog_4_method_13_code
def y_M_letter : MethodName := ⟨R_M, "letter", "(I)I"⟩
abbrev b_M_meaning : ByteArray := prog_4_method_14_code
def y_M_meaning : MethodName := ⟨R_M, "meaning", "(II)I"⟩
abbrev b_M_read : ByteArray := prog_4_method_15_code
def y_M_read : MethodName := ⟨R_M, "read", "(II)V"⟩
abbrev b_M_goOver : ByteArray := prog_4_method_16_code
def y_M_goOver : MethodName := ⟨R_M, "goOver", "(I)I"⟩
abbrev b_M_put : ByteArray := prog_4_method_17_code
def y_M_put : MethodName := ⟨R_M, "put", "(I)V"⟩
abbrev b_M_isSpecial : ByteArray := prog_4_method_18_code
def y_M_isSpecial : MethodName := ⟨R_M, "isSpecial", "(I)Z"⟩
abbrev b_M_isPlain : ByteArray := prog_4_method_19_code
def y_M_isPlain : MethodName := ⟨R_M, "isPlain", "()Z"⟩
abbrev b_M_isBraced : ByteArray := prog_4_method_20_code
def y_M_isBraced : MethodName := ⟨R_M, "isBraced", "()Z"⟩
abbrev b_M_escape : ByteArray := prog_4_method_21_code
def y_M_escape : MethodName := ⟨R_M, "escape", "(IZ)V"⟩
abbrev b_M_write : ByteArray := prog_4_method_22_code
def y_M_write : MethodName := ⟨R_M, "write", "()V"⟩
abbrev b_M_settle : ByteArray := prog_4_method_23_code
def y_M_settle : MethodName := ⟨R_M, "settle", "()I"⟩
abbrev b_M_again : ByteArray := prog_4_method_31_code
def y_M_again : MethodName := ⟨R_M, "again", "()I"⟩
abbrev b_X_append : ByteArray := prog_1_method_8_code
def y_X_append : MethodName := ⟨R_X, "append", "()I"⟩
abbrev b_M_append : ByteArray := prog_4_method_30_code
def y_M_append : MethodName := ⟨R_M, "append", "()I"⟩
abbrev b_X_element : ByteArray := prog_1_method_7_code
def y_X_element : MethodName := ⟨R_X, "element", "(I)I"⟩
abbrev b_M_element : ByteArray := prog_4_method_29_code
def y_M_element : MethodName := ⟨R_M, "element", "(I)I"⟩
abbrev b_M_count : ByteArray := prog_4_method_28_code
def y_M_count : MethodName := ⟨R_M, "count", "()I"⟩
abbrev b_X_item : ByteArray := prog_1_method_5_code
def y_X_item : MethodName := ⟨R_X, "item", "()I"⟩
abbrev b_M_item : ByteArray := prog_4_method_27_code
def y_M_item : MethodName := ⟨R_M, "item", "()I"⟩
abbrev b_X_list : ByteArray := prog_1_method_4_code
def y_X_list : MethodName := ⟨R_X, "list", "()I"⟩
abbrev b_M_list : ByteArray := prog_4_method_26_code
def y_M_list : MethodName := ⟨R_M, "list", "()I"⟩
abbrev b_X_end : ByteArray := prog_1_method_3_code
def y_X_end : MethodName := ⟨R_X, "end", "(I)Z"⟩
abbrev b_M_end : ByteArray := prog_4_method_25_code
def y_M_end : MethodName := ⟨R_M, "end", "(I)Z"⟩
abbrev b_R_putNumber : ByteArray := prog_2_method_5_code
def y_R_putNumber : MethodName := ⟨R_R, "putNumber", "(I)V"⟩
abbrev b_X_feed : ByteArray := prog_1_method_2_code
def y_X_feed : MethodName := ⟨R_X, "feed", "(IIIII)Z"⟩
abbrev b_M_feed : ByteArray := prog_4_method_24_code
def y_M_feed : MethodName := ⟨R_M, "feed", "(IIIII)Z"⟩
abbrev b_R_init : ByteArray := prog_2_method_1_code
def y_R_init : MethodName := ⟨R_R, "<init>", "()V"⟩
abbrev b_X_init : ByteArray := prog_1_method_1_code
def y_X_init : MethodName := ⟨R_X, "<init>", "()V"⟩
abbrev b_M_init : ByteArray := prog_4_method_1_code
def y_M_init : MethodName := ⟨R_M, "<init>", "()V"⟩
