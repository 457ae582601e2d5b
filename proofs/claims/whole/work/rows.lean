section
-- ===== PART A: goes FIRST, ahead of the names: the tables' words, and 'selects' of the private methods out of them =====
/-- a private method of a class that the tables say can be made, by its rows of tables_1 -/
def lw_okq (q : MethodName × Nat) : Prop := (q.1.cls ≠ "java/lang/invoke/MethodHandle" ∧ q.1.cls ≠ "java/lang/invoke/VarHandle") ∧ Cond.instantiable q.1.cls q.2 ∈ tables_1 ∧ Cond.privateMethod q.1 ∈ tables_1 ∧ Cond.instanceMethod q.1 ∈ tables_1
theorem lw_p0 : lw_okq (⟨"ListWords", "nextElement", "()I"⟩, 6) := ⟨⟨by decide +kernel, by decide +kernel⟩, List.mem_of_getElem? (i := 12) (by decide +kernel), List.mem_of_getElem? (i := 100) (by decide +kernel), List.mem_of_getElem? (i := 101) (by decide +kernel)⟩
theorem lw_p1 : lw_okq (⟨"ListWords", "behindSpaces", "(I)I"⟩, 6) := ⟨⟨by decide +kernel, by decide +kernel⟩, List.mem_of_getElem? (i := 12) (by decide +kernel), List.mem_of_getElem? (i := 104) (by decide +kernel), List.mem_of_getElem? (i := 105) (by decide +kernel)⟩
theorem lw_p2 : lw_okq (⟨"ListWords", "readBraced", "(I)I"⟩, 6) := ⟨⟨by decide +kernel, by decide +kernel⟩, List.mem_of_getElem? (i := 12) (by decide +kernel), List.mem_of_getElem? (i := 118) (by decide +kernel), List.mem_of_getElem? (i := 119) (by decide +kernel)⟩
theorem lw_p3 : lw_okq (⟨"ListWords", "behindCloser", "(I)I"⟩, 6) := ⟨⟨by decide +kernel, by decide +kernel⟩, List.mem_of_getElem? (i := 12) (by decide +kernel), List.mem_of_getElem? (i := 123) (by decide +kernel), List.mem_of_getElem? (i := 124) (by decide +kernel)⟩
theorem lw_p4 : lw_okq (⟨"ListWords", "readUnbraced", "(IZ)I"⟩, 6) := ⟨⟨by decide +kernel, by decide +kernel⟩, List.mem_of_getElem? (i := 12) (by decide +kernel), List.mem_of_getElem? (i := 127) (by decide +kernel), List.mem_of_getElem? (i := 128) (by decide +kernel)⟩
theorem lw_p5 : lw_okq (⟨"ListWords", "meaningOfBackslash", "(I)I"⟩, 6) := ⟨⟨by decide +kernel, by decide +kernel⟩, List.mem_of_getElem? (i := 12) (by decide +kernel), List.mem_of_getElem? (i := 131) (by decide +kernel), List.mem_of_getElem? (i := 132) (by decide +kernel)⟩
theorem lw_p6 : lw_okq (⟨"ListWords", "countDigits", "(III)I"⟩, 6) := ⟨⟨by decide +kernel, by decide +kernel⟩, List.mem_of_getElem? (i := 12) (by decide +kernel), List.mem_of_getElem? (i := 135) (by decide +kernel), List.mem_of_getElem? (i := 136) (by decide +kernel)⟩
theorem lw_p7 : lw_okq (⟨"ListWords", "numberAt", "(III)I"⟩, 6) := ⟨⟨by decide +kernel, by decide +kernel⟩, List.mem_of_getElem? (i := 12) (by decide +kernel), List.mem_of_getElem? (i := 142) (by decide +kernel), List.mem_of_getElem? (i := 143) (by decide +kernel)⟩
theorem lw_p8 : lw_okq (⟨"ListWords", "bytesBehindBackslash", "(I)I"⟩, 6) := ⟨⟨by decide +kernel, by decide +kernel⟩, List.mem_of_getElem? (i := 12) (by decide +kernel), List.mem_of_getElem? (i := 233) (by decide +kernel), List.mem_of_getElem? (i := 234) (by decide +kernel)⟩
theorem lw_p9 : lw_okq (⟨"ListWords", "countBlanks", "(I)I"⟩, 6) := ⟨⟨by decide +kernel, by decide +kernel⟩, List.mem_of_getElem? (i := 12) (by decide +kernel), List.mem_of_getElem? (i := 237) (by decide +kernel), List.mem_of_getElem? (i := 238) (by decide +kernel)⟩
theorem lw_p10 : lw_okq (⟨"ListWordsModel", "goOver", "(I)I"⟩, 10) := ⟨⟨by decide +kernel, by decide +kernel⟩, List.mem_of_getElem? (i := 305) (by decide +kernel), List.mem_of_getElem? (i := 362) (by decide +kernel), List.mem_of_getElem? (i := 363) (by decide +kernel)⟩
theorem lw_p11 : lw_okq (⟨"ListWordsModel", "skip", "(I)I"⟩, 10) := ⟨⟨by decide +kernel, by decide +kernel⟩, List.mem_of_getElem? (i := 305) (by decide +kernel), List.mem_of_getElem? (i := 366) (by decide +kernel), List.mem_of_getElem? (i := 367) (by decide +kernel)⟩
theorem lw_p12 : lw_okq (⟨"ListWordsModel", "at", "(I)I"⟩, 10) := ⟨⟨by decide +kernel, by decide +kernel⟩, List.mem_of_getElem? (i := 305) (by decide +kernel), List.mem_of_getElem? (i := 370) (by decide +kernel), List.mem_of_getElem? (i := 371) (by decide +kernel)⟩
theorem lw_p13 : lw_okq (⟨"ListWordsModel", "ending", "(I)I"⟩, 10) := ⟨⟨by decide +kernel, by decide +kernel⟩, List.mem_of_getElem? (i := 305) (by decide +kernel), List.mem_of_getElem? (i := 377) (by decide +kernel), List.mem_of_getElem? (i := 378) (by decide +kernel)⟩
theorem lw_p14 : lw_okq (⟨"ListWordsModel", "bare", "(I)I"⟩, 10) := ⟨⟨by decide +kernel, by decide +kernel⟩, List.mem_of_getElem? (i := 305) (by decide +kernel), List.mem_of_getElem? (i := 381) (by decide +kernel), List.mem_of_getElem? (i := 382) (by decide +kernel)⟩
theorem lw_p15 : lw_okq (⟨"ListWordsModel", "behind", "(I)I"⟩, 10) := ⟨⟨by decide +kernel, by decide +kernel⟩, List.mem_of_getElem? (i := 305) (by decide +kernel), List.mem_of_getElem? (i := 385) (by decide +kernel), List.mem_of_getElem? (i := 386) (by decide +kernel)⟩
def lw_privs_1 : List (MethodName × Nat) := [(⟨"ListWords", "nextElement", "()I"⟩, 6), (⟨"ListWords", "behindSpaces", "(I)I"⟩, 6), (⟨"ListWords", "readBraced", "(I)I"⟩, 6), (⟨"ListWords", "behindCloser", "(I)I"⟩, 6), (⟨"ListWords", "readUnbraced", "(IZ)I"⟩, 6), (⟨"ListWords", "meaningOfBackslash", "(I)I"⟩, 6), (⟨"ListWords", "countDigits", "(III)I"⟩, 6), (⟨"ListWords", "numberAt", "(III)I"⟩, 6), (⟨"ListWords", "bytesBehindBackslash", "(I)I"⟩, 6), (⟨"ListWords", "countBlanks", "(I)I"⟩, 6), (⟨"ListWordsModel", "goOver", "(I)I"⟩, 10), (⟨"ListWordsModel", "skip", "(I)I"⟩, 10), (⟨"ListWordsModel", "at", "(I)I"⟩, 10), (⟨"ListWordsModel", "ending", "(I)I"⟩, 10), (⟨"ListWordsModel", "bare", "(I)I"⟩, 10), (⟨"ListWordsModel", "behind", "(I)I"⟩, 10)]
theorem lw_r1 : ∀ q ∈ lw_privs_1, lw_okq q := List.forall_mem_cons.mpr ⟨lw_p0, List.forall_mem_cons.mpr ⟨lw_p1, List.forall_mem_cons.mpr ⟨lw_p2, List.forall_mem_cons.mpr ⟨lw_p3, List.forall_mem_cons.mpr ⟨lw_p4, List.forall_mem_cons.mpr ⟨lw_p5, List.forall_mem_cons.mpr ⟨lw_p6, List.forall_mem_cons.mpr ⟨lw_p7, List.forall_mem_cons.mpr ⟨lw_p8, List.forall_mem_cons.mpr ⟨lw_p9, List.forall_mem_cons.mpr ⟨lw_p10, List.forall_mem_cons.mpr ⟨lw_p11, List.forall_mem_cons.mpr ⟨lw_p12, List.forall_mem_cons.mpr ⟨lw_p13, List.forall_mem_cons.mpr ⟨lw_p14, List.forall_mem_cons.mpr ⟨lw_p15, fun _ h => absurd h List.not_mem_nil⟩⟩⟩⟩⟩⟩⟩⟩⟩⟩⟩⟩⟩⟩⟩⟩
theorem lw_p16 : lw_okq (⟨"ListWordsModel", "closing", "(I)I"⟩, 10) := ⟨⟨by decide +kernel, by decide +kernel⟩, List.mem_of_getElem? (i := 305) (by decide +kernel), List.mem_of_getElem? (i := 389) (by decide +kernel), List.mem_of_getElem? (i := 390) (by decide +kernel)⟩
theorem lw_p17 : lw_okq (⟨"ListWordsModel", "quote", "(I)I"⟩, 10) := ⟨⟨by decide +kernel, by decide +kernel⟩, List.mem_of_getElem? (i := 305) (by decide +kernel), List.mem_of_getElem? (i := 393) (by decide +kernel), List.mem_of_getElem? (i := 394) (by decide +kernel)⟩
theorem lw_p18 : lw_okq (⟨"ListWordsModel", "read", "(II)V"⟩, 10) := ⟨⟨by decide +kernel, by decide +kernel⟩, List.mem_of_getElem? (i := 305) (by decide +kernel), List.mem_of_getElem? (i := 397) (by decide +kernel), List.mem_of_getElem? (i := 398) (by decide +kernel)⟩
theorem lw_p19 : lw_okq (⟨"ListWordsModel", "meaning", "(II)I"⟩, 10) := ⟨⟨by decide +kernel, by decide +kernel⟩, List.mem_of_getElem? (i := 305) (by decide +kernel), List.mem_of_getElem? (i := 401) (by decide +kernel), List.mem_of_getElem? (i := 402) (by decide +kernel)⟩
theorem lw_p20 : lw_okq (⟨"ListWordsModel", "add", "(I)V"⟩, 10) := ⟨⟨by decide +kernel, by decide +kernel⟩, List.mem_of_getElem? (i := 305) (by decide +kernel), List.mem_of_getElem? (i := 405) (by decide +kernel), List.mem_of_getElem? (i := 406) (by decide +kernel)⟩
theorem lw_p21 : lw_okq (⟨"ListWordsModel", "put", "(I)V"⟩, 10) := ⟨⟨by decide +kernel, by decide +kernel⟩, List.mem_of_getElem? (i := 305) (by decide +kernel), List.mem_of_getElem? (i := 423) (by decide +kernel), List.mem_of_getElem? (i := 424) (by decide +kernel)⟩
theorem lw_p22 : lw_okq (⟨"ListWordsModel", "write", "()V"⟩, 10) := ⟨⟨by decide +kernel, by decide +kernel⟩, List.mem_of_getElem? (i := 305) (by decide +kernel), List.mem_of_getElem? (i := 427) (by decide +kernel), List.mem_of_getElem? (i := 428) (by decide +kernel)⟩
theorem lw_p23 : lw_okq (⟨"ListWordsModel", "isPlain", "()Z"⟩, 10) := ⟨⟨by decide +kernel, by decide +kernel⟩, List.mem_of_getElem? (i := 305) (by decide +kernel), List.mem_of_getElem? (i := 431) (by decide +kernel), List.mem_of_getElem? (i := 432) (by decide +kernel)⟩
theorem lw_p24 : lw_okq (⟨"ListWordsModel", "isBraced", "()Z"⟩, 10) := ⟨⟨by decide +kernel, by decide +kernel⟩, List.mem_of_getElem? (i := 305) (by decide +kernel), List.mem_of_getElem? (i := 438) (by decide +kernel), List.mem_of_getElem? (i := 439) (by decide +kernel)⟩
theorem lw_p25 : lw_okq (⟨"ListWordsModel", "escape", "(IZ)V"⟩, 10) := ⟨⟨by decide +kernel, by decide +kernel⟩, List.mem_of_getElem? (i := 305) (by decide +kernel), List.mem_of_getElem? (i := 442) (by decide +kernel), List.mem_of_getElem? (i := 443) (by decide +kernel)⟩
theorem lw_p26 : lw_okq (⟨"ListWordsModel", "settle", "()I"⟩, 10) := ⟨⟨by decide +kernel, by decide +kernel⟩, List.mem_of_getElem? (i := 305) (by decide +kernel), List.mem_of_getElem? (i := 446) (by decide +kernel), List.mem_of_getElem? (i := 447) (by decide +kernel)⟩
def lw_privs_2 : List (MethodName × Nat) := [(⟨"ListWordsModel", "closing", "(I)I"⟩, 10), (⟨"ListWordsModel", "quote", "(I)I"⟩, 10), (⟨"ListWordsModel", "read", "(II)V"⟩, 10), (⟨"ListWordsModel", "meaning", "(II)I"⟩, 10), (⟨"ListWordsModel", "add", "(I)V"⟩, 10), (⟨"ListWordsModel", "put", "(I)V"⟩, 10), (⟨"ListWordsModel", "write", "()V"⟩, 10), (⟨"ListWordsModel", "isPlain", "()Z"⟩, 10), (⟨"ListWordsModel", "isBraced", "()Z"⟩, 10), (⟨"ListWordsModel", "escape", "(IZ)V"⟩, 10), (⟨"ListWordsModel", "settle", "()I"⟩, 10)]
theorem lw_r2 : ∀ q ∈ lw_privs_2, lw_okq q := List.forall_mem_cons.mpr ⟨lw_p16, List.forall_mem_cons.mpr ⟨lw_p17, List.forall_mem_cons.mpr ⟨lw_p18, List.forall_mem_cons.mpr ⟨lw_p19, List.forall_mem_cons.mpr ⟨lw_p20, List.forall_mem_cons.mpr ⟨lw_p21, List.forall_mem_cons.mpr ⟨lw_p22, List.forall_mem_cons.mpr ⟨lw_p23, List.forall_mem_cons.mpr ⟨lw_p24, List.forall_mem_cons.mpr ⟨lw_p25, List.forall_mem_cons.mpr ⟨lw_p26, fun _ h => absurd h List.not_mem_nil⟩⟩⟩⟩⟩⟩⟩⟩⟩⟩⟩
def lw_privs : List (MethodName × Nat) := lw_privs_1 ++ (lw_privs_2)
def lw_tbl : List Cond := k2_sels lw_privs ++ tables_1
theorem lw_privs_ok : ∀ q ∈ lw_privs, lw_okq q := by
  show ∀ q ∈ lw_privs_1 ++ (lw_privs_2), lw_okq q
  exact List.forall_mem_append.mpr ⟨lw_r1, lw_r2⟩

-- names
def wG : List Cond := lw_tbl.filter goodWord
theorem wG_good : ∀ w ∈ wG, (w.onTables && w.keeps) = true ∨ ∃ ty, w = .arrayClass ty := fun _ h => good_of_word (List.mem_filter.mp h).2
theorem mTP {i : Nat} {w : Cond} (h : (k2_sels lw_privs)[i]? = some w) (hg : goodWord w = true) : w ∈ wG := List.mem_filter.mpr ⟨List.mem_append_left _ (List.mem_of_getElem? h), hg⟩
theorem mT1 {i : Nat} {w : Cond} (h : tables_1_1[i]? = some w) (hg : goodWord w = true) : w ∈ wG := List.mem_filter.mpr ⟨List.mem_append_right _ (List.mem_append_left _ (List.mem_of_getElem? h)), hg⟩
theorem mT2 {i : Nat} {w : Cond} (h : tables_1_2[i]? = some w) (hg : goodWord w = true) : w ∈ wG := List.mem_filter.mpr ⟨List.mem_append_right _ (List.mem_append_right _ (List.mem_of_getElem? h)), hg⟩
def R_R : String := "ListWords$Row"
def F_R : u_T := fun k => match k with
  | 0 => ("ListWords$Row", "bytes", "[I", true)
  | _ => ("ListWords$Row", "size", "I", false)
def t_R : Nat → FieldType := fun k => match k with
  | 0 => .array .int
  | _ => .int
theorem n_R : ∀ a, a < 2 → ∀ b, b < 2 → a ≠ b → (F_R a).2.1 ≠ (F_R b).2.1 := by decide +kernel
theorem t_R_ok : ∀ k, k < 2 → parseFieldDescriptor (F_R k).2.2.1 = some (t_R k) := by decide +kernel
theorem i_R : ∀ w ∈ u_ws R_R F_R 2, w ∈ wG := List.forall_mem_cons.mpr ⟨(mT1 (i := 27) rfl rfl), List.forall_mem_cons.mpr ⟨(mT1 (i := 29) rfl rfl), fun _ h => absurd h List.not_mem_nil⟩⟩
theorem w_R_inst : Cond.instantiable R_R 2 ∈ wG := (mT1 (i := 20) rfl rfl)
theorem w_R_init : Cond.initialized R_R ∈ wG := (mT1 (i := 2) rfl rfl)
def R_X : String := "ListWords"
def F_X : u_T := fun k => match k with
  | 0 => ("ListWords", "tape", "LListWords$Row;", true)
  | 1 => ("ListWords", "list", "LListWords$Row;", true)
  | 2 => ("ListWords", "item", "LListWords$Row;", true)
  | 3 => ("ListWords", "word", "LListWords$Row;", true)
  | 4 => ("ListWords", "written", "LListWords$Row;", true)
  | _ => ("ListWords", "place", "I", false)
def t_X : Nat → FieldType := fun k => match k with
  | 0 => .object "ListWords$Row"
  | 1 => .object "ListWords$Row"
  | 2 => .object "ListWords$Row"
  | 3 => .object "ListWords$Row"
  | 4 => .object "ListWords$Row"
  | _ => .int
theorem n_X : ∀ a, a < 6 → ∀ b, b < 6 → a ≠ b → (F_X a).2.1 ≠ (F_X b).2.1 := by decide +kernel
theorem t_X_ok : ∀ k, k < 6 → parseFieldDescriptor (F_X k).2.2.1 = some (t_X k) := by decide +kernel
theorem i_X : ∀ w ∈ u_ws R_X F_X 6, w ∈ wG := List.forall_mem_cons.mpr ⟨(mT1 (i := 39) rfl rfl), List.forall_mem_cons.mpr ⟨(mT1 (i := 41) rfl rfl), List.forall_mem_cons.mpr ⟨(mT1 (i := 43) rfl rfl), List.forall_mem_cons.mpr ⟨(mT1 (i := 45) rfl rfl), List.forall_mem_cons.mpr ⟨(mT1 (i := 47) rfl rfl), List.forall_mem_cons.mpr ⟨(mT1 (i := 49) rfl rfl), fun _ h => absurd h List.not_mem_nil⟩⟩⟩⟩⟩⟩
theorem w_X_inst : Cond.instantiable R_X 6 ∈ wG := (mT1 (i := 12) rfl rfl)
theorem w_X_init : Cond.initialized R_X ∈ wG := (mT1 (i := 1) rfl rfl)
def R_M : String := "ListWordsModel"
def F_M : u_T := fun k => match k with
  | 0 => ("ListWordsModel", "tape", "[I", true)
  | 1 => ("ListWordsModel", "tapeSize", "I", false)
  | 2 => ("ListWordsModel", "list", "[I", true)
  | 3 => ("ListWordsModel", "listSize", "I", false)
  | 4 => ("ListWordsModel", "item", "[I", true)
  | 5 => ("ListWordsModel", "itemSize", "I", false)
  | 6 => ("ListWordsModel", "word", "[I", true)
  | 7 => ("ListWordsModel", "wordSize", "I", false)
  | 8 => ("ListWordsModel", "text", "[I", true)
  | _ => ("ListWordsModel", "textSize", "I", false)
def t_M : Nat → FieldType := fun k => match k with
  | 0 => .array .int
  | 1 => .int
  | 2 => .array .int
  | 3 => .int
  | 4 => .array .int
  | 5 => .int
  | 6 => .array .int
  | 7 => .int
  | 8 => .array .int
  | _ => .int
theorem n_M : ∀ a, a < 10 → ∀ b, b < 10 → a ≠ b → (F_M a).2.1 ≠ (F_M b).2.1 := by decide +kernel
theorem t_M_ok : ∀ k, k < 10 → parseFieldDescriptor (F_M k).2.2.1 = some (t_M k) := by decide +kernel
theorem i_M : ∀ w ∈ u_ws R_M F_M 10, w ∈ wG := List.forall_mem_cons.mpr ⟨(mT2 (i := 80) rfl rfl), List.forall_mem_cons.mpr ⟨(mT2 (i := 82) rfl rfl), List.forall_mem_cons.mpr ⟨(mT2 (i := 84) rfl rfl), List.forall_mem_cons.mpr ⟨(mT2 (i := 86) rfl rfl), List.forall_mem_cons.mpr ⟨(mT2 (i := 88) rfl rfl), List.forall_mem_cons.mpr ⟨(mT2 (i := 90) rfl rfl), List.forall_mem_cons.mpr ⟨(mT2 (i := 92) rfl rfl), List.forall_mem_cons.mpr ⟨(mT2 (i := 94) rfl rfl), List.forall_mem_cons.mpr ⟨(mT2 (i := 96) rfl rfl), List.forall_mem_cons.mpr ⟨(mT2 (i := 98) rfl rfl), fun _ h => absurd h List.not_mem_nil⟩⟩⟩⟩⟩⟩⟩⟩⟩⟩
theorem w_M_inst : Cond.instantiable R_M 10 ∈ wG := (mT2 (i := 65) rfl rfl)
theorem w_M_init : Cond.initialized R_M ∈ wG := (mT1 (i := 3) rfl rfl)
def R_S : String := "java/lang/String"
def R_SL : String := "java/lang/StringLatin1"
def R_PC : String := "jdk/internal/util/Preconditions"
abbrev classes : List vw_C := [(R_R, F_R, 2), (R_X, F_X, 6), (R_M, F_M, 10)]
theorem w_obj_inst : Cond.instanceMethod objectInit ∈ wG := (mT1 (i := 17) rfl rfl)
theorem w_obj_code : Cond.code objectInit ⟨#[0xb1]⟩ 1 none ∈ wG := (mT1 (i := 18) rfl rfl)
theorem w_arr_int : Cond.arrayClass (newarray.typeOf .int) ∈ wG := (mT1 (i := 32) rfl rfl)
theorem w_math_init : Cond.initialized "java/lang/Math" ∈ wG := (mT1 (i := 7) rfl rfl)
theorem w_math_max_static : Cond.static Lib.Math.max.name ∈ wG := (mT1 (i := 175) rfl rfl)
theorem w_math_max_code : Cond.code Lib.Math.max.name Lib.Math.max.code 2 (some .int) ∈ wG := (mT1 (i := 176) rfl rfl)
theorem w_math_min_static : Cond.static Lib.Math.min.name ∈ wG := (mT1 (i := 178) rfl rfl)
theorem w_math_min_code : Cond.code Lib.Math.min.name Lib.Math.min.code 2 (some .int) ∈ wG := (mT1 (i := 179) rfl rfl)
theorem w_copy_native : Cond.native arraycopyName ∈ wG := (mT1 (i := 90) rfl rfl)
theorem w_copy_static : Cond.static arraycopyName ∈ wG := (mT1 (i := 89) rfl rfl)
theorem w_system_init : Cond.initialized "java/lang/System" ∈ wG := (mT1 (i := 4) rfl rfl)
abbrev b_R_byteAt : ByteArray := prog_2_method_3_code
def y_R_byteAt : MethodName := ⟨R_R, "byteAt", "(I)I"⟩
abbrev b_X_itemAt : ByteArray := prog_1_method_12_code
def y_X_itemAt : MethodName := ⟨R_X, "itemAt", "(I)I"⟩
abbrev b_M_itemAt : ByteArray := prog_4_method_34_code
def y_M_itemAt : MethodName := ⟨R_M, "itemAt", "(I)I"⟩
abbrev b_X_listAt : ByteArray := prog_1_method_11_code
def y_X_listAt : MethodName := ⟨R_X, "listAt", "(I)I"⟩
abbrev b_M_listAt : ByteArray := prog_4_method_33_code
def y_M_listAt : MethodName := ⟨R_M, "listAt", "(I)I"⟩
abbrev b_R_putAll : ByteArray := prog_2_method_6_code
def y_R_putAll : MethodName := ⟨R_R, "putAll", "(LListWords$Row;)Z"⟩
abbrev b_R_takeAll : ByteArray := prog_2_method_8_code
def y_R_takeAll : MethodName := ⟨R_R, "takeAll", "(LListWords$Row;)I"⟩
abbrev b_X_wrap : ByteArray := prog_1_method_10_code
def y_X_wrap : MethodName := ⟨R_X, "wrap", "()I"⟩
abbrev b_M_wrap : ByteArray := prog_4_method_32_code
def y_M_wrap : MethodName := ⟨R_M, "wrap", "()I"⟩
abbrev b_R_size : ByteArray := prog_2_method_2_code
def y_R_size : MethodName := ⟨R_R, "size", "()I"⟩
abbrev b_X_isNamedSpace : ByteArray := prog_1_method_25_code
def y_X_isNamedSpace : MethodName := ⟨R_X, "isNamedSpace", "(I)Z"⟩
abbrev b_X_isSpace : ByteArray := prog_1_method_24_code
def y_X_isSpace : MethodName := ⟨R_X, "isSpace", "(I)Z"⟩
abbrev b_X_behindSpaces : ByteArray := prog_1_method_14_code
def y_X_behindSpaces : MethodName := ⟨R_X, "behindSpaces", "(I)I"⟩
abbrev b_R_cutTo : ByteArray := prog_2_method_7_code
def y_R_cutTo : MethodName := ⟨R_R, "cutTo", "(I)Z"⟩
abbrev b_R_put : ByteArray := prog_2_method_4_code
def y_R_put : MethodName := ⟨R_R, "put", "(I)Z"⟩
abbrev b_X_readBraced : ByteArray := prog_1_method_15_code
def y_X_readBraced : MethodName := ⟨R_X, "readBraced", "(I)I"⟩
abbrev b_X_behindCloser : ByteArray := prog_1_method_17_code
def y_X_behindCloser : MethodName := ⟨R_X, "behindCloser", "(I)I"⟩
abbrev b_X_digitOf : ByteArray := prog_1_method_23_code
def y_X_digitOf : MethodName := ⟨R_X, "digitOf", "(I)I"⟩
abbrev b_X_countDigits : ByteArray := prog_1_method_21_code
def y_X_countDigits : MethodName := ⟨R_X, "countDigits", "(III)I"⟩
abbrev b_X_numberAt : ByteArray := prog_1_method_22_code
def y_X_numberAt : MethodName := ⟨R_X, "numberAt", "(III)I"⟩
abbrev b_S_isLatin1 : ByteArray := prog_7_method_154_code
def y_S_isLatin1 : MethodName := ⟨R_S, "isLatin1", "()Z"⟩
abbrev b_S_coder : ByteArray := prog_7_method_152_code
def y_S_coder : MethodName := ⟨R_S, "coder", "()B"⟩
abbrev b_S_length : ByteArray := prog_7_method_54_code
def y_S_length : MethodName := ⟨R_S, "length", "()I"⟩
abbrev b_SL_canEncode1 : ByteArray := prog_8_method_4_code
def y_SL_canEncode1 : MethodName := ⟨R_SL, "canEncode", "(I)Z"⟩
abbrev b_SL_indexOfChar : ByteArray := prog_8_method_23_code
def y_SL_indexOfChar : MethodName := ⟨R_SL, "indexOfChar", "([BIII)I"⟩
abbrev b_SL_indexOf0 : ByteArray := prog_8_method_22_code
def y_SL_indexOf0 : MethodName := ⟨R_SL, "indexOf", "([BIII)I"⟩
abbrev b_S_indexOf1 : ByteArray := prog_7_method_80_code
def y_S_indexOf1 : MethodName := ⟨R_S, "indexOf", "(II)I"⟩
abbrev b_S_indexOf0 : ByteArray := prog_7_method_79_code
def y_S_indexOf0 : MethodName := ⟨R_S, "indexOf", "(I)I"⟩
abbrev b_X_meaningOfBackslash : ByteArray := prog_1_method_18_code
def y_X_meaningOfBackslash : MethodName := ⟨R_X, "meaningOfBackslash", "(I)I"⟩
abbrev b_X_countBlanks : ByteArray := prog_1_method_20_code
def y_X_countBlanks : MethodName := ⟨R_X, "countBlanks", "(I)I"⟩
abbrev b_X_bytesBehindBackslash : ByteArray := prog_1_method_19_code
def y_X_bytesBehindBackslash : MethodName := ⟨R_X, "bytesBehindBackslash", "(I)I"⟩
abbrev b_X_readUnbraced : ByteArray := prog_1_method_16_code
def y_X_readUnbraced : MethodName := ⟨R_X, "readUnbraced", "(IZ)I"⟩
abbrev b_X_nextElement : ByteArray := prog_1_method_13_code
def y_X_nextElement : MethodName := ⟨R_X, "nextElement", "()I"⟩
abbrev b_X_count : ByteArray := prog_1_method_6_code
def y_X_count : MethodName := ⟨R_X, "count", "()I"⟩
abbrev b_X_needsBackslash : ByteArray := prog_1_method_30_code
def y_X_needsBackslash : MethodName := ⟨R_X, "needsBackslash", "(LListWords$Row;I)Z"⟩
abbrev b_X_canStandBare : ByteArray := prog_1_method_27_code
def y_X_canStandBare : MethodName := ⟨R_X, "canStandBare", "(LListWords$Row;)Z"⟩
abbrev b_X_canStandInBraces : ByteArray := prog_1_method_28_code
def y_X_canStandInBraces : MethodName := ⟨R_X, "canStandInBraces", "(LListWords$Row;)Z"⟩
abbrev b_PC_checkIndex0 : ByteArray := prog_11_method_11_code
def y_PC_checkIndex0 : MethodName := ⟨R_PC, "checkIndex", "(IILjava/util/function/BiFunction;)I"⟩
abbrev b_S_checkIndex : ByteArray := prog_7_method_155_code
def y_S_checkIndex : MethodName := ⟨R_S, "checkIndex", "(II)V"⟩
abbrev b_SL_charAt : ByteArray := prog_8_method_2_code
def y_SL_charAt : MethodName := ⟨R_SL, "charAt", "([BI)C"⟩
abbrev b_S_charAt : ByteArray := prog_7_method_56_code
def y_S_charAt : MethodName := ⟨R_S, "charAt", "(I)C"⟩
abbrev b_X_writeWithBackslashes : ByteArray := prog_1_method_29_code
def y_X_writeWithBackslashes : MethodName := ⟨R_X, "writeWithBackslashes", "(LListWords$Row;LListWords$Row;)Z"⟩
abbrev b_X_writeBehind : ByteArray := prog_1_method_26_code
def y_X_writeBehind : MethodName := ⟨R_X, "writeBehind", "(LListWords$Row;LListWords$Row;)Z"⟩
abbrev b_X_again : ByteArray := prog_1_method_9_code
def y_X_again : MethodName := ⟨R_X, "again", "()I"⟩
abbrev b_M_at : ByteArray := prog_4_method_5_code
def y_M_at : MethodName := ⟨R_M, "at", "(I)I"⟩
abbrev b_M_isSpace : ByteArray := prog_4_method_3_code
def y_M_isSpace : MethodName := ⟨R_M, "isSpace", "(I)Z"⟩
abbrev b_M_skip : ByteArray := prog_4_method_11_code
def y_M_skip : MethodName := ⟨R_M, "skip", "(I)I"⟩
abbrev b_M_behind : ByteArray := prog_4_method_6_code
def y_M_behind : MethodName := ⟨R_M, "behind", "(I)I"⟩
abbrev b_M_bare : ByteArray := prog_4_method_9_code
def y_M_bare : MethodName := ⟨R_M, "bare", "(I)I"⟩
abbrev b_M_closing : ByteArray := prog_4_method_7_code
def y_M_closing : MethodName := ⟨R_M, "closing", "(I)I"⟩
abbrev b_M_quote : ByteArray := prog_4_method_8_code
def y_M_quote : MethodName := ⟨R_M, "quote", "(I)I"⟩
abbrev b_M_ending : ByteArray := prog_4_method_10_code
def y_M_ending : MethodName := ⟨R_M, "ending", "(I)I"⟩
abbrev b_M_add : ByteArray := prog_4_method_12_code
def y_M_add : MethodName := ⟨R_M, "add", "(I)V"⟩
abbrev b_M_digit : ByteArray := prog_4_method_4_code
def y_M_digit : MethodName := ⟨R_M, "digit", "(I)I"⟩
abbrev b_M_letter : ByteArray := prog_4_method_13_code
def y_M_letter : MethodName := ⟨R_M, "letter", "(I)I"⟩
abbrev b_M_meaning : ByteArray := prog_4_method_14_code
def y_M_meaning : MethodName := ⟨R_M, "meaning", "(II)I"⟩
abbrev b_M_read : ByteArray := prog_4_method_15_code
def y_M_read : MethodName := ⟨R_M, "read", "(II)V"⟩
abbrev b_M_goOver : ByteArray := prog_4_method_16_code
def y_M_goOver : MethodName := ⟨R_M, "goOver", "(I)I"⟩
abbrev b_M_put : ByteArray := prog_4_method_17_code
def y_M_put : MethodName := ⟨R_M, "put", "(I)V"⟩
abbrev b_M_isSpecial : ByteArray := prog_4_method_18_code
def y_M_isSpecial : MethodName := ⟨R_M, "isSpecial", "(I)Z"⟩
abbrev b_M_isPlain : ByteArray := prog_4_method_19_code
def y_M_isPlain : MethodName := ⟨R_M, "isPlain", "()Z"⟩
abbrev b_M_isBraced : ByteArray := prog_4_method_20_code
def y_M_isBraced : MethodName := ⟨R_M, "isBraced", "()Z"⟩
abbrev b_M_escape : ByteArray := prog_4_method_21_code
def y_M_escape : MethodName := ⟨R_M, "escape", "(IZ)V"⟩
abbrev b_M_write : ByteArray := prog_4_method_22_code
def y_M_write : MethodName := ⟨R_M, "write", "()V"⟩
abbrev b_M_settle : ByteArray := prog_4_method_23_code
def y_M_settle : MethodName := ⟨R_M, "settle", "()I"⟩
abbrev b_M_again : ByteArray := prog_4_method_31_code
def y_M_again : MethodName := ⟨R_M, "again", "()I"⟩
abbrev b_X_append : ByteArray := prog_1_method_8_code
def y_X_append : MethodName := ⟨R_X, "append", "()I"⟩
abbrev b_M_append : ByteArray := prog_4_method_30_code
def y_M_append : MethodName := ⟨R_M, "append", "()I"⟩
abbrev b_X_element : ByteArray := prog_1_method_7_code
def y_X_element : MethodName := ⟨R_X, "element", "(I)I"⟩
abbrev b_M_element : ByteArray := prog_4_method_29_code
def y_M_element : MethodName := ⟨R_M, "element", "(I)I"⟩
abbrev b_M_count : ByteArray := prog_4_method_28_code
def y_M_count : MethodName := ⟨R_M, "count", "()I"⟩
abbrev b_X_item : ByteArray := prog_1_method_5_code
def y_X_item : MethodName := ⟨R_X, "item", "()I"⟩
abbrev b_M_item : ByteArray := prog_4_method_27_code
def y_M_item : MethodName := ⟨R_M, "item", "()I"⟩
abbrev b_X_list : ByteArray := prog_1_method_4_code
def y_X_list : MethodName := ⟨R_X, "list", "()I"⟩
abbrev b_M_list : ByteArray := prog_4_method_26_code
def y_M_list : MethodName := ⟨R_M, "list", "()I"⟩
abbrev b_X_end : ByteArray := prog_1_method_3_code
def y_X_end : MethodName := ⟨R_X, "end", "(I)Z"⟩
abbrev b_M_end : ByteArray := prog_4_method_25_code
def y_M_end : MethodName := ⟨R_M, "end", "(I)Z"⟩
abbrev b_R_putNumber : ByteArray := prog_2_method_5_code
def y_R_putNumber : MethodName := ⟨R_R, "putNumber", "(I)V"⟩
abbrev b_X_feed : ByteArray := prog_1_method_2_code
def y_X_feed : MethodName := ⟨R_X, "feed", "(IIIII)Z"⟩
abbrev b_M_feed : ByteArray := prog_4_method_24_code
def y_M_feed : MethodName := ⟨R_M, "feed", "(IIIII)Z"⟩
abbrev b_R_init : ByteArray := prog_2_method_1_code
def y_R_init : MethodName := ⟨R_R, "<init>", "()V"⟩
abbrev b_X_init : ByteArray := prog_1_method_1_code
def y_X_init : MethodName := ⟨R_X, "<init>", "()V"⟩
abbrev b_M_init : ByteArray := prog_4_method_1_code
def y_M_init : MethodName := ⟨R_M, "<init>", "()V"⟩
end
section
theorem d_R_byteAt_0 : decode b_R_byteAt 0 = .ok (.iload_n 1, 1) := by decide +kernel
theorem d_R_byteAt_1 : decode b_R_byteAt 1 = .ok (.ifCond .lt 20, 3) := by decide +kernel
theorem d_R_byteAt_4 : decode b_R_byteAt 4 = .ok (.iload_n 1, 1) := by decide +kernel
theorem d_R_byteAt_5 : decode b_R_byteAt 5 = .ok (.aload_n 0, 1) := by decide +kernel
theorem d_R_byteAt_6 : decode b_R_byteAt 6 = .ok (.getfield 15, 3) := by decide +kernel
theorem d_R_byteAt_9 : decode b_R_byteAt 9 = .ok (.if_icmp .ge 12, 3) := by decide +kernel
theorem d_R_byteAt_12 : decode b_R_byteAt 12 = .ok (.aload_n 0, 1) := by decide +kernel
theorem d_R_byteAt_13 : decode b_R_byteAt 13 = .ok (.getfield 9, 3) := by decide +kernel
theorem d_R_byteAt_16 : decode b_R_byteAt 16 = .ok (.iload_n 1, 1) := by decide +kernel
theorem d_R_byteAt_17 : decode b_R_byteAt 17 = .ok (.iaload, 1) := by decide +kernel
theorem d_R_byteAt_18 : decode b_R_byteAt 18 = .ok (.goto 4, 3) := by decide +kernel
theorem d_R_byteAt_21 : decode b_R_byteAt 21 = .ok (.iconst (-1), 1) := by decide +kernel
theorem d_R_byteAt_22 : decode b_R_byteAt 22 = .ok (.ireturn, 1) := by decide +kernel
theorem d_X_itemAt_0 : decode b_X_itemAt 0 = .ok (.aload_n 0, 1) := by decide +kernel
theorem d_X_itemAt_1 : decode b_X_itemAt 1 = .ok (.getfield 19, 3) := by decide +kernel
theorem d_X_itemAt_4 : decode b_X_itemAt 4 = .ok (.iload_n 1, 1) := by decide +kernel
theorem d_X_itemAt_5 : decode b_X_itemAt 5 = .ok (.invokevirtual 58, 3) := by decide +kernel
theorem d_X_itemAt_8 : decode b_X_itemAt 8 = .ok (.ireturn, 1) := by decide +kernel
theorem d_M_itemAt_0 : decode b_M_itemAt 0 = .ok (.iload_n 1, 1) := by decide +kernel
theorem d_M_itemAt_1 : decode b_M_itemAt 1 = .ok (.ifCond .lt 20, 3) := by decide +kernel
theorem d_M_itemAt_4 : decode b_M_itemAt 4 = .ok (.iload_n 1, 1) := by decide +kernel
theorem d_M_itemAt_5 : decode b_M_itemAt 5 = .ok (.aload_n 0, 1) := by decide +kernel
theorem d_M_itemAt_6 : decode b_M_itemAt 6 = .ok (.getfield 99, 3) := by decide +kernel
theorem d_M_itemAt_9 : decode b_M_itemAt 9 = .ok (.if_icmp .ge 12, 3) := by decide +kernel
theorem d_M_itemAt_12 : decode b_M_itemAt 12 = .ok (.aload_n 0, 1) := by decide +kernel
theorem d_M_itemAt_13 : decode b_M_itemAt 13 = .ok (.getfield 16, 3) := by decide +kernel
theorem d_M_itemAt_16 : decode b_M_itemAt 16 = .ok (.iload_n 1, 1) := by decide +kernel
theorem d_M_itemAt_17 : decode b_M_itemAt 17 = .ok (.iaload, 1) := by decide +kernel
theorem d_M_itemAt_18 : decode b_M_itemAt 18 = .ok (.goto 4, 3) := by decide +kernel
theorem d_M_itemAt_21 : decode b_M_itemAt 21 = .ok (.iconst (-1), 1) := by decide +kernel
theorem d_M_itemAt_22 : decode b_M_itemAt 22 = .ok (.ireturn, 1) := by decide +kernel
theorem d_X_listAt_0 : decode b_X_listAt 0 = .ok (.aload_n 0, 1) := by decide +kernel
theorem d_X_listAt_1 : decode b_X_listAt 1 = .ok (.getfield 16, 3) := by decide +kernel
theorem d_X_listAt_4 : decode b_X_listAt 4 = .ok (.iload_n 1, 1) := by decide +kernel
theorem d_X_listAt_5 : decode b_X_listAt 5 = .ok (.invokevirtual 58, 3) := by decide +kernel
theorem d_X_listAt_8 : decode b_X_listAt 8 = .ok (.ireturn, 1) := by decide +kernel
theorem d_M_listAt_0 : decode b_M_listAt 0 = .ok (.iload_n 1, 1) := by decide +kernel
theorem d_M_listAt_1 : decode b_M_listAt 1 = .ok (.ifCond .lt 20, 3) := by decide +kernel
theorem d_M_listAt_4 : decode b_M_listAt 4 = .ok (.iload_n 1, 1) := by decide +kernel
theorem d_M_listAt_5 : decode b_M_listAt 5 = .ok (.aload_n 0, 1) := by decide +kernel
theorem d_M_listAt_6 : decode b_M_listAt 6 = .ok (.getfield 25, 3) := by decide +kernel
theorem d_M_listAt_9 : decode b_M_listAt 9 = .ok (.if_icmp .ge 12, 3) := by decide +kernel
theorem d_M_listAt_12 : decode b_M_listAt 12 = .ok (.aload_n 0, 1) := by decide +kernel
theorem d_M_listAt_13 : decode b_M_listAt 13 = .ok (.getfield 13, 3) := by decide +kernel
theorem d_M_listAt_16 : decode b_M_listAt 16 = .ok (.iload_n 1, 1) := by decide +kernel
theorem d_M_listAt_17 : decode b_M_listAt 17 = .ok (.iaload, 1) := by decide +kernel
theorem d_M_listAt_18 : decode b_M_listAt 18 = .ok (.goto 4, 3) := by decide +kernel
theorem d_M_listAt_21 : decode b_M_listAt 21 = .ok (.iconst (-1), 1) := by decide +kernel
theorem d_M_listAt_22 : decode b_M_listAt 22 = .ok (.ireturn, 1) := by decide +kernel
theorem d_R_putAll_0 : decode b_R_putAll 0 = .ok (.aload_n 1, 1) := by decide +kernel
theorem d_R_putAll_1 : decode b_R_putAll 1 = .ok (.getfield 15, 3) := by decide +kernel
theorem d_R_putAll_4 : decode b_R_putAll 4 = .ok (.sipush 1024, 3) := by decide +kernel
theorem d_R_putAll_7 : decode b_R_putAll 7 = .ok (.aload_n 0, 1) := by decide +kernel
theorem d_R_putAll_8 : decode b_R_putAll 8 = .ok (.getfield 15, 3) := by decide +kernel
theorem d_R_putAll_11 : decode b_R_putAll 11 = .ok (.isub, 1) := by decide +kernel
theorem d_R_putAll_12 : decode b_R_putAll 12 = .ok (.if_icmp .le 5, 3) := by decide +kernel
theorem d_R_putAll_15 : decode b_R_putAll 15 = .ok (.iconst 0, 1) := by decide +kernel
theorem d_R_putAll_16 : decode b_R_putAll 16 = .ok (.ireturn, 1) := by decide +kernel
theorem d_R_putAll_17 : decode b_R_putAll 17 = .ok (.aload_n 1, 1) := by decide +kernel
theorem d_R_putAll_18 : decode b_R_putAll 18 = .ok (.getfield 9, 3) := by decide +kernel
theorem d_R_putAll_21 : decode b_R_putAll 21 = .ok (.iconst 0, 1) := by decide +kernel
theorem d_R_putAll_22 : decode b_R_putAll 22 = .ok (.aload_n 0, 1) := by decide +kernel
theorem d_R_putAll_23 : decode b_R_putAll 23 = .ok (.getfield 9, 3) := by decide +kernel
theorem d_R_putAll_26 : decode b_R_putAll 26 = .ok (.aload_n 0, 1) := by decide +kernel
theorem d_R_putAll_27 : decode b_R_putAll 27 = .ok (.getfield 15, 3) := by decide +kernel
theorem d_R_putAll_30 : decode b_R_putAll 30 = .ok (.aload_n 1, 1) := by decide +kernel
theorem d_R_putAll_31 : decode b_R_putAll 31 = .ok (.getfield 15, 3) := by decide +kernel
theorem d_R_putAll_34 : decode b_R_putAll 34 = .ok (.invokestatic 23, 3) := by decide +kernel
theorem d_R_putAll_37 : decode b_R_putAll 37 = .ok (.aload_n 0, 1) := by decide +kernel
theorem d_R_putAll_38 : decode b_R_putAll 38 = .ok (.dup, 1) := by decide +kernel
theorem d_R_putAll_39 : decode b_R_putAll 39 = .ok (.getfield 15, 3) := by decide +kernel
theorem d_R_putAll_42 : decode b_R_putAll 42 = .ok (.aload_n 1, 1) := by decide +kernel
theorem d_R_putAll_43 : decode b_R_putAll 43 = .ok (.getfield 15, 3) := by decide +kernel
theorem d_R_putAll_46 : decode b_R_putAll 46 = .ok (.iadd, 1) := by decide +kernel
theorem d_R_putAll_47 : decode b_R_putAll 47 = .ok (.putfield 15, 3) := by decide +kernel
theorem d_R_putAll_50 : decode b_R_putAll 50 = .ok (.iconst 1, 1) := by decide +kernel
theorem d_R_putAll_51 : decode b_R_putAll 51 = .ok (.ireturn, 1) := by decide +kernel
theorem d_R_takeAll_0 : decode b_R_takeAll 0 = .ok (.aload_n 0, 1) := by decide +kernel
theorem d_R_takeAll_1 : decode b_R_takeAll 1 = .ok (.iconst 0, 1) := by decide +kernel
theorem d_R_takeAll_2 : decode b_R_takeAll 2 = .ok (.putfield 15, 3) := by decide +kernel
theorem d_R_takeAll_5 : decode b_R_takeAll 5 = .ok (.aload_n 0, 1) := by decide +kernel
theorem d_R_takeAll_6 : decode b_R_takeAll 6 = .ok (.aload_n 1, 1) := by decide +kernel
theorem d_R_takeAll_7 : decode b_R_takeAll 7 = .ok (.invokevirtual 29, 3) := by decide +kernel
theorem d_R_takeAll_10 : decode b_R_takeAll 10 = .ok (.pop, 1) := by decide +kernel
theorem d_R_takeAll_11 : decode b_R_takeAll 11 = .ok (.aload_n 1, 1) := by decide +kernel
theorem d_R_takeAll_12 : decode b_R_takeAll 12 = .ok (.iconst 0, 1) := by decide +kernel
theorem d_R_takeAll_13 : decode b_R_takeAll 13 = .ok (.putfield 15, 3) := by decide +kernel
theorem d_R_takeAll_16 : decode b_R_takeAll 16 = .ok (.aload_n 0, 1) := by decide +kernel
theorem d_R_takeAll_17 : decode b_R_takeAll 17 = .ok (.getfield 15, 3) := by decide +kernel
theorem d_R_takeAll_20 : decode b_R_takeAll 20 = .ok (.ireturn, 1) := by decide +kernel
theorem d_X_wrap_0 : decode b_X_wrap 0 = .ok (.aload_n 0, 1) := by decide +kernel
theorem d_X_wrap_1 : decode b_X_wrap 1 = .ok (.getfield 19, 3) := by decide +kernel
theorem d_X_wrap_4 : decode b_X_wrap 4 = .ok (.aload_n 0, 1) := by decide +kernel
theorem d_X_wrap_5 : decode b_X_wrap 5 = .ok (.getfield 16, 3) := by decide +kernel
theorem d_X_wrap_8 : decode b_X_wrap 8 = .ok (.invokevirtual 44, 3) := by decide +kernel
theorem d_X_wrap_11 : decode b_X_wrap 11 = .ok (.ireturn, 1) := by decide +kernel
theorem d_M_wrap_0 : decode b_M_wrap 0 = .ok (.iconst 0, 1) := by decide +kernel
theorem d_M_wrap_1 : decode b_M_wrap 1 = .ok (.istore_n 1, 1) := by decide +kernel
theorem d_M_wrap_2 : decode b_M_wrap 2 = .ok (.iload_n 1, 1) := by decide +kernel
theorem d_M_wrap_3 : decode b_M_wrap 3 = .ok (.aload_n 0, 1) := by decide +kernel
theorem d_M_wrap_4 : decode b_M_wrap 4 = .ok (.getfield 25, 3) := by decide +kernel
theorem d_M_wrap_7 : decode b_M_wrap 7 = .ok (.if_icmp .ge 21, 3) := by decide +kernel
theorem d_M_wrap_10 : decode b_M_wrap 10 = .ok (.aload_n 0, 1) := by decide +kernel
theorem d_M_wrap_11 : decode b_M_wrap 11 = .ok (.getfield 16, 3) := by decide +kernel
theorem d_M_wrap_14 : decode b_M_wrap 14 = .ok (.iload_n 1, 1) := by decide +kernel
theorem d_M_wrap_15 : decode b_M_wrap 15 = .ok (.aload_n 0, 1) := by decide +kernel
theorem d_M_wrap_16 : decode b_M_wrap 16 = .ok (.getfield 13, 3) := by decide +kernel
theorem d_M_wrap_19 : decode b_M_wrap 19 = .ok (.iload_n 1, 1) := by decide +kernel
theorem d_M_wrap_20 : decode b_M_wrap 20 = .ok (.iaload, 1) := by decide +kernel
theorem d_M_wrap_21 : decode b_M_wrap 21 = .ok (.iastore, 1) := by decide +kernel
theorem d_M_wrap_22 : decode b_M_wrap 22 = .ok (.iinc 1 1, 3) := by decide +kernel
theorem d_M_wrap_25 : decode b_M_wrap 25 = .ok (.goto (-23), 3) := by decide +kernel
theorem d_M_wrap_28 : decode b_M_wrap 28 = .ok (.aload_n 0, 1) := by decide +kernel
theorem d_M_wrap_29 : decode b_M_wrap 29 = .ok (.aload_n 0, 1) := by decide +kernel
theorem d_M_wrap_30 : decode b_M_wrap 30 = .ok (.getfield 25, 3) := by decide +kernel
theorem d_M_wrap_33 : decode b_M_wrap 33 = .ok (.putfield 99, 3) := by decide +kernel
theorem d_M_wrap_36 : decode b_M_wrap 36 = .ok (.aload_n 0, 1) := by decide +kernel
theorem d_M_wrap_37 : decode b_M_wrap 37 = .ok (.iconst 0, 1) := by decide +kernel
theorem d_M_wrap_38 : decode b_M_wrap 38 = .ok (.putfield 25, 3) := by decide +kernel
theorem d_M_wrap_41 : decode b_M_wrap 41 = .ok (.aload_n 0, 1) := by decide +kernel
theorem d_M_wrap_42 : decode b_M_wrap 42 = .ok (.getfield 99, 3) := by decide +kernel
theorem d_M_wrap_45 : decode b_M_wrap 45 = .ok (.ireturn, 1) := by decide +kernel
theorem d_R_size_0 : decode b_R_size 0 = .ok (.aload_n 0, 1) := by decide +kernel
theorem d_R_size_1 : decode b_R_size 1 = .ok (.getfield 15, 3) := by decide +kernel
theorem d_R_size_4 : decode b_R_size 4 = .ok (.ireturn, 1) := by decide +kernel
theorem d_X_isNamedSpace_0 : decode b_X_isNamedSpace 0 = .ok (.iload_n 0, 1) := by decide +kernel
theorem d_X_isNamedSpace_1 : decode b_X_isNamedSpace 1 = .ok (.bipush 9, 2) := by decide +kernel
theorem d_X_isNamedSpace_3 : decode b_X_isNamedSpace 3 = .ok (.if_icmp .lt 13, 3) := by decide +kernel
theorem d_X_isNamedSpace_6 : decode b_X_isNamedSpace 6 = .ok (.iload_n 0, 1) := by decide +kernel
theorem d_X_isNamedSpace_7 : decode b_X_isNamedSpace 7 = .ok (.bipush 13, 2) := by decide +kernel
theorem d_X_isNamedSpace_9 : decode b_X_isNamedSpace 9 = .ok (.if_icmp .gt 7, 3) := by decide +kernel
theorem d_X_isNamedSpace_12 : decode b_X_isNamedSpace 12 = .ok (.iconst 1, 1) := by decide +kernel
theorem d_X_isNamedSpace_13 : decode b_X_isNamedSpace 13 = .ok (.goto 4, 3) := by decide +kernel
theorem d_X_isNamedSpace_16 : decode b_X_isNamedSpace 16 = .ok (.iconst 0, 1) := by decide +kernel
theorem d_X_isNamedSpace_17 : decode b_X_isNamedSpace 17 = .ok (.ireturn, 1) := by decide +kernel
theorem d_X_isSpace_0 : decode b_X_isSpace 0 = .ok (.iload_n 0, 1) := by decide +kernel
theorem d_X_isSpace_1 : decode b_X_isSpace 1 = .ok (.bipush 32, 2) := by decide +kernel
theorem d_X_isSpace_3 : decode b_X_isSpace 3 = .ok (.if_icmp .eq 10, 3) := by decide +kernel
theorem d_X_isSpace_6 : decode b_X_isSpace 6 = .ok (.iload_n 0, 1) := by decide +kernel
theorem d_X_isSpace_7 : decode b_X_isSpace 7 = .ok (.invokestatic 113, 3) := by decide +kernel
theorem d_X_isSpace_10 : decode b_X_isSpace 10 = .ok (.ifCond .eq 7, 3) := by decide +kernel
theorem d_X_isSpace_13 : decode b_X_isSpace 13 = .ok (.iconst 1, 1) := by decide +kernel
theorem d_X_isSpace_14 : decode b_X_isSpace 14 = .ok (.goto 4, 3) := by decide +kernel
theorem d_X_isSpace_17 : decode b_X_isSpace 17 = .ok (.iconst 0, 1) := by decide +kernel
theorem d_X_isSpace_18 : decode b_X_isSpace 18 = .ok (.ireturn, 1) := by decide +kernel
theorem d_X_behindSpaces_0 : decode b_X_behindSpaces 0 = .ok (.iload_n 1, 1) := by decide +kernel
theorem d_X_behindSpaces_1 : decode b_X_behindSpaces 1 = .ok (.istore_n 2, 1) := by decide +kernel
theorem d_X_behindSpaces_2 : decode b_X_behindSpaces 2 = .ok (.iload_n 2, 1) := by decide +kernel
theorem d_X_behindSpaces_3 : decode b_X_behindSpaces 3 = .ok (.aload_n 0, 1) := by decide +kernel
theorem d_X_behindSpaces_4 : decode b_X_behindSpaces 4 = .ok (.getfield 16, 3) := by decide +kernel
theorem d_X_behindSpaces_7 : decode b_X_behindSpaces 7 = .ok (.invokevirtual 32, 3) := by decide +kernel
theorem d_X_behindSpaces_10 : decode b_X_behindSpaces 10 = .ok (.if_icmp .ge 23, 3) := by decide +kernel
theorem d_X_behindSpaces_13 : decode b_X_behindSpaces 13 = .ok (.aload_n 0, 1) := by decide +kernel
theorem d_X_behindSpaces_14 : decode b_X_behindSpaces 14 = .ok (.getfield 16, 3) := by decide +kernel
theorem d_X_behindSpaces_17 : decode b_X_behindSpaces 17 = .ok (.iload_n 2, 1) := by decide +kernel
theorem d_X_behindSpaces_18 : decode b_X_behindSpaces 18 = .ok (.invokevirtual 58, 3) := by decide +kernel
theorem d_X_behindSpaces_21 : decode b_X_behindSpaces 21 = .ok (.invokestatic 75, 3) := by decide +kernel
theorem d_X_behindSpaces_24 : decode b_X_behindSpaces 24 = .ok (.ifCond .eq 9, 3) := by decide +kernel
theorem d_X_behindSpaces_27 : decode b_X_behindSpaces 27 = .ok (.iinc 2 1, 3) := by decide +kernel
theorem d_X_behindSpaces_30 : decode b_X_behindSpaces 30 = .ok (.goto (-28), 3) := by decide +kernel
theorem d_X_behindSpaces_33 : decode b_X_behindSpaces 33 = .ok (.iload_n 2, 1) := by decide +kernel
theorem d_X_behindSpaces_34 : decode b_X_behindSpaces 34 = .ok (.ireturn, 1) := by decide +kernel
theorem d_R_cutTo_0 : decode b_R_cutTo 0 = .ok (.iload_n 1, 1) := by decide +kernel
theorem d_R_cutTo_1 : decode b_R_cutTo 1 = .ok (.ifCond .lt 11, 3) := by decide +kernel
theorem d_R_cutTo_4 : decode b_R_cutTo 4 = .ok (.iload_n 1, 1) := by decide +kernel
theorem d_R_cutTo_5 : decode b_R_cutTo 5 = .ok (.aload_n 0, 1) := by decide +kernel
theorem d_R_cutTo_6 : decode b_R_cutTo 6 = .ok (.getfield 15, 3) := by decide +kernel
theorem d_R_cutTo_9 : decode b_R_cutTo 9 = .ok (.if_icmp .le 5, 3) := by decide +kernel
theorem d_R_cutTo_12 : decode b_R_cutTo 12 = .ok (.iconst 0, 1) := by decide +kernel
theorem d_R_cutTo_13 : decode b_R_cutTo 13 = .ok (.ireturn, 1) := by decide +kernel
theorem d_R_cutTo_14 : decode b_R_cutTo 14 = .ok (.aload_n 0, 1) := by decide +kernel
theorem d_R_cutTo_15 : decode b_R_cutTo 15 = .ok (.iload_n 1, 1) := by decide +kernel
theorem d_R_cutTo_16 : decode b_R_cutTo 16 = .ok (.putfield 15, 3) := by decide +kernel
theorem d_R_cutTo_19 : decode b_R_cutTo 19 = .ok (.iconst 1, 1) := by decide +kernel
theorem d_R_cutTo_20 : decode b_R_cutTo 20 = .ok (.ireturn, 1) := by decide +kernel
theorem d_R_put_0 : decode b_R_put 0 = .ok (.aload_n 0, 1) := by decide +kernel
theorem d_R_put_1 : decode b_R_put 1 = .ok (.getfield 15, 3) := by decide +kernel
theorem d_R_put_4 : decode b_R_put 4 = .ok (.sipush 1024, 3) := by decide +kernel
theorem d_R_put_7 : decode b_R_put 7 = .ok (.if_icmp .lt 5, 3) := by decide +kernel
theorem d_R_put_10 : decode b_R_put 10 = .ok (.iconst 0, 1) := by decide +kernel
theorem d_R_put_11 : decode b_R_put 11 = .ok (.ireturn, 1) := by decide +kernel
theorem d_R_put_12 : decode b_R_put 12 = .ok (.aload_n 0, 1) := by decide +kernel
theorem d_R_put_13 : decode b_R_put 13 = .ok (.getfield 9, 3) := by decide +kernel
theorem d_R_put_16 : decode b_R_put 16 = .ok (.aload_n 0, 1) := by decide +kernel
theorem d_R_put_17 : decode b_R_put 17 = .ok (.getfield 15, 3) := by decide +kernel
theorem d_R_put_20 : decode b_R_put 20 = .ok (.iload_n 1, 1) := by decide +kernel
theorem d_R_put_21 : decode b_R_put 21 = .ok (.sipush 255, 3) := by decide +kernel
theorem d_R_put_24 : decode b_R_put 24 = .ok (.iand, 1) := by decide +kernel
theorem d_R_put_25 : decode b_R_put 25 = .ok (.iastore, 1) := by decide +kernel
theorem d_R_put_26 : decode b_R_put 26 = .ok (.aload_n 0, 1) := by decide +kernel
theorem d_R_put_27 : decode b_R_put 27 = .ok (.dup, 1) := by decide +kernel
theorem d_R_put_28 : decode b_R_put 28 = .ok (.getfield 15, 3) := by decide +kernel
theorem d_R_put_31 : decode b_R_put 31 = .ok (.iconst 1, 1) := by decide +kernel
theorem d_R_put_32 : decode b_R_put 32 = .ok (.iadd, 1) := by decide +kernel
theorem d_R_put_33 : decode b_R_put 33 = .ok (.putfield 15, 3) := by decide +kernel
theorem d_R_put_36 : decode b_R_put 36 = .ok (.iconst 1, 1) := by decide +kernel
theorem d_R_put_37 : decode b_R_put 37 = .ok (.ireturn, 1) := by decide +kernel
theorem d_X_readBraced_0 : decode b_X_readBraced 0 = .ok (.iconst 1, 1) := by decide +kernel
theorem d_X_readBraced_1 : decode b_X_readBraced 1 = .ok (.istore_n 2, 1) := by decide +kernel
theorem d_X_readBraced_2 : decode b_X_readBraced 2 = .ok (.iload_n 1, 1) := by decide +kernel
theorem d_X_readBraced_3 : decode b_X_readBraced 3 = .ok (.istore_n 3, 1) := by decide +kernel
theorem d_X_readBraced_4 : decode b_X_readBraced 4 = .ok (.iload_n 3, 1) := by decide +kernel
theorem d_X_readBraced_5 : decode b_X_readBraced 5 = .ok (.aload_n 0, 1) := by decide +kernel
theorem d_X_readBraced_6 : decode b_X_readBraced 6 = .ok (.getfield 16, 3) := by decide +kernel
theorem d_X_readBraced_9 : decode b_X_readBraced 9 = .ok (.invokevirtual 32, 3) := by decide +kernel
theorem d_X_readBraced_12 : decode b_X_readBraced 12 = .ok (.if_icmp .ge 97, 3) := by decide +kernel
theorem d_X_readBraced_15 : decode b_X_readBraced 15 = .ok (.aload_n 0, 1) := by decide +kernel
theorem d_X_readBraced_16 : decode b_X_readBraced 16 = .ok (.getfield 16, 3) := by decide +kernel
theorem d_X_readBraced_19 : decode b_X_readBraced 19 = .ok (.iload_n 3, 1) := by decide +kernel
theorem d_X_readBraced_20 : decode b_X_readBraced 20 = .ok (.invokevirtual 58, 3) := by decide +kernel
theorem d_X_readBraced_23 : decode b_X_readBraced 23 = .ok (.istore 4, 2) := by decide +kernel
theorem d_X_readBraced_25 : decode b_X_readBraced 25 = .ok (.iload 4, 2) := by decide +kernel
theorem d_X_readBraced_27 : decode b_X_readBraced 27 = .ok (.bipush 123, 2) := by decide +kernel
theorem d_X_readBraced_29 : decode b_X_readBraced 29 = .ok (.if_icmp .ne 9, 3) := by decide +kernel
theorem d_X_readBraced_32 : decode b_X_readBraced 32 = .ok (.iinc 2 1, 3) := by decide +kernel
theorem d_X_readBraced_35 : decode b_X_readBraced 35 = .ok (.goto 13, 3) := by decide +kernel
theorem d_X_readBraced_38 : decode b_X_readBraced 38 = .ok (.iload 4, 2) := by decide +kernel
theorem d_X_readBraced_40 : decode b_X_readBraced 40 = .ok (.bipush 125, 2) := by decide +kernel
theorem d_X_readBraced_42 : decode b_X_readBraced 42 = .ok (.if_icmp .ne 6, 3) := by decide +kernel
theorem d_X_readBraced_45 : decode b_X_readBraced 45 = .ok (.iinc 2 (-1), 3) := by decide +kernel
theorem d_X_readBraced_48 : decode b_X_readBraced 48 = .ok (.iload_n 2, 1) := by decide +kernel
theorem d_X_readBraced_49 : decode b_X_readBraced 49 = .ok (.ifCond .ne 5, 3) := by decide +kernel
theorem d_X_readBraced_52 : decode b_X_readBraced 52 = .ok (.iload_n 3, 1) := by decide +kernel
theorem d_X_readBraced_53 : decode b_X_readBraced 53 = .ok (.ireturn, 1) := by decide +kernel
theorem d_X_readBraced_54 : decode b_X_readBraced 54 = .ok (.aload_n 0, 1) := by decide +kernel
theorem d_X_readBraced_55 : decode b_X_readBraced 55 = .ok (.getfield 22, 3) := by decide +kernel
theorem d_X_readBraced_58 : decode b_X_readBraced 58 = .ok (.iload 4, 2) := by decide +kernel
theorem d_X_readBraced_60 : decode b_X_readBraced 60 = .ok (.invokevirtual 78, 3) := by decide +kernel
theorem d_X_readBraced_63 : decode b_X_readBraced 63 = .ok (.pop, 1) := by decide +kernel
theorem d_X_readBraced_64 : decode b_X_readBraced 64 = .ok (.iload 4, 2) := by decide +kernel
theorem d_X_readBraced_66 : decode b_X_readBraced 66 = .ok (.bipush 92, 2) := by decide +kernel
theorem d_X_readBraced_68 : decode b_X_readBraced 68 = .ok (.if_icmp .ne 35, 3) := by decide +kernel
theorem d_X_readBraced_71 : decode b_X_readBraced 71 = .ok (.iload_n 3, 1) := by decide +kernel
theorem d_X_readBraced_72 : decode b_X_readBraced 72 = .ok (.iconst 1, 1) := by decide +kernel
theorem d_X_readBraced_73 : decode b_X_readBraced 73 = .ok (.iadd, 1) := by decide +kernel
theorem d_X_readBraced_74 : decode b_X_readBraced 74 = .ok (.aload_n 0, 1) := by decide +kernel
theorem d_X_readBraced_75 : decode b_X_readBraced 75 = .ok (.getfield 16, 3) := by decide +kernel
theorem d_X_readBraced_78 : decode b_X_readBraced 78 = .ok (.invokevirtual 32, 3) := by decide +kernel
theorem d_X_readBraced_81 : decode b_X_readBraced 81 = .ok (.if_icmp .ge 22, 3) := by decide +kernel
theorem d_X_readBraced_84 : decode b_X_readBraced 84 = .ok (.iinc 3 1, 3) := by decide +kernel
theorem d_X_readBraced_87 : decode b_X_readBraced 87 = .ok (.aload_n 0, 1) := by decide +kernel
theorem d_X_readBraced_88 : decode b_X_readBraced 88 = .ok (.getfield 22, 3) := by decide +kernel
theorem d_X_readBraced_91 : decode b_X_readBraced 91 = .ok (.aload_n 0, 1) := by decide +kernel
theorem d_X_readBraced_92 : decode b_X_readBraced 92 = .ok (.getfield 16, 3) := by decide +kernel
theorem d_X_readBraced_95 : decode b_X_readBraced 95 = .ok (.iload_n 3, 1) := by decide +kernel
theorem d_X_readBraced_96 : decode b_X_readBraced 96 = .ok (.invokevirtual 58, 3) := by decide +kernel
theorem d_X_readBraced_99 : decode b_X_readBraced 99 = .ok (.invokevirtual 78, 3) := by decide +kernel
theorem d_X_readBraced_102 : decode b_X_readBraced 102 = .ok (.pop, 1) := by decide +kernel
theorem d_X_readBraced_103 : decode b_X_readBraced 103 = .ok (.iinc 3 1, 3) := by decide +kernel
theorem d_X_readBraced_106 : decode b_X_readBraced 106 = .ok (.goto (-102), 3) := by decide +kernel
theorem d_X_readBraced_109 : decode b_X_readBraced 109 = .ok (.bipush (-2), 2) := by decide +kernel
theorem d_X_readBraced_111 : decode b_X_readBraced 111 = .ok (.ireturn, 1) := by decide +kernel
theorem d_X_behindCloser_0 : decode b_X_behindCloser 0 = .ok (.iload_n 1, 1) := by decide +kernel
theorem d_X_behindCloser_1 : decode b_X_behindCloser 1 = .ok (.bipush (-2), 2) := by decide +kernel
theorem d_X_behindCloser_3 : decode b_X_behindCloser 3 = .ok (.if_icmp .ne 6, 3) := by decide +kernel
theorem d_X_behindCloser_6 : decode b_X_behindCloser 6 = .ok (.bipush (-2), 2) := by decide +kernel
theorem d_X_behindCloser_8 : decode b_X_behindCloser 8 = .ok (.ireturn, 1) := by decide +kernel
theorem d_X_behindCloser_9 : decode b_X_behindCloser 9 = .ok (.aload_n 0, 1) := by decide +kernel
theorem d_X_behindCloser_10 : decode b_X_behindCloser 10 = .ok (.getfield 16, 3) := by decide +kernel
theorem d_X_behindCloser_13 : decode b_X_behindCloser 13 = .ok (.iload_n 1, 1) := by decide +kernel
theorem d_X_behindCloser_14 : decode b_X_behindCloser 14 = .ok (.iconst 1, 1) := by decide +kernel
theorem d_X_behindCloser_15 : decode b_X_behindCloser 15 = .ok (.iadd, 1) := by decide +kernel
theorem d_X_behindCloser_16 : decode b_X_behindCloser 16 = .ok (.invokevirtual 58, 3) := by decide +kernel
theorem d_X_behindCloser_19 : decode b_X_behindCloser 19 = .ok (.istore_n 2, 1) := by decide +kernel
theorem d_X_behindCloser_20 : decode b_X_behindCloser 20 = .ok (.iload_n 2, 1) := by decide +kernel
theorem d_X_behindCloser_21 : decode b_X_behindCloser 21 = .ok (.iconst (-1), 1) := by decide +kernel
theorem d_X_behindCloser_22 : decode b_X_behindCloser 22 = .ok (.if_icmp .eq 10, 3) := by decide +kernel
theorem d_X_behindCloser_25 : decode b_X_behindCloser 25 = .ok (.iload_n 2, 1) := by decide +kernel
theorem d_X_behindCloser_26 : decode b_X_behindCloser 26 = .ok (.invokestatic 75, 3) := by decide +kernel
theorem d_X_behindCloser_29 : decode b_X_behindCloser 29 = .ok (.ifCond .eq 9, 3) := by decide +kernel
theorem d_X_behindCloser_32 : decode b_X_behindCloser 32 = .ok (.iload_n 1, 1) := by decide +kernel
theorem d_X_behindCloser_33 : decode b_X_behindCloser 33 = .ok (.iconst 1, 1) := by decide +kernel
theorem d_X_behindCloser_34 : decode b_X_behindCloser 34 = .ok (.iadd, 1) := by decide +kernel
theorem d_X_behindCloser_35 : decode b_X_behindCloser 35 = .ok (.goto 5, 3) := by decide +kernel
theorem d_X_behindCloser_38 : decode b_X_behindCloser 38 = .ok (.bipush (-2), 2) := by decide +kernel
theorem d_X_behindCloser_40 : decode b_X_behindCloser 40 = .ok (.ireturn, 1) := by decide +kernel
theorem d_X_digitOf_0 : decode b_X_digitOf 0 = .ok (.iload_n 0, 1) := by decide +kernel
theorem d_X_digitOf_1 : decode b_X_digitOf 1 = .ok (.bipush 48, 2) := by decide +kernel
theorem d_X_digitOf_3 : decode b_X_digitOf 3 = .ok (.if_icmp .lt 14, 3) := by decide +kernel
theorem d_X_digitOf_6 : decode b_X_digitOf 6 = .ok (.iload_n 0, 1) := by decide +kernel
theorem d_X_digitOf_7 : decode b_X_digitOf 7 = .ok (.bipush 57, 2) := by decide +kernel
theorem d_X_digitOf_9 : decode b_X_digitOf 9 = .ok (.if_icmp .gt 8, 3) := by decide +kernel
theorem d_X_digitOf_12 : decode b_X_digitOf 12 = .ok (.iload_n 0, 1) := by decide +kernel
theorem d_X_digitOf_13 : decode b_X_digitOf 13 = .ok (.bipush 48, 2) := by decide +kernel
theorem d_X_digitOf_15 : decode b_X_digitOf 15 = .ok (.isub, 1) := by decide +kernel
theorem d_X_digitOf_16 : decode b_X_digitOf 16 = .ok (.ireturn, 1) := by decide +kernel
theorem d_X_digitOf_17 : decode b_X_digitOf 17 = .ok (.iload_n 0, 1) := by decide +kernel
theorem d_X_digitOf_18 : decode b_X_digitOf 18 = .ok (.bipush 97, 2) := by decide +kernel
theorem d_X_digitOf_20 : decode b_X_digitOf 20 = .ok (.if_icmp .lt 17, 3) := by decide +kernel
theorem d_X_digitOf_23 : decode b_X_digitOf 23 = .ok (.iload_n 0, 1) := by decide +kernel
theorem d_X_digitOf_24 : decode b_X_digitOf 24 = .ok (.bipush 102, 2) := by decide +kernel
theorem d_X_digitOf_26 : decode b_X_digitOf 26 = .ok (.if_icmp .gt 11, 3) := by decide +kernel
theorem d_X_digitOf_29 : decode b_X_digitOf 29 = .ok (.iload_n 0, 1) := by decide +kernel
theorem d_X_digitOf_30 : decode b_X_digitOf 30 = .ok (.bipush 97, 2) := by decide +kernel
theorem d_X_digitOf_32 : decode b_X_digitOf 32 = .ok (.isub, 1) := by decide +kernel
theorem d_X_digitOf_33 : decode b_X_digitOf 33 = .ok (.bipush 10, 2) := by decide +kernel
theorem d_X_digitOf_35 : decode b_X_digitOf 35 = .ok (.iadd, 1) := by decide +kernel
theorem d_X_digitOf_36 : decode b_X_digitOf 36 = .ok (.ireturn, 1) := by decide +kernel
theorem d_X_digitOf_37 : decode b_X_digitOf 37 = .ok (.iload_n 0, 1) := by decide +kernel
theorem d_X_digitOf_38 : decode b_X_digitOf 38 = .ok (.bipush 65, 2) := by decide +kernel
theorem d_X_digitOf_40 : decode b_X_digitOf 40 = .ok (.if_icmp .lt 17, 3) := by decide +kernel
theorem d_X_digitOf_43 : decode b_X_digitOf 43 = .ok (.iload_n 0, 1) := by decide +kernel
theorem d_X_digitOf_44 : decode b_X_digitOf 44 = .ok (.bipush 70, 2) := by decide +kernel
theorem d_X_digitOf_46 : decode b_X_digitOf 46 = .ok (.if_icmp .gt 11, 3) := by decide +kernel
theorem d_X_digitOf_49 : decode b_X_digitOf 49 = .ok (.iload_n 0, 1) := by decide +kernel
theorem d_X_digitOf_50 : decode b_X_digitOf 50 = .ok (.bipush 65, 2) := by decide +kernel
theorem d_X_digitOf_52 : decode b_X_digitOf 52 = .ok (.isub, 1) := by decide +kernel
theorem d_X_digitOf_53 : decode b_X_digitOf 53 = .ok (.bipush 10, 2) := by decide +kernel
theorem d_X_digitOf_55 : decode b_X_digitOf 55 = .ok (.iadd, 1) := by decide +kernel
theorem d_X_digitOf_56 : decode b_X_digitOf 56 = .ok (.ireturn, 1) := by decide +kernel
theorem d_X_digitOf_57 : decode b_X_digitOf 57 = .ok (.bipush 16, 2) := by decide +kernel
theorem d_X_digitOf_59 : decode b_X_digitOf 59 = .ok (.ireturn, 1) := by decide +kernel
theorem d_X_countDigits_0 : decode b_X_countDigits 0 = .ok (.iconst 0, 1) := by decide +kernel
theorem d_X_countDigits_1 : decode b_X_countDigits 1 = .ok (.istore 4, 2) := by decide +kernel
theorem d_X_countDigits_3 : decode b_X_countDigits 3 = .ok (.iload 4, 2) := by decide +kernel
theorem d_X_countDigits_5 : decode b_X_countDigits 5 = .ok (.iload_n 2, 1) := by decide +kernel
theorem d_X_countDigits_6 : decode b_X_countDigits 6 = .ok (.if_icmp .ge 27, 3) := by decide +kernel
theorem d_X_countDigits_9 : decode b_X_countDigits 9 = .ok (.aload_n 0, 1) := by decide +kernel
theorem d_X_countDigits_10 : decode b_X_countDigits 10 = .ok (.getfield 16, 3) := by decide +kernel
theorem d_X_countDigits_13 : decode b_X_countDigits 13 = .ok (.iload_n 1, 1) := by decide +kernel
theorem d_X_countDigits_14 : decode b_X_countDigits 14 = .ok (.iload 4, 2) := by decide +kernel
theorem d_X_countDigits_16 : decode b_X_countDigits 16 = .ok (.iadd, 1) := by decide +kernel
theorem d_X_countDigits_17 : decode b_X_countDigits 17 = .ok (.invokevirtual 58, 3) := by decide +kernel
theorem d_X_countDigits_20 : decode b_X_countDigits 20 = .ok (.invokestatic 110, 3) := by decide +kernel
theorem d_X_countDigits_23 : decode b_X_countDigits 23 = .ok (.iload_n 3, 1) := by decide +kernel
theorem d_X_countDigits_24 : decode b_X_countDigits 24 = .ok (.if_icmp .ge 9, 3) := by decide +kernel
theorem d_X_countDigits_27 : decode b_X_countDigits 27 = .ok (.iinc 4 1, 3) := by decide +kernel
theorem d_X_countDigits_30 : decode b_X_countDigits 30 = .ok (.goto (-27), 3) := by decide +kernel
theorem d_X_countDigits_33 : decode b_X_countDigits 33 = .ok (.iload 4, 2) := by decide +kernel
theorem d_X_countDigits_35 : decode b_X_countDigits 35 = .ok (.ireturn, 1) := by decide +kernel
theorem d_X_numberAt_0 : decode b_X_numberAt 0 = .ok (.iconst 0, 1) := by decide +kernel
theorem d_X_numberAt_1 : decode b_X_numberAt 1 = .ok (.istore 4, 2) := by decide +kernel
theorem d_X_numberAt_3 : decode b_X_numberAt 3 = .ok (.iconst 0, 1) := by decide +kernel
theorem d_X_numberAt_4 : decode b_X_numberAt 4 = .ok (.istore 5, 2) := by decide +kernel
theorem d_X_numberAt_6 : decode b_X_numberAt 6 = .ok (.iload 5, 2) := by decide +kernel
theorem d_X_numberAt_8 : decode b_X_numberAt 8 = .ok (.iload_n 2, 1) := by decide +kernel
theorem d_X_numberAt_9 : decode b_X_numberAt 9 = .ok (.if_icmp .ge 30, 3) := by decide +kernel
theorem d_X_numberAt_12 : decode b_X_numberAt 12 = .ok (.iload 4, 2) := by decide +kernel
theorem d_X_numberAt_14 : decode b_X_numberAt 14 = .ok (.iload_n 3, 1) := by decide +kernel
theorem d_X_numberAt_15 : decode b_X_numberAt 15 = .ok (.imul, 1) := by decide +kernel
theorem d_X_numberAt_16 : decode b_X_numberAt 16 = .ok (.aload_n 0, 1) := by decide +kernel
theorem d_X_numberAt_17 : decode b_X_numberAt 17 = .ok (.getfield 16, 3) := by decide +kernel
theorem d_X_numberAt_20 : decode b_X_numberAt 20 = .ok (.iload_n 1, 1) := by decide +kernel
theorem d_X_numberAt_21 : decode b_X_numberAt 21 = .ok (.iload 5, 2) := by decide +kernel
theorem d_X_numberAt_23 : decode b_X_numberAt 23 = .ok (.iadd, 1) := by decide +kernel
theorem d_X_numberAt_24 : decode b_X_numberAt 24 = .ok (.invokevirtual 58, 3) := by decide +kernel
theorem d_X_numberAt_27 : decode b_X_numberAt 27 = .ok (.invokestatic 110, 3) := by decide +kernel
theorem d_X_numberAt_30 : decode b_X_numberAt 30 = .ok (.iadd, 1) := by decide +kernel
theorem d_X_numberAt_31 : decode b_X_numberAt 31 = .ok (.istore 4, 2) := by decide +kernel
theorem d_X_numberAt_33 : decode b_X_numberAt 33 = .ok (.iinc 5 1, 3) := by decide +kernel
theorem d_X_numberAt_36 : decode b_X_numberAt 36 = .ok (.goto (-30), 3) := by decide +kernel
theorem d_X_numberAt_39 : decode b_X_numberAt 39 = .ok (.iload 4, 2) := by decide +kernel
theorem d_X_numberAt_41 : decode b_X_numberAt 41 = .ok (.sipush 255, 3) := by decide +kernel
theorem d_X_numberAt_44 : decode b_X_numberAt 44 = .ok (.iand, 1) := by decide +kernel
theorem d_X_numberAt_45 : decode b_X_numberAt 45 = .ok (.ireturn, 1) := by decide +kernel
theorem d_S_isLatin1_0 : decode b_S_isLatin1 0 = .ok (.getstatic 38, 3) := by decide +kernel
theorem d_S_isLatin1_3 : decode b_S_isLatin1 3 = .ok (.ifCond .eq 14, 3) := by decide +kernel
theorem d_S_isLatin1_6 : decode b_S_isLatin1 6 = .ok (.aload_n 0, 1) := by decide +kernel
theorem d_S_isLatin1_7 : decode b_S_isLatin1 7 = .ok (.getfield 15, 3) := by decide +kernel
theorem d_S_isLatin1_10 : decode b_S_isLatin1 10 = .ok (.ifCond .ne 7, 3) := by decide +kernel
theorem d_S_isLatin1_13 : decode b_S_isLatin1 13 = .ok (.iconst 1, 1) := by decide +kernel
theorem d_S_isLatin1_14 : decode b_S_isLatin1 14 = .ok (.goto 4, 3) := by decide +kernel
theorem d_S_isLatin1_17 : decode b_S_isLatin1 17 = .ok (.iconst 0, 1) := by decide +kernel
theorem d_S_isLatin1_18 : decode b_S_isLatin1 18 = .ok (.ireturn, 1) := by decide +kernel
theorem d_S_coder_0 : decode b_S_coder 0 = .ok (.getstatic 38, 3) := by decide +kernel
theorem d_S_coder_3 : decode b_S_coder 3 = .ok (.ifCond .eq 10, 3) := by decide +kernel
theorem d_S_coder_6 : decode b_S_coder 6 = .ok (.aload_n 0, 1) := by decide +kernel
theorem d_S_coder_7 : decode b_S_coder 7 = .ok (.getfield 15, 3) := by decide +kernel
theorem d_S_coder_10 : decode b_S_coder 10 = .ok (.goto 4, 3) := by decide +kernel
theorem d_S_coder_13 : decode b_S_coder 13 = .ok (.iconst 1, 1) := by decide +kernel
theorem d_S_coder_14 : decode b_S_coder 14 = .ok (.ireturn, 1) := by decide +kernel
theorem d_S_length_0 : decode b_S_length 0 = .ok (.aload_n 0, 1) := by decide +kernel
theorem d_S_length_1 : decode b_S_length 1 = .ok (.getfield 9, 3) := by decide +kernel
theorem d_S_length_4 : decode b_S_length 4 = .ok (.arraylength, 1) := by decide +kernel
theorem d_S_length_5 : decode b_S_length 5 = .ok (.aload_n 0, 1) := by decide +kernel
theorem d_S_length_6 : decode b_S_length 6 = .ok (.invokevirtual 335, 3) := by decide +kernel
theorem d_S_length_9 : decode b_S_length 9 = .ok (.ishr, 1) := by decide +kernel
theorem d_S_length_10 : decode b_S_length 10 = .ok (.ireturn, 1) := by decide +kernel
theorem d_SL_canEncode1_0 : decode b_SL_canEncode1 0 = .ok (.iload_n 0, 1) := by decide +kernel
theorem d_SL_canEncode1_1 : decode b_SL_canEncode1 1 = .ok (.ifCond .lt 14, 3) := by decide +kernel
theorem d_SL_canEncode1_4 : decode b_SL_canEncode1 4 = .ok (.iload_n 0, 1) := by decide +kernel
theorem d_SL_canEncode1_5 : decode b_SL_canEncode1 5 = .ok (.sipush 255, 3) := by decide +kernel
theorem d_SL_canEncode1_8 : decode b_SL_canEncode1 8 = .ok (.if_icmp .gt 7, 3) := by decide +kernel
theorem d_SL_canEncode1_11 : decode b_SL_canEncode1 11 = .ok (.iconst 1, 1) := by decide +kernel
theorem d_SL_canEncode1_12 : decode b_SL_canEncode1 12 = .ok (.goto 4, 3) := by decide +kernel
theorem d_SL_canEncode1_15 : decode b_SL_canEncode1 15 = .ok (.iconst 0, 1) := by decide +kernel
theorem d_SL_canEncode1_16 : decode b_SL_canEncode1 16 = .ok (.ireturn, 1) := by decide +kernel
theorem d_SL_indexOfChar_0 : decode b_SL_indexOfChar 0 = .ok (.iload_n 1, 1) := by decide +kernel
theorem d_SL_indexOfChar_1 : decode b_SL_indexOfChar 1 = .ok (.i2b, 1) := by decide +kernel
theorem d_SL_indexOfChar_2 : decode b_SL_indexOfChar 2 = .ok (.istore 4, 2) := by decide +kernel
theorem d_SL_indexOfChar_4 : decode b_SL_indexOfChar 4 = .ok (.iload_n 2, 1) := by decide +kernel
theorem d_SL_indexOfChar_5 : decode b_SL_indexOfChar 5 = .ok (.istore 5, 2) := by decide +kernel
theorem d_SL_indexOfChar_7 : decode b_SL_indexOfChar 7 = .ok (.iload 5, 2) := by decide +kernel
theorem d_SL_indexOfChar_9 : decode b_SL_indexOfChar 9 = .ok (.iload_n 3, 1) := by decide +kernel
theorem d_SL_indexOfChar_10 : decode b_SL_indexOfChar 10 = .ok (.if_icmp .ge 21, 3) := by decide +kernel
theorem d_SL_indexOfChar_13 : decode b_SL_indexOfChar 13 = .ok (.aload_n 0, 1) := by decide +kernel
theorem d_SL_indexOfChar_14 : decode b_SL_indexOfChar 14 = .ok (.iload 5, 2) := by decide +kernel
theorem d_SL_indexOfChar_16 : decode b_SL_indexOfChar 16 = .ok (.baload, 1) := by decide +kernel
theorem d_SL_indexOfChar_17 : decode b_SL_indexOfChar 17 = .ok (.iload 4, 2) := by decide +kernel
theorem d_SL_indexOfChar_19 : decode b_SL_indexOfChar 19 = .ok (.if_icmp .ne 6, 3) := by decide +kernel
theorem d_SL_indexOfChar_22 : decode b_SL_indexOfChar 22 = .ok (.iload 5, 2) := by decide +kernel
theorem d_SL_indexOfChar_24 : decode b_SL_indexOfChar 24 = .ok (.ireturn, 1) := by decide +kernel
theorem d_SL_indexOfChar_25 : decode b_SL_indexOfChar 25 = .ok (.iinc 5 1, 3) := by decide +kernel
theorem d_SL_indexOfChar_28 : decode b_SL_indexOfChar 28 = .ok (.goto (-21), 3) := by decide +kernel
theorem d_SL_indexOfChar_31 : decode b_SL_indexOfChar 31 = .ok (.iconst (-1), 1) := by decide +kernel
theorem d_SL_indexOfChar_32 : decode b_SL_indexOfChar 32 = .ok (.ireturn, 1) := by decide +kernel
theorem d_SL_indexOf0_0 : decode b_SL_indexOf0 0 = .ok (.iload_n 1, 1) := by decide +kernel
theorem d_SL_indexOf0_1 : decode b_SL_indexOf0 1 = .ok (.invokestatic 88, 3) := by decide +kernel
theorem d_SL_indexOf0_4 : decode b_SL_indexOf0 4 = .ok (.ifCond .ne 5, 3) := by decide +kernel
theorem d_SL_indexOf0_7 : decode b_SL_indexOf0 7 = .ok (.iconst (-1), 1) := by decide +kernel
theorem d_SL_indexOf0_8 : decode b_SL_indexOf0 8 = .ok (.ireturn, 1) := by decide +kernel
theorem d_SL_indexOf0_9 : decode b_SL_indexOf0 9 = .ok (.iload_n 2, 1) := by decide +kernel
theorem d_SL_indexOf0_10 : decode b_SL_indexOf0 10 = .ok (.iconst 0, 1) := by decide +kernel
theorem d_SL_indexOf0_11 : decode b_SL_indexOf0 11 = .ok (.invokestatic 92, 3) := by decide +kernel
theorem d_SL_indexOf0_14 : decode b_SL_indexOf0 14 = .ok (.istore_n 2, 1) := by decide +kernel
theorem d_SL_indexOf0_15 : decode b_SL_indexOf0 15 = .ok (.iload_n 3, 1) := by decide +kernel
theorem d_SL_indexOf0_16 : decode b_SL_indexOf0 16 = .ok (.aload_n 0, 1) := by decide +kernel
theorem d_SL_indexOf0_17 : decode b_SL_indexOf0 17 = .ok (.arraylength, 1) := by decide +kernel
theorem d_SL_indexOf0_18 : decode b_SL_indexOf0 18 = .ok (.invokestatic 38, 3) := by decide +kernel
theorem d_SL_indexOf0_21 : decode b_SL_indexOf0 21 = .ok (.istore_n 3, 1) := by decide +kernel
theorem d_SL_indexOf0_22 : decode b_SL_indexOf0 22 = .ok (.iload_n 2, 1) := by decide +kernel
theorem d_SL_indexOf0_23 : decode b_SL_indexOf0 23 = .ok (.iload_n 3, 1) := by decide +kernel
theorem d_SL_indexOf0_24 : decode b_SL_indexOf0 24 = .ok (.if_icmp .lt 5, 3) := by decide +kernel
theorem d_SL_indexOf0_27 : decode b_SL_indexOf0 27 = .ok (.iconst (-1), 1) := by decide +kernel
theorem d_SL_indexOf0_28 : decode b_SL_indexOf0 28 = .ok (.ireturn, 1) := by decide +kernel
theorem d_SL_indexOf0_29 : decode b_SL_indexOf0 29 = .ok (.aload_n 0, 1) := by decide +kernel
theorem d_SL_indexOf0_30 : decode b_SL_indexOf0 30 = .ok (.iload_n 1, 1) := by decide +kernel
theorem d_SL_indexOf0_31 : decode b_SL_indexOf0 31 = .ok (.iload_n 2, 1) := by decide +kernel
theorem d_SL_indexOf0_32 : decode b_SL_indexOf0 32 = .ok (.iload_n 3, 1) := by decide +kernel
theorem d_SL_indexOf0_33 : decode b_SL_indexOf0 33 = .ok (.invokestatic 95, 3) := by decide +kernel
theorem d_SL_indexOf0_36 : decode b_SL_indexOf0 36 = .ok (.ireturn, 1) := by decide +kernel
theorem d_S_indexOf1_0 : decode b_S_indexOf1 0 = .ok (.aload_n 0, 1) := by decide +kernel
theorem d_S_indexOf1_1 : decode b_S_indexOf1 1 = .ok (.invokevirtual 492, 3) := by decide +kernel
theorem d_S_indexOf1_4 : decode b_S_indexOf1 4 = .ok (.ifCond .eq 19, 3) := by decide +kernel
theorem d_S_indexOf1_7 : decode b_S_indexOf1 7 = .ok (.aload_n 0, 1) := by decide +kernel
theorem d_S_indexOf1_8 : decode b_S_indexOf1 8 = .ok (.getfield 9, 3) := by decide +kernel
theorem d_S_indexOf1_11 : decode b_S_indexOf1 11 = .ok (.iload_n 1, 1) := by decide +kernel
theorem d_S_indexOf1_12 : decode b_S_indexOf1 12 = .ok (.iload_n 2, 1) := by decide +kernel
theorem d_S_indexOf1_13 : decode b_S_indexOf1 13 = .ok (.aload_n 0, 1) := by decide +kernel
theorem d_S_indexOf1_14 : decode b_S_indexOf1 14 = .ok (.invokevirtual 505, 3) := by decide +kernel
theorem d_S_indexOf1_17 : decode b_S_indexOf1 17 = .ok (.invokestatic 637, 3) := by decide +kernel
theorem d_S_indexOf1_20 : decode b_S_indexOf1 20 = .ok (.goto 16, 3) := by decide +kernel
theorem d_S_indexOf1_23 : decode b_S_indexOf1 23 = .ok (.aload_n 0, 1) := by decide +kernel
theorem d_S_indexOf1_24 : decode b_S_indexOf1 24 = .ok (.getfield 9, 3) := by decide +kernel
theorem d_S_indexOf1_27 : decode b_S_indexOf1 27 = .ok (.iload_n 1, 1) := by decide +kernel
theorem d_S_indexOf1_28 : decode b_S_indexOf1 28 = .ok (.iload_n 2, 1) := by decide +kernel
theorem d_S_indexOf1_29 : decode b_S_indexOf1 29 = .ok (.aload_n 0, 1) := by decide +kernel
theorem d_S_indexOf1_30 : decode b_S_indexOf1 30 = .ok (.invokevirtual 505, 3) := by decide +kernel
theorem d_S_indexOf1_36 : decode b_S_indexOf1 36 = .ok (.ireturn, 1) := by decide +kernel
theorem d_S_indexOf0_0 : decode b_S_indexOf0 0 = .ok (.aload_n 0, 1) := by decide +kernel
theorem d_S_indexOf0_1 : decode b_S_indexOf0 1 = .ok (.iload_n 1, 1) := by decide +kernel
theorem d_S_indexOf0_2 : decode b_S_indexOf0 2 = .ok (.iconst 0, 1) := by decide +kernel
theorem d_S_indexOf0_3 : decode b_S_indexOf0 3 = .ok (.invokevirtual 633, 3) := by decide +kernel
theorem d_S_indexOf0_6 : decode b_S_indexOf0 6 = .ok (.ireturn, 1) := by decide +kernel
theorem d_X_meaningOfBackslash_0 : decode b_X_meaningOfBackslash 0 = .ok (.aload_n 0, 1) := by decide +kernel
theorem d_X_meaningOfBackslash_1 : decode b_X_meaningOfBackslash 1 = .ok (.getfield 16, 3) := by decide +kernel
theorem d_X_meaningOfBackslash_4 : decode b_X_meaningOfBackslash 4 = .ok (.iload_n 1, 1) := by decide +kernel
theorem d_X_meaningOfBackslash_5 : decode b_X_meaningOfBackslash 5 = .ok (.iconst 1, 1) := by decide +kernel
theorem d_X_meaningOfBackslash_6 : decode b_X_meaningOfBackslash 6 = .ok (.iadd, 1) := by decide +kernel
theorem d_X_meaningOfBackslash_7 : decode b_X_meaningOfBackslash 7 = .ok (.invokevirtual 58, 3) := by decide +kernel
theorem d_X_meaningOfBackslash_10 : decode b_X_meaningOfBackslash 10 = .ok (.istore_n 2, 1) := by decide +kernel
theorem d_X_meaningOfBackslash_11 : decode b_X_meaningOfBackslash 11 = .ok (.iload_n 2, 1) := by decide +kernel
theorem d_X_meaningOfBackslash_12 : decode b_X_meaningOfBackslash 12 = .ok (.iconst (-1), 1) := by decide +kernel
theorem d_X_meaningOfBackslash_13 : decode b_X_meaningOfBackslash 13 = .ok (.if_icmp .ne 6, 3) := by decide +kernel
theorem d_X_meaningOfBackslash_16 : decode b_X_meaningOfBackslash 16 = .ok (.bipush 92, 2) := by decide +kernel
theorem d_X_meaningOfBackslash_18 : decode b_X_meaningOfBackslash 18 = .ok (.ireturn, 1) := by decide +kernel
theorem d_X_meaningOfBackslash_19 : decode b_X_meaningOfBackslash 19 = .ok (.iload_n 2, 1) := by decide +kernel
theorem d_X_meaningOfBackslash_20 : decode b_X_meaningOfBackslash 20 = .ok (.bipush 10, 2) := by decide +kernel
theorem d_X_meaningOfBackslash_22 : decode b_X_meaningOfBackslash 22 = .ok (.if_icmp .ne 6, 3) := by decide +kernel
theorem d_X_meaningOfBackslash_25 : decode b_X_meaningOfBackslash 25 = .ok (.bipush 32, 2) := by decide +kernel
theorem d_X_meaningOfBackslash_27 : decode b_X_meaningOfBackslash 27 = .ok (.ireturn, 1) := by decide +kernel
theorem d_X_meaningOfBackslash_28 : decode b_X_meaningOfBackslash 28 = .ok (.iload_n 2, 1) := by decide +kernel
theorem d_X_meaningOfBackslash_29 : decode b_X_meaningOfBackslash 29 = .ok (.bipush 120, 2) := by decide +kernel
theorem d_X_meaningOfBackslash_31 : decode b_X_meaningOfBackslash 31 = .ok (.if_icmp .ne 34, 3) := by decide +kernel
theorem d_X_meaningOfBackslash_34 : decode b_X_meaningOfBackslash 34 = .ok (.aload_n 0, 1) := by decide +kernel
theorem d_X_meaningOfBackslash_35 : decode b_X_meaningOfBackslash 35 = .ok (.iload_n 1, 1) := by decide +kernel
theorem d_X_meaningOfBackslash_36 : decode b_X_meaningOfBackslash 36 = .ok (.iconst 2, 1) := by decide +kernel
theorem d_X_meaningOfBackslash_37 : decode b_X_meaningOfBackslash 37 = .ok (.iadd, 1) := by decide +kernel
theorem d_X_meaningOfBackslash_38 : decode b_X_meaningOfBackslash 38 = .ok (.iconst 2, 1) := by decide +kernel
theorem d_X_meaningOfBackslash_39 : decode b_X_meaningOfBackslash 39 = .ok (.bipush 16, 2) := by decide +kernel
theorem d_X_meaningOfBackslash_41 : decode b_X_meaningOfBackslash 41 = .ok (.invokevirtual 87, 3) := by decide +kernel
theorem d_X_meaningOfBackslash_44 : decode b_X_meaningOfBackslash 44 = .ok (.istore_n 3, 1) := by decide +kernel
theorem d_X_meaningOfBackslash_45 : decode b_X_meaningOfBackslash 45 = .ok (.iload_n 3, 1) := by decide +kernel
theorem d_X_meaningOfBackslash_46 : decode b_X_meaningOfBackslash 46 = .ok (.ifCond .ne 8, 3) := by decide +kernel
theorem d_X_meaningOfBackslash_49 : decode b_X_meaningOfBackslash 49 = .ok (.bipush 120, 2) := by decide +kernel
theorem d_X_meaningOfBackslash_51 : decode b_X_meaningOfBackslash 51 = .ok (.goto 13, 3) := by decide +kernel
theorem d_X_meaningOfBackslash_54 : decode b_X_meaningOfBackslash 54 = .ok (.aload_n 0, 1) := by decide +kernel
theorem d_X_meaningOfBackslash_55 : decode b_X_meaningOfBackslash 55 = .ok (.iload_n 1, 1) := by decide +kernel
theorem d_X_meaningOfBackslash_56 : decode b_X_meaningOfBackslash 56 = .ok (.iconst 2, 1) := by decide +kernel
theorem d_X_meaningOfBackslash_57 : decode b_X_meaningOfBackslash 57 = .ok (.iadd, 1) := by decide +kernel
theorem d_X_meaningOfBackslash_58 : decode b_X_meaningOfBackslash 58 = .ok (.iload_n 3, 1) := by decide +kernel
theorem d_X_meaningOfBackslash_59 : decode b_X_meaningOfBackslash 59 = .ok (.bipush 16, 2) := by decide +kernel
theorem d_X_meaningOfBackslash_61 : decode b_X_meaningOfBackslash 61 = .ok (.invokevirtual 91, 3) := by decide +kernel
theorem d_X_meaningOfBackslash_64 : decode b_X_meaningOfBackslash 64 = .ok (.ireturn, 1) := by decide +kernel
theorem d_X_meaningOfBackslash_65 : decode b_X_meaningOfBackslash 65 = .ok (.aload_n 0, 1) := by decide +kernel
theorem d_X_meaningOfBackslash_66 : decode b_X_meaningOfBackslash 66 = .ok (.iload_n 1, 1) := by decide +kernel
theorem d_X_meaningOfBackslash_67 : decode b_X_meaningOfBackslash 67 = .ok (.iconst 1, 1) := by decide +kernel
theorem d_X_meaningOfBackslash_68 : decode b_X_meaningOfBackslash 68 = .ok (.iadd, 1) := by decide +kernel
theorem d_X_meaningOfBackslash_69 : decode b_X_meaningOfBackslash 69 = .ok (.iconst 3, 1) := by decide +kernel
theorem d_X_meaningOfBackslash_70 : decode b_X_meaningOfBackslash 70 = .ok (.bipush 8, 2) := by decide +kernel
end
section
theorem d_X_meaningOfBackslash_72 : decode b_X_meaningOfBackslash 72 = .ok (.invokevirtual 87, 3) := by decide +kernel
theorem d_X_meaningOfBackslash_75 : decode b_X_meaningOfBackslash 75 = .ok (.istore_n 3, 1) := by decide +kernel
theorem d_X_meaningOfBackslash_76 : decode b_X_meaningOfBackslash 76 = .ok (.iload_n 3, 1) := by decide +kernel
theorem d_X_meaningOfBackslash_77 : decode b_X_meaningOfBackslash 77 = .ok (.ifCond .le 14, 3) := by decide +kernel
theorem d_X_meaningOfBackslash_80 : decode b_X_meaningOfBackslash 80 = .ok (.aload_n 0, 1) := by decide +kernel
theorem d_X_meaningOfBackslash_81 : decode b_X_meaningOfBackslash 81 = .ok (.iload_n 1, 1) := by decide +kernel
theorem d_X_meaningOfBackslash_82 : decode b_X_meaningOfBackslash 82 = .ok (.iconst 1, 1) := by decide +kernel
theorem d_X_meaningOfBackslash_83 : decode b_X_meaningOfBackslash 83 = .ok (.iadd, 1) := by decide +kernel
theorem d_X_meaningOfBackslash_84 : decode b_X_meaningOfBackslash 84 = .ok (.iload_n 3, 1) := by decide +kernel
theorem d_X_meaningOfBackslash_85 : decode b_X_meaningOfBackslash 85 = .ok (.bipush 8, 2) := by decide +kernel
theorem d_X_meaningOfBackslash_87 : decode b_X_meaningOfBackslash 87 = .ok (.invokevirtual 91, 3) := by decide +kernel
theorem d_X_meaningOfBackslash_90 : decode b_X_meaningOfBackslash 90 = .ok (.ireturn, 1) := by decide +kernel
theorem d_X_meaningOfBackslash_91 : decode b_X_meaningOfBackslash 91 = .ok (.ldc 94, 2) := by decide +kernel
theorem d_X_meaningOfBackslash_93 : decode b_X_meaningOfBackslash 93 = .ok (.iload_n 2, 1) := by decide +kernel
theorem d_X_meaningOfBackslash_94 : decode b_X_meaningOfBackslash 94 = .ok (.i2c, 1) := by decide +kernel
theorem d_X_meaningOfBackslash_95 : decode b_X_meaningOfBackslash 95 = .ok (.invokevirtual 96, 3) := by decide +kernel
theorem d_X_meaningOfBackslash_98 : decode b_X_meaningOfBackslash 98 = .ok (.istore 4, 2) := by decide +kernel
theorem d_X_meaningOfBackslash_100 : decode b_X_meaningOfBackslash 100 = .ok (.iload 4, 2) := by decide +kernel
theorem d_X_meaningOfBackslash_102 : decode b_X_meaningOfBackslash 102 = .ok (.ifCond .lt 11, 3) := by decide +kernel
theorem d_X_meaningOfBackslash_105 : decode b_X_meaningOfBackslash 105 = .ok (.bipush 7, 2) := by decide +kernel
theorem d_X_meaningOfBackslash_107 : decode b_X_meaningOfBackslash 107 = .ok (.iload 4, 2) := by decide +kernel
theorem d_X_meaningOfBackslash_109 : decode b_X_meaningOfBackslash 109 = .ok (.iadd, 1) := by decide +kernel
theorem d_X_meaningOfBackslash_110 : decode b_X_meaningOfBackslash 110 = .ok (.goto 4, 3) := by decide +kernel
theorem d_X_meaningOfBackslash_113 : decode b_X_meaningOfBackslash 113 = .ok (.iload_n 2, 1) := by decide +kernel
theorem d_X_meaningOfBackslash_114 : decode b_X_meaningOfBackslash 114 = .ok (.ireturn, 1) := by decide +kernel
theorem d_X_countBlanks_0 : decode b_X_countBlanks 0 = .ok (.iload_n 1, 1) := by decide +kernel
theorem d_X_countBlanks_1 : decode b_X_countBlanks 1 = .ok (.istore_n 2, 1) := by decide +kernel
theorem d_X_countBlanks_2 : decode b_X_countBlanks 2 = .ok (.iload_n 2, 1) := by decide +kernel
theorem d_X_countBlanks_3 : decode b_X_countBlanks 3 = .ok (.aload_n 0, 1) := by decide +kernel
theorem d_X_countBlanks_4 : decode b_X_countBlanks 4 = .ok (.getfield 16, 3) := by decide +kernel
theorem d_X_countBlanks_7 : decode b_X_countBlanks 7 = .ok (.invokevirtual 32, 3) := by decide +kernel
theorem d_X_countBlanks_10 : decode b_X_countBlanks 10 = .ok (.if_icmp .ge 35, 3) := by decide +kernel
theorem d_X_countBlanks_13 : decode b_X_countBlanks 13 = .ok (.aload_n 0, 1) := by decide +kernel
theorem d_X_countBlanks_14 : decode b_X_countBlanks 14 = .ok (.getfield 16, 3) := by decide +kernel
theorem d_X_countBlanks_17 : decode b_X_countBlanks 17 = .ok (.iload_n 2, 1) := by decide +kernel
theorem d_X_countBlanks_18 : decode b_X_countBlanks 18 = .ok (.invokevirtual 58, 3) := by decide +kernel
theorem d_X_countBlanks_21 : decode b_X_countBlanks 21 = .ok (.bipush 32, 2) := by decide +kernel
theorem d_X_countBlanks_23 : decode b_X_countBlanks 23 = .ok (.if_icmp .eq 16, 3) := by decide +kernel
theorem d_X_countBlanks_26 : decode b_X_countBlanks 26 = .ok (.aload_n 0, 1) := by decide +kernel
theorem d_X_countBlanks_27 : decode b_X_countBlanks 27 = .ok (.getfield 16, 3) := by decide +kernel
theorem d_X_countBlanks_30 : decode b_X_countBlanks 30 = .ok (.iload_n 2, 1) := by decide +kernel
theorem d_X_countBlanks_31 : decode b_X_countBlanks 31 = .ok (.invokevirtual 58, 3) := by decide +kernel
theorem d_X_countBlanks_34 : decode b_X_countBlanks 34 = .ok (.bipush 9, 2) := by decide +kernel
theorem d_X_countBlanks_36 : decode b_X_countBlanks 36 = .ok (.if_icmp .ne 9, 3) := by decide +kernel
theorem d_X_countBlanks_39 : decode b_X_countBlanks 39 = .ok (.iinc 2 1, 3) := by decide +kernel
theorem d_X_countBlanks_42 : decode b_X_countBlanks 42 = .ok (.goto (-40), 3) := by decide +kernel
theorem d_X_countBlanks_45 : decode b_X_countBlanks 45 = .ok (.iload_n 2, 1) := by decide +kernel
theorem d_X_countBlanks_46 : decode b_X_countBlanks 46 = .ok (.iload_n 1, 1) := by decide +kernel
theorem d_X_countBlanks_47 : decode b_X_countBlanks 47 = .ok (.isub, 1) := by decide +kernel
theorem d_X_countBlanks_48 : decode b_X_countBlanks 48 = .ok (.ireturn, 1) := by decide +kernel
theorem d_X_bytesBehindBackslash_0 : decode b_X_bytesBehindBackslash 0 = .ok (.aload_n 0, 1) := by decide +kernel
theorem d_X_bytesBehindBackslash_1 : decode b_X_bytesBehindBackslash 1 = .ok (.getfield 16, 3) := by decide +kernel
theorem d_X_bytesBehindBackslash_4 : decode b_X_bytesBehindBackslash 4 = .ok (.iload_n 1, 1) := by decide +kernel
theorem d_X_bytesBehindBackslash_5 : decode b_X_bytesBehindBackslash 5 = .ok (.iconst 1, 1) := by decide +kernel
theorem d_X_bytesBehindBackslash_6 : decode b_X_bytesBehindBackslash 6 = .ok (.iadd, 1) := by decide +kernel
theorem d_X_bytesBehindBackslash_7 : decode b_X_bytesBehindBackslash 7 = .ok (.invokevirtual 58, 3) := by decide +kernel
theorem d_X_bytesBehindBackslash_10 : decode b_X_bytesBehindBackslash 10 = .ok (.istore_n 2, 1) := by decide +kernel
theorem d_X_bytesBehindBackslash_11 : decode b_X_bytesBehindBackslash 11 = .ok (.aload_n 0, 1) := by decide +kernel
theorem d_X_bytesBehindBackslash_12 : decode b_X_bytesBehindBackslash 12 = .ok (.getfield 16, 3) := by decide +kernel
theorem d_X_bytesBehindBackslash_15 : decode b_X_bytesBehindBackslash 15 = .ok (.iload_n 1, 1) := by decide +kernel
theorem d_X_bytesBehindBackslash_16 : decode b_X_bytesBehindBackslash 16 = .ok (.invokevirtual 58, 3) := by decide +kernel
theorem d_X_bytesBehindBackslash_19 : decode b_X_bytesBehindBackslash 19 = .ok (.bipush 92, 2) := by decide +kernel
theorem d_X_bytesBehindBackslash_21 : decode b_X_bytesBehindBackslash 21 = .ok (.if_icmp .ne 8, 3) := by decide +kernel
theorem d_X_bytesBehindBackslash_24 : decode b_X_bytesBehindBackslash 24 = .ok (.iload_n 2, 1) := by decide +kernel
theorem d_X_bytesBehindBackslash_25 : decode b_X_bytesBehindBackslash 25 = .ok (.iconst (-1), 1) := by decide +kernel
theorem d_X_bytesBehindBackslash_26 : decode b_X_bytesBehindBackslash 26 = .ok (.if_icmp .ne 5, 3) := by decide +kernel
theorem d_X_bytesBehindBackslash_29 : decode b_X_bytesBehindBackslash 29 = .ok (.iconst 0, 1) := by decide +kernel
theorem d_X_bytesBehindBackslash_30 : decode b_X_bytesBehindBackslash 30 = .ok (.ireturn, 1) := by decide +kernel
theorem d_X_bytesBehindBackslash_31 : decode b_X_bytesBehindBackslash 31 = .ok (.iload_n 2, 1) := by decide +kernel
theorem d_X_bytesBehindBackslash_32 : decode b_X_bytesBehindBackslash 32 = .ok (.bipush 10, 2) := by decide +kernel
theorem d_X_bytesBehindBackslash_34 : decode b_X_bytesBehindBackslash 34 = .ok (.if_icmp .ne 13, 3) := by decide +kernel
theorem d_X_bytesBehindBackslash_37 : decode b_X_bytesBehindBackslash 37 = .ok (.iconst 1, 1) := by decide +kernel
theorem d_X_bytesBehindBackslash_38 : decode b_X_bytesBehindBackslash 38 = .ok (.aload_n 0, 1) := by decide +kernel
theorem d_X_bytesBehindBackslash_39 : decode b_X_bytesBehindBackslash 39 = .ok (.iload_n 1, 1) := by decide +kernel
theorem d_X_bytesBehindBackslash_40 : decode b_X_bytesBehindBackslash 40 = .ok (.iconst 2, 1) := by decide +kernel
theorem d_X_bytesBehindBackslash_41 : decode b_X_bytesBehindBackslash 41 = .ok (.iadd, 1) := by decide +kernel
theorem d_X_bytesBehindBackslash_42 : decode b_X_bytesBehindBackslash 42 = .ok (.invokevirtual 101, 3) := by decide +kernel
theorem d_X_bytesBehindBackslash_45 : decode b_X_bytesBehindBackslash 45 = .ok (.iadd, 1) := by decide +kernel
theorem d_X_bytesBehindBackslash_46 : decode b_X_bytesBehindBackslash 46 = .ok (.ireturn, 1) := by decide +kernel
theorem d_X_bytesBehindBackslash_47 : decode b_X_bytesBehindBackslash 47 = .ok (.iload_n 2, 1) := by decide +kernel
theorem d_X_bytesBehindBackslash_48 : decode b_X_bytesBehindBackslash 48 = .ok (.bipush 120, 2) := by decide +kernel
theorem d_X_bytesBehindBackslash_50 : decode b_X_bytesBehindBackslash 50 = .ok (.if_icmp .ne 16, 3) := by decide +kernel
theorem d_X_bytesBehindBackslash_53 : decode b_X_bytesBehindBackslash 53 = .ok (.iconst 1, 1) := by decide +kernel
theorem d_X_bytesBehindBackslash_54 : decode b_X_bytesBehindBackslash 54 = .ok (.aload_n 0, 1) := by decide +kernel
theorem d_X_bytesBehindBackslash_55 : decode b_X_bytesBehindBackslash 55 = .ok (.iload_n 1, 1) := by decide +kernel
theorem d_X_bytesBehindBackslash_56 : decode b_X_bytesBehindBackslash 56 = .ok (.iconst 2, 1) := by decide +kernel
theorem d_X_bytesBehindBackslash_57 : decode b_X_bytesBehindBackslash 57 = .ok (.iadd, 1) := by decide +kernel
theorem d_X_bytesBehindBackslash_58 : decode b_X_bytesBehindBackslash 58 = .ok (.iconst 2, 1) := by decide +kernel
theorem d_X_bytesBehindBackslash_59 : decode b_X_bytesBehindBackslash 59 = .ok (.bipush 16, 2) := by decide +kernel
theorem d_X_bytesBehindBackslash_61 : decode b_X_bytesBehindBackslash 61 = .ok (.invokevirtual 87, 3) := by decide +kernel
theorem d_X_bytesBehindBackslash_64 : decode b_X_bytesBehindBackslash 64 = .ok (.iadd, 1) := by decide +kernel
theorem d_X_bytesBehindBackslash_65 : decode b_X_bytesBehindBackslash 65 = .ok (.ireturn, 1) := by decide +kernel
theorem d_X_bytesBehindBackslash_66 : decode b_X_bytesBehindBackslash 66 = .ok (.iconst 1, 1) := by decide +kernel
theorem d_X_bytesBehindBackslash_67 : decode b_X_bytesBehindBackslash 67 = .ok (.aload_n 0, 1) := by decide +kernel
theorem d_X_bytesBehindBackslash_68 : decode b_X_bytesBehindBackslash 68 = .ok (.iload_n 1, 1) := by decide +kernel
theorem d_X_bytesBehindBackslash_69 : decode b_X_bytesBehindBackslash 69 = .ok (.iconst 1, 1) := by decide +kernel
theorem d_X_bytesBehindBackslash_70 : decode b_X_bytesBehindBackslash 70 = .ok (.iadd, 1) := by decide +kernel
theorem d_X_bytesBehindBackslash_71 : decode b_X_bytesBehindBackslash 71 = .ok (.iconst 3, 1) := by decide +kernel
theorem d_X_bytesBehindBackslash_72 : decode b_X_bytesBehindBackslash 72 = .ok (.bipush 8, 2) := by decide +kernel
theorem d_X_bytesBehindBackslash_74 : decode b_X_bytesBehindBackslash 74 = .ok (.invokevirtual 87, 3) := by decide +kernel
theorem d_X_bytesBehindBackslash_77 : decode b_X_bytesBehindBackslash 77 = .ok (.invokestatic 104, 3) := by decide +kernel
theorem d_X_bytesBehindBackslash_80 : decode b_X_bytesBehindBackslash 80 = .ok (.ireturn, 1) := by decide +kernel
theorem d_X_readUnbraced_0 : decode b_X_readUnbraced 0 = .ok (.iload_n 1, 1) := by decide +kernel
theorem d_X_readUnbraced_1 : decode b_X_readUnbraced 1 = .ok (.istore_n 3, 1) := by decide +kernel
theorem d_X_readUnbraced_2 : decode b_X_readUnbraced 2 = .ok (.iload_n 3, 1) := by decide +kernel
theorem d_X_readUnbraced_3 : decode b_X_readUnbraced 3 = .ok (.aload_n 0, 1) := by decide +kernel
theorem d_X_readUnbraced_4 : decode b_X_readUnbraced 4 = .ok (.getfield 16, 3) := by decide +kernel
theorem d_X_readUnbraced_7 : decode b_X_readUnbraced 7 = .ok (.invokevirtual 32, 3) := by decide +kernel
theorem d_X_readUnbraced_10 : decode b_X_readUnbraced 10 = .ok (.if_icmp .ge 76, 3) := by decide +kernel
theorem d_X_readUnbraced_13 : decode b_X_readUnbraced 13 = .ok (.aload_n 0, 1) := by decide +kernel
theorem d_X_readUnbraced_14 : decode b_X_readUnbraced 14 = .ok (.getfield 16, 3) := by decide +kernel
theorem d_X_readUnbraced_17 : decode b_X_readUnbraced 17 = .ok (.iload_n 3, 1) := by decide +kernel
theorem d_X_readUnbraced_18 : decode b_X_readUnbraced 18 = .ok (.invokevirtual 58, 3) := by decide +kernel
theorem d_X_readUnbraced_21 : decode b_X_readUnbraced 21 = .ok (.istore 4, 2) := by decide +kernel
theorem d_X_readUnbraced_23 : decode b_X_readUnbraced 23 = .ok (.iload_n 2, 1) := by decide +kernel
theorem d_X_readUnbraced_24 : decode b_X_readUnbraced 24 = .ok (.ifCond .eq 13, 3) := by decide +kernel
theorem d_X_readUnbraced_27 : decode b_X_readUnbraced 27 = .ok (.iload 4, 2) := by decide +kernel
theorem d_X_readUnbraced_29 : decode b_X_readUnbraced 29 = .ok (.bipush 34, 2) := by decide +kernel
theorem d_X_readUnbraced_31 : decode b_X_readUnbraced 31 = .ok (.if_icmp .ne 16, 3) := by decide +kernel
theorem d_X_readUnbraced_34 : decode b_X_readUnbraced 34 = .ok (.goto 11, 3) := by decide +kernel
theorem d_X_readUnbraced_37 : decode b_X_readUnbraced 37 = .ok (.iload 4, 2) := by decide +kernel
theorem d_X_readUnbraced_39 : decode b_X_readUnbraced 39 = .ok (.invokestatic 75, 3) := by decide +kernel
theorem d_X_readUnbraced_42 : decode b_X_readUnbraced 42 = .ok (.ifCond .eq 5, 3) := by decide +kernel
theorem d_X_readUnbraced_45 : decode b_X_readUnbraced 45 = .ok (.iload_n 3, 1) := by decide +kernel
theorem d_X_readUnbraced_46 : decode b_X_readUnbraced 46 = .ok (.ireturn, 1) := by decide +kernel
theorem d_X_readUnbraced_47 : decode b_X_readUnbraced 47 = .ok (.aload_n 0, 1) := by decide +kernel
theorem d_X_readUnbraced_48 : decode b_X_readUnbraced 48 = .ok (.getfield 22, 3) := by decide +kernel
theorem d_X_readUnbraced_51 : decode b_X_readUnbraced 51 = .ok (.iload 4, 2) := by decide +kernel
theorem d_X_readUnbraced_53 : decode b_X_readUnbraced 53 = .ok (.bipush 92, 2) := by decide +kernel
theorem d_X_readUnbraced_55 : decode b_X_readUnbraced 55 = .ok (.if_icmp .ne 11, 3) := by decide +kernel
theorem d_X_readUnbraced_58 : decode b_X_readUnbraced 58 = .ok (.aload_n 0, 1) := by decide +kernel
theorem d_X_readUnbraced_59 : decode b_X_readUnbraced 59 = .ok (.iload_n 3, 1) := by decide +kernel
theorem d_X_readUnbraced_60 : decode b_X_readUnbraced 60 = .ok (.invokevirtual 81, 3) := by decide +kernel
theorem d_X_readUnbraced_63 : decode b_X_readUnbraced 63 = .ok (.goto 5, 3) := by decide +kernel
theorem d_X_readUnbraced_66 : decode b_X_readUnbraced 66 = .ok (.iload 4, 2) := by decide +kernel
theorem d_X_readUnbraced_68 : decode b_X_readUnbraced 68 = .ok (.invokevirtual 78, 3) := by decide +kernel
theorem d_X_readUnbraced_71 : decode b_X_readUnbraced 71 = .ok (.pop, 1) := by decide +kernel
theorem d_X_readUnbraced_72 : decode b_X_readUnbraced 72 = .ok (.iload_n 3, 1) := by decide +kernel
theorem d_X_readUnbraced_73 : decode b_X_readUnbraced 73 = .ok (.aload_n 0, 1) := by decide +kernel
theorem d_X_readUnbraced_74 : decode b_X_readUnbraced 74 = .ok (.iload_n 3, 1) := by decide +kernel
theorem d_X_readUnbraced_75 : decode b_X_readUnbraced 75 = .ok (.invokevirtual 84, 3) := by decide +kernel
theorem d_X_readUnbraced_78 : decode b_X_readUnbraced 78 = .ok (.iadd, 1) := by decide +kernel
theorem d_X_readUnbraced_79 : decode b_X_readUnbraced 79 = .ok (.istore_n 3, 1) := by decide +kernel
theorem d_X_readUnbraced_80 : decode b_X_readUnbraced 80 = .ok (.iinc 3 1, 3) := by decide +kernel
theorem d_X_readUnbraced_83 : decode b_X_readUnbraced 83 = .ok (.goto (-81), 3) := by decide +kernel
theorem d_X_readUnbraced_86 : decode b_X_readUnbraced 86 = .ok (.iload_n 2, 1) := by decide +kernel
theorem d_X_readUnbraced_87 : decode b_X_readUnbraced 87 = .ok (.ifCond .eq 8, 3) := by decide +kernel
theorem d_X_readUnbraced_90 : decode b_X_readUnbraced 90 = .ok (.bipush (-2), 2) := by decide +kernel
theorem d_X_readUnbraced_92 : decode b_X_readUnbraced 92 = .ok (.goto 10, 3) := by decide +kernel
theorem d_X_readUnbraced_95 : decode b_X_readUnbraced 95 = .ok (.aload_n 0, 1) := by decide +kernel
theorem d_X_readUnbraced_96 : decode b_X_readUnbraced 96 = .ok (.getfield 16, 3) := by decide +kernel
theorem d_X_readUnbraced_99 : decode b_X_readUnbraced 99 = .ok (.invokevirtual 32, 3) := by decide +kernel
theorem d_X_readUnbraced_102 : decode b_X_readUnbraced 102 = .ok (.ireturn, 1) := by decide +kernel
theorem d_X_nextElement_0 : decode b_X_nextElement 0 = .ok (.aload_n 0, 1) := by decide +kernel
theorem d_X_nextElement_1 : decode b_X_nextElement 1 = .ok (.aload_n 0, 1) := by decide +kernel
theorem d_X_nextElement_2 : decode b_X_nextElement 2 = .ok (.getfield 28, 3) := by decide +kernel
theorem d_X_nextElement_5 : decode b_X_nextElement 5 = .ok (.invokevirtual 62, 3) := by decide +kernel
theorem d_X_nextElement_8 : decode b_X_nextElement 8 = .ok (.istore_n 1, 1) := by decide +kernel
theorem d_X_nextElement_9 : decode b_X_nextElement 9 = .ok (.aload_n 0, 1) := by decide +kernel
theorem d_X_nextElement_10 : decode b_X_nextElement 10 = .ok (.getfield 16, 3) := by decide +kernel
theorem d_X_nextElement_13 : decode b_X_nextElement 13 = .ok (.iload_n 1, 1) := by decide +kernel
theorem d_X_nextElement_14 : decode b_X_nextElement 14 = .ok (.invokevirtual 58, 3) := by decide +kernel
theorem d_X_nextElement_17 : decode b_X_nextElement 17 = .ok (.istore_n 2, 1) := by decide +kernel
theorem d_X_nextElement_18 : decode b_X_nextElement 18 = .ok (.iload_n 2, 1) := by decide +kernel
theorem d_X_nextElement_19 : decode b_X_nextElement 19 = .ok (.iconst (-1), 1) := by decide +kernel
theorem d_X_nextElement_20 : decode b_X_nextElement 20 = .ok (.if_icmp .ne 5, 3) := by decide +kernel
theorem d_X_nextElement_23 : decode b_X_nextElement 23 = .ok (.iconst (-1), 1) := by decide +kernel
theorem d_X_nextElement_24 : decode b_X_nextElement 24 = .ok (.ireturn, 1) := by decide +kernel
theorem d_X_nextElement_25 : decode b_X_nextElement 25 = .ok (.aload_n 0, 1) := by decide +kernel
theorem d_X_nextElement_26 : decode b_X_nextElement 26 = .ok (.getfield 22, 3) := by decide +kernel
theorem d_X_nextElement_29 : decode b_X_nextElement 29 = .ok (.iconst 0, 1) := by decide +kernel
theorem d_X_nextElement_30 : decode b_X_nextElement 30 = .ok (.invokevirtual 40, 3) := by decide +kernel
theorem d_X_nextElement_33 : decode b_X_nextElement 33 = .ok (.pop, 1) := by decide +kernel
theorem d_X_nextElement_34 : decode b_X_nextElement 34 = .ok (.iload_n 2, 1) := by decide +kernel
theorem d_X_nextElement_35 : decode b_X_nextElement 35 = .ok (.bipush 123, 2) := by decide +kernel
theorem d_X_nextElement_37 : decode b_X_nextElement 37 = .ok (.if_icmp .ne 18, 3) := by decide +kernel
theorem d_X_nextElement_40 : decode b_X_nextElement 40 = .ok (.aload_n 0, 1) := by decide +kernel
theorem d_X_nextElement_41 : decode b_X_nextElement 41 = .ok (.aload_n 0, 1) := by decide +kernel
theorem d_X_nextElement_42 : decode b_X_nextElement 42 = .ok (.iload_n 1, 1) := by decide +kernel
theorem d_X_nextElement_43 : decode b_X_nextElement 43 = .ok (.iconst 1, 1) := by decide +kernel
theorem d_X_nextElement_44 : decode b_X_nextElement 44 = .ok (.iadd, 1) := by decide +kernel
theorem d_X_nextElement_45 : decode b_X_nextElement 45 = .ok (.invokevirtual 65, 3) := by decide +kernel
theorem d_X_nextElement_48 : decode b_X_nextElement 48 = .ok (.invokevirtual 68, 3) := by decide +kernel
theorem d_X_nextElement_51 : decode b_X_nextElement 51 = .ok (.istore_n 3, 1) := by decide +kernel
theorem d_X_nextElement_52 : decode b_X_nextElement 52 = .ok (.goto 32, 3) := by decide +kernel
theorem d_X_nextElement_55 : decode b_X_nextElement 55 = .ok (.iload_n 2, 1) := by decide +kernel
theorem d_X_nextElement_56 : decode b_X_nextElement 56 = .ok (.bipush 34, 2) := by decide +kernel
theorem d_X_nextElement_58 : decode b_X_nextElement 58 = .ok (.if_icmp .ne 19, 3) := by decide +kernel
theorem d_X_nextElement_61 : decode b_X_nextElement 61 = .ok (.aload_n 0, 1) := by decide +kernel
theorem d_X_nextElement_62 : decode b_X_nextElement 62 = .ok (.aload_n 0, 1) := by decide +kernel
theorem d_X_nextElement_63 : decode b_X_nextElement 63 = .ok (.iload_n 1, 1) := by decide +kernel
theorem d_X_nextElement_64 : decode b_X_nextElement 64 = .ok (.iconst 1, 1) := by decide +kernel
theorem d_X_nextElement_65 : decode b_X_nextElement 65 = .ok (.iadd, 1) := by decide +kernel
theorem d_X_nextElement_66 : decode b_X_nextElement 66 = .ok (.iconst 1, 1) := by decide +kernel
theorem d_X_nextElement_67 : decode b_X_nextElement 67 = .ok (.invokevirtual 71, 3) := by decide +kernel
theorem d_X_nextElement_70 : decode b_X_nextElement 70 = .ok (.invokevirtual 68, 3) := by decide +kernel
theorem d_X_nextElement_73 : decode b_X_nextElement 73 = .ok (.istore_n 3, 1) := by decide +kernel
theorem d_X_nextElement_74 : decode b_X_nextElement 74 = .ok (.goto 10, 3) := by decide +kernel
theorem d_X_nextElement_77 : decode b_X_nextElement 77 = .ok (.aload_n 0, 1) := by decide +kernel
theorem d_X_nextElement_78 : decode b_X_nextElement 78 = .ok (.iload_n 1, 1) := by decide +kernel
theorem d_X_nextElement_79 : decode b_X_nextElement 79 = .ok (.iconst 0, 1) := by decide +kernel
theorem d_X_nextElement_80 : decode b_X_nextElement 80 = .ok (.invokevirtual 71, 3) := by decide +kernel
theorem d_X_nextElement_83 : decode b_X_nextElement 83 = .ok (.istore_n 3, 1) := by decide +kernel
theorem d_X_nextElement_84 : decode b_X_nextElement 84 = .ok (.iload_n 3, 1) := by decide +kernel
theorem d_X_nextElement_85 : decode b_X_nextElement 85 = .ok (.bipush (-2), 2) := by decide +kernel
theorem d_X_nextElement_87 : decode b_X_nextElement 87 = .ok (.if_icmp .ne 6, 3) := by decide +kernel
theorem d_X_nextElement_90 : decode b_X_nextElement 90 = .ok (.bipush (-2), 2) := by decide +kernel
theorem d_X_nextElement_92 : decode b_X_nextElement 92 = .ok (.ireturn, 1) := by decide +kernel
theorem d_X_nextElement_93 : decode b_X_nextElement 93 = .ok (.aload_n 0, 1) := by decide +kernel
theorem d_X_nextElement_94 : decode b_X_nextElement 94 = .ok (.iload_n 3, 1) := by decide +kernel
theorem d_X_nextElement_95 : decode b_X_nextElement 95 = .ok (.putfield 28, 3) := by decide +kernel
theorem d_X_nextElement_98 : decode b_X_nextElement 98 = .ok (.aload_n 0, 1) := by decide +kernel
theorem d_X_nextElement_99 : decode b_X_nextElement 99 = .ok (.getfield 22, 3) := by decide +kernel
theorem d_X_nextElement_102 : decode b_X_nextElement 102 = .ok (.invokevirtual 32, 3) := by decide +kernel
theorem d_X_nextElement_105 : decode b_X_nextElement 105 = .ok (.ireturn, 1) := by decide +kernel
theorem d_X_count_0 : decode b_X_count 0 = .ok (.aload_n 0, 1) := by decide +kernel
theorem d_X_count_1 : decode b_X_count 1 = .ok (.iconst 0, 1) := by decide +kernel
theorem d_X_count_2 : decode b_X_count 2 = .ok (.putfield 28, 3) := by decide +kernel
theorem d_X_count_5 : decode b_X_count 5 = .ok (.iconst 0, 1) := by decide +kernel
theorem d_X_count_6 : decode b_X_count 6 = .ok (.istore_n 1, 1) := by decide +kernel
theorem d_X_count_7 : decode b_X_count 7 = .ok (.aload_n 0, 1) := by decide +kernel
theorem d_X_count_8 : decode b_X_count 8 = .ok (.invokevirtual 48, 3) := by decide +kernel
theorem d_X_count_11 : decode b_X_count 11 = .ok (.istore_n 2, 1) := by decide +kernel
theorem d_X_count_12 : decode b_X_count 12 = .ok (.iload_n 2, 1) := by decide +kernel
theorem d_X_count_13 : decode b_X_count 13 = .ok (.ifCond .lt 21, 3) := by decide +kernel
theorem d_X_count_16 : decode b_X_count 16 = .ok (.iload_n 1, 1) := by decide +kernel
theorem d_X_count_17 : decode b_X_count 17 = .ok (.sipush 1024, 3) := by decide +kernel
theorem d_X_count_20 : decode b_X_count 20 = .ok (.if_icmp .ge 14, 3) := by decide +kernel
theorem d_X_count_23 : decode b_X_count 23 = .ok (.iinc 1 1, 3) := by decide +kernel
theorem d_X_count_26 : decode b_X_count 26 = .ok (.aload_n 0, 1) := by decide +kernel
theorem d_X_count_27 : decode b_X_count 27 = .ok (.invokevirtual 48, 3) := by decide +kernel
theorem d_X_count_30 : decode b_X_count 30 = .ok (.istore_n 2, 1) := by decide +kernel
theorem d_X_count_31 : decode b_X_count 31 = .ok (.goto (-19), 3) := by decide +kernel
theorem d_X_count_34 : decode b_X_count 34 = .ok (.iload_n 2, 1) := by decide +kernel
theorem d_X_count_35 : decode b_X_count 35 = .ok (.bipush (-2), 2) := by decide +kernel
theorem d_X_count_37 : decode b_X_count 37 = .ok (.if_icmp .ne 8, 3) := by decide +kernel
theorem d_X_count_40 : decode b_X_count 40 = .ok (.bipush (-2), 2) := by decide +kernel
theorem d_X_count_42 : decode b_X_count 42 = .ok (.goto 4, 3) := by decide +kernel
theorem d_X_count_45 : decode b_X_count 45 = .ok (.iload_n 1, 1) := by decide +kernel
theorem d_X_count_46 : decode b_X_count 46 = .ok (.ireturn, 1) := by decide +kernel
theorem d_X_needsBackslash_0 : decode b_X_needsBackslash 0 = .ok (.aload_n 0, 1) := by decide +kernel
theorem d_X_needsBackslash_1 : decode b_X_needsBackslash 1 = .ok (.iload_n 1, 1) := by decide +kernel
theorem d_X_needsBackslash_2 : decode b_X_needsBackslash 2 = .ok (.invokevirtual 58, 3) := by decide +kernel
theorem d_X_needsBackslash_5 : decode b_X_needsBackslash 5 = .ok (.istore_n 2, 1) := by decide +kernel
theorem d_X_needsBackslash_6 : decode b_X_needsBackslash 6 = .ok (.iload_n 2, 1) := by decide +kernel
theorem d_X_needsBackslash_7 : decode b_X_needsBackslash 7 = .ok (.invokestatic 75, 3) := by decide +kernel
theorem d_X_needsBackslash_10 : decode b_X_needsBackslash 10 = .ok (.ifCond .ne 23, 3) := by decide +kernel
theorem d_X_needsBackslash_13 : decode b_X_needsBackslash 13 = .ok (.ldc 137, 2) := by decide +kernel
theorem d_X_needsBackslash_15 : decode b_X_needsBackslash 15 = .ok (.iload_n 2, 1) := by decide +kernel
theorem d_X_needsBackslash_16 : decode b_X_needsBackslash 16 = .ok (.i2c, 1) := by decide +kernel
theorem d_X_needsBackslash_17 : decode b_X_needsBackslash 17 = .ok (.invokevirtual 96, 3) := by decide +kernel
theorem d_X_needsBackslash_20 : decode b_X_needsBackslash 20 = .ok (.ifCond .ge 13, 3) := by decide +kernel
theorem d_X_needsBackslash_23 : decode b_X_needsBackslash 23 = .ok (.iload_n 2, 1) := by decide +kernel
theorem d_X_needsBackslash_24 : decode b_X_needsBackslash 24 = .ok (.bipush 35, 2) := by decide +kernel
theorem d_X_needsBackslash_26 : decode b_X_needsBackslash 26 = .ok (.if_icmp .ne 11, 3) := by decide +kernel
theorem d_X_needsBackslash_29 : decode b_X_needsBackslash 29 = .ok (.iload_n 1, 1) := by decide +kernel
theorem d_X_needsBackslash_30 : decode b_X_needsBackslash 30 = .ok (.ifCond .ne 7, 3) := by decide +kernel
theorem d_X_needsBackslash_33 : decode b_X_needsBackslash 33 = .ok (.iconst 1, 1) := by decide +kernel
theorem d_X_needsBackslash_34 : decode b_X_needsBackslash 34 = .ok (.goto 4, 3) := by decide +kernel
theorem d_X_needsBackslash_37 : decode b_X_needsBackslash 37 = .ok (.iconst 0, 1) := by decide +kernel
theorem d_X_needsBackslash_38 : decode b_X_needsBackslash 38 = .ok (.ireturn, 1) := by decide +kernel
theorem d_X_canStandBare_0 : decode b_X_canStandBare 0 = .ok (.iconst 0, 1) := by decide +kernel
theorem d_X_canStandBare_1 : decode b_X_canStandBare 1 = .ok (.istore_n 1, 1) := by decide +kernel
theorem d_X_canStandBare_2 : decode b_X_canStandBare 2 = .ok (.iload_n 1, 1) := by decide +kernel
theorem d_X_canStandBare_3 : decode b_X_canStandBare 3 = .ok (.aload_n 0, 1) := by decide +kernel
theorem d_X_canStandBare_4 : decode b_X_canStandBare 4 = .ok (.invokevirtual 32, 3) := by decide +kernel
theorem d_X_canStandBare_7 : decode b_X_canStandBare 7 = .ok (.if_icmp .ge 19, 3) := by decide +kernel
theorem d_X_canStandBare_10 : decode b_X_canStandBare 10 = .ok (.aload_n 0, 1) := by decide +kernel
theorem d_X_canStandBare_11 : decode b_X_canStandBare 11 = .ok (.iload_n 1, 1) := by decide +kernel
theorem d_X_canStandBare_12 : decode b_X_canStandBare 12 = .ok (.invokestatic 129, 3) := by decide +kernel
theorem d_X_canStandBare_15 : decode b_X_canStandBare 15 = .ok (.ifCond .eq 5, 3) := by decide +kernel
theorem d_X_canStandBare_18 : decode b_X_canStandBare 18 = .ok (.iconst 0, 1) := by decide +kernel
theorem d_X_canStandBare_19 : decode b_X_canStandBare 19 = .ok (.ireturn, 1) := by decide +kernel
theorem d_X_canStandBare_20 : decode b_X_canStandBare 20 = .ok (.iinc 1 1, 3) := by decide +kernel
theorem d_X_canStandBare_23 : decode b_X_canStandBare 23 = .ok (.goto (-21), 3) := by decide +kernel
theorem d_X_canStandBare_26 : decode b_X_canStandBare 26 = .ok (.aload_n 0, 1) := by decide +kernel
theorem d_X_canStandBare_27 : decode b_X_canStandBare 27 = .ok (.invokevirtual 32, 3) := by decide +kernel
theorem d_X_canStandBare_30 : decode b_X_canStandBare 30 = .ok (.ifCond .le 7, 3) := by decide +kernel
theorem d_X_canStandBare_33 : decode b_X_canStandBare 33 = .ok (.iconst 1, 1) := by decide +kernel
theorem d_X_canStandBare_34 : decode b_X_canStandBare 34 = .ok (.goto 4, 3) := by decide +kernel
theorem d_X_canStandBare_37 : decode b_X_canStandBare 37 = .ok (.iconst 0, 1) := by decide +kernel
theorem d_X_canStandBare_38 : decode b_X_canStandBare 38 = .ok (.ireturn, 1) := by decide +kernel
theorem d_X_canStandInBraces_0 : decode b_X_canStandInBraces 0 = .ok (.iconst 0, 1) := by decide +kernel
theorem d_X_canStandInBraces_1 : decode b_X_canStandInBraces 1 = .ok (.istore_n 1, 1) := by decide +kernel
theorem d_X_canStandInBraces_2 : decode b_X_canStandInBraces 2 = .ok (.iconst 0, 1) := by decide +kernel
theorem d_X_canStandInBraces_3 : decode b_X_canStandInBraces 3 = .ok (.istore_n 2, 1) := by decide +kernel
theorem d_X_canStandInBraces_4 : decode b_X_canStandInBraces 4 = .ok (.iload_n 2, 1) := by decide +kernel
theorem d_X_canStandInBraces_5 : decode b_X_canStandInBraces 5 = .ok (.aload_n 0, 1) := by decide +kernel
theorem d_X_canStandInBraces_6 : decode b_X_canStandInBraces 6 = .ok (.invokevirtual 32, 3) := by decide +kernel
theorem d_X_canStandInBraces_9 : decode b_X_canStandInBraces 9 = .ok (.if_icmp .ge 48, 3) := by decide +kernel
theorem d_X_canStandInBraces_12 : decode b_X_canStandInBraces 12 = .ok (.aload_n 0, 1) := by decide +kernel
theorem d_X_canStandInBraces_13 : decode b_X_canStandInBraces 13 = .ok (.iload_n 2, 1) := by decide +kernel
theorem d_X_canStandInBraces_14 : decode b_X_canStandInBraces 14 = .ok (.invokevirtual 58, 3) := by decide +kernel
theorem d_X_canStandInBraces_17 : decode b_X_canStandInBraces 17 = .ok (.istore_n 3, 1) := by decide +kernel
theorem d_X_canStandInBraces_18 : decode b_X_canStandInBraces 18 = .ok (.iload_n 3, 1) := by decide +kernel
theorem d_X_canStandInBraces_19 : decode b_X_canStandInBraces 19 = .ok (.bipush 123, 2) := by decide +kernel
theorem d_X_canStandInBraces_21 : decode b_X_canStandInBraces 21 = .ok (.if_icmp .ne 9, 3) := by decide +kernel
theorem d_X_canStandInBraces_24 : decode b_X_canStandInBraces 24 = .ok (.iinc 1 1, 3) := by decide +kernel
theorem d_X_canStandInBraces_27 : decode b_X_canStandInBraces 27 = .ok (.goto 12, 3) := by decide +kernel
theorem d_X_canStandInBraces_30 : decode b_X_canStandInBraces 30 = .ok (.iload_n 3, 1) := by decide +kernel
theorem d_X_canStandInBraces_31 : decode b_X_canStandInBraces 31 = .ok (.bipush 125, 2) := by decide +kernel
theorem d_X_canStandInBraces_33 : decode b_X_canStandInBraces 33 = .ok (.if_icmp .ne 6, 3) := by decide +kernel
theorem d_X_canStandInBraces_36 : decode b_X_canStandInBraces 36 = .ok (.iinc 1 (-1), 3) := by decide +kernel
theorem d_X_canStandInBraces_39 : decode b_X_canStandInBraces 39 = .ok (.iload_n 3, 1) := by decide +kernel
theorem d_X_canStandInBraces_40 : decode b_X_canStandInBraces 40 = .ok (.bipush 92, 2) := by decide +kernel
theorem d_X_canStandInBraces_42 : decode b_X_canStandInBraces 42 = .ok (.if_icmp .eq 7, 3) := by decide +kernel
theorem d_X_canStandInBraces_45 : decode b_X_canStandInBraces 45 = .ok (.iload_n 1, 1) := by decide +kernel
theorem d_X_canStandInBraces_46 : decode b_X_canStandInBraces 46 = .ok (.ifCond .ge 5, 3) := by decide +kernel
theorem d_X_canStandInBraces_49 : decode b_X_canStandInBraces 49 = .ok (.iconst 0, 1) := by decide +kernel
theorem d_X_canStandInBraces_50 : decode b_X_canStandInBraces 50 = .ok (.ireturn, 1) := by decide +kernel
theorem d_X_canStandInBraces_51 : decode b_X_canStandInBraces 51 = .ok (.iinc 2 1, 3) := by decide +kernel
theorem d_X_canStandInBraces_54 : decode b_X_canStandInBraces 54 = .ok (.goto (-50), 3) := by decide +kernel
theorem d_X_canStandInBraces_57 : decode b_X_canStandInBraces 57 = .ok (.iload_n 1, 1) := by decide +kernel
theorem d_X_canStandInBraces_58 : decode b_X_canStandInBraces 58 = .ok (.ifCond .ne 7, 3) := by decide +kernel
theorem d_X_canStandInBraces_61 : decode b_X_canStandInBraces 61 = .ok (.iconst 1, 1) := by decide +kernel
theorem d_X_canStandInBraces_62 : decode b_X_canStandInBraces 62 = .ok (.goto 4, 3) := by decide +kernel
theorem d_X_canStandInBraces_65 : decode b_X_canStandInBraces 65 = .ok (.iconst 0, 1) := by decide +kernel
theorem d_X_canStandInBraces_66 : decode b_X_canStandInBraces 66 = .ok (.ireturn, 1) := by decide +kernel
theorem d_PC_checkIndex0_0 : decode b_PC_checkIndex0 0 = .ok (.iload_n 0, 1) := by decide +kernel
theorem d_PC_checkIndex0_1 : decode b_PC_checkIndex0 1 = .ok (.ifCond .lt 8, 3) := by decide +kernel
theorem d_PC_checkIndex0_4 : decode b_PC_checkIndex0 4 = .ok (.iload_n 0, 1) := by decide +kernel
theorem d_PC_checkIndex0_5 : decode b_PC_checkIndex0 5 = .ok (.iload_n 1, 1) := by decide +kernel
theorem d_PC_checkIndex0_6 : decode b_PC_checkIndex0 6 = .ok (.if_icmp .lt 10, 3) := by decide +kernel
theorem d_PC_checkIndex0_16 : decode b_PC_checkIndex0 16 = .ok (.iload_n 0, 1) := by decide +kernel
theorem d_PC_checkIndex0_17 : decode b_PC_checkIndex0 17 = .ok (.ireturn, 1) := by decide +kernel
theorem d_S_checkIndex_0 : decode b_S_checkIndex 0 = .ok (.iload_n 0, 1) := by decide +kernel
theorem d_S_checkIndex_1 : decode b_S_checkIndex 1 = .ok (.iload_n 1, 1) := by decide +kernel
theorem d_S_checkIndex_2 : decode b_S_checkIndex 2 = .ok (.getstatic 1053, 3) := by decide +kernel
theorem d_S_checkIndex_5 : decode b_S_checkIndex 5 = .ok (.invokestatic 1059, 3) := by decide +kernel
theorem d_S_checkIndex_8 : decode b_S_checkIndex 8 = .ok (.pop, 1) := by decide +kernel
theorem d_S_checkIndex_9 : decode b_S_checkIndex 9 = .ok (.return_, 1) := by decide +kernel
theorem d_SL_charAt_0 : decode b_SL_charAt 0 = .ok (.iload_n 1, 1) := by decide +kernel
theorem d_SL_charAt_1 : decode b_SL_charAt 1 = .ok (.aload_n 0, 1) := by decide +kernel
theorem d_SL_charAt_2 : decode b_SL_charAt 2 = .ok (.arraylength, 1) := by decide +kernel
theorem d_SL_charAt_3 : decode b_SL_charAt 3 = .ok (.invokestatic 9, 3) := by decide +kernel
theorem d_SL_charAt_6 : decode b_SL_charAt 6 = .ok (.aload_n 0, 1) := by decide +kernel
theorem d_SL_charAt_7 : decode b_SL_charAt 7 = .ok (.iload_n 1, 1) := by decide +kernel
theorem d_SL_charAt_8 : decode b_SL_charAt 8 = .ok (.baload, 1) := by decide +kernel
theorem d_SL_charAt_9 : decode b_SL_charAt 9 = .ok (.sipush 255, 3) := by decide +kernel
theorem d_SL_charAt_12 : decode b_SL_charAt 12 = .ok (.iand, 1) := by decide +kernel
theorem d_SL_charAt_13 : decode b_SL_charAt 13 = .ok (.i2c, 1) := by decide +kernel
theorem d_SL_charAt_14 : decode b_SL_charAt 14 = .ok (.ireturn, 1) := by decide +kernel
theorem d_S_charAt_0 : decode b_S_charAt 0 = .ok (.aload_n 0, 1) := by decide +kernel
theorem d_S_charAt_1 : decode b_S_charAt 1 = .ok (.invokevirtual 492, 3) := by decide +kernel
theorem d_S_charAt_4 : decode b_S_charAt 4 = .ok (.ifCond .eq 12, 3) := by decide +kernel
theorem d_S_charAt_7 : decode b_S_charAt 7 = .ok (.aload_n 0, 1) := by decide +kernel
theorem d_S_charAt_8 : decode b_S_charAt 8 = .ok (.getfield 9, 3) := by decide +kernel
theorem d_S_charAt_11 : decode b_S_charAt 11 = .ok (.iload_n 1, 1) := by decide +kernel
theorem d_S_charAt_12 : decode b_S_charAt 12 = .ok (.invokestatic 495, 3) := by decide +kernel
theorem d_S_charAt_15 : decode b_S_charAt 15 = .ok (.ireturn, 1) := by decide +kernel
theorem d_S_charAt_16 : decode b_S_charAt 16 = .ok (.aload_n 0, 1) := by decide +kernel
theorem d_S_charAt_17 : decode b_S_charAt 17 = .ok (.getfield 9, 3) := by decide +kernel
theorem d_S_charAt_20 : decode b_S_charAt 20 = .ok (.iload_n 1, 1) := by decide +kernel
theorem d_X_writeWithBackslashes_0 : decode b_X_writeWithBackslashes 0 = .ok (.iconst 0, 1) := by decide +kernel
theorem d_X_writeWithBackslashes_1 : decode b_X_writeWithBackslashes 1 = .ok (.istore_n 2, 1) := by decide +kernel
theorem d_X_writeWithBackslashes_2 : decode b_X_writeWithBackslashes 2 = .ok (.iload_n 2, 1) := by decide +kernel
theorem d_X_writeWithBackslashes_3 : decode b_X_writeWithBackslashes 3 = .ok (.aload_n 1, 1) := by decide +kernel
theorem d_X_writeWithBackslashes_4 : decode b_X_writeWithBackslashes 4 = .ok (.invokevirtual 32, 3) := by decide +kernel
theorem d_X_writeWithBackslashes_7 : decode b_X_writeWithBackslashes 7 = .ok (.if_icmp .ge 63, 3) := by decide +kernel
theorem d_X_writeWithBackslashes_10 : decode b_X_writeWithBackslashes 10 = .ok (.aload_n 1, 1) := by decide +kernel
theorem d_X_writeWithBackslashes_11 : decode b_X_writeWithBackslashes 11 = .ok (.iload_n 2, 1) := by decide +kernel
theorem d_X_writeWithBackslashes_12 : decode b_X_writeWithBackslashes 12 = .ok (.invokevirtual 58, 3) := by decide +kernel
theorem d_X_writeWithBackslashes_15 : decode b_X_writeWithBackslashes 15 = .ok (.istore_n 3, 1) := by decide +kernel
theorem d_X_writeWithBackslashes_16 : decode b_X_writeWithBackslashes 16 = .ok (.aload_n 1, 1) := by decide +kernel
theorem d_X_writeWithBackslashes_17 : decode b_X_writeWithBackslashes 17 = .ok (.iload_n 2, 1) := by decide +kernel
theorem d_X_writeWithBackslashes_18 : decode b_X_writeWithBackslashes 18 = .ok (.invokestatic 129, 3) := by decide +kernel
theorem d_X_writeWithBackslashes_21 : decode b_X_writeWithBackslashes 21 = .ok (.ifCond .eq 14, 3) := by decide +kernel
theorem d_X_writeWithBackslashes_24 : decode b_X_writeWithBackslashes 24 = .ok (.aload_n 0, 1) := by decide +kernel
theorem d_X_writeWithBackslashes_25 : decode b_X_writeWithBackslashes 25 = .ok (.bipush 92, 2) := by decide +kernel
theorem d_X_writeWithBackslashes_27 : decode b_X_writeWithBackslashes 27 = .ok (.invokevirtual 78, 3) := by decide +kernel
theorem d_X_writeWithBackslashes_30 : decode b_X_writeWithBackslashes 30 = .ok (.ifCond .ne 5, 3) := by decide +kernel
theorem d_X_writeWithBackslashes_33 : decode b_X_writeWithBackslashes 33 = .ok (.iconst 0, 1) := by decide +kernel
theorem d_X_writeWithBackslashes_34 : decode b_X_writeWithBackslashes 34 = .ok (.ireturn, 1) := by decide +kernel
theorem d_X_writeWithBackslashes_35 : decode b_X_writeWithBackslashes 35 = .ok (.aload_n 0, 1) := by decide +kernel
theorem d_X_writeWithBackslashes_36 : decode b_X_writeWithBackslashes 36 = .ok (.iload_n 3, 1) := by decide +kernel
theorem d_X_writeWithBackslashes_37 : decode b_X_writeWithBackslashes 37 = .ok (.invokestatic 113, 3) := by decide +kernel
theorem d_X_writeWithBackslashes_40 : decode b_X_writeWithBackslashes 40 = .ok (.ifCond .eq 15, 3) := by decide +kernel
theorem d_X_writeWithBackslashes_43 : decode b_X_writeWithBackslashes 43 = .ok (.ldc 94, 2) := by decide +kernel
theorem d_X_writeWithBackslashes_45 : decode b_X_writeWithBackslashes 45 = .ok (.iload_n 3, 1) := by decide +kernel
theorem d_X_writeWithBackslashes_46 : decode b_X_writeWithBackslashes 46 = .ok (.bipush 7, 2) := by decide +kernel
theorem d_X_writeWithBackslashes_48 : decode b_X_writeWithBackslashes 48 = .ok (.isub, 1) := by decide +kernel
theorem d_X_writeWithBackslashes_49 : decode b_X_writeWithBackslashes 49 = .ok (.invokevirtual 133, 3) := by decide +kernel
theorem d_X_writeWithBackslashes_52 : decode b_X_writeWithBackslashes 52 = .ok (.goto 4, 3) := by decide +kernel
theorem d_X_writeWithBackslashes_55 : decode b_X_writeWithBackslashes 55 = .ok (.iload_n 3, 1) := by decide +kernel
theorem d_X_writeWithBackslashes_56 : decode b_X_writeWithBackslashes 56 = .ok (.invokevirtual 78, 3) := by decide +kernel
theorem d_X_writeWithBackslashes_59 : decode b_X_writeWithBackslashes 59 = .ok (.ifCond .ne 5, 3) := by decide +kernel
theorem d_X_writeWithBackslashes_62 : decode b_X_writeWithBackslashes 62 = .ok (.iconst 0, 1) := by decide +kernel
theorem d_X_writeWithBackslashes_63 : decode b_X_writeWithBackslashes 63 = .ok (.ireturn, 1) := by decide +kernel
theorem d_X_writeWithBackslashes_64 : decode b_X_writeWithBackslashes 64 = .ok (.iinc 2 1, 3) := by decide +kernel
theorem d_X_writeWithBackslashes_67 : decode b_X_writeWithBackslashes 67 = .ok (.goto (-65), 3) := by decide +kernel
theorem d_X_writeWithBackslashes_70 : decode b_X_writeWithBackslashes 70 = .ok (.iconst 1, 1) := by decide +kernel
theorem d_X_writeWithBackslashes_71 : decode b_X_writeWithBackslashes 71 = .ok (.ireturn, 1) := by decide +kernel
theorem d_X_writeBehind_0 : decode b_X_writeBehind 0 = .ok (.aload_n 0, 1) := by decide +kernel
theorem d_X_writeBehind_1 : decode b_X_writeBehind 1 = .ok (.invokevirtual 32, 3) := by decide +kernel
theorem d_X_writeBehind_4 : decode b_X_writeBehind 4 = .ok (.ifCond .le 14, 3) := by decide +kernel
theorem d_X_writeBehind_7 : decode b_X_writeBehind 7 = .ok (.aload_n 0, 1) := by decide +kernel
theorem d_X_writeBehind_8 : decode b_X_writeBehind 8 = .ok (.bipush 32, 2) := by decide +kernel
theorem d_X_writeBehind_10 : decode b_X_writeBehind 10 = .ok (.invokevirtual 78, 3) := by decide +kernel
theorem d_X_writeBehind_13 : decode b_X_writeBehind 13 = .ok (.ifCond .ne 5, 3) := by decide +kernel
theorem d_X_writeBehind_16 : decode b_X_writeBehind 16 = .ok (.iconst 0, 1) := by decide +kernel
theorem d_X_writeBehind_17 : decode b_X_writeBehind 17 = .ok (.ireturn, 1) := by decide +kernel
theorem d_X_writeBehind_18 : decode b_X_writeBehind 18 = .ok (.aload_n 1, 1) := by decide +kernel
theorem d_X_writeBehind_19 : decode b_X_writeBehind 19 = .ok (.invokestatic 116, 3) := by decide +kernel
theorem d_X_writeBehind_22 : decode b_X_writeBehind 22 = .ok (.ifCond .eq 9, 3) := by decide +kernel
theorem d_X_writeBehind_25 : decode b_X_writeBehind 25 = .ok (.aload_n 0, 1) := by decide +kernel
theorem d_X_writeBehind_26 : decode b_X_writeBehind 26 = .ok (.aload_n 1, 1) := by decide +kernel
theorem d_X_writeBehind_27 : decode b_X_writeBehind 27 = .ok (.invokevirtual 120, 3) := by decide +kernel
theorem d_X_writeBehind_30 : decode b_X_writeBehind 30 = .ok (.ireturn, 1) := by decide +kernel
theorem d_X_writeBehind_31 : decode b_X_writeBehind 31 = .ok (.aload_n 1, 1) := by decide +kernel
theorem d_X_writeBehind_32 : decode b_X_writeBehind 32 = .ok (.invokestatic 123, 3) := by decide +kernel
theorem d_X_writeBehind_35 : decode b_X_writeBehind 35 = .ok (.ifCond .eq 35, 3) := by decide +kernel
theorem d_X_writeBehind_38 : decode b_X_writeBehind 38 = .ok (.aload_n 0, 1) := by decide +kernel
theorem d_X_writeBehind_39 : decode b_X_writeBehind 39 = .ok (.bipush 123, 2) := by decide +kernel
theorem d_X_writeBehind_41 : decode b_X_writeBehind 41 = .ok (.invokevirtual 78, 3) := by decide +kernel
theorem d_X_writeBehind_44 : decode b_X_writeBehind 44 = .ok (.ifCond .eq 24, 3) := by decide +kernel
theorem d_X_writeBehind_47 : decode b_X_writeBehind 47 = .ok (.aload_n 0, 1) := by decide +kernel
theorem d_X_writeBehind_48 : decode b_X_writeBehind 48 = .ok (.aload_n 1, 1) := by decide +kernel
theorem d_X_writeBehind_49 : decode b_X_writeBehind 49 = .ok (.invokevirtual 120, 3) := by decide +kernel
theorem d_X_writeBehind_52 : decode b_X_writeBehind 52 = .ok (.ifCond .eq 16, 3) := by decide +kernel
theorem d_X_writeBehind_55 : decode b_X_writeBehind 55 = .ok (.aload_n 0, 1) := by decide +kernel
theorem d_X_writeBehind_56 : decode b_X_writeBehind 56 = .ok (.bipush 125, 2) := by decide +kernel
theorem d_X_writeBehind_58 : decode b_X_writeBehind 58 = .ok (.invokevirtual 78, 3) := by decide +kernel
theorem d_X_writeBehind_61 : decode b_X_writeBehind 61 = .ok (.ifCond .eq 7, 3) := by decide +kernel
theorem d_X_writeBehind_64 : decode b_X_writeBehind 64 = .ok (.iconst 1, 1) := by decide +kernel
theorem d_X_writeBehind_65 : decode b_X_writeBehind 65 = .ok (.goto 4, 3) := by decide +kernel
theorem d_X_writeBehind_68 : decode b_X_writeBehind 68 = .ok (.iconst 0, 1) := by decide +kernel
theorem d_X_writeBehind_69 : decode b_X_writeBehind 69 = .ok (.ireturn, 1) := by decide +kernel
theorem d_X_writeBehind_70 : decode b_X_writeBehind 70 = .ok (.aload_n 0, 1) := by decide +kernel
theorem d_X_writeBehind_71 : decode b_X_writeBehind 71 = .ok (.aload_n 1, 1) := by decide +kernel
theorem d_X_writeBehind_72 : decode b_X_writeBehind 72 = .ok (.invokestatic 126, 3) := by decide +kernel
theorem d_X_writeBehind_75 : decode b_X_writeBehind 75 = .ok (.ireturn, 1) := by decide +kernel
theorem d_X_again_0 : decode b_X_again 0 = .ok (.aload_n 0, 1) := by decide +kernel
theorem d_X_again_1 : decode b_X_again 1 = .ok (.invokevirtual 51, 3) := by decide +kernel
theorem d_X_again_4 : decode b_X_again 4 = .ok (.istore_n 1, 1) := by decide +kernel
theorem d_X_again_5 : decode b_X_again 5 = .ok (.iload_n 1, 1) := by decide +kernel
theorem d_X_again_6 : decode b_X_again 6 = .ok (.bipush (-2), 2) := by decide +kernel
theorem d_X_again_8 : decode b_X_again 8 = .ok (.if_icmp .ne 6, 3) := by decide +kernel
theorem d_X_again_11 : decode b_X_again 11 = .ok (.bipush (-2), 2) := by decide +kernel
theorem d_X_again_13 : decode b_X_again 13 = .ok (.ireturn, 1) := by decide +kernel
theorem d_X_again_14 : decode b_X_again 14 = .ok (.aload_n 0, 1) := by decide +kernel
theorem d_X_again_15 : decode b_X_again 15 = .ok (.getfield 25, 3) := by decide +kernel
theorem d_X_again_18 : decode b_X_again 18 = .ok (.iconst 0, 1) := by decide +kernel
theorem d_X_again_19 : decode b_X_again 19 = .ok (.invokevirtual 40, 3) := by decide +kernel
theorem d_X_again_22 : decode b_X_again 22 = .ok (.pop, 1) := by decide +kernel
theorem d_X_again_23 : decode b_X_again 23 = .ok (.aload_n 0, 1) := by decide +kernel
theorem d_X_again_24 : decode b_X_again 24 = .ok (.iconst 0, 1) := by decide +kernel
theorem d_X_again_25 : decode b_X_again 25 = .ok (.putfield 28, 3) := by decide +kernel
theorem d_X_again_28 : decode b_X_again 28 = .ok (.iconst 0, 1) := by decide +kernel
theorem d_X_again_29 : decode b_X_again 29 = .ok (.istore_n 2, 1) := by decide +kernel
theorem d_X_again_30 : decode b_X_again 30 = .ok (.iload_n 2, 1) := by decide +kernel
theorem d_X_again_31 : decode b_X_again 31 = .ok (.iload_n 1, 1) := by decide +kernel
theorem d_X_again_32 : decode b_X_again 32 = .ok (.if_icmp .ge 31, 3) := by decide +kernel
theorem d_X_again_35 : decode b_X_again 35 = .ok (.aload_n 0, 1) := by decide +kernel
theorem d_X_again_36 : decode b_X_again 36 = .ok (.invokevirtual 48, 3) := by decide +kernel
theorem d_X_again_39 : decode b_X_again 39 = .ok (.pop, 1) := by decide +kernel
theorem d_X_again_40 : decode b_X_again 40 = .ok (.aload_n 0, 1) := by decide +kernel
theorem d_X_again_41 : decode b_X_again 41 = .ok (.getfield 25, 3) := by decide +kernel
theorem d_X_again_44 : decode b_X_again 44 = .ok (.aload_n 0, 1) := by decide +kernel
theorem d_X_again_45 : decode b_X_again 45 = .ok (.getfield 22, 3) := by decide +kernel
theorem d_X_again_48 : decode b_X_again 48 = .ok (.invokestatic 54, 3) := by decide +kernel
theorem d_X_again_51 : decode b_X_again 51 = .ok (.ifCond .ne 6, 3) := by decide +kernel
theorem d_X_again_54 : decode b_X_again 54 = .ok (.bipush (-3), 2) := by decide +kernel
theorem d_X_again_56 : decode b_X_again 56 = .ok (.ireturn, 1) := by decide +kernel
theorem d_X_again_57 : decode b_X_again 57 = .ok (.iinc 2 1, 3) := by decide +kernel
theorem d_X_again_60 : decode b_X_again 60 = .ok (.goto (-30), 3) := by decide +kernel
theorem d_X_again_63 : decode b_X_again 63 = .ok (.aload_n 0, 1) := by decide +kernel
theorem d_X_again_64 : decode b_X_again 64 = .ok (.getfield 16, 3) := by decide +kernel
theorem d_X_again_67 : decode b_X_again 67 = .ok (.aload_n 0, 1) := by decide +kernel
theorem d_X_again_68 : decode b_X_again 68 = .ok (.getfield 25, 3) := by decide +kernel
theorem d_X_again_71 : decode b_X_again 71 = .ok (.invokevirtual 44, 3) := by decide +kernel
theorem d_X_again_74 : decode b_X_again 74 = .ok (.ireturn, 1) := by decide +kernel
theorem d_M_at_0 : decode b_M_at 0 = .ok (.iload_n 1, 1) := by decide +kernel
theorem d_M_at_1 : decode b_M_at 1 = .ok (.aload_n 0, 1) := by decide +kernel
theorem d_M_at_2 : decode b_M_at 2 = .ok (.getfield 25, 3) := by decide +kernel
theorem d_M_at_5 : decode b_M_at 5 = .ok (.if_icmp .ge 12, 3) := by decide +kernel
theorem d_M_at_8 : decode b_M_at 8 = .ok (.aload_n 0, 1) := by decide +kernel
theorem d_M_at_9 : decode b_M_at 9 = .ok (.getfield 13, 3) := by decide +kernel
theorem d_M_at_12 : decode b_M_at 12 = .ok (.iload_n 1, 1) := by decide +kernel
theorem d_M_at_13 : decode b_M_at 13 = .ok (.iaload, 1) := by decide +kernel
theorem d_M_at_14 : decode b_M_at 14 = .ok (.goto 4, 3) := by decide +kernel
theorem d_M_at_17 : decode b_M_at 17 = .ok (.iconst (-1), 1) := by decide +kernel
theorem d_M_at_18 : decode b_M_at 18 = .ok (.ireturn, 1) := by decide +kernel
theorem d_M_isSpace_0 : decode b_M_isSpace 0 = .ok (.iload_n 0, 1) := by decide +kernel
theorem d_M_isSpace_1 : decode b_M_isSpace 1 = .ok (.bipush 32, 2) := by decide +kernel
theorem d_M_isSpace_3 : decode b_M_isSpace 3 = .ok (.if_icmp .eq 15, 3) := by decide +kernel
theorem d_M_isSpace_6 : decode b_M_isSpace 6 = .ok (.iload_n 0, 1) := by decide +kernel
theorem d_M_isSpace_7 : decode b_M_isSpace 7 = .ok (.bipush 8, 2) := by decide +kernel
theorem d_M_isSpace_9 : decode b_M_isSpace 9 = .ok (.if_icmp .le 13, 3) := by decide +kernel
theorem d_M_isSpace_12 : decode b_M_isSpace 12 = .ok (.iload_n 0, 1) := by decide +kernel
theorem d_M_isSpace_13 : decode b_M_isSpace 13 = .ok (.bipush 14, 2) := by decide +kernel
theorem d_M_isSpace_15 : decode b_M_isSpace 15 = .ok (.if_icmp .ge 7, 3) := by decide +kernel
theorem d_M_isSpace_18 : decode b_M_isSpace 18 = .ok (.iconst 1, 1) := by decide +kernel
theorem d_M_isSpace_19 : decode b_M_isSpace 19 = .ok (.goto 4, 3) := by decide +kernel
theorem d_M_isSpace_22 : decode b_M_isSpace 22 = .ok (.iconst 0, 1) := by decide +kernel
theorem d_M_isSpace_23 : decode b_M_isSpace 23 = .ok (.ireturn, 1) := by decide +kernel
theorem d_M_skip_0 : decode b_M_skip 0 = .ok (.iload_n 1, 1) := by decide +kernel
theorem d_M_skip_1 : decode b_M_skip 1 = .ok (.istore_n 2, 1) := by decide +kernel
theorem d_M_skip_2 : decode b_M_skip 2 = .ok (.iload_n 2, 1) := by decide +kernel
theorem d_M_skip_3 : decode b_M_skip 3 = .ok (.aload_n 0, 1) := by decide +kernel
theorem d_M_skip_4 : decode b_M_skip 4 = .ok (.getfield 25, 3) := by decide +kernel
end
section
theorem d_M_skip_7 : decode b_M_skip 7 = .ok (.if_icmp .ge 20, 3) := by decide +kernel
theorem d_M_skip_10 : decode b_M_skip 10 = .ok (.aload_n 0, 1) := by decide +kernel
theorem d_M_skip_11 : decode b_M_skip 11 = .ok (.iload_n 2, 1) := by decide +kernel
theorem d_M_skip_12 : decode b_M_skip 12 = .ok (.invokevirtual 29, 3) := by decide +kernel
theorem d_M_skip_15 : decode b_M_skip 15 = .ok (.invokestatic 33, 3) := by decide +kernel
theorem d_M_skip_18 : decode b_M_skip 18 = .ok (.ifCond .eq 9, 3) := by decide +kernel
theorem d_M_skip_21 : decode b_M_skip 21 = .ok (.iinc 2 1, 3) := by decide +kernel
theorem d_M_skip_24 : decode b_M_skip 24 = .ok (.goto (-22), 3) := by decide +kernel
theorem d_M_skip_27 : decode b_M_skip 27 = .ok (.iload_n 2, 1) := by decide +kernel
theorem d_M_skip_28 : decode b_M_skip 28 = .ok (.ireturn, 1) := by decide +kernel
theorem d_M_behind_0 : decode b_M_behind 0 = .ok (.iload_n 1, 1) := by decide +kernel
theorem d_M_behind_1 : decode b_M_behind 1 = .ok (.iconst 2, 1) := by decide +kernel
theorem d_M_behind_2 : decode b_M_behind 2 = .ok (.iadd, 1) := by decide +kernel
theorem d_M_behind_3 : decode b_M_behind 3 = .ok (.istore_n 2, 1) := by decide +kernel
theorem d_M_behind_4 : decode b_M_behind 4 = .ok (.aload_n 0, 1) := by decide +kernel
theorem d_M_behind_5 : decode b_M_behind 5 = .ok (.iload_n 1, 1) := by decide +kernel
theorem d_M_behind_6 : decode b_M_behind 6 = .ok (.iconst 1, 1) := by decide +kernel
theorem d_M_behind_7 : decode b_M_behind 7 = .ok (.iadd, 1) := by decide +kernel
theorem d_M_behind_8 : decode b_M_behind 8 = .ok (.invokevirtual 29, 3) := by decide +kernel
theorem d_M_behind_11 : decode b_M_behind 11 = .ok (.bipush 10, 2) := by decide +kernel
theorem d_M_behind_13 : decode b_M_behind 13 = .ok (.if_icmp .ne 29, 3) := by decide +kernel
theorem d_M_behind_16 : decode b_M_behind 16 = .ok (.aload_n 0, 1) := by decide +kernel
theorem d_M_behind_17 : decode b_M_behind 17 = .ok (.iload_n 2, 1) := by decide +kernel
theorem d_M_behind_18 : decode b_M_behind 18 = .ok (.invokevirtual 29, 3) := by decide +kernel
theorem d_M_behind_21 : decode b_M_behind 21 = .ok (.bipush 32, 2) := by decide +kernel
theorem d_M_behind_23 : decode b_M_behind 23 = .ok (.if_icmp .eq 13, 3) := by decide +kernel
theorem d_M_behind_26 : decode b_M_behind 26 = .ok (.aload_n 0, 1) := by decide +kernel
theorem d_M_behind_27 : decode b_M_behind 27 = .ok (.iload_n 2, 1) := by decide +kernel
theorem d_M_behind_28 : decode b_M_behind 28 = .ok (.invokevirtual 29, 3) := by decide +kernel
theorem d_M_behind_31 : decode b_M_behind 31 = .ok (.bipush 9, 2) := by decide +kernel
theorem d_M_behind_33 : decode b_M_behind 33 = .ok (.if_icmp .ne 9, 3) := by decide +kernel
theorem d_M_behind_36 : decode b_M_behind 36 = .ok (.iinc 2 1, 3) := by decide +kernel
theorem d_M_behind_39 : decode b_M_behind 39 = .ok (.goto (-23), 3) := by decide +kernel
theorem d_M_behind_42 : decode b_M_behind 42 = .ok (.iload_n 2, 1) := by decide +kernel
theorem d_M_behind_43 : decode b_M_behind 43 = .ok (.aload_n 0, 1) := by decide +kernel
theorem d_M_behind_44 : decode b_M_behind 44 = .ok (.getfield 25, 3) := by decide +kernel
theorem d_M_behind_47 : decode b_M_behind 47 = .ok (.if_icmp .ge 7, 3) := by decide +kernel
theorem d_M_behind_50 : decode b_M_behind 50 = .ok (.iload_n 2, 1) := by decide +kernel
theorem d_M_behind_51 : decode b_M_behind 51 = .ok (.goto 7, 3) := by decide +kernel
theorem d_M_behind_54 : decode b_M_behind 54 = .ok (.aload_n 0, 1) := by decide +kernel
theorem d_M_behind_55 : decode b_M_behind 55 = .ok (.getfield 25, 3) := by decide +kernel
theorem d_M_behind_58 : decode b_M_behind 58 = .ok (.ireturn, 1) := by decide +kernel
theorem d_M_bare_0 : decode b_M_bare 0 = .ok (.iload_n 1, 1) := by decide +kernel
theorem d_M_bare_1 : decode b_M_bare 1 = .ok (.istore_n 2, 1) := by decide +kernel
theorem d_M_bare_2 : decode b_M_bare 2 = .ok (.iload_n 2, 1) := by decide +kernel
theorem d_M_bare_3 : decode b_M_bare 3 = .ok (.aload_n 0, 1) := by decide +kernel
theorem d_M_bare_4 : decode b_M_bare 4 = .ok (.getfield 25, 3) := by decide +kernel
theorem d_M_bare_7 : decode b_M_bare 7 = .ok (.if_icmp .ge 39, 3) := by decide +kernel
theorem d_M_bare_10 : decode b_M_bare 10 = .ok (.aload_n 0, 1) := by decide +kernel
theorem d_M_bare_11 : decode b_M_bare 11 = .ok (.iload_n 2, 1) := by decide +kernel
theorem d_M_bare_12 : decode b_M_bare 12 = .ok (.invokevirtual 29, 3) := by decide +kernel
theorem d_M_bare_15 : decode b_M_bare 15 = .ok (.invokestatic 33, 3) := by decide +kernel
theorem d_M_bare_18 : decode b_M_bare 18 = .ok (.ifCond .ne 28, 3) := by decide +kernel
theorem d_M_bare_21 : decode b_M_bare 21 = .ok (.aload_n 0, 1) := by decide +kernel
theorem d_M_bare_22 : decode b_M_bare 22 = .ok (.iload_n 2, 1) := by decide +kernel
theorem d_M_bare_23 : decode b_M_bare 23 = .ok (.invokevirtual 29, 3) := by decide +kernel
theorem d_M_bare_26 : decode b_M_bare 26 = .ok (.bipush 92, 2) := by decide +kernel
theorem d_M_bare_28 : decode b_M_bare 28 = .ok (.if_icmp .ne 11, 3) := by decide +kernel
theorem d_M_bare_31 : decode b_M_bare 31 = .ok (.aload_n 0, 1) := by decide +kernel
theorem d_M_bare_32 : decode b_M_bare 32 = .ok (.iload_n 2, 1) := by decide +kernel
theorem d_M_bare_33 : decode b_M_bare 33 = .ok (.invokevirtual 37, 3) := by decide +kernel
theorem d_M_bare_36 : decode b_M_bare 36 = .ok (.goto 6, 3) := by decide +kernel
theorem d_M_bare_39 : decode b_M_bare 39 = .ok (.iload_n 2, 1) := by decide +kernel
theorem d_M_bare_40 : decode b_M_bare 40 = .ok (.iconst 1, 1) := by decide +kernel
theorem d_M_bare_41 : decode b_M_bare 41 = .ok (.iadd, 1) := by decide +kernel
theorem d_M_bare_42 : decode b_M_bare 42 = .ok (.istore_n 2, 1) := by decide +kernel
theorem d_M_bare_43 : decode b_M_bare 43 = .ok (.goto (-41), 3) := by decide +kernel
theorem d_M_bare_46 : decode b_M_bare 46 = .ok (.iload_n 2, 1) := by decide +kernel
theorem d_M_bare_47 : decode b_M_bare 47 = .ok (.ireturn, 1) := by decide +kernel
theorem d_M_closing_0 : decode b_M_closing 0 = .ok (.iconst 1, 1) := by decide +kernel
theorem d_M_closing_1 : decode b_M_closing 1 = .ok (.istore_n 2, 1) := by decide +kernel
theorem d_M_closing_2 : decode b_M_closing 2 = .ok (.iload_n 1, 1) := by decide +kernel
theorem d_M_closing_3 : decode b_M_closing 3 = .ok (.iconst 1, 1) := by decide +kernel
theorem d_M_closing_4 : decode b_M_closing 4 = .ok (.iadd, 1) := by decide +kernel
theorem d_M_closing_5 : decode b_M_closing 5 = .ok (.istore_n 3, 1) := by decide +kernel
theorem d_M_closing_6 : decode b_M_closing 6 = .ok (.iload_n 3, 1) := by decide +kernel
theorem d_M_closing_7 : decode b_M_closing 7 = .ok (.aload_n 0, 1) := by decide +kernel
theorem d_M_closing_8 : decode b_M_closing 8 = .ok (.getfield 25, 3) := by decide +kernel
theorem d_M_closing_11 : decode b_M_closing 11 = .ok (.if_icmp .ge 60, 3) := by decide +kernel
theorem d_M_closing_14 : decode b_M_closing 14 = .ok (.aload_n 0, 1) := by decide +kernel
theorem d_M_closing_15 : decode b_M_closing 15 = .ok (.iload_n 3, 1) := by decide +kernel
theorem d_M_closing_16 : decode b_M_closing 16 = .ok (.invokevirtual 29, 3) := by decide +kernel
theorem d_M_closing_19 : decode b_M_closing 19 = .ok (.istore 4, 2) := by decide +kernel
theorem d_M_closing_21 : decode b_M_closing 21 = .ok (.iload_n 2, 1) := by decide +kernel
theorem d_M_closing_22 : decode b_M_closing 22 = .ok (.iload 4, 2) := by decide +kernel
theorem d_M_closing_24 : decode b_M_closing 24 = .ok (.bipush 123, 2) := by decide +kernel
theorem d_M_closing_26 : decode b_M_closing 26 = .ok (.if_icmp .ne 7, 3) := by decide +kernel
theorem d_M_closing_29 : decode b_M_closing 29 = .ok (.iconst 1, 1) := by decide +kernel
theorem d_M_closing_30 : decode b_M_closing 30 = .ok (.goto 15, 3) := by decide +kernel
theorem d_M_closing_33 : decode b_M_closing 33 = .ok (.iload 4, 2) := by decide +kernel
theorem d_M_closing_35 : decode b_M_closing 35 = .ok (.bipush 125, 2) := by decide +kernel
theorem d_M_closing_37 : decode b_M_closing 37 = .ok (.if_icmp .ne 7, 3) := by decide +kernel
theorem d_M_closing_40 : decode b_M_closing 40 = .ok (.iconst (-1), 1) := by decide +kernel
theorem d_M_closing_41 : decode b_M_closing 41 = .ok (.goto 4, 3) := by decide +kernel
theorem d_M_closing_44 : decode b_M_closing 44 = .ok (.iconst 0, 1) := by decide +kernel
theorem d_M_closing_45 : decode b_M_closing 45 = .ok (.iadd, 1) := by decide +kernel
theorem d_M_closing_46 : decode b_M_closing 46 = .ok (.istore_n 2, 1) := by decide +kernel
theorem d_M_closing_47 : decode b_M_closing 47 = .ok (.iload_n 2, 1) := by decide +kernel
theorem d_M_closing_48 : decode b_M_closing 48 = .ok (.ifCond .ne 5, 3) := by decide +kernel
theorem d_M_closing_51 : decode b_M_closing 51 = .ok (.iload_n 3, 1) := by decide +kernel
theorem d_M_closing_52 : decode b_M_closing 52 = .ok (.ireturn, 1) := by decide +kernel
theorem d_M_closing_53 : decode b_M_closing 53 = .ok (.iload_n 3, 1) := by decide +kernel
theorem d_M_closing_54 : decode b_M_closing 54 = .ok (.iload 4, 2) := by decide +kernel
theorem d_M_closing_56 : decode b_M_closing 56 = .ok (.bipush 92, 2) := by decide +kernel
theorem d_M_closing_58 : decode b_M_closing 58 = .ok (.if_icmp .ne 7, 3) := by decide +kernel
theorem d_M_closing_61 : decode b_M_closing 61 = .ok (.iconst 2, 1) := by decide +kernel
theorem d_M_closing_62 : decode b_M_closing 62 = .ok (.goto 4, 3) := by decide +kernel
theorem d_M_closing_65 : decode b_M_closing 65 = .ok (.iconst 1, 1) := by decide +kernel
theorem d_M_closing_66 : decode b_M_closing 66 = .ok (.iadd, 1) := by decide +kernel
theorem d_M_closing_67 : decode b_M_closing 67 = .ok (.istore_n 3, 1) := by decide +kernel
theorem d_M_closing_68 : decode b_M_closing 68 = .ok (.goto (-62), 3) := by decide +kernel
theorem d_M_closing_71 : decode b_M_closing 71 = .ok (.aload_n 0, 1) := by decide +kernel
theorem d_M_closing_72 : decode b_M_closing 72 = .ok (.getfield 25, 3) := by decide +kernel
theorem d_M_closing_75 : decode b_M_closing 75 = .ok (.ireturn, 1) := by decide +kernel
theorem d_M_quote_0 : decode b_M_quote 0 = .ok (.iload_n 1, 1) := by decide +kernel
theorem d_M_quote_1 : decode b_M_quote 1 = .ok (.iconst 1, 1) := by decide +kernel
theorem d_M_quote_2 : decode b_M_quote 2 = .ok (.iadd, 1) := by decide +kernel
theorem d_M_quote_3 : decode b_M_quote 3 = .ok (.istore_n 2, 1) := by decide +kernel
theorem d_M_quote_4 : decode b_M_quote 4 = .ok (.iload_n 2, 1) := by decide +kernel
theorem d_M_quote_5 : decode b_M_quote 5 = .ok (.aload_n 0, 1) := by decide +kernel
theorem d_M_quote_6 : decode b_M_quote 6 = .ok (.getfield 25, 3) := by decide +kernel
theorem d_M_quote_9 : decode b_M_quote 9 = .ok (.if_icmp .ge 34, 3) := by decide +kernel
theorem d_M_quote_12 : decode b_M_quote 12 = .ok (.aload_n 0, 1) := by decide +kernel
theorem d_M_quote_13 : decode b_M_quote 13 = .ok (.iload_n 2, 1) := by decide +kernel
theorem d_M_quote_14 : decode b_M_quote 14 = .ok (.invokevirtual 29, 3) := by decide +kernel
theorem d_M_quote_17 : decode b_M_quote 17 = .ok (.bipush 34, 2) := by decide +kernel
theorem d_M_quote_19 : decode b_M_quote 19 = .ok (.if_icmp .eq 24, 3) := by decide +kernel
theorem d_M_quote_22 : decode b_M_quote 22 = .ok (.iload_n 2, 1) := by decide +kernel
theorem d_M_quote_23 : decode b_M_quote 23 = .ok (.aload_n 0, 1) := by decide +kernel
theorem d_M_quote_24 : decode b_M_quote 24 = .ok (.iload_n 2, 1) := by decide +kernel
theorem d_M_quote_25 : decode b_M_quote 25 = .ok (.invokevirtual 29, 3) := by decide +kernel
theorem d_M_quote_28 : decode b_M_quote 28 = .ok (.bipush 92, 2) := by decide +kernel
theorem d_M_quote_30 : decode b_M_quote 30 = .ok (.if_icmp .ne 7, 3) := by decide +kernel
theorem d_M_quote_33 : decode b_M_quote 33 = .ok (.iconst 2, 1) := by decide +kernel
theorem d_M_quote_34 : decode b_M_quote 34 = .ok (.goto 4, 3) := by decide +kernel
theorem d_M_quote_37 : decode b_M_quote 37 = .ok (.iconst 1, 1) := by decide +kernel
theorem d_M_quote_38 : decode b_M_quote 38 = .ok (.iadd, 1) := by decide +kernel
theorem d_M_quote_39 : decode b_M_quote 39 = .ok (.istore_n 2, 1) := by decide +kernel
theorem d_M_quote_40 : decode b_M_quote 40 = .ok (.goto (-36), 3) := by decide +kernel
theorem d_M_quote_43 : decode b_M_quote 43 = .ok (.iload_n 2, 1) := by decide +kernel
theorem d_M_quote_44 : decode b_M_quote 44 = .ok (.aload_n 0, 1) := by decide +kernel
theorem d_M_quote_45 : decode b_M_quote 45 = .ok (.getfield 25, 3) := by decide +kernel
theorem d_M_quote_48 : decode b_M_quote 48 = .ok (.if_icmp .ge 7, 3) := by decide +kernel
theorem d_M_quote_51 : decode b_M_quote 51 = .ok (.iload_n 2, 1) := by decide +kernel
theorem d_M_quote_52 : decode b_M_quote 52 = .ok (.goto 7, 3) := by decide +kernel
theorem d_M_quote_55 : decode b_M_quote 55 = .ok (.aload_n 0, 1) := by decide +kernel
theorem d_M_quote_56 : decode b_M_quote 56 = .ok (.getfield 25, 3) := by decide +kernel
theorem d_M_quote_59 : decode b_M_quote 59 = .ok (.ireturn, 1) := by decide +kernel
theorem d_M_ending_0 : decode b_M_ending 0 = .ok (.aload_n 0, 1) := by decide +kernel
theorem d_M_ending_1 : decode b_M_ending 1 = .ok (.iload_n 1, 1) := by decide +kernel
theorem d_M_ending_2 : decode b_M_ending 2 = .ok (.invokevirtual 29, 3) := by decide +kernel
theorem d_M_ending_5 : decode b_M_ending 5 = .ok (.istore_n 2, 1) := by decide +kernel
theorem d_M_ending_6 : decode b_M_ending 6 = .ok (.iload_n 2, 1) := by decide +kernel
theorem d_M_ending_7 : decode b_M_ending 7 = .ok (.bipush 123, 2) := by decide +kernel
theorem d_M_ending_9 : decode b_M_ending 9 = .ok (.if_icmp .eq 15, 3) := by decide +kernel
theorem d_M_ending_12 : decode b_M_ending 12 = .ok (.iload_n 2, 1) := by decide +kernel
theorem d_M_ending_13 : decode b_M_ending 13 = .ok (.bipush 34, 2) := by decide +kernel
theorem d_M_ending_15 : decode b_M_ending 15 = .ok (.if_icmp .eq 9, 3) := by decide +kernel
theorem d_M_ending_18 : decode b_M_ending 18 = .ok (.aload_n 0, 1) := by decide +kernel
theorem d_M_ending_19 : decode b_M_ending 19 = .ok (.iload_n 1, 1) := by decide +kernel
theorem d_M_ending_20 : decode b_M_ending 20 = .ok (.invokevirtual 40, 3) := by decide +kernel
theorem d_M_ending_23 : decode b_M_ending 23 = .ok (.ireturn, 1) := by decide +kernel
theorem d_M_ending_24 : decode b_M_ending 24 = .ok (.iload_n 2, 1) := by decide +kernel
theorem d_M_ending_25 : decode b_M_ending 25 = .ok (.bipush 123, 2) := by decide +kernel
theorem d_M_ending_27 : decode b_M_ending 27 = .ok (.if_icmp .ne 11, 3) := by decide +kernel
theorem d_M_ending_30 : decode b_M_ending 30 = .ok (.aload_n 0, 1) := by decide +kernel
theorem d_M_ending_31 : decode b_M_ending 31 = .ok (.iload_n 1, 1) := by decide +kernel
theorem d_M_ending_32 : decode b_M_ending 32 = .ok (.invokevirtual 43, 3) := by decide +kernel
theorem d_M_ending_35 : decode b_M_ending 35 = .ok (.goto 8, 3) := by decide +kernel
theorem d_M_ending_38 : decode b_M_ending 38 = .ok (.aload_n 0, 1) := by decide +kernel
theorem d_M_ending_39 : decode b_M_ending 39 = .ok (.iload_n 1, 1) := by decide +kernel
theorem d_M_ending_40 : decode b_M_ending 40 = .ok (.invokevirtual 46, 3) := by decide +kernel
theorem d_M_ending_43 : decode b_M_ending 43 = .ok (.istore_n 3, 1) := by decide +kernel
theorem d_M_ending_44 : decode b_M_ending 44 = .ok (.iload_n 3, 1) := by decide +kernel
theorem d_M_ending_45 : decode b_M_ending 45 = .ok (.aload_n 0, 1) := by decide +kernel
theorem d_M_ending_46 : decode b_M_ending 46 = .ok (.getfield 25, 3) := by decide +kernel
theorem d_M_ending_49 : decode b_M_ending 49 = .ok (.if_icmp .ge 30, 3) := by decide +kernel
theorem d_M_ending_52 : decode b_M_ending 52 = .ok (.iload_n 3, 1) := by decide +kernel
theorem d_M_ending_53 : decode b_M_ending 53 = .ok (.iconst 1, 1) := by decide +kernel
theorem d_M_ending_54 : decode b_M_ending 54 = .ok (.iadd, 1) := by decide +kernel
theorem d_M_ending_55 : decode b_M_ending 55 = .ok (.aload_n 0, 1) := by decide +kernel
theorem d_M_ending_56 : decode b_M_ending 56 = .ok (.getfield 25, 3) := by decide +kernel
theorem d_M_ending_59 : decode b_M_ending 59 = .ok (.if_icmp .eq 16, 3) := by decide +kernel
theorem d_M_ending_62 : decode b_M_ending 62 = .ok (.aload_n 0, 1) := by decide +kernel
theorem d_M_ending_63 : decode b_M_ending 63 = .ok (.iload_n 3, 1) := by decide +kernel
theorem d_M_ending_64 : decode b_M_ending 64 = .ok (.iconst 1, 1) := by decide +kernel
theorem d_M_ending_65 : decode b_M_ending 65 = .ok (.iadd, 1) := by decide +kernel
theorem d_M_ending_66 : decode b_M_ending 66 = .ok (.invokevirtual 29, 3) := by decide +kernel
theorem d_M_ending_69 : decode b_M_ending 69 = .ok (.invokestatic 33, 3) := by decide +kernel
theorem d_M_ending_72 : decode b_M_ending 72 = .ok (.ifCond .eq 7, 3) := by decide +kernel
theorem d_M_ending_75 : decode b_M_ending 75 = .ok (.iconst 1, 1) := by decide +kernel
theorem d_M_ending_76 : decode b_M_ending 76 = .ok (.goto 4, 3) := by decide +kernel
theorem d_M_ending_79 : decode b_M_ending 79 = .ok (.iconst 0, 1) := by decide +kernel
theorem d_M_ending_80 : decode b_M_ending 80 = .ok (.istore 4, 2) := by decide +kernel
theorem d_M_ending_82 : decode b_M_ending 82 = .ok (.iload 4, 2) := by decide +kernel
theorem d_M_ending_84 : decode b_M_ending 84 = .ok (.ifCond .eq 9, 3) := by decide +kernel
theorem d_M_ending_87 : decode b_M_ending 87 = .ok (.iload_n 3, 1) := by decide +kernel
theorem d_M_ending_88 : decode b_M_ending 88 = .ok (.iconst 1, 1) := by decide +kernel
theorem d_M_ending_89 : decode b_M_ending 89 = .ok (.iadd, 1) := by decide +kernel
theorem d_M_ending_90 : decode b_M_ending 90 = .ok (.goto 5, 3) := by decide +kernel
theorem d_M_ending_93 : decode b_M_ending 93 = .ok (.bipush (-2), 2) := by decide +kernel
theorem d_M_ending_95 : decode b_M_ending 95 = .ok (.ireturn, 1) := by decide +kernel
theorem d_M_add_0 : decode b_M_add 0 = .ok (.aload_n 0, 1) := by decide +kernel
theorem d_M_add_1 : decode b_M_add 1 = .ok (.getfield 19, 3) := by decide +kernel
theorem d_M_add_4 : decode b_M_add 4 = .ok (.aload_n 0, 1) := by decide +kernel
theorem d_M_add_5 : decode b_M_add 5 = .ok (.getfield 49, 3) := by decide +kernel
theorem d_M_add_8 : decode b_M_add 8 = .ok (.iload_n 1, 1) := by decide +kernel
theorem d_M_add_9 : decode b_M_add 9 = .ok (.iastore, 1) := by decide +kernel
theorem d_M_add_10 : decode b_M_add 10 = .ok (.aload_n 0, 1) := by decide +kernel
theorem d_M_add_11 : decode b_M_add 11 = .ok (.dup, 1) := by decide +kernel
theorem d_M_add_12 : decode b_M_add 12 = .ok (.getfield 49, 3) := by decide +kernel
theorem d_M_add_15 : decode b_M_add 15 = .ok (.iconst 1, 1) := by decide +kernel
theorem d_M_add_16 : decode b_M_add 16 = .ok (.iadd, 1) := by decide +kernel
theorem d_M_add_17 : decode b_M_add 17 = .ok (.putfield 49, 3) := by decide +kernel
theorem d_M_add_20 : decode b_M_add 20 = .ok (.return_, 1) := by decide +kernel
theorem d_M_digit_0 : decode b_M_digit 0 = .ok (.iload_n 0, 1) := by decide +kernel
theorem d_M_digit_1 : decode b_M_digit 1 = .ok (.bipush 48, 2) := by decide +kernel
theorem d_M_digit_3 : decode b_M_digit 3 = .ok (.if_icmp .lt 16, 3) := by decide +kernel
theorem d_M_digit_6 : decode b_M_digit 6 = .ok (.iload_n 0, 1) := by decide +kernel
theorem d_M_digit_7 : decode b_M_digit 7 = .ok (.bipush 57, 2) := by decide +kernel
theorem d_M_digit_9 : decode b_M_digit 9 = .ok (.if_icmp .gt 10, 3) := by decide +kernel
theorem d_M_digit_12 : decode b_M_digit 12 = .ok (.iload_n 0, 1) := by decide +kernel
theorem d_M_digit_13 : decode b_M_digit 13 = .ok (.bipush 48, 2) := by decide +kernel
theorem d_M_digit_15 : decode b_M_digit 15 = .ok (.isub, 1) := by decide +kernel
theorem d_M_digit_16 : decode b_M_digit 16 = .ok (.goto 49, 3) := by decide +kernel
theorem d_M_digit_19 : decode b_M_digit 19 = .ok (.iload_n 0, 1) := by decide +kernel
theorem d_M_digit_20 : decode b_M_digit 20 = .ok (.bipush 97, 2) := by decide +kernel
theorem d_M_digit_22 : decode b_M_digit 22 = .ok (.if_icmp .lt 19, 3) := by decide +kernel
theorem d_M_digit_25 : decode b_M_digit 25 = .ok (.iload_n 0, 1) := by decide +kernel
theorem d_M_digit_26 : decode b_M_digit 26 = .ok (.bipush 102, 2) := by decide +kernel
theorem d_M_digit_28 : decode b_M_digit 28 = .ok (.if_icmp .gt 13, 3) := by decide +kernel
theorem d_M_digit_31 : decode b_M_digit 31 = .ok (.iload_n 0, 1) := by decide +kernel
theorem d_M_digit_32 : decode b_M_digit 32 = .ok (.bipush 97, 2) := by decide +kernel
theorem d_M_digit_34 : decode b_M_digit 34 = .ok (.isub, 1) := by decide +kernel
theorem d_M_digit_35 : decode b_M_digit 35 = .ok (.bipush 10, 2) := by decide +kernel
theorem d_M_digit_37 : decode b_M_digit 37 = .ok (.iadd, 1) := by decide +kernel
theorem d_M_digit_38 : decode b_M_digit 38 = .ok (.goto 27, 3) := by decide +kernel
theorem d_M_digit_41 : decode b_M_digit 41 = .ok (.iload_n 0, 1) := by decide +kernel
theorem d_M_digit_42 : decode b_M_digit 42 = .ok (.bipush 65, 2) := by decide +kernel
theorem d_M_digit_44 : decode b_M_digit 44 = .ok (.if_icmp .lt 19, 3) := by decide +kernel
theorem d_M_digit_47 : decode b_M_digit 47 = .ok (.iload_n 0, 1) := by decide +kernel
theorem d_M_digit_48 : decode b_M_digit 48 = .ok (.bipush 70, 2) := by decide +kernel
theorem d_M_digit_50 : decode b_M_digit 50 = .ok (.if_icmp .gt 13, 3) := by decide +kernel
theorem d_M_digit_53 : decode b_M_digit 53 = .ok (.iload_n 0, 1) := by decide +kernel
theorem d_M_digit_54 : decode b_M_digit 54 = .ok (.bipush 65, 2) := by decide +kernel
theorem d_M_digit_56 : decode b_M_digit 56 = .ok (.isub, 1) := by decide +kernel
theorem d_M_digit_57 : decode b_M_digit 57 = .ok (.bipush 10, 2) := by decide +kernel
theorem d_M_digit_59 : decode b_M_digit 59 = .ok (.iadd, 1) := by decide +kernel
theorem d_M_digit_60 : decode b_M_digit 60 = .ok (.goto 5, 3) := by decide +kernel
theorem d_M_digit_63 : decode b_M_digit 63 = .ok (.bipush 99, 2) := by decide +kernel
theorem d_M_digit_65 : decode b_M_digit 65 = .ok (.istore_n 1, 1) := by decide +kernel
theorem d_M_digit_66 : decode b_M_digit 66 = .ok (.iload_n 1, 1) := by decide +kernel
theorem d_M_digit_67 : decode b_M_digit 67 = .ok (.ireturn, 1) := by decide +kernel
theorem d_M_letter_0 : decode b_M_letter 0 = .ok (.iload_n 0, 1) := by decide +kernel
theorem d_M_letter_1 : decode b_M_letter 1 = .ok (.tableswitch 124 97 118 #[103, 106, 124, 124, 124, 118, 124, 124, 124, 124, 124, 124, 124, 112, 124, 124, 124, 121, 124, 109, 124, 115], 103) := by decide +kernel
theorem d_M_letter_104 : decode b_M_letter 104 = .ok (.bipush 7, 2) := by decide +kernel
theorem d_M_letter_106 : decode b_M_letter 106 = .ok (.ireturn, 1) := by decide +kernel
theorem d_M_letter_107 : decode b_M_letter 107 = .ok (.bipush 8, 2) := by decide +kernel
theorem d_M_letter_109 : decode b_M_letter 109 = .ok (.ireturn, 1) := by decide +kernel
theorem d_M_letter_110 : decode b_M_letter 110 = .ok (.bipush 9, 2) := by decide +kernel
theorem d_M_letter_112 : decode b_M_letter 112 = .ok (.ireturn, 1) := by decide +kernel
theorem d_M_letter_113 : decode b_M_letter 113 = .ok (.bipush 10, 2) := by decide +kernel
theorem d_M_letter_115 : decode b_M_letter 115 = .ok (.ireturn, 1) := by decide +kernel
theorem d_M_letter_116 : decode b_M_letter 116 = .ok (.bipush 11, 2) := by decide +kernel
theorem d_M_letter_118 : decode b_M_letter 118 = .ok (.ireturn, 1) := by decide +kernel
theorem d_M_letter_119 : decode b_M_letter 119 = .ok (.bipush 12, 2) := by decide +kernel
theorem d_M_letter_121 : decode b_M_letter 121 = .ok (.ireturn, 1) := by decide +kernel
theorem d_M_letter_122 : decode b_M_letter 122 = .ok (.bipush 13, 2) := by decide +kernel
theorem d_M_letter_124 : decode b_M_letter 124 = .ok (.ireturn, 1) := by decide +kernel
theorem d_M_letter_125 : decode b_M_letter 125 = .ok (.iload_n 0, 1) := by decide +kernel
theorem d_M_letter_126 : decode b_M_letter 126 = .ok (.ireturn, 1) := by decide +kernel
theorem d_M_meaning_0 : decode b_M_meaning 0 = .ok (.iload_n 1, 1) := by decide +kernel
theorem d_M_meaning_1 : decode b_M_meaning 1 = .ok (.iconst 1, 1) := by decide +kernel
theorem d_M_meaning_2 : decode b_M_meaning 2 = .ok (.iadd, 1) := by decide +kernel
theorem d_M_meaning_3 : decode b_M_meaning 3 = .ok (.iload_n 2, 1) := by decide +kernel
theorem d_M_meaning_4 : decode b_M_meaning 4 = .ok (.if_icmp .lt 13, 3) := by decide +kernel
theorem d_M_meaning_7 : decode b_M_meaning 7 = .ok (.aload_n 0, 1) := by decide +kernel
theorem d_M_meaning_8 : decode b_M_meaning 8 = .ok (.bipush 92, 2) := by decide +kernel
theorem d_M_meaning_10 : decode b_M_meaning 10 = .ok (.invokevirtual 52, 3) := by decide +kernel
theorem d_M_meaning_13 : decode b_M_meaning 13 = .ok (.iload_n 1, 1) := by decide +kernel
theorem d_M_meaning_14 : decode b_M_meaning 14 = .ok (.iconst 1, 1) := by decide +kernel
theorem d_M_meaning_15 : decode b_M_meaning 15 = .ok (.iadd, 1) := by decide +kernel
theorem d_M_meaning_16 : decode b_M_meaning 16 = .ok (.ireturn, 1) := by decide +kernel
theorem d_M_meaning_17 : decode b_M_meaning 17 = .ok (.aload_n 0, 1) := by decide +kernel
theorem d_M_meaning_18 : decode b_M_meaning 18 = .ok (.iload_n 1, 1) := by decide +kernel
theorem d_M_meaning_19 : decode b_M_meaning 19 = .ok (.iconst 1, 1) := by decide +kernel
theorem d_M_meaning_20 : decode b_M_meaning 20 = .ok (.iadd, 1) := by decide +kernel
theorem d_M_meaning_21 : decode b_M_meaning 21 = .ok (.invokevirtual 29, 3) := by decide +kernel
theorem d_M_meaning_24 : decode b_M_meaning 24 = .ok (.istore_n 3, 1) := by decide +kernel
theorem d_M_meaning_25 : decode b_M_meaning 25 = .ok (.iload_n 3, 1) := by decide +kernel
theorem d_M_meaning_26 : decode b_M_meaning 26 = .ok (.bipush 10, 2) := by decide +kernel
theorem d_M_meaning_28 : decode b_M_meaning 28 = .ok (.if_icmp .ne 15, 3) := by decide +kernel
theorem d_M_meaning_31 : decode b_M_meaning 31 = .ok (.aload_n 0, 1) := by decide +kernel
theorem d_M_meaning_32 : decode b_M_meaning 32 = .ok (.bipush 32, 2) := by decide +kernel
theorem d_M_meaning_34 : decode b_M_meaning 34 = .ok (.invokevirtual 52, 3) := by decide +kernel
theorem d_M_meaning_37 : decode b_M_meaning 37 = .ok (.aload_n 0, 1) := by decide +kernel
theorem d_M_meaning_38 : decode b_M_meaning 38 = .ok (.iload_n 1, 1) := by decide +kernel
theorem d_M_meaning_39 : decode b_M_meaning 39 = .ok (.invokevirtual 37, 3) := by decide +kernel
theorem d_M_meaning_42 : decode b_M_meaning 42 = .ok (.ireturn, 1) := by decide +kernel
theorem d_M_meaning_43 : decode b_M_meaning 43 = .ok (.iload_n 3, 1) := by decide +kernel
theorem d_M_meaning_44 : decode b_M_meaning 44 = .ok (.bipush 120, 2) := by decide +kernel
theorem d_M_meaning_46 : decode b_M_meaning 46 = .ok (.if_icmp .ne 7, 3) := by decide +kernel
theorem d_M_meaning_49 : decode b_M_meaning 49 = .ok (.iconst 1, 1) := by decide +kernel
theorem d_M_meaning_50 : decode b_M_meaning 50 = .ok (.goto 4, 3) := by decide +kernel
theorem d_M_meaning_53 : decode b_M_meaning 53 = .ok (.iconst 0, 1) := by decide +kernel
theorem d_M_meaning_54 : decode b_M_meaning 54 = .ok (.istore 4, 2) := by decide +kernel
theorem d_M_meaning_56 : decode b_M_meaning 56 = .ok (.iload 4, 2) := by decide +kernel
theorem d_M_meaning_58 : decode b_M_meaning 58 = .ok (.ifCond .eq 8, 3) := by decide +kernel
theorem d_M_meaning_61 : decode b_M_meaning 61 = .ok (.bipush 16, 2) := by decide +kernel
theorem d_M_meaning_63 : decode b_M_meaning 63 = .ok (.goto 5, 3) := by decide +kernel
theorem d_M_meaning_66 : decode b_M_meaning 66 = .ok (.bipush 8, 2) := by decide +kernel
theorem d_M_meaning_68 : decode b_M_meaning 68 = .ok (.istore 5, 2) := by decide +kernel
theorem d_M_meaning_70 : decode b_M_meaning 70 = .ok (.iload 4, 2) := by decide +kernel
theorem d_M_meaning_72 : decode b_M_meaning 72 = .ok (.ifCond .eq 9, 3) := by decide +kernel
theorem d_M_meaning_75 : decode b_M_meaning 75 = .ok (.iload_n 1, 1) := by decide +kernel
theorem d_M_meaning_76 : decode b_M_meaning 76 = .ok (.iconst 2, 1) := by decide +kernel
theorem d_M_meaning_77 : decode b_M_meaning 77 = .ok (.iadd, 1) := by decide +kernel
theorem d_M_meaning_78 : decode b_M_meaning 78 = .ok (.goto 6, 3) := by decide +kernel
theorem d_M_meaning_81 : decode b_M_meaning 81 = .ok (.iload_n 1, 1) := by decide +kernel
theorem d_M_meaning_82 : decode b_M_meaning 82 = .ok (.iconst 1, 1) := by decide +kernel
theorem d_M_meaning_83 : decode b_M_meaning 83 = .ok (.iadd, 1) := by decide +kernel
theorem d_M_meaning_84 : decode b_M_meaning 84 = .ok (.istore 6, 2) := by decide +kernel
theorem d_M_meaning_86 : decode b_M_meaning 86 = .ok (.iload 4, 2) := by decide +kernel
theorem d_M_meaning_88 : decode b_M_meaning 88 = .ok (.ifCond .eq 7, 3) := by decide +kernel
theorem d_M_meaning_91 : decode b_M_meaning 91 = .ok (.iconst 2, 1) := by decide +kernel
theorem d_M_meaning_92 : decode b_M_meaning 92 = .ok (.goto 4, 3) := by decide +kernel
theorem d_M_meaning_95 : decode b_M_meaning 95 = .ok (.iconst 3, 1) := by decide +kernel
theorem d_M_meaning_96 : decode b_M_meaning 96 = .ok (.istore 7, 2) := by decide +kernel
theorem d_M_meaning_98 : decode b_M_meaning 98 = .ok (.iconst 0, 1) := by decide +kernel
theorem d_M_meaning_99 : decode b_M_meaning 99 = .ok (.istore 8, 2) := by decide +kernel
theorem d_M_meaning_101 : decode b_M_meaning 101 = .ok (.iconst 0, 1) := by decide +kernel
theorem d_M_meaning_102 : decode b_M_meaning 102 = .ok (.istore 9, 2) := by decide +kernel
theorem d_M_meaning_104 : decode b_M_meaning 104 = .ok (.iload 9, 2) := by decide +kernel
theorem d_M_meaning_106 : decode b_M_meaning 106 = .ok (.iload 7, 2) := by decide +kernel
theorem d_M_meaning_108 : decode b_M_meaning 108 = .ok (.if_icmp .ge 49, 3) := by decide +kernel
theorem d_M_meaning_111 : decode b_M_meaning 111 = .ok (.iload 6, 2) := by decide +kernel
theorem d_M_meaning_113 : decode b_M_meaning 113 = .ok (.iload_n 2, 1) := by decide +kernel
theorem d_M_meaning_114 : decode b_M_meaning 114 = .ok (.if_icmp .ge 43, 3) := by decide +kernel
theorem d_M_meaning_117 : decode b_M_meaning 117 = .ok (.aload_n 0, 1) := by decide +kernel
theorem d_M_meaning_118 : decode b_M_meaning 118 = .ok (.iload 6, 2) := by decide +kernel
theorem d_M_meaning_120 : decode b_M_meaning 120 = .ok (.invokevirtual 29, 3) := by decide +kernel
theorem d_M_meaning_123 : decode b_M_meaning 123 = .ok (.invokestatic 56, 3) := by decide +kernel
theorem d_M_meaning_126 : decode b_M_meaning 126 = .ok (.iload 5, 2) := by decide +kernel
theorem d_M_meaning_128 : decode b_M_meaning 128 = .ok (.if_icmp .ge 29, 3) := by decide +kernel
theorem d_M_meaning_131 : decode b_M_meaning 131 = .ok (.iload 5, 2) := by decide +kernel
theorem d_M_meaning_133 : decode b_M_meaning 133 = .ok (.iload 8, 2) := by decide +kernel
theorem d_M_meaning_135 : decode b_M_meaning 135 = .ok (.imul, 1) := by decide +kernel
theorem d_M_meaning_136 : decode b_M_meaning 136 = .ok (.aload_n 0, 1) := by decide +kernel
theorem d_M_meaning_137 : decode b_M_meaning 137 = .ok (.iload 6, 2) := by decide +kernel
theorem d_M_meaning_139 : decode b_M_meaning 139 = .ok (.invokevirtual 29, 3) := by decide +kernel
theorem d_M_meaning_142 : decode b_M_meaning 142 = .ok (.invokestatic 56, 3) := by decide +kernel
theorem d_M_meaning_145 : decode b_M_meaning 145 = .ok (.iadd, 1) := by decide +kernel
theorem d_M_meaning_146 : decode b_M_meaning 146 = .ok (.istore 8, 2) := by decide +kernel
theorem d_M_meaning_148 : decode b_M_meaning 148 = .ok (.iinc 6 1, 3) := by decide +kernel
theorem d_M_meaning_151 : decode b_M_meaning 151 = .ok (.iinc 9 1, 3) := by decide +kernel
theorem d_M_meaning_154 : decode b_M_meaning 154 = .ok (.goto (-50), 3) := by decide +kernel
theorem d_M_meaning_157 : decode b_M_meaning 157 = .ok (.iload 9, 2) := by decide +kernel
theorem d_M_meaning_159 : decode b_M_meaning 159 = .ok (.ifCond .le 16, 3) := by decide +kernel
theorem d_M_meaning_162 : decode b_M_meaning 162 = .ok (.aload_n 0, 1) := by decide +kernel
theorem d_M_meaning_163 : decode b_M_meaning 163 = .ok (.iload 8, 2) := by decide +kernel
theorem d_M_meaning_165 : decode b_M_meaning 165 = .ok (.sipush 255, 3) := by decide +kernel
theorem d_M_meaning_168 : decode b_M_meaning 168 = .ok (.iand, 1) := by decide +kernel
theorem d_M_meaning_169 : decode b_M_meaning 169 = .ok (.invokevirtual 52, 3) := by decide +kernel
theorem d_M_meaning_172 : decode b_M_meaning 172 = .ok (.iload 6, 2) := by decide +kernel
theorem d_M_meaning_174 : decode b_M_meaning 174 = .ok (.ireturn, 1) := by decide +kernel
theorem d_M_meaning_175 : decode b_M_meaning 175 = .ok (.aload_n 0, 1) := by decide +kernel
theorem d_M_meaning_176 : decode b_M_meaning 176 = .ok (.iload_n 3, 1) := by decide +kernel
theorem d_M_meaning_177 : decode b_M_meaning 177 = .ok (.invokestatic 59, 3) := by decide +kernel
theorem d_M_meaning_180 : decode b_M_meaning 180 = .ok (.invokevirtual 52, 3) := by decide +kernel
theorem d_M_meaning_183 : decode b_M_meaning 183 = .ok (.iload_n 1, 1) := by decide +kernel
theorem d_M_meaning_184 : decode b_M_meaning 184 = .ok (.iconst 2, 1) := by decide +kernel
theorem d_M_meaning_185 : decode b_M_meaning 185 = .ok (.iadd, 1) := by decide +kernel
theorem d_M_meaning_186 : decode b_M_meaning 186 = .ok (.ireturn, 1) := by decide +kernel
theorem d_M_read_0 : decode b_M_read 0 = .ok (.aload_n 0, 1) := by decide +kernel
theorem d_M_read_1 : decode b_M_read 1 = .ok (.iload_n 1, 1) := by decide +kernel
theorem d_M_read_2 : decode b_M_read 2 = .ok (.invokevirtual 29, 3) := by decide +kernel
theorem d_M_read_5 : decode b_M_read 5 = .ok (.istore_n 3, 1) := by decide +kernel
theorem d_M_read_6 : decode b_M_read 6 = .ok (.iload_n 3, 1) := by decide +kernel
theorem d_M_read_7 : decode b_M_read 7 = .ok (.bipush 123, 2) := by decide +kernel
theorem d_M_read_9 : decode b_M_read 9 = .ok (.if_icmp .eq 9, 3) := by decide +kernel
theorem d_M_read_12 : decode b_M_read 12 = .ok (.iload_n 3, 1) := by decide +kernel
theorem d_M_read_13 : decode b_M_read 13 = .ok (.bipush 34, 2) := by decide +kernel
theorem d_M_read_15 : decode b_M_read 15 = .ok (.if_icmp .ne 9, 3) := by decide +kernel
theorem d_M_read_18 : decode b_M_read 18 = .ok (.iload_n 1, 1) := by decide +kernel
theorem d_M_read_19 : decode b_M_read 19 = .ok (.iconst 1, 1) := by decide +kernel
theorem d_M_read_20 : decode b_M_read 20 = .ok (.iadd, 1) := by decide +kernel
theorem d_M_read_21 : decode b_M_read 21 = .ok (.goto 4, 3) := by decide +kernel
theorem d_M_read_24 : decode b_M_read 24 = .ok (.iload_n 1, 1) := by decide +kernel
theorem d_M_read_25 : decode b_M_read 25 = .ok (.istore 4, 2) := by decide +kernel
theorem d_M_read_27 : decode b_M_read 27 = .ok (.iload_n 3, 1) := by decide +kernel
theorem d_M_read_28 : decode b_M_read 28 = .ok (.bipush 123, 2) := by decide +kernel
theorem d_M_read_30 : decode b_M_read 30 = .ok (.if_icmp .eq 9, 3) := by decide +kernel
theorem d_M_read_33 : decode b_M_read 33 = .ok (.iload_n 3, 1) := by decide +kernel
theorem d_M_read_34 : decode b_M_read 34 = .ok (.bipush 34, 2) := by decide +kernel
theorem d_M_read_36 : decode b_M_read 36 = .ok (.if_icmp .ne 9, 3) := by decide +kernel
theorem d_M_read_39 : decode b_M_read 39 = .ok (.iload_n 2, 1) := by decide +kernel
theorem d_M_read_40 : decode b_M_read 40 = .ok (.iconst 1, 1) := by decide +kernel
theorem d_M_read_41 : decode b_M_read 41 = .ok (.isub, 1) := by decide +kernel
theorem d_M_read_42 : decode b_M_read 42 = .ok (.goto 4, 3) := by decide +kernel
theorem d_M_read_45 : decode b_M_read 45 = .ok (.iload_n 2, 1) := by decide +kernel
theorem d_M_read_46 : decode b_M_read 46 = .ok (.istore 5, 2) := by decide +kernel
theorem d_M_read_48 : decode b_M_read 48 = .ok (.aload_n 0, 1) := by decide +kernel
theorem d_M_read_49 : decode b_M_read 49 = .ok (.iconst 0, 1) := by decide +kernel
theorem d_M_read_50 : decode b_M_read 50 = .ok (.putfield 49, 3) := by decide +kernel
theorem d_M_read_53 : decode b_M_read 53 = .ok (.iload 4, 2) := by decide +kernel
theorem d_M_read_55 : decode b_M_read 55 = .ok (.istore 6, 2) := by decide +kernel
theorem d_M_read_57 : decode b_M_read 57 = .ok (.iload 6, 2) := by decide +kernel
theorem d_M_read_59 : decode b_M_read 59 = .ok (.iload 5, 2) := by decide +kernel
theorem d_M_read_61 : decode b_M_read 61 = .ok (.if_icmp .ge 49, 3) := by decide +kernel
theorem d_M_read_64 : decode b_M_read 64 = .ok (.iload_n 3, 1) := by decide +kernel
theorem d_M_read_65 : decode b_M_read 65 = .ok (.bipush 123, 2) := by decide +kernel
theorem d_M_read_67 : decode b_M_read 67 = .ok (.if_icmp .eq 27, 3) := by decide +kernel
theorem d_M_read_70 : decode b_M_read 70 = .ok (.aload_n 0, 1) := by decide +kernel
theorem d_M_read_71 : decode b_M_read 71 = .ok (.iload 6, 2) := by decide +kernel
theorem d_M_read_73 : decode b_M_read 73 = .ok (.invokevirtual 29, 3) := by decide +kernel
theorem d_M_read_76 : decode b_M_read 76 = .ok (.bipush 92, 2) := by decide +kernel
theorem d_M_read_78 : decode b_M_read 78 = .ok (.if_icmp .ne 16, 3) := by decide +kernel
theorem d_M_read_81 : decode b_M_read 81 = .ok (.aload_n 0, 1) := by decide +kernel
theorem d_M_read_82 : decode b_M_read 82 = .ok (.iload 6, 2) := by decide +kernel
theorem d_M_read_84 : decode b_M_read 84 = .ok (.iload 5, 2) := by decide +kernel
theorem d_M_read_86 : decode b_M_read 86 = .ok (.invokevirtual 62, 3) := by decide +kernel
theorem d_M_read_89 : decode b_M_read 89 = .ok (.istore 6, 2) := by decide +kernel
theorem d_M_read_91 : decode b_M_read 91 = .ok (.goto (-34), 3) := by decide +kernel
theorem d_M_read_94 : decode b_M_read 94 = .ok (.aload_n 0, 1) := by decide +kernel
theorem d_M_read_95 : decode b_M_read 95 = .ok (.aload_n 0, 1) := by decide +kernel
theorem d_M_read_96 : decode b_M_read 96 = .ok (.iload 6, 2) := by decide +kernel
theorem d_M_read_98 : decode b_M_read 98 = .ok (.invokevirtual 29, 3) := by decide +kernel
theorem d_M_read_101 : decode b_M_read 101 = .ok (.invokevirtual 52, 3) := by decide +kernel
theorem d_M_read_104 : decode b_M_read 104 = .ok (.iinc 6 1, 3) := by decide +kernel
theorem d_M_read_107 : decode b_M_read 107 = .ok (.goto (-50), 3) := by decide +kernel
theorem d_M_read_110 : decode b_M_read 110 = .ok (.return_, 1) := by decide +kernel
theorem d_M_goOver_0 : decode b_M_goOver 0 = .ok (.iconst 0, 1) := by decide +kernel
theorem d_M_goOver_1 : decode b_M_goOver 1 = .ok (.istore_n 2, 1) := by decide +kernel
theorem d_M_goOver_2 : decode b_M_goOver 2 = .ok (.aload_n 0, 1) := by decide +kernel
theorem d_M_goOver_3 : decode b_M_goOver 3 = .ok (.iconst 0, 1) := by decide +kernel
theorem d_M_goOver_4 : decode b_M_goOver 4 = .ok (.invokevirtual 66, 3) := by decide +kernel
theorem d_M_goOver_7 : decode b_M_goOver 7 = .ok (.istore_n 3, 1) := by decide +kernel
theorem d_M_goOver_8 : decode b_M_goOver 8 = .ok (.iload_n 3, 1) := by decide +kernel
theorem d_M_goOver_9 : decode b_M_goOver 9 = .ok (.aload_n 0, 1) := by decide +kernel
theorem d_M_goOver_10 : decode b_M_goOver 10 = .ok (.getfield 25, 3) := by decide +kernel
theorem d_M_goOver_13 : decode b_M_goOver 13 = .ok (.if_icmp .ge 50, 3) := by decide +kernel
theorem d_M_goOver_16 : decode b_M_goOver 16 = .ok (.iload_n 2, 1) := by decide +kernel
theorem d_M_goOver_17 : decode b_M_goOver 17 = .ok (.iload_n 1, 1) := by decide +kernel
theorem d_M_goOver_18 : decode b_M_goOver 18 = .ok (.if_icmp .gt 45, 3) := by decide +kernel
theorem d_M_goOver_21 : decode b_M_goOver 21 = .ok (.aload_n 0, 1) := by decide +kernel
theorem d_M_goOver_22 : decode b_M_goOver 22 = .ok (.iload_n 3, 1) := by decide +kernel
theorem d_M_goOver_23 : decode b_M_goOver 23 = .ok (.invokevirtual 69, 3) := by decide +kernel
theorem d_M_goOver_26 : decode b_M_goOver 26 = .ok (.istore 4, 2) := by decide +kernel
theorem d_M_goOver_28 : decode b_M_goOver 28 = .ok (.iload 4, 2) := by decide +kernel
theorem d_M_goOver_30 : decode b_M_goOver 30 = .ok (.bipush (-2), 2) := by decide +kernel
theorem d_M_goOver_32 : decode b_M_goOver 32 = .ok (.if_icmp .ne 6, 3) := by decide +kernel
theorem d_M_goOver_35 : decode b_M_goOver 35 = .ok (.bipush (-2), 2) := by decide +kernel
theorem d_M_goOver_37 : decode b_M_goOver 37 = .ok (.ireturn, 1) := by decide +kernel
theorem d_M_goOver_38 : decode b_M_goOver 38 = .ok (.iload_n 2, 1) := by decide +kernel
theorem d_M_goOver_39 : decode b_M_goOver 39 = .ok (.iload_n 1, 1) := by decide +kernel
theorem d_M_goOver_40 : decode b_M_goOver 40 = .ok (.if_icmp .ne 10, 3) := by decide +kernel
theorem d_M_goOver_43 : decode b_M_goOver 43 = .ok (.aload_n 0, 1) := by decide +kernel
theorem d_M_goOver_44 : decode b_M_goOver 44 = .ok (.iload_n 3, 1) := by decide +kernel
theorem d_M_goOver_45 : decode b_M_goOver 45 = .ok (.iload 4, 2) := by decide +kernel
theorem d_M_goOver_47 : decode b_M_goOver 47 = .ok (.invokevirtual 72, 3) := by decide +kernel
theorem d_M_goOver_50 : decode b_M_goOver 50 = .ok (.iinc 2 1, 3) := by decide +kernel
theorem d_M_goOver_53 : decode b_M_goOver 53 = .ok (.aload_n 0, 1) := by decide +kernel
theorem d_M_goOver_54 : decode b_M_goOver 54 = .ok (.iload 4, 2) := by decide +kernel
theorem d_M_goOver_56 : decode b_M_goOver 56 = .ok (.invokevirtual 66, 3) := by decide +kernel
theorem d_M_goOver_59 : decode b_M_goOver 59 = .ok (.istore_n 3, 1) := by decide +kernel
theorem d_M_goOver_60 : decode b_M_goOver 60 = .ok (.goto (-52), 3) := by decide +kernel
theorem d_M_goOver_63 : decode b_M_goOver 63 = .ok (.iload_n 2, 1) := by decide +kernel
theorem d_M_goOver_64 : decode b_M_goOver 64 = .ok (.ireturn, 1) := by decide +kernel
theorem d_M_put_0 : decode b_M_put 0 = .ok (.aload_n 0, 1) := by decide +kernel
theorem d_M_put_1 : decode b_M_put 1 = .ok (.getfield 22, 3) := by decide +kernel
theorem d_M_put_4 : decode b_M_put 4 = .ok (.aload_n 0, 1) := by decide +kernel
theorem d_M_put_5 : decode b_M_put 5 = .ok (.getfield 76, 3) := by decide +kernel
theorem d_M_put_8 : decode b_M_put 8 = .ok (.iload_n 1, 1) := by decide +kernel
theorem d_M_put_9 : decode b_M_put 9 = .ok (.iastore, 1) := by decide +kernel
theorem d_M_put_10 : decode b_M_put 10 = .ok (.aload_n 0, 1) := by decide +kernel
theorem d_M_put_11 : decode b_M_put 11 = .ok (.dup, 1) := by decide +kernel
theorem d_M_put_12 : decode b_M_put 12 = .ok (.getfield 76, 3) := by decide +kernel
theorem d_M_put_15 : decode b_M_put 15 = .ok (.iconst 1, 1) := by decide +kernel
theorem d_M_put_16 : decode b_M_put 16 = .ok (.iadd, 1) := by decide +kernel
theorem d_M_put_17 : decode b_M_put 17 = .ok (.putfield 76, 3) := by decide +kernel
theorem d_M_put_20 : decode b_M_put 20 = .ok (.return_, 1) := by decide +kernel
theorem d_M_isSpecial_0 : decode b_M_isSpecial 0 = .ok (.iload_n 0, 1) := by decide +kernel
theorem d_M_isSpecial_1 : decode b_M_isSpecial 1 = .ok (.invokestatic 33, 3) := by decide +kernel
theorem d_M_isSpecial_4 : decode b_M_isSpecial 4 = .ok (.ifCond .ne 51, 3) := by decide +kernel
theorem d_M_isSpecial_7 : decode b_M_isSpecial 7 = .ok (.iload_n 0, 1) := by decide +kernel
theorem d_M_isSpecial_8 : decode b_M_isSpecial 8 = .ok (.bipush 34, 2) := by decide +kernel
theorem d_M_isSpecial_10 : decode b_M_isSpecial 10 = .ok (.if_icmp .eq 45, 3) := by decide +kernel
theorem d_M_isSpecial_13 : decode b_M_isSpecial 13 = .ok (.iload_n 0, 1) := by decide +kernel
theorem d_M_isSpecial_14 : decode b_M_isSpecial 14 = .ok (.bipush 36, 2) := by decide +kernel
theorem d_M_isSpecial_16 : decode b_M_isSpecial 16 = .ok (.if_icmp .eq 39, 3) := by decide +kernel
theorem d_M_isSpecial_19 : decode b_M_isSpecial 19 = .ok (.iload_n 0, 1) := by decide +kernel
theorem d_M_isSpecial_20 : decode b_M_isSpecial 20 = .ok (.bipush 59, 2) := by decide +kernel
theorem d_M_isSpecial_22 : decode b_M_isSpecial 22 = .ok (.if_icmp .eq 33, 3) := by decide +kernel
theorem d_M_isSpecial_25 : decode b_M_isSpecial 25 = .ok (.iload_n 0, 1) := by decide +kernel
theorem d_M_isSpecial_26 : decode b_M_isSpecial 26 = .ok (.bipush 91, 2) := by decide +kernel
theorem d_M_isSpecial_28 : decode b_M_isSpecial 28 = .ok (.if_icmp .eq 27, 3) := by decide +kernel
theorem d_M_isSpecial_31 : decode b_M_isSpecial 31 = .ok (.iload_n 0, 1) := by decide +kernel
theorem d_M_isSpecial_32 : decode b_M_isSpecial 32 = .ok (.bipush 92, 2) := by decide +kernel
theorem d_M_isSpecial_34 : decode b_M_isSpecial 34 = .ok (.if_icmp .eq 21, 3) := by decide +kernel
theorem d_M_isSpecial_37 : decode b_M_isSpecial 37 = .ok (.iload_n 0, 1) := by decide +kernel
end
section
theorem d_M_isSpecial_38 : decode b_M_isSpecial 38 = .ok (.bipush 93, 2) := by decide +kernel
theorem d_M_isSpecial_40 : decode b_M_isSpecial 40 = .ok (.if_icmp .eq 15, 3) := by decide +kernel
theorem d_M_isSpecial_43 : decode b_M_isSpecial 43 = .ok (.iload_n 0, 1) := by decide +kernel
theorem d_M_isSpecial_44 : decode b_M_isSpecial 44 = .ok (.bipush 123, 2) := by decide +kernel
theorem d_M_isSpecial_46 : decode b_M_isSpecial 46 = .ok (.if_icmp .eq 9, 3) := by decide +kernel
theorem d_M_isSpecial_49 : decode b_M_isSpecial 49 = .ok (.iload_n 0, 1) := by decide +kernel
theorem d_M_isSpecial_50 : decode b_M_isSpecial 50 = .ok (.bipush 125, 2) := by decide +kernel
theorem d_M_isSpecial_52 : decode b_M_isSpecial 52 = .ok (.if_icmp .ne 7, 3) := by decide +kernel
theorem d_M_isSpecial_55 : decode b_M_isSpecial 55 = .ok (.iconst 1, 1) := by decide +kernel
theorem d_M_isSpecial_56 : decode b_M_isSpecial 56 = .ok (.goto 4, 3) := by decide +kernel
theorem d_M_isSpecial_59 : decode b_M_isSpecial 59 = .ok (.iconst 0, 1) := by decide +kernel
theorem d_M_isSpecial_60 : decode b_M_isSpecial 60 = .ok (.ireturn, 1) := by decide +kernel
theorem d_M_isPlain_0 : decode b_M_isPlain 0 = .ok (.aload_n 0, 1) := by decide +kernel
theorem d_M_isPlain_1 : decode b_M_isPlain 1 = .ok (.getfield 49, 3) := by decide +kernel
theorem d_M_isPlain_4 : decode b_M_isPlain 4 = .ok (.ifCond .le 18, 3) := by decide +kernel
theorem d_M_isPlain_7 : decode b_M_isPlain 7 = .ok (.aload_n 0, 1) := by decide +kernel
theorem d_M_isPlain_8 : decode b_M_isPlain 8 = .ok (.getfield 19, 3) := by decide +kernel
theorem d_M_isPlain_11 : decode b_M_isPlain 11 = .ok (.iconst 0, 1) := by decide +kernel
theorem d_M_isPlain_12 : decode b_M_isPlain 12 = .ok (.iaload, 1) := by decide +kernel
theorem d_M_isPlain_13 : decode b_M_isPlain 13 = .ok (.bipush 35, 2) := by decide +kernel
theorem d_M_isPlain_15 : decode b_M_isPlain 15 = .ok (.if_icmp .eq 7, 3) := by decide +kernel
theorem d_M_isPlain_18 : decode b_M_isPlain 18 = .ok (.iconst 1, 1) := by decide +kernel
theorem d_M_isPlain_19 : decode b_M_isPlain 19 = .ok (.goto 4, 3) := by decide +kernel
theorem d_M_isPlain_22 : decode b_M_isPlain 22 = .ok (.iconst 0, 1) := by decide +kernel
theorem d_M_isPlain_23 : decode b_M_isPlain 23 = .ok (.istore_n 1, 1) := by decide +kernel
theorem d_M_isPlain_24 : decode b_M_isPlain 24 = .ok (.iconst 0, 1) := by decide +kernel
theorem d_M_isPlain_25 : decode b_M_isPlain 25 = .ok (.istore_n 2, 1) := by decide +kernel
theorem d_M_isPlain_26 : decode b_M_isPlain 26 = .ok (.iload_n 2, 1) := by decide +kernel
theorem d_M_isPlain_27 : decode b_M_isPlain 27 = .ok (.aload_n 0, 1) := by decide +kernel
theorem d_M_isPlain_28 : decode b_M_isPlain 28 = .ok (.getfield 49, 3) := by decide +kernel
theorem d_M_isPlain_31 : decode b_M_isPlain 31 = .ok (.if_icmp .ge 31, 3) := by decide +kernel
theorem d_M_isPlain_34 : decode b_M_isPlain 34 = .ok (.iload_n 1, 1) := by decide +kernel
theorem d_M_isPlain_35 : decode b_M_isPlain 35 = .ok (.ifCond .eq 19, 3) := by decide +kernel
theorem d_M_isPlain_38 : decode b_M_isPlain 38 = .ok (.aload_n 0, 1) := by decide +kernel
theorem d_M_isPlain_39 : decode b_M_isPlain 39 = .ok (.getfield 19, 3) := by decide +kernel
theorem d_M_isPlain_42 : decode b_M_isPlain 42 = .ok (.iload_n 2, 1) := by decide +kernel
theorem d_M_isPlain_43 : decode b_M_isPlain 43 = .ok (.iaload, 1) := by decide +kernel
theorem d_M_isPlain_44 : decode b_M_isPlain 44 = .ok (.invokestatic 79, 3) := by decide +kernel
theorem d_M_isPlain_47 : decode b_M_isPlain 47 = .ok (.ifCond .ne 7, 3) := by decide +kernel
theorem d_M_isPlain_50 : decode b_M_isPlain 50 = .ok (.iconst 1, 1) := by decide +kernel
theorem d_M_isPlain_51 : decode b_M_isPlain 51 = .ok (.goto 4, 3) := by decide +kernel
theorem d_M_isPlain_54 : decode b_M_isPlain 54 = .ok (.iconst 0, 1) := by decide +kernel
theorem d_M_isPlain_55 : decode b_M_isPlain 55 = .ok (.istore_n 1, 1) := by decide +kernel
theorem d_M_isPlain_56 : decode b_M_isPlain 56 = .ok (.iinc 2 1, 3) := by decide +kernel
theorem d_M_isPlain_59 : decode b_M_isPlain 59 = .ok (.goto (-33), 3) := by decide +kernel
theorem d_M_isPlain_62 : decode b_M_isPlain 62 = .ok (.iload_n 1, 1) := by decide +kernel
theorem d_M_isPlain_63 : decode b_M_isPlain 63 = .ok (.ireturn, 1) := by decide +kernel
theorem d_M_isBraced_0 : decode b_M_isBraced 0 = .ok (.iconst 1, 1) := by decide +kernel
theorem d_M_isBraced_1 : decode b_M_isBraced 1 = .ok (.istore_n 1, 1) := by decide +kernel
theorem d_M_isBraced_2 : decode b_M_isBraced 2 = .ok (.iconst 0, 1) := by decide +kernel
theorem d_M_isBraced_3 : decode b_M_isBraced 3 = .ok (.istore_n 2, 1) := by decide +kernel
theorem d_M_isBraced_4 : decode b_M_isBraced 4 = .ok (.iconst 0, 1) := by decide +kernel
theorem d_M_isBraced_5 : decode b_M_isBraced 5 = .ok (.istore_n 3, 1) := by decide +kernel
theorem d_M_isBraced_6 : decode b_M_isBraced 6 = .ok (.iload_n 3, 1) := by decide +kernel
theorem d_M_isBraced_7 : decode b_M_isBraced 7 = .ok (.aload_n 0, 1) := by decide +kernel
theorem d_M_isBraced_8 : decode b_M_isBraced 8 = .ok (.getfield 49, 3) := by decide +kernel
theorem d_M_isBraced_11 : decode b_M_isBraced 11 = .ok (.if_icmp .ge 68, 3) := by decide +kernel
theorem d_M_isBraced_14 : decode b_M_isBraced 14 = .ok (.iload_n 2, 1) := by decide +kernel
theorem d_M_isBraced_15 : decode b_M_isBraced 15 = .ok (.aload_n 0, 1) := by decide +kernel
theorem d_M_isBraced_16 : decode b_M_isBraced 16 = .ok (.getfield 19, 3) := by decide +kernel
theorem d_M_isBraced_19 : decode b_M_isBraced 19 = .ok (.iload_n 3, 1) := by decide +kernel
theorem d_M_isBraced_20 : decode b_M_isBraced 20 = .ok (.iaload, 1) := by decide +kernel
theorem d_M_isBraced_21 : decode b_M_isBraced 21 = .ok (.bipush 123, 2) := by decide +kernel
theorem d_M_isBraced_23 : decode b_M_isBraced 23 = .ok (.if_icmp .ne 7, 3) := by decide +kernel
theorem d_M_isBraced_26 : decode b_M_isBraced 26 = .ok (.iconst 1, 1) := by decide +kernel
theorem d_M_isBraced_27 : decode b_M_isBraced 27 = .ok (.goto 19, 3) := by decide +kernel
theorem d_M_isBraced_30 : decode b_M_isBraced 30 = .ok (.aload_n 0, 1) := by decide +kernel
theorem d_M_isBraced_31 : decode b_M_isBraced 31 = .ok (.getfield 19, 3) := by decide +kernel
theorem d_M_isBraced_34 : decode b_M_isBraced 34 = .ok (.iload_n 3, 1) := by decide +kernel
theorem d_M_isBraced_35 : decode b_M_isBraced 35 = .ok (.iaload, 1) := by decide +kernel
theorem d_M_isBraced_36 : decode b_M_isBraced 36 = .ok (.bipush 125, 2) := by decide +kernel
theorem d_M_isBraced_38 : decode b_M_isBraced 38 = .ok (.if_icmp .ne 7, 3) := by decide +kernel
theorem d_M_isBraced_41 : decode b_M_isBraced 41 = .ok (.iconst (-1), 1) := by decide +kernel
theorem d_M_isBraced_42 : decode b_M_isBraced 42 = .ok (.goto 4, 3) := by decide +kernel
theorem d_M_isBraced_45 : decode b_M_isBraced 45 = .ok (.iconst 0, 1) := by decide +kernel
theorem d_M_isBraced_46 : decode b_M_isBraced 46 = .ok (.iadd, 1) := by decide +kernel
theorem d_M_isBraced_47 : decode b_M_isBraced 47 = .ok (.istore_n 2, 1) := by decide +kernel
theorem d_M_isBraced_48 : decode b_M_isBraced 48 = .ok (.iload_n 1, 1) := by decide +kernel
theorem d_M_isBraced_49 : decode b_M_isBraced 49 = .ok (.ifCond .eq 22, 3) := by decide +kernel
theorem d_M_isBraced_52 : decode b_M_isBraced 52 = .ok (.iload_n 2, 1) := by decide +kernel
theorem d_M_isBraced_53 : decode b_M_isBraced 53 = .ok (.ifCond .lt 18, 3) := by decide +kernel
theorem d_M_isBraced_56 : decode b_M_isBraced 56 = .ok (.aload_n 0, 1) := by decide +kernel
theorem d_M_isBraced_57 : decode b_M_isBraced 57 = .ok (.getfield 19, 3) := by decide +kernel
theorem d_M_isBraced_60 : decode b_M_isBraced 60 = .ok (.iload_n 3, 1) := by decide +kernel
theorem d_M_isBraced_61 : decode b_M_isBraced 61 = .ok (.iaload, 1) := by decide +kernel
theorem d_M_isBraced_62 : decode b_M_isBraced 62 = .ok (.bipush 92, 2) := by decide +kernel
theorem d_M_isBraced_64 : decode b_M_isBraced 64 = .ok (.if_icmp .eq 7, 3) := by decide +kernel
theorem d_M_isBraced_67 : decode b_M_isBraced 67 = .ok (.iconst 1, 1) := by decide +kernel
theorem d_M_isBraced_68 : decode b_M_isBraced 68 = .ok (.goto 4, 3) := by decide +kernel
theorem d_M_isBraced_71 : decode b_M_isBraced 71 = .ok (.iconst 0, 1) := by decide +kernel
theorem d_M_isBraced_72 : decode b_M_isBraced 72 = .ok (.istore_n 1, 1) := by decide +kernel
theorem d_M_isBraced_73 : decode b_M_isBraced 73 = .ok (.iinc 3 1, 3) := by decide +kernel
theorem d_M_isBraced_76 : decode b_M_isBraced 76 = .ok (.goto (-70), 3) := by decide +kernel
theorem d_M_isBraced_79 : decode b_M_isBraced 79 = .ok (.iload_n 1, 1) := by decide +kernel
theorem d_M_isBraced_80 : decode b_M_isBraced 80 = .ok (.ifCond .eq 11, 3) := by decide +kernel
theorem d_M_isBraced_83 : decode b_M_isBraced 83 = .ok (.iload_n 2, 1) := by decide +kernel
theorem d_M_isBraced_84 : decode b_M_isBraced 84 = .ok (.ifCond .ne 7, 3) := by decide +kernel
theorem d_M_isBraced_87 : decode b_M_isBraced 87 = .ok (.iconst 1, 1) := by decide +kernel
theorem d_M_isBraced_88 : decode b_M_isBraced 88 = .ok (.goto 4, 3) := by decide +kernel
theorem d_M_isBraced_91 : decode b_M_isBraced 91 = .ok (.iconst 0, 1) := by decide +kernel
theorem d_M_isBraced_92 : decode b_M_isBraced 92 = .ok (.ireturn, 1) := by decide +kernel
theorem d_M_escape_0 : decode b_M_escape 0 = .ok (.iload_n 1, 1) := by decide +kernel
theorem d_M_escape_1 : decode b_M_escape 1 = .ok (.invokestatic 79, 3) := by decide +kernel
theorem d_M_escape_4 : decode b_M_escape 4 = .ok (.ifCond .ne 13, 3) := by decide +kernel
theorem d_M_escape_7 : decode b_M_escape 7 = .ok (.iload_n 2, 1) := by decide +kernel
theorem d_M_escape_8 : decode b_M_escape 8 = .ok (.ifCond .eq 15, 3) := by decide +kernel
theorem d_M_escape_11 : decode b_M_escape 11 = .ok (.iload_n 1, 1) := by decide +kernel
theorem d_M_escape_12 : decode b_M_escape 12 = .ok (.bipush 35, 2) := by decide +kernel
theorem d_M_escape_14 : decode b_M_escape 14 = .ok (.if_icmp .ne 9, 3) := by decide +kernel
theorem d_M_escape_17 : decode b_M_escape 17 = .ok (.aload_n 0, 1) := by decide +kernel
theorem d_M_escape_18 : decode b_M_escape 18 = .ok (.bipush 92, 2) := by decide +kernel
theorem d_M_escape_20 : decode b_M_escape 20 = .ok (.invokevirtual 82, 3) := by decide +kernel
theorem d_M_escape_23 : decode b_M_escape 23 = .ok (.aload_n 0, 1) := by decide +kernel
theorem d_M_escape_24 : decode b_M_escape 24 = .ok (.iload_n 1, 1) := by decide +kernel
theorem d_M_escape_25 : decode b_M_escape 25 = .ok (.bipush 9, 2) := by decide +kernel
theorem d_M_escape_27 : decode b_M_escape 27 = .ok (.if_icmp .ne 8, 3) := by decide +kernel
theorem d_M_escape_30 : decode b_M_escape 30 = .ok (.bipush 116, 2) := by decide +kernel
theorem d_M_escape_32 : decode b_M_escape 32 = .ok (.goto 48, 3) := by decide +kernel
theorem d_M_escape_35 : decode b_M_escape 35 = .ok (.iload_n 1, 1) := by decide +kernel
theorem d_M_escape_36 : decode b_M_escape 36 = .ok (.bipush 10, 2) := by decide +kernel
theorem d_M_escape_38 : decode b_M_escape 38 = .ok (.if_icmp .ne 8, 3) := by decide +kernel
theorem d_M_escape_41 : decode b_M_escape 41 = .ok (.bipush 110, 2) := by decide +kernel
theorem d_M_escape_43 : decode b_M_escape 43 = .ok (.goto 37, 3) := by decide +kernel
theorem d_M_escape_46 : decode b_M_escape 46 = .ok (.iload_n 1, 1) := by decide +kernel
theorem d_M_escape_47 : decode b_M_escape 47 = .ok (.bipush 11, 2) := by decide +kernel
theorem d_M_escape_49 : decode b_M_escape 49 = .ok (.if_icmp .ne 8, 3) := by decide +kernel
theorem d_M_escape_52 : decode b_M_escape 52 = .ok (.bipush 118, 2) := by decide +kernel
theorem d_M_escape_54 : decode b_M_escape 54 = .ok (.goto 26, 3) := by decide +kernel
theorem d_M_escape_57 : decode b_M_escape 57 = .ok (.iload_n 1, 1) := by decide +kernel
theorem d_M_escape_58 : decode b_M_escape 58 = .ok (.bipush 12, 2) := by decide +kernel
theorem d_M_escape_60 : decode b_M_escape 60 = .ok (.if_icmp .ne 8, 3) := by decide +kernel
theorem d_M_escape_63 : decode b_M_escape 63 = .ok (.bipush 102, 2) := by decide +kernel
theorem d_M_escape_65 : decode b_M_escape 65 = .ok (.goto 15, 3) := by decide +kernel
theorem d_M_escape_68 : decode b_M_escape 68 = .ok (.iload_n 1, 1) := by decide +kernel
theorem d_M_escape_69 : decode b_M_escape 69 = .ok (.bipush 13, 2) := by decide +kernel
theorem d_M_escape_71 : decode b_M_escape 71 = .ok (.if_icmp .ne 8, 3) := by decide +kernel
theorem d_M_escape_74 : decode b_M_escape 74 = .ok (.bipush 114, 2) := by decide +kernel
theorem d_M_escape_76 : decode b_M_escape 76 = .ok (.goto 4, 3) := by decide +kernel
theorem d_M_escape_79 : decode b_M_escape 79 = .ok (.iload_n 1, 1) := by decide +kernel
theorem d_M_escape_80 : decode b_M_escape 80 = .ok (.invokevirtual 82, 3) := by decide +kernel
theorem d_M_escape_83 : decode b_M_escape 83 = .ok (.return_, 1) := by decide +kernel
theorem d_M_write_0 : decode b_M_write 0 = .ok (.aload_n 0, 1) := by decide +kernel
theorem d_M_write_1 : decode b_M_write 1 = .ok (.getfield 76, 3) := by decide +kernel
theorem d_M_write_4 : decode b_M_write 4 = .ok (.ifCond .le 9, 3) := by decide +kernel
theorem d_M_write_7 : decode b_M_write 7 = .ok (.aload_n 0, 1) := by decide +kernel
theorem d_M_write_8 : decode b_M_write 8 = .ok (.bipush 32, 2) := by decide +kernel
theorem d_M_write_10 : decode b_M_write 10 = .ok (.invokevirtual 82, 3) := by decide +kernel
theorem d_M_write_13 : decode b_M_write 13 = .ok (.aload_n 0, 1) := by decide +kernel
theorem d_M_write_14 : decode b_M_write 14 = .ok (.invokevirtual 85, 3) := by decide +kernel
theorem d_M_write_17 : decode b_M_write 17 = .ok (.ifCond .ne 14, 3) := by decide +kernel
theorem d_M_write_20 : decode b_M_write 20 = .ok (.aload_n 0, 1) := by decide +kernel
theorem d_M_write_21 : decode b_M_write 21 = .ok (.invokevirtual 89, 3) := by decide +kernel
theorem d_M_write_24 : decode b_M_write 24 = .ok (.ifCond .eq 7, 3) := by decide +kernel
theorem d_M_write_27 : decode b_M_write 27 = .ok (.iconst 1, 1) := by decide +kernel
theorem d_M_write_28 : decode b_M_write 28 = .ok (.goto 4, 3) := by decide +kernel
theorem d_M_write_31 : decode b_M_write 31 = .ok (.iconst 0, 1) := by decide +kernel
theorem d_M_write_32 : decode b_M_write 32 = .ok (.istore_n 1, 1) := by decide +kernel
theorem d_M_write_33 : decode b_M_write 33 = .ok (.aload_n 0, 1) := by decide +kernel
theorem d_M_write_34 : decode b_M_write 34 = .ok (.invokevirtual 85, 3) := by decide +kernel
theorem d_M_write_37 : decode b_M_write 37 = .ok (.ifCond .ne 7, 3) := by decide +kernel
theorem d_M_write_40 : decode b_M_write 40 = .ok (.iload_n 1, 1) := by decide +kernel
theorem d_M_write_41 : decode b_M_write 41 = .ok (.ifCond .eq 7, 3) := by decide +kernel
theorem d_M_write_44 : decode b_M_write 44 = .ok (.iconst 1, 1) := by decide +kernel
theorem d_M_write_45 : decode b_M_write 45 = .ok (.goto 4, 3) := by decide +kernel
theorem d_M_write_48 : decode b_M_write 48 = .ok (.iconst 0, 1) := by decide +kernel
theorem d_M_write_49 : decode b_M_write 49 = .ok (.istore_n 2, 1) := by decide +kernel
theorem d_M_write_50 : decode b_M_write 50 = .ok (.iload_n 1, 1) := by decide +kernel
theorem d_M_write_51 : decode b_M_write 51 = .ok (.ifCond .eq 9, 3) := by decide +kernel
theorem d_M_write_54 : decode b_M_write 54 = .ok (.aload_n 0, 1) := by decide +kernel
theorem d_M_write_55 : decode b_M_write 55 = .ok (.bipush 123, 2) := by decide +kernel
theorem d_M_write_57 : decode b_M_write 57 = .ok (.invokevirtual 82, 3) := by decide +kernel
theorem d_M_write_60 : decode b_M_write 60 = .ok (.iconst 0, 1) := by decide +kernel
theorem d_M_write_61 : decode b_M_write 61 = .ok (.istore_n 3, 1) := by decide +kernel
theorem d_M_write_62 : decode b_M_write 62 = .ok (.iload_n 3, 1) := by decide +kernel
theorem d_M_write_63 : decode b_M_write 63 = .ok (.aload_n 0, 1) := by decide +kernel
theorem d_M_write_64 : decode b_M_write 64 = .ok (.getfield 49, 3) := by decide +kernel
theorem d_M_write_67 : decode b_M_write 67 = .ok (.if_icmp .ge 45, 3) := by decide +kernel
theorem d_M_write_70 : decode b_M_write 70 = .ok (.iload_n 2, 1) := by decide +kernel
theorem d_M_write_71 : decode b_M_write 71 = .ok (.ifCond .eq 16, 3) := by decide +kernel
theorem d_M_write_74 : decode b_M_write 74 = .ok (.aload_n 0, 1) := by decide +kernel
theorem d_M_write_75 : decode b_M_write 75 = .ok (.aload_n 0, 1) := by decide +kernel
theorem d_M_write_76 : decode b_M_write 76 = .ok (.getfield 19, 3) := by decide +kernel
theorem d_M_write_79 : decode b_M_write 79 = .ok (.iload_n 3, 1) := by decide +kernel
theorem d_M_write_80 : decode b_M_write 80 = .ok (.iaload, 1) := by decide +kernel
theorem d_M_write_81 : decode b_M_write 81 = .ok (.invokevirtual 82, 3) := by decide +kernel
theorem d_M_write_84 : decode b_M_write 84 = .ok (.goto 22, 3) := by decide +kernel
theorem d_M_write_87 : decode b_M_write 87 = .ok (.aload_n 0, 1) := by decide +kernel
theorem d_M_write_88 : decode b_M_write 88 = .ok (.aload_n 0, 1) := by decide +kernel
theorem d_M_write_89 : decode b_M_write 89 = .ok (.getfield 19, 3) := by decide +kernel
theorem d_M_write_92 : decode b_M_write 92 = .ok (.iload_n 3, 1) := by decide +kernel
theorem d_M_write_93 : decode b_M_write 93 = .ok (.iaload, 1) := by decide +kernel
theorem d_M_write_94 : decode b_M_write 94 = .ok (.iload_n 3, 1) := by decide +kernel
theorem d_M_write_95 : decode b_M_write 95 = .ok (.ifCond .ne 7, 3) := by decide +kernel
theorem d_M_write_98 : decode b_M_write 98 = .ok (.iconst 1, 1) := by decide +kernel
theorem d_M_write_99 : decode b_M_write 99 = .ok (.goto 4, 3) := by decide +kernel
theorem d_M_write_102 : decode b_M_write 102 = .ok (.iconst 0, 1) := by decide +kernel
theorem d_M_write_103 : decode b_M_write 103 = .ok (.invokevirtual 92, 3) := by decide +kernel
theorem d_M_write_106 : decode b_M_write 106 = .ok (.iinc 3 1, 3) := by decide +kernel
theorem d_M_write_109 : decode b_M_write 109 = .ok (.goto (-47), 3) := by decide +kernel
theorem d_M_write_112 : decode b_M_write 112 = .ok (.iload_n 1, 1) := by decide +kernel
theorem d_M_write_113 : decode b_M_write 113 = .ok (.ifCond .eq 9, 3) := by decide +kernel
theorem d_M_write_116 : decode b_M_write 116 = .ok (.aload_n 0, 1) := by decide +kernel
theorem d_M_write_117 : decode b_M_write 117 = .ok (.bipush 125, 2) := by decide +kernel
theorem d_M_write_119 : decode b_M_write 119 = .ok (.invokevirtual 82, 3) := by decide +kernel
theorem d_M_write_122 : decode b_M_write 122 = .ok (.return_, 1) := by decide +kernel
theorem d_M_settle_0 : decode b_M_settle 0 = .ok (.aload_n 0, 1) := by decide +kernel
theorem d_M_settle_1 : decode b_M_settle 1 = .ok (.getfield 76, 3) := by decide +kernel
theorem d_M_settle_4 : decode b_M_settle 4 = .ok (.sipush 1024, 3) := by decide +kernel
theorem d_M_settle_7 : decode b_M_settle 7 = .ok (.if_icmp .le 6, 3) := by decide +kernel
theorem d_M_settle_10 : decode b_M_settle 10 = .ok (.bipush (-3), 2) := by decide +kernel
theorem d_M_settle_12 : decode b_M_settle 12 = .ok (.ireturn, 1) := by decide +kernel
theorem d_M_settle_13 : decode b_M_settle 13 = .ok (.iconst 0, 1) := by decide +kernel
theorem d_M_settle_14 : decode b_M_settle 14 = .ok (.istore_n 1, 1) := by decide +kernel
theorem d_M_settle_15 : decode b_M_settle 15 = .ok (.iload_n 1, 1) := by decide +kernel
theorem d_M_settle_16 : decode b_M_settle 16 = .ok (.aload_n 0, 1) := by decide +kernel
theorem d_M_settle_17 : decode b_M_settle 17 = .ok (.getfield 76, 3) := by decide +kernel
theorem d_M_settle_20 : decode b_M_settle 20 = .ok (.if_icmp .ge 21, 3) := by decide +kernel
theorem d_M_settle_23 : decode b_M_settle 23 = .ok (.aload_n 0, 1) := by decide +kernel
theorem d_M_settle_24 : decode b_M_settle 24 = .ok (.getfield 13, 3) := by decide +kernel
theorem d_M_settle_27 : decode b_M_settle 27 = .ok (.iload_n 1, 1) := by decide +kernel
theorem d_M_settle_28 : decode b_M_settle 28 = .ok (.aload_n 0, 1) := by decide +kernel
theorem d_M_settle_29 : decode b_M_settle 29 = .ok (.getfield 22, 3) := by decide +kernel
theorem d_M_settle_32 : decode b_M_settle 32 = .ok (.iload_n 1, 1) := by decide +kernel
theorem d_M_settle_33 : decode b_M_settle 33 = .ok (.iaload, 1) := by decide +kernel
theorem d_M_settle_34 : decode b_M_settle 34 = .ok (.iastore, 1) := by decide +kernel
theorem d_M_settle_35 : decode b_M_settle 35 = .ok (.iinc 1 1, 3) := by decide +kernel
theorem d_M_settle_38 : decode b_M_settle 38 = .ok (.goto (-23), 3) := by decide +kernel
theorem d_M_settle_41 : decode b_M_settle 41 = .ok (.aload_n 0, 1) := by decide +kernel
theorem d_M_settle_42 : decode b_M_settle 42 = .ok (.aload_n 0, 1) := by decide +kernel
theorem d_M_settle_43 : decode b_M_settle 43 = .ok (.getfield 76, 3) := by decide +kernel
theorem d_M_settle_46 : decode b_M_settle 46 = .ok (.putfield 25, 3) := by decide +kernel
theorem d_M_settle_49 : decode b_M_settle 49 = .ok (.aload_n 0, 1) := by decide +kernel
theorem d_M_settle_50 : decode b_M_settle 50 = .ok (.getfield 76, 3) := by decide +kernel
theorem d_M_settle_53 : decode b_M_settle 53 = .ok (.ireturn, 1) := by decide +kernel
theorem d_M_again_0 : decode b_M_again 0 = .ok (.aload_n 0, 1) := by decide +kernel
theorem d_M_again_1 : decode b_M_again 1 = .ok (.sipush 1024, 3) := by decide +kernel
theorem d_M_again_4 : decode b_M_again 4 = .ok (.invokevirtual 102, 3) := by decide +kernel
theorem d_M_again_7 : decode b_M_again 7 = .ok (.istore_n 1, 1) := by decide +kernel
theorem d_M_again_8 : decode b_M_again 8 = .ok (.iload_n 1, 1) := by decide +kernel
theorem d_M_again_9 : decode b_M_again 9 = .ok (.bipush (-2), 2) := by decide +kernel
theorem d_M_again_11 : decode b_M_again 11 = .ok (.if_icmp .ne 6, 3) := by decide +kernel
theorem d_M_again_14 : decode b_M_again 14 = .ok (.bipush (-2), 2) := by decide +kernel
theorem d_M_again_16 : decode b_M_again 16 = .ok (.ireturn, 1) := by decide +kernel
theorem d_M_again_17 : decode b_M_again 17 = .ok (.aload_n 0, 1) := by decide +kernel
theorem d_M_again_18 : decode b_M_again 18 = .ok (.iconst 0, 1) := by decide +kernel
theorem d_M_again_19 : decode b_M_again 19 = .ok (.putfield 76, 3) := by decide +kernel
theorem d_M_again_22 : decode b_M_again 22 = .ok (.iconst 0, 1) := by decide +kernel
theorem d_M_again_23 : decode b_M_again 23 = .ok (.istore_n 2, 1) := by decide +kernel
theorem d_M_again_24 : decode b_M_again 24 = .ok (.iload_n 2, 1) := by decide +kernel
theorem d_M_again_25 : decode b_M_again 25 = .ok (.iload_n 1, 1) := by decide +kernel
theorem d_M_again_26 : decode b_M_again 26 = .ok (.if_icmp .ge 29, 3) := by decide +kernel
theorem d_M_again_29 : decode b_M_again 29 = .ok (.aload_n 0, 1) := by decide +kernel
theorem d_M_again_30 : decode b_M_again 30 = .ok (.getfield 76, 3) := by decide +kernel
theorem d_M_again_33 : decode b_M_again 33 = .ok (.sipush 1024, 3) := by decide +kernel
theorem d_M_again_36 : decode b_M_again 36 = .ok (.if_icmp .gt 19, 3) := by decide +kernel
theorem d_M_again_39 : decode b_M_again 39 = .ok (.aload_n 0, 1) := by decide +kernel
theorem d_M_again_40 : decode b_M_again 40 = .ok (.iload_n 2, 1) := by decide +kernel
theorem d_M_again_41 : decode b_M_again 41 = .ok (.invokevirtual 102, 3) := by decide +kernel
theorem d_M_again_44 : decode b_M_again 44 = .ok (.istore_n 3, 1) := by decide +kernel
theorem d_M_again_45 : decode b_M_again 45 = .ok (.aload_n 0, 1) := by decide +kernel
theorem d_M_again_46 : decode b_M_again 46 = .ok (.invokevirtual 105, 3) := by decide +kernel
theorem d_M_again_49 : decode b_M_again 49 = .ok (.iinc 2 1, 3) := by decide +kernel
theorem d_M_again_52 : decode b_M_again 52 = .ok (.goto (-28), 3) := by decide +kernel
theorem d_M_again_55 : decode b_M_again 55 = .ok (.aload_n 0, 1) := by decide +kernel
theorem d_M_again_56 : decode b_M_again 56 = .ok (.invokevirtual 108, 3) := by decide +kernel
theorem d_M_again_59 : decode b_M_again 59 = .ok (.ireturn, 1) := by decide +kernel
theorem d_X_append_0 : decode b_X_append 0 = .ok (.aload_n 0, 1) := by decide +kernel
theorem d_X_append_1 : decode b_X_append 1 = .ok (.getfield 16, 3) := by decide +kernel
theorem d_X_append_4 : decode b_X_append 4 = .ok (.invokevirtual 32, 3) := by decide +kernel
theorem d_X_append_7 : decode b_X_append 7 = .ok (.istore_n 1, 1) := by decide +kernel
theorem d_X_append_8 : decode b_X_append 8 = .ok (.aload_n 0, 1) := by decide +kernel
theorem d_X_append_9 : decode b_X_append 9 = .ok (.getfield 16, 3) := by decide +kernel
theorem d_X_append_12 : decode b_X_append 12 = .ok (.aload_n 0, 1) := by decide +kernel
theorem d_X_append_13 : decode b_X_append 13 = .ok (.getfield 19, 3) := by decide +kernel
theorem d_X_append_16 : decode b_X_append 16 = .ok (.invokestatic 54, 3) := by decide +kernel
theorem d_X_append_19 : decode b_X_append 19 = .ok (.ifCond .eq 11, 3) := by decide +kernel
theorem d_X_append_22 : decode b_X_append 22 = .ok (.aload_n 0, 1) := by decide +kernel
theorem d_X_append_23 : decode b_X_append 23 = .ok (.getfield 16, 3) := by decide +kernel
theorem d_X_append_26 : decode b_X_append 26 = .ok (.invokevirtual 32, 3) := by decide +kernel
theorem d_X_append_29 : decode b_X_append 29 = .ok (.ireturn, 1) := by decide +kernel
theorem d_X_append_30 : decode b_X_append 30 = .ok (.aload_n 0, 1) := by decide +kernel
theorem d_X_append_31 : decode b_X_append 31 = .ok (.getfield 16, 3) := by decide +kernel
theorem d_X_append_34 : decode b_X_append 34 = .ok (.iload_n 1, 1) := by decide +kernel
theorem d_X_append_35 : decode b_X_append 35 = .ok (.invokevirtual 40, 3) := by decide +kernel
theorem d_X_append_38 : decode b_X_append 38 = .ok (.pop, 1) := by decide +kernel
theorem d_X_append_39 : decode b_X_append 39 = .ok (.bipush (-3), 2) := by decide +kernel
theorem d_X_append_41 : decode b_X_append 41 = .ok (.ireturn, 1) := by decide +kernel
theorem d_M_append_0 : decode b_M_append 0 = .ok (.aload_n 0, 1) := by decide +kernel
theorem d_M_append_1 : decode b_M_append 1 = .ok (.iconst 0, 1) := by decide +kernel
theorem d_M_append_2 : decode b_M_append 2 = .ok (.putfield 76, 3) := by decide +kernel
theorem d_M_append_5 : decode b_M_append 5 = .ok (.iconst 0, 1) := by decide +kernel
theorem d_M_append_6 : decode b_M_append 6 = .ok (.istore_n 1, 1) := by decide +kernel
theorem d_M_append_7 : decode b_M_append 7 = .ok (.iload_n 1, 1) := by decide +kernel
theorem d_M_append_8 : decode b_M_append 8 = .ok (.aload_n 0, 1) := by decide +kernel
theorem d_M_append_9 : decode b_M_append 9 = .ok (.getfield 25, 3) := by decide +kernel
theorem d_M_append_12 : decode b_M_append 12 = .ok (.if_icmp .ge 19, 3) := by decide +kernel
theorem d_M_append_15 : decode b_M_append 15 = .ok (.aload_n 0, 1) := by decide +kernel
theorem d_M_append_16 : decode b_M_append 16 = .ok (.aload_n 0, 1) := by decide +kernel
theorem d_M_append_17 : decode b_M_append 17 = .ok (.getfield 13, 3) := by decide +kernel
theorem d_M_append_20 : decode b_M_append 20 = .ok (.iload_n 1, 1) := by decide +kernel
theorem d_M_append_21 : decode b_M_append 21 = .ok (.iaload, 1) := by decide +kernel
theorem d_M_append_22 : decode b_M_append 22 = .ok (.invokevirtual 82, 3) := by decide +kernel
theorem d_M_append_25 : decode b_M_append 25 = .ok (.iinc 1 1, 3) := by decide +kernel
theorem d_M_append_28 : decode b_M_append 28 = .ok (.goto (-21), 3) := by decide +kernel
theorem d_M_append_31 : decode b_M_append 31 = .ok (.iconst 0, 1) := by decide +kernel
theorem d_M_append_32 : decode b_M_append 32 = .ok (.istore_n 1, 1) := by decide +kernel
theorem d_M_append_33 : decode b_M_append 33 = .ok (.iload_n 1, 1) := by decide +kernel
theorem d_M_append_34 : decode b_M_append 34 = .ok (.aload_n 0, 1) := by decide +kernel
theorem d_M_append_35 : decode b_M_append 35 = .ok (.getfield 99, 3) := by decide +kernel
theorem d_M_append_38 : decode b_M_append 38 = .ok (.if_icmp .ge 21, 3) := by decide +kernel
theorem d_M_append_41 : decode b_M_append 41 = .ok (.aload_n 0, 1) := by decide +kernel
theorem d_M_append_42 : decode b_M_append 42 = .ok (.getfield 19, 3) := by decide +kernel
theorem d_M_append_45 : decode b_M_append 45 = .ok (.iload_n 1, 1) := by decide +kernel
theorem d_M_append_46 : decode b_M_append 46 = .ok (.aload_n 0, 1) := by decide +kernel
theorem d_M_append_47 : decode b_M_append 47 = .ok (.getfield 16, 3) := by decide +kernel
theorem d_M_append_50 : decode b_M_append 50 = .ok (.iload_n 1, 1) := by decide +kernel
theorem d_M_append_51 : decode b_M_append 51 = .ok (.iaload, 1) := by decide +kernel
theorem d_M_append_52 : decode b_M_append 52 = .ok (.iastore, 1) := by decide +kernel
theorem d_M_append_53 : decode b_M_append 53 = .ok (.iinc 1 1, 3) := by decide +kernel
theorem d_M_append_56 : decode b_M_append 56 = .ok (.goto (-23), 3) := by decide +kernel
theorem d_M_append_59 : decode b_M_append 59 = .ok (.aload_n 0, 1) := by decide +kernel
theorem d_M_append_60 : decode b_M_append 60 = .ok (.aload_n 0, 1) := by decide +kernel
theorem d_M_append_61 : decode b_M_append 61 = .ok (.getfield 99, 3) := by decide +kernel
theorem d_M_append_64 : decode b_M_append 64 = .ok (.putfield 49, 3) := by decide +kernel
theorem d_M_append_67 : decode b_M_append 67 = .ok (.aload_n 0, 1) := by decide +kernel
theorem d_M_append_68 : decode b_M_append 68 = .ok (.invokevirtual 105, 3) := by decide +kernel
theorem d_M_append_71 : decode b_M_append 71 = .ok (.aload_n 0, 1) := by decide +kernel
theorem d_M_append_72 : decode b_M_append 72 = .ok (.invokevirtual 108, 3) := by decide +kernel
theorem d_M_append_75 : decode b_M_append 75 = .ok (.ireturn, 1) := by decide +kernel
theorem d_X_element_0 : decode b_X_element 0 = .ok (.aload_n 0, 1) := by decide +kernel
theorem d_X_element_1 : decode b_X_element 1 = .ok (.invokevirtual 51, 3) := by decide +kernel
theorem d_X_element_4 : decode b_X_element 4 = .ok (.istore_n 2, 1) := by decide +kernel
theorem d_X_element_5 : decode b_X_element 5 = .ok (.iload_n 2, 1) := by decide +kernel
theorem d_X_element_6 : decode b_X_element 6 = .ok (.bipush (-2), 2) := by decide +kernel
theorem d_X_element_8 : decode b_X_element 8 = .ok (.if_icmp .ne 6, 3) := by decide +kernel
theorem d_X_element_11 : decode b_X_element 11 = .ok (.bipush (-2), 2) := by decide +kernel
theorem d_X_element_13 : decode b_X_element 13 = .ok (.ireturn, 1) := by decide +kernel
theorem d_X_element_14 : decode b_X_element 14 = .ok (.iload_n 1, 1) := by decide +kernel
theorem d_X_element_15 : decode b_X_element 15 = .ok (.ifCond .lt 8, 3) := by decide +kernel
theorem d_X_element_18 : decode b_X_element 18 = .ok (.iload_n 1, 1) := by decide +kernel
theorem d_X_element_19 : decode b_X_element 19 = .ok (.iload_n 2, 1) := by decide +kernel
theorem d_X_element_20 : decode b_X_element 20 = .ok (.if_icmp .lt 5, 3) := by decide +kernel
theorem d_X_element_23 : decode b_X_element 23 = .ok (.iconst (-1), 1) := by decide +kernel
theorem d_X_element_24 : decode b_X_element 24 = .ok (.ireturn, 1) := by decide +kernel
theorem d_X_element_25 : decode b_X_element 25 = .ok (.aload_n 0, 1) := by decide +kernel
theorem d_X_element_26 : decode b_X_element 26 = .ok (.iconst 0, 1) := by decide +kernel
theorem d_X_element_27 : decode b_X_element 27 = .ok (.putfield 28, 3) := by decide +kernel
theorem d_X_element_30 : decode b_X_element 30 = .ok (.iconst 0, 1) := by decide +kernel
theorem d_X_element_31 : decode b_X_element 31 = .ok (.istore_n 3, 1) := by decide +kernel
theorem d_X_element_32 : decode b_X_element 32 = .ok (.iload_n 3, 1) := by decide +kernel
theorem d_X_element_33 : decode b_X_element 33 = .ok (.iload_n 1, 1) := by decide +kernel
theorem d_X_element_34 : decode b_X_element 34 = .ok (.if_icmp .gt 14, 3) := by decide +kernel
theorem d_X_element_37 : decode b_X_element 37 = .ok (.aload_n 0, 1) := by decide +kernel
theorem d_X_element_38 : decode b_X_element 38 = .ok (.invokevirtual 48, 3) := by decide +kernel
theorem d_X_element_41 : decode b_X_element 41 = .ok (.pop, 1) := by decide +kernel
theorem d_X_element_42 : decode b_X_element 42 = .ok (.iinc 3 1, 3) := by decide +kernel
theorem d_X_element_45 : decode b_X_element 45 = .ok (.goto (-13), 3) := by decide +kernel
theorem d_X_element_48 : decode b_X_element 48 = .ok (.aload_n 0, 1) := by decide +kernel
theorem d_X_element_49 : decode b_X_element 49 = .ok (.getfield 19, 3) := by decide +kernel
theorem d_X_element_52 : decode b_X_element 52 = .ok (.aload_n 0, 1) := by decide +kernel
theorem d_X_element_53 : decode b_X_element 53 = .ok (.getfield 22, 3) := by decide +kernel
theorem d_X_element_56 : decode b_X_element 56 = .ok (.invokevirtual 44, 3) := by decide +kernel
theorem d_X_element_59 : decode b_X_element 59 = .ok (.ireturn, 1) := by decide +kernel
theorem d_M_element_0 : decode b_M_element 0 = .ok (.aload_n 0, 1) := by decide +kernel
theorem d_M_element_1 : decode b_M_element 1 = .ok (.sipush 1024, 3) := by decide +kernel
theorem d_M_element_4 : decode b_M_element 4 = .ok (.invokevirtual 102, 3) := by decide +kernel
theorem d_M_element_7 : decode b_M_element 7 = .ok (.istore_n 2, 1) := by decide +kernel
theorem d_M_element_8 : decode b_M_element 8 = .ok (.iload_n 2, 1) := by decide +kernel
theorem d_M_element_9 : decode b_M_element 9 = .ok (.bipush (-2), 2) := by decide +kernel
theorem d_M_element_11 : decode b_M_element 11 = .ok (.if_icmp .ne 6, 3) := by decide +kernel
theorem d_M_element_14 : decode b_M_element 14 = .ok (.bipush (-2), 2) := by decide +kernel
theorem d_M_element_16 : decode b_M_element 16 = .ok (.ireturn, 1) := by decide +kernel
theorem d_M_element_17 : decode b_M_element 17 = .ok (.iload_n 1, 1) := by decide +kernel
theorem d_M_element_18 : decode b_M_element 18 = .ok (.ifCond .lt 8, 3) := by decide +kernel
theorem d_M_element_21 : decode b_M_element 21 = .ok (.iload_n 1, 1) := by decide +kernel
theorem d_M_element_22 : decode b_M_element 22 = .ok (.iload_n 2, 1) := by decide +kernel
theorem d_M_element_23 : decode b_M_element 23 = .ok (.if_icmp .lt 5, 3) := by decide +kernel
theorem d_M_element_26 : decode b_M_element 26 = .ok (.iconst (-1), 1) := by decide +kernel
theorem d_M_element_27 : decode b_M_element 27 = .ok (.ireturn, 1) := by decide +kernel
theorem d_M_element_28 : decode b_M_element 28 = .ok (.aload_n 0, 1) := by decide +kernel
theorem d_M_element_29 : decode b_M_element 29 = .ok (.iload_n 1, 1) := by decide +kernel
theorem d_M_element_30 : decode b_M_element 30 = .ok (.invokevirtual 102, 3) := by decide +kernel
theorem d_M_element_33 : decode b_M_element 33 = .ok (.istore_n 2, 1) := by decide +kernel
theorem d_M_element_34 : decode b_M_element 34 = .ok (.iconst 0, 1) := by decide +kernel
theorem d_M_element_35 : decode b_M_element 35 = .ok (.istore_n 3, 1) := by decide +kernel
theorem d_M_element_36 : decode b_M_element 36 = .ok (.iload_n 3, 1) := by decide +kernel
theorem d_M_element_37 : decode b_M_element 37 = .ok (.aload_n 0, 1) := by decide +kernel
theorem d_M_element_38 : decode b_M_element 38 = .ok (.getfield 49, 3) := by decide +kernel
theorem d_M_element_41 : decode b_M_element 41 = .ok (.if_icmp .ge 21, 3) := by decide +kernel
theorem d_M_element_44 : decode b_M_element 44 = .ok (.aload_n 0, 1) := by decide +kernel
theorem d_M_element_45 : decode b_M_element 45 = .ok (.getfield 16, 3) := by decide +kernel
theorem d_M_element_48 : decode b_M_element 48 = .ok (.iload_n 3, 1) := by decide +kernel
theorem d_M_element_49 : decode b_M_element 49 = .ok (.aload_n 0, 1) := by decide +kernel
theorem d_M_element_50 : decode b_M_element 50 = .ok (.getfield 19, 3) := by decide +kernel
theorem d_M_element_53 : decode b_M_element 53 = .ok (.iload_n 3, 1) := by decide +kernel
theorem d_M_element_54 : decode b_M_element 54 = .ok (.iaload, 1) := by decide +kernel
theorem d_M_element_55 : decode b_M_element 55 = .ok (.iastore, 1) := by decide +kernel
theorem d_M_element_56 : decode b_M_element 56 = .ok (.iinc 3 1, 3) := by decide +kernel
theorem d_M_element_59 : decode b_M_element 59 = .ok (.goto (-23), 3) := by decide +kernel
theorem d_M_element_62 : decode b_M_element 62 = .ok (.aload_n 0, 1) := by decide +kernel
theorem d_M_element_63 : decode b_M_element 63 = .ok (.aload_n 0, 1) := by decide +kernel
theorem d_M_element_64 : decode b_M_element 64 = .ok (.getfield 49, 3) := by decide +kernel
theorem d_M_element_67 : decode b_M_element 67 = .ok (.putfield 99, 3) := by decide +kernel
theorem d_M_element_70 : decode b_M_element 70 = .ok (.aload_n 0, 1) := by decide +kernel
theorem d_M_element_71 : decode b_M_element 71 = .ok (.getfield 99, 3) := by decide +kernel
theorem d_M_element_74 : decode b_M_element 74 = .ok (.ireturn, 1) := by decide +kernel
theorem d_M_count_0 : decode b_M_count 0 = .ok (.aload_n 0, 1) := by decide +kernel
theorem d_M_count_1 : decode b_M_count 1 = .ok (.sipush 1024, 3) := by decide +kernel
theorem d_M_count_4 : decode b_M_count 4 = .ok (.invokevirtual 102, 3) := by decide +kernel
theorem d_M_count_7 : decode b_M_count 7 = .ok (.ireturn, 1) := by decide +kernel
theorem d_X_item_0 : decode b_X_item 0 = .ok (.aload_n 0, 1) := by decide +kernel
theorem d_X_item_1 : decode b_X_item 1 = .ok (.getfield 19, 3) := by decide +kernel
theorem d_X_item_4 : decode b_X_item 4 = .ok (.aload_n 0, 1) := by decide +kernel
theorem d_X_item_5 : decode b_X_item 5 = .ok (.getfield 10, 3) := by decide +kernel
theorem d_X_item_8 : decode b_X_item 8 = .ok (.invokevirtual 44, 3) := by decide +kernel
theorem d_X_item_11 : decode b_X_item 11 = .ok (.ireturn, 1) := by decide +kernel
theorem d_M_item_0 : decode b_M_item 0 = .ok (.iconst 0, 1) := by decide +kernel
theorem d_M_item_1 : decode b_M_item 1 = .ok (.istore_n 1, 1) := by decide +kernel
theorem d_M_item_2 : decode b_M_item 2 = .ok (.iload_n 1, 1) := by decide +kernel
theorem d_M_item_3 : decode b_M_item 3 = .ok (.aload_n 0, 1) := by decide +kernel
theorem d_M_item_4 : decode b_M_item 4 = .ok (.getfield 96, 3) := by decide +kernel
theorem d_M_item_7 : decode b_M_item 7 = .ok (.if_icmp .ge 21, 3) := by decide +kernel
theorem d_M_item_10 : decode b_M_item 10 = .ok (.aload_n 0, 1) := by decide +kernel
theorem d_M_item_11 : decode b_M_item 11 = .ok (.getfield 16, 3) := by decide +kernel
theorem d_M_item_14 : decode b_M_item 14 = .ok (.iload_n 1, 1) := by decide +kernel
theorem d_M_item_15 : decode b_M_item 15 = .ok (.aload_n 0, 1) := by decide +kernel
theorem d_M_item_16 : decode b_M_item 16 = .ok (.getfield 7, 3) := by decide +kernel
theorem d_M_item_19 : decode b_M_item 19 = .ok (.iload_n 1, 1) := by decide +kernel
theorem d_M_item_20 : decode b_M_item 20 = .ok (.iaload, 1) := by decide +kernel
theorem d_M_item_21 : decode b_M_item 21 = .ok (.iastore, 1) := by decide +kernel
theorem d_M_item_22 : decode b_M_item 22 = .ok (.iinc 1 1, 3) := by decide +kernel
theorem d_M_item_25 : decode b_M_item 25 = .ok (.goto (-23), 3) := by decide +kernel
theorem d_M_item_28 : decode b_M_item 28 = .ok (.aload_n 0, 1) := by decide +kernel
theorem d_M_item_29 : decode b_M_item 29 = .ok (.aload_n 0, 1) := by decide +kernel
theorem d_M_item_30 : decode b_M_item 30 = .ok (.getfield 96, 3) := by decide +kernel
theorem d_M_item_33 : decode b_M_item 33 = .ok (.putfield 99, 3) := by decide +kernel
theorem d_M_item_36 : decode b_M_item 36 = .ok (.aload_n 0, 1) := by decide +kernel
theorem d_M_item_37 : decode b_M_item 37 = .ok (.iconst 0, 1) := by decide +kernel
theorem d_M_item_38 : decode b_M_item 38 = .ok (.putfield 96, 3) := by decide +kernel
theorem d_M_item_41 : decode b_M_item 41 = .ok (.aload_n 0, 1) := by decide +kernel
theorem d_M_item_42 : decode b_M_item 42 = .ok (.getfield 99, 3) := by decide +kernel
theorem d_M_item_45 : decode b_M_item 45 = .ok (.ireturn, 1) := by decide +kernel
theorem d_X_list_0 : decode b_X_list 0 = .ok (.aload_n 0, 1) := by decide +kernel
theorem d_X_list_1 : decode b_X_list 1 = .ok (.getfield 16, 3) := by decide +kernel
theorem d_X_list_4 : decode b_X_list 4 = .ok (.aload_n 0, 1) := by decide +kernel
theorem d_X_list_5 : decode b_X_list 5 = .ok (.getfield 10, 3) := by decide +kernel
theorem d_X_list_8 : decode b_X_list 8 = .ok (.invokevirtual 44, 3) := by decide +kernel
theorem d_X_list_11 : decode b_X_list 11 = .ok (.ireturn, 1) := by decide +kernel
theorem d_M_list_0 : decode b_M_list 0 = .ok (.iconst 0, 1) := by decide +kernel
theorem d_M_list_1 : decode b_M_list 1 = .ok (.istore_n 1, 1) := by decide +kernel
theorem d_M_list_2 : decode b_M_list 2 = .ok (.iload_n 1, 1) := by decide +kernel
theorem d_M_list_3 : decode b_M_list 3 = .ok (.aload_n 0, 1) := by decide +kernel
theorem d_M_list_4 : decode b_M_list 4 = .ok (.getfield 96, 3) := by decide +kernel
theorem d_M_list_7 : decode b_M_list 7 = .ok (.if_icmp .ge 21, 3) := by decide +kernel
theorem d_M_list_10 : decode b_M_list 10 = .ok (.aload_n 0, 1) := by decide +kernel
theorem d_M_list_11 : decode b_M_list 11 = .ok (.getfield 13, 3) := by decide +kernel
theorem d_M_list_14 : decode b_M_list 14 = .ok (.iload_n 1, 1) := by decide +kernel
theorem d_M_list_15 : decode b_M_list 15 = .ok (.aload_n 0, 1) := by decide +kernel
theorem d_M_list_16 : decode b_M_list 16 = .ok (.getfield 7, 3) := by decide +kernel
theorem d_M_list_19 : decode b_M_list 19 = .ok (.iload_n 1, 1) := by decide +kernel
theorem d_M_list_20 : decode b_M_list 20 = .ok (.iaload, 1) := by decide +kernel
theorem d_M_list_21 : decode b_M_list 21 = .ok (.iastore, 1) := by decide +kernel
theorem d_M_list_22 : decode b_M_list 22 = .ok (.iinc 1 1, 3) := by decide +kernel
theorem d_M_list_25 : decode b_M_list 25 = .ok (.goto (-23), 3) := by decide +kernel
theorem d_M_list_28 : decode b_M_list 28 = .ok (.aload_n 0, 1) := by decide +kernel
theorem d_M_list_29 : decode b_M_list 29 = .ok (.aload_n 0, 1) := by decide +kernel
theorem d_M_list_30 : decode b_M_list 30 = .ok (.getfield 96, 3) := by decide +kernel
theorem d_M_list_33 : decode b_M_list 33 = .ok (.putfield 25, 3) := by decide +kernel
theorem d_M_list_36 : decode b_M_list 36 = .ok (.aload_n 0, 1) := by decide +kernel
theorem d_M_list_37 : decode b_M_list 37 = .ok (.iconst 0, 1) := by decide +kernel
theorem d_M_list_38 : decode b_M_list 38 = .ok (.putfield 96, 3) := by decide +kernel
theorem d_M_list_41 : decode b_M_list 41 = .ok (.aload_n 0, 1) := by decide +kernel
theorem d_M_list_42 : decode b_M_list 42 = .ok (.getfield 25, 3) := by decide +kernel
theorem d_M_list_45 : decode b_M_list 45 = .ok (.ireturn, 1) := by decide +kernel
theorem d_X_end_0 : decode b_X_end 0 = .ok (.aload_n 0, 1) := by decide +kernel
theorem d_X_end_1 : decode b_X_end 1 = .ok (.getfield 10, 3) := by decide +kernel
theorem d_X_end_4 : decode b_X_end 4 = .ok (.iload_n 1, 1) := by decide +kernel
theorem d_X_end_5 : decode b_X_end 5 = .ok (.invokevirtual 40, 3) := by decide +kernel
theorem d_X_end_8 : decode b_X_end 8 = .ok (.ireturn, 1) := by decide +kernel
theorem d_M_end_0 : decode b_M_end 0 = .ok (.iload_n 1, 1) := by decide +kernel
theorem d_M_end_1 : decode b_M_end 1 = .ok (.ifCond .lt 11, 3) := by decide +kernel
theorem d_M_end_4 : decode b_M_end 4 = .ok (.iload_n 1, 1) := by decide +kernel
theorem d_M_end_5 : decode b_M_end 5 = .ok (.aload_n 0, 1) := by decide +kernel
theorem d_M_end_6 : decode b_M_end 6 = .ok (.getfield 96, 3) := by decide +kernel
theorem d_M_end_9 : decode b_M_end 9 = .ok (.if_icmp .le 5, 3) := by decide +kernel
theorem d_M_end_12 : decode b_M_end 12 = .ok (.iconst 0, 1) := by decide +kernel
theorem d_M_end_13 : decode b_M_end 13 = .ok (.ireturn, 1) := by decide +kernel
theorem d_M_end_14 : decode b_M_end 14 = .ok (.aload_n 0, 1) := by decide +kernel
theorem d_M_end_15 : decode b_M_end 15 = .ok (.iload_n 1, 1) := by decide +kernel
theorem d_M_end_16 : decode b_M_end 16 = .ok (.putfield 96, 3) := by decide +kernel
theorem d_M_end_19 : decode b_M_end 19 = .ok (.iconst 1, 1) := by decide +kernel
theorem d_M_end_20 : decode b_M_end 20 = .ok (.ireturn, 1) := by decide +kernel
theorem d_R_putNumber_0 : decode b_R_putNumber 0 = .ok (.aload_n 0, 1) := by decide +kernel
theorem d_R_putNumber_1 : decode b_R_putNumber 1 = .ok (.iload_n 1, 1) := by decide +kernel
theorem d_R_putNumber_2 : decode b_R_putNumber 2 = .ok (.bipush 24, 2) := by decide +kernel
theorem d_R_putNumber_4 : decode b_R_putNumber 4 = .ok (.iushr, 1) := by decide +kernel
theorem d_R_putNumber_5 : decode b_R_putNumber 5 = .ok (.invokevirtual 19, 3) := by decide +kernel
theorem d_R_putNumber_8 : decode b_R_putNumber 8 = .ok (.pop, 1) := by decide +kernel
theorem d_R_putNumber_9 : decode b_R_putNumber 9 = .ok (.aload_n 0, 1) := by decide +kernel
theorem d_R_putNumber_10 : decode b_R_putNumber 10 = .ok (.iload_n 1, 1) := by decide +kernel
end
section
theorem d_R_putNumber_11 : decode b_R_putNumber 11 = .ok (.bipush 16, 2) := by decide +kernel
theorem d_R_putNumber_13 : decode b_R_putNumber 13 = .ok (.iushr, 1) := by decide +kernel
theorem d_R_putNumber_14 : decode b_R_putNumber 14 = .ok (.invokevirtual 19, 3) := by decide +kernel
theorem d_R_putNumber_17 : decode b_R_putNumber 17 = .ok (.pop, 1) := by decide +kernel
theorem d_R_putNumber_18 : decode b_R_putNumber 18 = .ok (.aload_n 0, 1) := by decide +kernel
theorem d_R_putNumber_19 : decode b_R_putNumber 19 = .ok (.iload_n 1, 1) := by decide +kernel
theorem d_R_putNumber_20 : decode b_R_putNumber 20 = .ok (.bipush 8, 2) := by decide +kernel
theorem d_R_putNumber_22 : decode b_R_putNumber 22 = .ok (.iushr, 1) := by decide +kernel
theorem d_R_putNumber_23 : decode b_R_putNumber 23 = .ok (.invokevirtual 19, 3) := by decide +kernel
theorem d_R_putNumber_26 : decode b_R_putNumber 26 = .ok (.pop, 1) := by decide +kernel
theorem d_R_putNumber_27 : decode b_R_putNumber 27 = .ok (.aload_n 0, 1) := by decide +kernel
theorem d_R_putNumber_28 : decode b_R_putNumber 28 = .ok (.iload_n 1, 1) := by decide +kernel
theorem d_R_putNumber_29 : decode b_R_putNumber 29 = .ok (.invokevirtual 19, 3) := by decide +kernel
theorem d_R_putNumber_32 : decode b_R_putNumber 32 = .ok (.pop, 1) := by decide +kernel
theorem d_R_putNumber_33 : decode b_R_putNumber 33 = .ok (.return_, 1) := by decide +kernel
theorem d_X_feed_0 : decode b_X_feed 0 = .ok (.aload_n 0, 1) := by decide +kernel
theorem d_X_feed_1 : decode b_X_feed 1 = .ok (.getfield 10, 3) := by decide +kernel
theorem d_X_feed_4 : decode b_X_feed 4 = .ok (.invokevirtual 32, 3) := by decide +kernel
theorem d_X_feed_7 : decode b_X_feed 7 = .ok (.sipush 1004, 3) := by decide +kernel
theorem d_X_feed_10 : decode b_X_feed 10 = .ok (.if_icmp .le 5, 3) := by decide +kernel
theorem d_X_feed_13 : decode b_X_feed 13 = .ok (.iconst 0, 1) := by decide +kernel
theorem d_X_feed_14 : decode b_X_feed 14 = .ok (.ireturn, 1) := by decide +kernel
theorem d_X_feed_15 : decode b_X_feed 15 = .ok (.aload_n 0, 1) := by decide +kernel
theorem d_X_feed_16 : decode b_X_feed 16 = .ok (.getfield 10, 3) := by decide +kernel
theorem d_X_feed_19 : decode b_X_feed 19 = .ok (.iload_n 1, 1) := by decide +kernel
theorem d_X_feed_20 : decode b_X_feed 20 = .ok (.invokevirtual 36, 3) := by decide +kernel
theorem d_X_feed_23 : decode b_X_feed 23 = .ok (.aload_n 0, 1) := by decide +kernel
theorem d_X_feed_24 : decode b_X_feed 24 = .ok (.getfield 10, 3) := by decide +kernel
theorem d_X_feed_27 : decode b_X_feed 27 = .ok (.iload_n 2, 1) := by decide +kernel
theorem d_X_feed_28 : decode b_X_feed 28 = .ok (.invokevirtual 36, 3) := by decide +kernel
theorem d_X_feed_31 : decode b_X_feed 31 = .ok (.aload_n 0, 1) := by decide +kernel
theorem d_X_feed_32 : decode b_X_feed 32 = .ok (.getfield 10, 3) := by decide +kernel
theorem d_X_feed_35 : decode b_X_feed 35 = .ok (.iload_n 3, 1) := by decide +kernel
theorem d_X_feed_36 : decode b_X_feed 36 = .ok (.invokevirtual 36, 3) := by decide +kernel
theorem d_X_feed_39 : decode b_X_feed 39 = .ok (.aload_n 0, 1) := by decide +kernel
theorem d_X_feed_40 : decode b_X_feed 40 = .ok (.getfield 10, 3) := by decide +kernel
theorem d_X_feed_43 : decode b_X_feed 43 = .ok (.iload 4, 2) := by decide +kernel
theorem d_X_feed_45 : decode b_X_feed 45 = .ok (.invokevirtual 36, 3) := by decide +kernel
theorem d_X_feed_48 : decode b_X_feed 48 = .ok (.aload_n 0, 1) := by decide +kernel
theorem d_X_feed_49 : decode b_X_feed 49 = .ok (.getfield 10, 3) := by decide +kernel
theorem d_X_feed_52 : decode b_X_feed 52 = .ok (.iload 5, 2) := by decide +kernel
theorem d_X_feed_54 : decode b_X_feed 54 = .ok (.invokevirtual 36, 3) := by decide +kernel
theorem d_X_feed_57 : decode b_X_feed 57 = .ok (.iconst 1, 1) := by decide +kernel
theorem d_X_feed_58 : decode b_X_feed 58 = .ok (.ireturn, 1) := by decide +kernel
theorem d_M_feed_0 : decode b_M_feed 0 = .ok (.aload_n 0, 1) := by decide +kernel
theorem d_M_feed_1 : decode b_M_feed 1 = .ok (.getfield 96, 3) := by decide +kernel
theorem d_M_feed_4 : decode b_M_feed 4 = .ok (.bipush 20, 2) := by decide +kernel
theorem d_M_feed_6 : decode b_M_feed 6 = .ok (.iadd, 1) := by decide +kernel
theorem d_M_feed_7 : decode b_M_feed 7 = .ok (.sipush 1024, 3) := by decide +kernel
theorem d_M_feed_10 : decode b_M_feed 10 = .ok (.if_icmp .le 5, 3) := by decide +kernel
theorem d_M_feed_13 : decode b_M_feed 13 = .ok (.iconst 0, 1) := by decide +kernel
theorem d_M_feed_14 : decode b_M_feed 14 = .ok (.ireturn, 1) := by decide +kernel
theorem d_M_feed_15 : decode b_M_feed 15 = .ok (.iconst 0, 1) := by decide +kernel
theorem d_M_feed_16 : decode b_M_feed 16 = .ok (.istore 6, 2) := by decide +kernel
theorem d_M_feed_18 : decode b_M_feed 18 = .ok (.iload 6, 2) := by decide +kernel
theorem d_M_feed_20 : decode b_M_feed 20 = .ok (.bipush 20, 2) := by decide +kernel
theorem d_M_feed_22 : decode b_M_feed 22 = .ok (.if_icmp .ge 93, 3) := by decide +kernel
theorem d_M_feed_25 : decode b_M_feed 25 = .ok (.iload 6, 2) := by decide +kernel
theorem d_M_feed_27 : decode b_M_feed 27 = .ok (.iconst 4, 1) := by decide +kernel
theorem d_M_feed_28 : decode b_M_feed 28 = .ok (.if_icmp .ge 7, 3) := by decide +kernel
theorem d_M_feed_31 : decode b_M_feed 31 = .ok (.iload_n 1, 1) := by decide +kernel
theorem d_M_feed_32 : decode b_M_feed 32 = .ok (.goto 39, 3) := by decide +kernel
theorem d_M_feed_35 : decode b_M_feed 35 = .ok (.iload 6, 2) := by decide +kernel
theorem d_M_feed_37 : decode b_M_feed 37 = .ok (.bipush 8, 2) := by decide +kernel
theorem d_M_feed_39 : decode b_M_feed 39 = .ok (.if_icmp .ge 7, 3) := by decide +kernel
theorem d_M_feed_42 : decode b_M_feed 42 = .ok (.iload_n 2, 1) := by decide +kernel
theorem d_M_feed_43 : decode b_M_feed 43 = .ok (.goto 28, 3) := by decide +kernel
theorem d_M_feed_46 : decode b_M_feed 46 = .ok (.iload 6, 2) := by decide +kernel
theorem d_M_feed_48 : decode b_M_feed 48 = .ok (.bipush 12, 2) := by decide +kernel
theorem d_M_feed_50 : decode b_M_feed 50 = .ok (.if_icmp .ge 7, 3) := by decide +kernel
theorem d_M_feed_53 : decode b_M_feed 53 = .ok (.iload_n 3, 1) := by decide +kernel
theorem d_M_feed_54 : decode b_M_feed 54 = .ok (.goto 17, 3) := by decide +kernel
theorem d_M_feed_57 : decode b_M_feed 57 = .ok (.iload 6, 2) := by decide +kernel
theorem d_M_feed_59 : decode b_M_feed 59 = .ok (.bipush 16, 2) := by decide +kernel
theorem d_M_feed_61 : decode b_M_feed 61 = .ok (.if_icmp .ge 8, 3) := by decide +kernel
theorem d_M_feed_64 : decode b_M_feed 64 = .ok (.iload 4, 2) := by decide +kernel
theorem d_M_feed_66 : decode b_M_feed 66 = .ok (.goto 5, 3) := by decide +kernel
theorem d_M_feed_69 : decode b_M_feed 69 = .ok (.iload 5, 2) := by decide +kernel
theorem d_M_feed_71 : decode b_M_feed 71 = .ok (.istore 7, 2) := by decide +kernel
theorem d_M_feed_73 : decode b_M_feed 73 = .ok (.aload_n 0, 1) := by decide +kernel
theorem d_M_feed_74 : decode b_M_feed 74 = .ok (.getfield 7, 3) := by decide +kernel
theorem d_M_feed_77 : decode b_M_feed 77 = .ok (.aload_n 0, 1) := by decide +kernel
theorem d_M_feed_78 : decode b_M_feed 78 = .ok (.getfield 96, 3) := by decide +kernel
theorem d_M_feed_81 : decode b_M_feed 81 = .ok (.iload 7, 2) := by decide +kernel
theorem d_M_feed_83 : decode b_M_feed 83 = .ok (.bipush 24, 2) := by decide +kernel
theorem d_M_feed_85 : decode b_M_feed 85 = .ok (.bipush 8, 2) := by decide +kernel
theorem d_M_feed_87 : decode b_M_feed 87 = .ok (.iload 6, 2) := by decide +kernel
theorem d_M_feed_89 : decode b_M_feed 89 = .ok (.iconst 4, 1) := by decide +kernel
theorem d_M_feed_90 : decode b_M_feed 90 = .ok (.irem, 1) := by decide +kernel
theorem d_M_feed_91 : decode b_M_feed 91 = .ok (.imul, 1) := by decide +kernel
theorem d_M_feed_92 : decode b_M_feed 92 = .ok (.isub, 1) := by decide +kernel
theorem d_M_feed_93 : decode b_M_feed 93 = .ok (.ishr, 1) := by decide +kernel
theorem d_M_feed_94 : decode b_M_feed 94 = .ok (.sipush 255, 3) := by decide +kernel
theorem d_M_feed_97 : decode b_M_feed 97 = .ok (.iand, 1) := by decide +kernel
theorem d_M_feed_98 : decode b_M_feed 98 = .ok (.iastore, 1) := by decide +kernel
theorem d_M_feed_99 : decode b_M_feed 99 = .ok (.aload_n 0, 1) := by decide +kernel
theorem d_M_feed_100 : decode b_M_feed 100 = .ok (.dup, 1) := by decide +kernel
theorem d_M_feed_101 : decode b_M_feed 101 = .ok (.getfield 96, 3) := by decide +kernel
theorem d_M_feed_104 : decode b_M_feed 104 = .ok (.iconst 1, 1) := by decide +kernel
theorem d_M_feed_105 : decode b_M_feed 105 = .ok (.iadd, 1) := by decide +kernel
theorem d_M_feed_106 : decode b_M_feed 106 = .ok (.putfield 96, 3) := by decide +kernel
theorem d_M_feed_109 : decode b_M_feed 109 = .ok (.iinc 6 1, 3) := by decide +kernel
theorem d_M_feed_112 : decode b_M_feed 112 = .ok (.goto (-94), 3) := by decide +kernel
theorem d_M_feed_115 : decode b_M_feed 115 = .ok (.iconst 1, 1) := by decide +kernel
theorem d_M_feed_116 : decode b_M_feed 116 = .ok (.ireturn, 1) := by decide +kernel
theorem d_R_init_0 : decode b_R_init 0 = .ok (.aload_n 0, 1) := by decide +kernel
theorem d_R_init_1 : decode b_R_init 1 = .ok (.invokespecial 3, 3) := by decide +kernel
theorem d_R_init_4 : decode b_R_init 4 = .ok (.aload_n 0, 1) := by decide +kernel
theorem d_R_init_5 : decode b_R_init 5 = .ok (.sipush 1024, 3) := by decide +kernel
theorem d_R_init_8 : decode b_R_init 8 = .ok (.newarray .int, 2) := by decide +kernel
theorem d_R_init_10 : decode b_R_init 10 = .ok (.putfield 9, 3) := by decide +kernel
theorem d_R_init_13 : decode b_R_init 13 = .ok (.aload_n 0, 1) := by decide +kernel
theorem d_R_init_14 : decode b_R_init 14 = .ok (.iconst 0, 1) := by decide +kernel
theorem d_R_init_15 : decode b_R_init 15 = .ok (.putfield 15, 3) := by decide +kernel
theorem d_R_init_18 : decode b_R_init 18 = .ok (.return_, 1) := by decide +kernel
theorem d_X_init_0 : decode b_X_init 0 = .ok (.aload_n 0, 1) := by decide +kernel
theorem d_X_init_1 : decode b_X_init 1 = .ok (.invokespecial 1, 3) := by decide +kernel
theorem d_X_init_4 : decode b_X_init 4 = .ok (.aload_n 0, 1) := by decide +kernel
theorem d_X_init_5 : decode b_X_init 5 = .ok (.new 7, 3) := by decide +kernel
theorem d_X_init_8 : decode b_X_init 8 = .ok (.dup, 1) := by decide +kernel
theorem d_X_init_9 : decode b_X_init 9 = .ok (.invokespecial 9, 3) := by decide +kernel
theorem d_X_init_12 : decode b_X_init 12 = .ok (.putfield 10, 3) := by decide +kernel
theorem d_X_init_15 : decode b_X_init 15 = .ok (.aload_n 0, 1) := by decide +kernel
theorem d_X_init_16 : decode b_X_init 16 = .ok (.new 7, 3) := by decide +kernel
theorem d_X_init_19 : decode b_X_init 19 = .ok (.dup, 1) := by decide +kernel
theorem d_X_init_20 : decode b_X_init 20 = .ok (.invokespecial 9, 3) := by decide +kernel
theorem d_X_init_23 : decode b_X_init 23 = .ok (.putfield 16, 3) := by decide +kernel
theorem d_X_init_26 : decode b_X_init 26 = .ok (.aload_n 0, 1) := by decide +kernel
theorem d_X_init_27 : decode b_X_init 27 = .ok (.new 7, 3) := by decide +kernel
theorem d_X_init_30 : decode b_X_init 30 = .ok (.dup, 1) := by decide +kernel
theorem d_X_init_31 : decode b_X_init 31 = .ok (.invokespecial 9, 3) := by decide +kernel
theorem d_X_init_34 : decode b_X_init 34 = .ok (.putfield 19, 3) := by decide +kernel
theorem d_X_init_37 : decode b_X_init 37 = .ok (.aload_n 0, 1) := by decide +kernel
theorem d_X_init_38 : decode b_X_init 38 = .ok (.new 7, 3) := by decide +kernel
theorem d_X_init_41 : decode b_X_init 41 = .ok (.dup, 1) := by decide +kernel
theorem d_X_init_42 : decode b_X_init 42 = .ok (.invokespecial 9, 3) := by decide +kernel
theorem d_X_init_45 : decode b_X_init 45 = .ok (.putfield 22, 3) := by decide +kernel
theorem d_X_init_48 : decode b_X_init 48 = .ok (.aload_n 0, 1) := by decide +kernel
theorem d_X_init_49 : decode b_X_init 49 = .ok (.new 7, 3) := by decide +kernel
theorem d_X_init_52 : decode b_X_init 52 = .ok (.dup, 1) := by decide +kernel
theorem d_X_init_53 : decode b_X_init 53 = .ok (.invokespecial 9, 3) := by decide +kernel
theorem d_X_init_56 : decode b_X_init 56 = .ok (.putfield 25, 3) := by decide +kernel
theorem d_X_init_59 : decode b_X_init 59 = .ok (.aload_n 0, 1) := by decide +kernel
theorem d_X_init_60 : decode b_X_init 60 = .ok (.iconst 0, 1) := by decide +kernel
theorem d_X_init_61 : decode b_X_init 61 = .ok (.putfield 28, 3) := by decide +kernel
theorem d_X_init_64 : decode b_X_init 64 = .ok (.return_, 1) := by decide +kernel
theorem d_M_init_0 : decode b_M_init 0 = .ok (.aload_n 0, 1) := by decide +kernel
theorem d_M_init_1 : decode b_M_init 1 = .ok (.invokespecial 1, 3) := by decide +kernel
theorem d_M_init_4 : decode b_M_init 4 = .ok (.aload_n 0, 1) := by decide +kernel
theorem d_M_init_5 : decode b_M_init 5 = .ok (.sipush 1024, 3) := by decide +kernel
theorem d_M_init_8 : decode b_M_init 8 = .ok (.newarray .int, 2) := by decide +kernel
theorem d_M_init_10 : decode b_M_init 10 = .ok (.putfield 7, 3) := by decide +kernel
theorem d_M_init_13 : decode b_M_init 13 = .ok (.aload_n 0, 1) := by decide +kernel
theorem d_M_init_14 : decode b_M_init 14 = .ok (.sipush 1024, 3) := by decide +kernel
theorem d_M_init_17 : decode b_M_init 17 = .ok (.newarray .int, 2) := by decide +kernel
theorem d_M_init_19 : decode b_M_init 19 = .ok (.putfield 13, 3) := by decide +kernel
theorem d_M_init_22 : decode b_M_init 22 = .ok (.aload_n 0, 1) := by decide +kernel
theorem d_M_init_23 : decode b_M_init 23 = .ok (.sipush 1024, 3) := by decide +kernel
theorem d_M_init_26 : decode b_M_init 26 = .ok (.newarray .int, 2) := by decide +kernel
theorem d_M_init_28 : decode b_M_init 28 = .ok (.putfield 16, 3) := by decide +kernel
theorem d_M_init_31 : decode b_M_init 31 = .ok (.aload_n 0, 1) := by decide +kernel
theorem d_M_init_32 : decode b_M_init 32 = .ok (.sipush 1024, 3) := by decide +kernel
theorem d_M_init_35 : decode b_M_init 35 = .ok (.newarray .int, 2) := by decide +kernel
theorem d_M_init_37 : decode b_M_init 37 = .ok (.putfield 19, 3) := by decide +kernel
theorem d_M_init_40 : decode b_M_init 40 = .ok (.aload_n 0, 1) := by decide +kernel
theorem d_M_init_41 : decode b_M_init 41 = .ok (.sipush 4200, 3) := by decide +kernel
theorem d_M_init_44 : decode b_M_init 44 = .ok (.newarray .int, 2) := by decide +kernel
theorem d_M_init_46 : decode b_M_init 46 = .ok (.putfield 22, 3) := by decide +kernel
theorem d_M_init_49 : decode b_M_init 49 = .ok (.return_, 1) := by decide +kernel
end
section
theorem d_L_law_0 : decode code 0 = .ok (.new 7, 3) := by decide +kernel
theorem d_L_law_3 : decode code 3 = .ok (.dup, 1) := by decide +kernel
theorem d_L_law_4 : decode code 4 = .ok (.invokespecial 9, 3) := by decide +kernel
theorem d_L_law_7 : decode code 7 = .ok (.astore_n 1, 1) := by decide +kernel
theorem d_L_law_8 : decode code 8 = .ok (.new 10, 3) := by decide +kernel
theorem d_L_law_11 : decode code 11 = .ok (.dup, 1) := by decide +kernel
theorem d_L_law_12 : decode code 12 = .ok (.invokespecial 12, 3) := by decide +kernel
theorem d_L_law_15 : decode code 15 = .ok (.astore_n 2, 1) := by decide +kernel
theorem d_L_law_16 : decode code 16 = .ok (.iconst 0, 1) := by decide +kernel
theorem d_L_law_17 : decode code 17 = .ok (.istore_n 3, 1) := by decide +kernel
theorem d_L_law_18 : decode code 18 = .ok (.iload_n 3, 1) := by decide +kernel
theorem d_L_law_19 : decode code 19 = .ok (.aload_n 0, 1) := by decide +kernel
theorem d_L_law_20 : decode code 20 = .ok (.arraylength, 1) := by decide +kernel
theorem d_L_law_21 : decode code 21 = .ok (.bipush 6, 2) := by decide +kernel
theorem d_L_law_23 : decode code 23 = .ok (.isub, 1) := by decide +kernel
theorem d_L_law_24 : decode code 24 = .ok (.if_icmp .gt 307, 3) := by decide +kernel
theorem d_L_law_27 : decode code 27 = .ok (.aload_n 0, 1) := by decide +kernel
theorem d_L_law_28 : decode code 28 = .ok (.iload_n 3, 1) := by decide +kernel
theorem d_L_law_29 : decode code 29 = .ok (.iaload, 1) := by decide +kernel
theorem d_L_law_30 : decode code 30 = .ok (.bipush 15, 2) := by decide +kernel
theorem d_L_law_32 : decode code 32 = .ok (.iand, 1) := by decide +kernel
theorem d_L_law_33 : decode code 33 = .ok (.tableswitch 292 0 10 #[59, 122, 145, 158, 171, 184, 207, 220, 233, 246, 269], 59) := by decide +kernel
theorem d_L_law_92 : decode code 92 = .ok (.aload_n 1, 1) := by decide +kernel
theorem d_L_law_93 : decode code 93 = .ok (.aload_n 0, 1) := by decide +kernel
theorem d_L_law_94 : decode code 94 = .ok (.iload_n 3, 1) := by decide +kernel
theorem d_L_law_95 : decode code 95 = .ok (.iconst 1, 1) := by decide +kernel
theorem d_L_law_96 : decode code 96 = .ok (.iadd, 1) := by decide +kernel
theorem d_L_law_97 : decode code 97 = .ok (.iaload, 1) := by decide +kernel
theorem d_L_law_98 : decode code 98 = .ok (.aload_n 0, 1) := by decide +kernel
theorem d_L_law_99 : decode code 99 = .ok (.iload_n 3, 1) := by decide +kernel
theorem d_L_law_100 : decode code 100 = .ok (.iconst 2, 1) := by decide +kernel
theorem d_L_law_101 : decode code 101 = .ok (.iadd, 1) := by decide +kernel
theorem d_L_law_102 : decode code 102 = .ok (.iaload, 1) := by decide +kernel
theorem d_L_law_103 : decode code 103 = .ok (.aload_n 0, 1) := by decide +kernel
theorem d_L_law_104 : decode code 104 = .ok (.iload_n 3, 1) := by decide +kernel
theorem d_L_law_105 : decode code 105 = .ok (.iconst 3, 1) := by decide +kernel
theorem d_L_law_106 : decode code 106 = .ok (.iadd, 1) := by decide +kernel
theorem d_L_law_107 : decode code 107 = .ok (.iaload, 1) := by decide +kernel
theorem d_L_law_108 : decode code 108 = .ok (.aload_n 0, 1) := by decide +kernel
theorem d_L_law_109 : decode code 109 = .ok (.iload_n 3, 1) := by decide +kernel
theorem d_L_law_110 : decode code 110 = .ok (.iconst 4, 1) := by decide +kernel
theorem d_L_law_111 : decode code 111 = .ok (.iadd, 1) := by decide +kernel
theorem d_L_law_112 : decode code 112 = .ok (.iaload, 1) := by decide +kernel
theorem d_L_law_113 : decode code 113 = .ok (.aload_n 0, 1) := by decide +kernel
theorem d_L_law_114 : decode code 114 = .ok (.iload_n 3, 1) := by decide +kernel
theorem d_L_law_115 : decode code 115 = .ok (.iconst 5, 1) := by decide +kernel
theorem d_L_law_116 : decode code 116 = .ok (.iadd, 1) := by decide +kernel
theorem d_L_law_117 : decode code 117 = .ok (.iaload, 1) := by decide +kernel
theorem d_L_law_118 : decode code 118 = .ok (.invokevirtual 13, 3) := by decide +kernel
theorem d_L_law_121 : decode code 121 = .ok (.aload_n 2, 1) := by decide +kernel
theorem d_L_law_122 : decode code 122 = .ok (.aload_n 0, 1) := by decide +kernel
theorem d_L_law_123 : decode code 123 = .ok (.iload_n 3, 1) := by decide +kernel
theorem d_L_law_124 : decode code 124 = .ok (.iconst 1, 1) := by decide +kernel
theorem d_L_law_125 : decode code 125 = .ok (.iadd, 1) := by decide +kernel
theorem d_L_law_126 : decode code 126 = .ok (.iaload, 1) := by decide +kernel
theorem d_L_law_127 : decode code 127 = .ok (.aload_n 0, 1) := by decide +kernel
theorem d_L_law_128 : decode code 128 = .ok (.iload_n 3, 1) := by decide +kernel
theorem d_L_law_129 : decode code 129 = .ok (.iconst 2, 1) := by decide +kernel
theorem d_L_law_130 : decode code 130 = .ok (.iadd, 1) := by decide +kernel
theorem d_L_law_131 : decode code 131 = .ok (.iaload, 1) := by decide +kernel
theorem d_L_law_132 : decode code 132 = .ok (.aload_n 0, 1) := by decide +kernel
theorem d_L_law_133 : decode code 133 = .ok (.iload_n 3, 1) := by decide +kernel
theorem d_L_law_134 : decode code 134 = .ok (.iconst 3, 1) := by decide +kernel
theorem d_L_law_135 : decode code 135 = .ok (.iadd, 1) := by decide +kernel
theorem d_L_law_136 : decode code 136 = .ok (.iaload, 1) := by decide +kernel
theorem d_L_law_137 : decode code 137 = .ok (.aload_n 0, 1) := by decide +kernel
theorem d_L_law_138 : decode code 138 = .ok (.iload_n 3, 1) := by decide +kernel
theorem d_L_law_139 : decode code 139 = .ok (.iconst 4, 1) := by decide +kernel
theorem d_L_law_140 : decode code 140 = .ok (.iadd, 1) := by decide +kernel
theorem d_L_law_141 : decode code 141 = .ok (.iaload, 1) := by decide +kernel
theorem d_L_law_142 : decode code 142 = .ok (.aload_n 0, 1) := by decide +kernel
theorem d_L_law_143 : decode code 143 = .ok (.iload_n 3, 1) := by decide +kernel
theorem d_L_law_144 : decode code 144 = .ok (.iconst 5, 1) := by decide +kernel
theorem d_L_law_145 : decode code 145 = .ok (.iadd, 1) := by decide +kernel
theorem d_L_law_146 : decode code 146 = .ok (.iaload, 1) := by decide +kernel
theorem d_L_law_147 : decode code 147 = .ok (.invokevirtual 17, 3) := by decide +kernel
theorem d_L_law_150 : decode code 150 = .ok (.if_icmp .eq 175, 3) := by decide +kernel
theorem d_L_law_153 : decode code 153 = .ok (.iconst 0, 1) := by decide +kernel
theorem d_L_law_154 : decode code 154 = .ok (.ireturn, 1) := by decide +kernel
theorem d_L_law_155 : decode code 155 = .ok (.aload_n 1, 1) := by decide +kernel
theorem d_L_law_156 : decode code 156 = .ok (.aload_n 0, 1) := by decide +kernel
theorem d_L_law_157 : decode code 157 = .ok (.iload_n 3, 1) := by decide +kernel
theorem d_L_law_158 : decode code 158 = .ok (.iconst 1, 1) := by decide +kernel
theorem d_L_law_159 : decode code 159 = .ok (.iadd, 1) := by decide +kernel
theorem d_L_law_160 : decode code 160 = .ok (.iaload, 1) := by decide +kernel
theorem d_L_law_161 : decode code 161 = .ok (.invokevirtual 18, 3) := by decide +kernel
theorem d_L_law_164 : decode code 164 = .ok (.aload_n 2, 1) := by decide +kernel
theorem d_L_law_165 : decode code 165 = .ok (.aload_n 0, 1) := by decide +kernel
theorem d_L_law_166 : decode code 166 = .ok (.iload_n 3, 1) := by decide +kernel
theorem d_L_law_167 : decode code 167 = .ok (.iconst 1, 1) := by decide +kernel
theorem d_L_law_168 : decode code 168 = .ok (.iadd, 1) := by decide +kernel
theorem d_L_law_169 : decode code 169 = .ok (.iaload, 1) := by decide +kernel
theorem d_L_law_170 : decode code 170 = .ok (.invokevirtual 22, 3) := by decide +kernel
theorem d_L_law_173 : decode code 173 = .ok (.if_icmp .eq 152, 3) := by decide +kernel
theorem d_L_law_176 : decode code 176 = .ok (.iconst 0, 1) := by decide +kernel
theorem d_L_law_177 : decode code 177 = .ok (.ireturn, 1) := by decide +kernel
theorem d_L_law_178 : decode code 178 = .ok (.aload_n 1, 1) := by decide +kernel
theorem d_L_law_179 : decode code 179 = .ok (.invokevirtual 23, 3) := by decide +kernel
theorem d_L_law_182 : decode code 182 = .ok (.aload_n 2, 1) := by decide +kernel
theorem d_L_law_183 : decode code 183 = .ok (.invokevirtual 27, 3) := by decide +kernel
theorem d_L_law_186 : decode code 186 = .ok (.if_icmp .eq 139, 3) := by decide +kernel
theorem d_L_law_189 : decode code 189 = .ok (.iconst 0, 1) := by decide +kernel
theorem d_L_law_190 : decode code 190 = .ok (.ireturn, 1) := by decide +kernel
theorem d_L_law_191 : decode code 191 = .ok (.aload_n 1, 1) := by decide +kernel
theorem d_L_law_192 : decode code 192 = .ok (.invokevirtual 28, 3) := by decide +kernel
theorem d_L_law_195 : decode code 195 = .ok (.aload_n 2, 1) := by decide +kernel
theorem d_L_law_196 : decode code 196 = .ok (.invokevirtual 31, 3) := by decide +kernel
theorem d_L_law_199 : decode code 199 = .ok (.if_icmp .eq 126, 3) := by decide +kernel
theorem d_L_law_202 : decode code 202 = .ok (.iconst 0, 1) := by decide +kernel
theorem d_L_law_203 : decode code 203 = .ok (.ireturn, 1) := by decide +kernel
theorem d_L_law_204 : decode code 204 = .ok (.aload_n 1, 1) := by decide +kernel
theorem d_L_law_205 : decode code 205 = .ok (.invokevirtual 32, 3) := by decide +kernel
theorem d_L_law_208 : decode code 208 = .ok (.aload_n 2, 1) := by decide +kernel
theorem d_L_law_209 : decode code 209 = .ok (.invokevirtual 35, 3) := by decide +kernel
theorem d_L_law_212 : decode code 212 = .ok (.if_icmp .eq 113, 3) := by decide +kernel
theorem d_L_law_215 : decode code 215 = .ok (.iconst 0, 1) := by decide +kernel
theorem d_L_law_216 : decode code 216 = .ok (.ireturn, 1) := by decide +kernel
theorem d_L_law_217 : decode code 217 = .ok (.aload_n 1, 1) := by decide +kernel
theorem d_L_law_218 : decode code 218 = .ok (.aload_n 0, 1) := by decide +kernel
theorem d_L_law_219 : decode code 219 = .ok (.iload_n 3, 1) := by decide +kernel
theorem d_L_law_220 : decode code 220 = .ok (.iconst 1, 1) := by decide +kernel
theorem d_L_law_221 : decode code 221 = .ok (.iadd, 1) := by decide +kernel
theorem d_L_law_222 : decode code 222 = .ok (.iaload, 1) := by decide +kernel
theorem d_L_law_223 : decode code 223 = .ok (.invokevirtual 36, 3) := by decide +kernel
theorem d_L_law_226 : decode code 226 = .ok (.aload_n 2, 1) := by decide +kernel
theorem d_L_law_227 : decode code 227 = .ok (.aload_n 0, 1) := by decide +kernel
theorem d_L_law_228 : decode code 228 = .ok (.iload_n 3, 1) := by decide +kernel
theorem d_L_law_229 : decode code 229 = .ok (.iconst 1, 1) := by decide +kernel
theorem d_L_law_230 : decode code 230 = .ok (.iadd, 1) := by decide +kernel
theorem d_L_law_231 : decode code 231 = .ok (.iaload, 1) := by decide +kernel
theorem d_L_law_232 : decode code 232 = .ok (.invokevirtual 40, 3) := by decide +kernel
theorem d_L_law_235 : decode code 235 = .ok (.if_icmp .eq 90, 3) := by decide +kernel
theorem d_L_law_238 : decode code 238 = .ok (.iconst 0, 1) := by decide +kernel
theorem d_L_law_239 : decode code 239 = .ok (.ireturn, 1) := by decide +kernel
theorem d_L_law_240 : decode code 240 = .ok (.aload_n 1, 1) := by decide +kernel
theorem d_L_law_241 : decode code 241 = .ok (.invokevirtual 41, 3) := by decide +kernel
theorem d_L_law_244 : decode code 244 = .ok (.aload_n 2, 1) := by decide +kernel
theorem d_L_law_245 : decode code 245 = .ok (.invokevirtual 44, 3) := by decide +kernel
theorem d_L_law_248 : decode code 248 = .ok (.if_icmp .eq 77, 3) := by decide +kernel
theorem d_L_law_251 : decode code 251 = .ok (.iconst 0, 1) := by decide +kernel
theorem d_L_law_252 : decode code 252 = .ok (.ireturn, 1) := by decide +kernel
theorem d_L_law_253 : decode code 253 = .ok (.aload_n 1, 1) := by decide +kernel
theorem d_L_law_254 : decode code 254 = .ok (.invokevirtual 45, 3) := by decide +kernel
theorem d_L_law_257 : decode code 257 = .ok (.aload_n 2, 1) := by decide +kernel
theorem d_L_law_258 : decode code 258 = .ok (.invokevirtual 48, 3) := by decide +kernel
theorem d_L_law_261 : decode code 261 = .ok (.if_icmp .eq 64, 3) := by decide +kernel
theorem d_L_law_264 : decode code 264 = .ok (.iconst 0, 1) := by decide +kernel
theorem d_L_law_265 : decode code 265 = .ok (.ireturn, 1) := by decide +kernel
theorem d_L_law_266 : decode code 266 = .ok (.aload_n 1, 1) := by decide +kernel
theorem d_L_law_267 : decode code 267 = .ok (.invokevirtual 49, 3) := by decide +kernel
theorem d_L_law_270 : decode code 270 = .ok (.aload_n 2, 1) := by decide +kernel
theorem d_L_law_271 : decode code 271 = .ok (.invokevirtual 52, 3) := by decide +kernel
theorem d_L_law_274 : decode code 274 = .ok (.if_icmp .eq 51, 3) := by decide +kernel
theorem d_L_law_277 : decode code 277 = .ok (.iconst 0, 1) := by decide +kernel
theorem d_L_law_278 : decode code 278 = .ok (.ireturn, 1) := by decide +kernel
theorem d_L_law_279 : decode code 279 = .ok (.aload_n 1, 1) := by decide +kernel
theorem d_L_law_280 : decode code 280 = .ok (.aload_n 0, 1) := by decide +kernel
theorem d_L_law_281 : decode code 281 = .ok (.iload_n 3, 1) := by decide +kernel
theorem d_L_law_282 : decode code 282 = .ok (.iconst 1, 1) := by decide +kernel
theorem d_L_law_283 : decode code 283 = .ok (.iadd, 1) := by decide +kernel
theorem d_L_law_284 : decode code 284 = .ok (.iaload, 1) := by decide +kernel
theorem d_L_law_285 : decode code 285 = .ok (.invokevirtual 53, 3) := by decide +kernel
theorem d_L_law_288 : decode code 288 = .ok (.aload_n 2, 1) := by decide +kernel
theorem d_L_law_289 : decode code 289 = .ok (.aload_n 0, 1) := by decide +kernel
theorem d_L_law_290 : decode code 290 = .ok (.iload_n 3, 1) := by decide +kernel
theorem d_L_law_291 : decode code 291 = .ok (.iconst 1, 1) := by decide +kernel
theorem d_L_law_292 : decode code 292 = .ok (.iadd, 1) := by decide +kernel
theorem d_L_law_293 : decode code 293 = .ok (.iaload, 1) := by decide +kernel
theorem d_L_law_294 : decode code 294 = .ok (.invokevirtual 56, 3) := by decide +kernel
theorem d_L_law_297 : decode code 297 = .ok (.if_icmp .eq 28, 3) := by decide +kernel
theorem d_L_law_300 : decode code 300 = .ok (.iconst 0, 1) := by decide +kernel
theorem d_L_law_301 : decode code 301 = .ok (.ireturn, 1) := by decide +kernel
theorem d_L_law_302 : decode code 302 = .ok (.aload_n 1, 1) := by decide +kernel
theorem d_L_law_303 : decode code 303 = .ok (.aload_n 0, 1) := by decide +kernel
theorem d_L_law_304 : decode code 304 = .ok (.iload_n 3, 1) := by decide +kernel
theorem d_L_law_305 : decode code 305 = .ok (.iconst 1, 1) := by decide +kernel
theorem d_L_law_306 : decode code 306 = .ok (.iadd, 1) := by decide +kernel
theorem d_L_law_307 : decode code 307 = .ok (.iaload, 1) := by decide +kernel
theorem d_L_law_308 : decode code 308 = .ok (.invokevirtual 57, 3) := by decide +kernel
theorem d_L_law_311 : decode code 311 = .ok (.aload_n 2, 1) := by decide +kernel
theorem d_L_law_312 : decode code 312 = .ok (.aload_n 0, 1) := by decide +kernel
theorem d_L_law_313 : decode code 313 = .ok (.iload_n 3, 1) := by decide +kernel
theorem d_L_law_314 : decode code 314 = .ok (.iconst 1, 1) := by decide +kernel
theorem d_L_law_315 : decode code 315 = .ok (.iadd, 1) := by decide +kernel
theorem d_L_law_316 : decode code 316 = .ok (.iaload, 1) := by decide +kernel
theorem d_L_law_317 : decode code 317 = .ok (.invokevirtual 60, 3) := by decide +kernel
theorem d_L_law_320 : decode code 320 = .ok (.if_icmp .eq 5, 3) := by decide +kernel
theorem d_L_law_323 : decode code 323 = .ok (.iconst 0, 1) := by decide +kernel
theorem d_L_law_324 : decode code 324 = .ok (.ireturn, 1) := by decide +kernel
theorem d_L_law_325 : decode code 325 = .ok (.iinc 3 6, 3) := by decide +kernel
theorem d_L_law_328 : decode code 328 = .ok (.goto (-310), 3) := by decide +kernel
theorem d_L_law_331 : decode code 331 = .ok (.iconst 1, 1) := by decide +kernel
theorem d_L_law_332 : decode code 332 = .ok (.ireturn, 1) := by decide +kernel
end
section
abbrev nJS : Nat := 2
def lenJS : List Nat := [7, 8]
def bytJS : List (List Int32) := [[97, 98, 116, 110, 118, 102, 114], [34, 36, 59, 91, 92, 93, 123, 125]]
abbrev own0JS : String := "ListWords"
abbrev ix0JS : Nat := 94
abbrev tx0JS : String := "abtnvfr"
abbrev own1JS : String := "ListWords"
abbrev ix1JS : Nat := 137
abbrev tx1JS : String := "\"$;[\\]{}"
/-! ZS: the String constants of the class (their objects, their bytes), and String.COMPACT_STRINGS: what nobody writes -/
abbrev zT : Type := (Nat → Nat) × (Nat → Nat) × Value
def ZS (zz : zT) (A : Nat → Prop) (U : State) (H : Heap) : Prop :=
  vk_S nJS lenJS bytJS zz.1 zz.2.1 A U H ∧ (vk_R own0JS ix0JS tx0JS (zz.1 0) U ∧ vk_R own1JS ix1JS tx1JS (zz.1 1) U) ∧ va_Z "java/lang/String" "COMPACT_STRINGS" "Z" (.int 1) A U H ∧ va_Z "jdk/internal/util/Preconditions" "SIOOBE_FORMATTER" "Ljava/util/function/BiFunction;" zz.2.2 A U H ∧ (zz.2.2 = .null ∨ ∃ t, zz.2.2 = .ref t)
theorem ZS_same {zz : zT} {A : Nat → Prop} {u U : State} {H : Heap} (hv : U.vm = u.vm) (h : ZS zz A u H) : ZS zz A U H :=
  ⟨vk_S.moved (by rw [hv]; exact Vm.Alike.refl _) h.1, ⟨vk_R.same hv h.2.1.1, vk_R.same hv h.2.1.2⟩, va_Z.moved (by rw [hv]; exact Vm.Alike.refl _) h.2.2.1, va_Z.moved (by rw [hv]; exact Vm.Alike.refl _) h.2.2.2.1, h.2.2.2.2⟩
theorem ZS_warm {zz : zT} {A : Nat → Prop} {s U : State} {H : Heap} (hW : s.WarmedH U.vm) (h : ZS zz A s H) : ZS zz A U H :=
  ⟨vk_S.moved hW.alike h.1, ⟨vk_R.warm hW h.2.1.1, vk_R.warm hW h.2.1.2⟩, va_Z.moved hW.alike h.2.2.1, va_Z.moved hW.alike h.2.2.2.1, h.2.2.2.2⟩
theorem ZS_kept {zz : zT} {A : Nat → Prop} {U : State} {H H1 : Heap} (h : ZS zz A U H) (hq : ∀ a : Nat, a < H.size → ¬ A a → H1[a]? = H[a]?) : ZS zz A U H1 :=
  ⟨h.1.kept hq, h.2.1, h.2.2.1.kept hq, h.2.2.2.1.kept hq, h.2.2.2.2⟩
theorem ZS_narrow {zz : zT} {A B : Nat → Prop} {U : State} {H : Heap} (h : ZS zz A U H) (hAB : ∀ q, B q → A q) : ZS zz B U H :=
  ⟨h.1.narrow hAB, h.2.1, h.2.2.1.narrow hAB, h.2.2.2.1.narrow hAB, h.2.2.2.2⟩
theorem ZS_ldc0 {zz : zT} {A : Nat → Prop} {U : State} {H : Heap} (h : ZS zz A U H) : vk_R own0JS ix0JS tx0JS (zz.1 0) U := h.2.1.1
theorem ZS_ldc1 {zz : zT} {A : Nat → Prop} {U : State} {H : Heap} (h : ZS zz A U H) : vk_R own1JS ix1JS tx1JS (zz.1 1) U := h.2.1.2
theorem ZS_compact {zz : zT} {A : Nat → Prop} {U : State} {H : Heap} (h : ZS zz A U H) : va_Z "java/lang/String" "COMPACT_STRINGS" "Z" (.int 1) A U H := h.2.2.1
theorem ZS_form {zz : zT} {A : Nat → Prop} {U : State} {H : Heap} (h : ZS zz A U H) : va_Z "jdk/internal/util/Preconditions" "SIOOBE_FORMATTER" "Ljava/util/function/BiFunction;" zz.2.2 A U H := h.2.2.2.1
theorem ZS_fm {zz : zT} {A : Nat → Prop} {U : State} {H : Heap} (h : ZS zz A U H) : zz.2.2 = .null ∨ ∃ t, zz.2.2 = .ref t := h.2.2.2.2
theorem ZS_value {zz : zT} {A : Nat → Prop} {U : State} {H : Heap} (h : ZS zz A U H) {k : Nat} (hk : k < nJS) : va_OF "java/lang/String" "value" "[B" (.ref (zz.2.1 k)) (zz.1 k) A U H := (h.1.1 k hk).2.2.1
theorem ZS_coder {zz : zT} {A : Nat → Prop} {U : State} {H : Heap} (h : ZS zz A U H) {k : Nat} (hk : k < nJS) : va_OF "java/lang/String" "coder" "B" (.int 0) (zz.1 k) A U H := (h.1.1 k hk).2.1
theorem ZS_bytes {zz : zT} {A : Nat → Prop} {U : State} {H : Heap} (h : ZS zz A U H) {k : Nat} (hk : k < nJS) : va_T .byte (zz.2.1 k) (lenJS.getD k 0) (fun j => .int ((bytJS.getD k []).getD j 0)) A U H := (h.1.1 k hk).2.2.2
theorem ZS_recv {zz : zT} {A : Nat → Prop} {s : State} {H : Heap} {locs : List Loc} (h : ZS zz A s s.heap) {k : Nat} (hk : k < nJS) (hS : va_S A s.heap H locs) : ∃ cell : Cell, H[zz.1 k]? = some cell ∧ cell.vm.isStatics = false ∧ s.vm.findClass "java/lang/String" = some cell.cls := vk_recv h.1 hk hS

/-! BASE: the pure side's small rows, contracts in one form, calls in one row. Needs: lw_tbl (PART A), classes, ZS (strings and statics that nobody writes). -/
theorem iteP {c : Prop} {i : Decidable c} {α : Type} {a b : Option α} {r : α} (hc : c) (h : @ite _ c i a b = some r) : a = some r := by
  rw [if_pos hc] at h
  exact h
theorem iteN {c : Prop} {i : Decidable c} {α : Type} {a b : Option α} {r : α} (hc : ¬ c) (h : @ite _ c i a b = some r) : b = some r := by
  rw [if_neg hc] at h
  exact h
theorem guardN {c : Prop} {i : Decidable c} {α : Type} {a : Option α} {r : α} (h : @ite _ c i none a = some r) : ¬ c ∧ a = some r := by
  by_cases hc : c
  · rw [if_pos hc] at h
    cases h
  · rw [if_neg hc] at h
    exact ⟨hc, h⟩
theorem guard5 {a b c : Prop} {n0 n1 x y : Nat} (h : ¬ (a ∨ b ∨ c ∨ n0 < x ∨ n1 < y)) : ¬ a ∧ ¬ b ∧ ¬ c ∧ x ≤ n0 ∧ y ≤ n1 :=
  ⟨fun q => h (Or.inl q), fun q => h (Or.inr (Or.inl q)), fun q => h (Or.inr (Or.inr (Or.inl q))), Nat.not_lt.mp fun q => h (Or.inr (Or.inr (Or.inr (Or.inl q)))), Nat.not_lt.mp fun q => h (Or.inr (Or.inr (Or.inr (Or.inr q))))⟩
theorem bindS {α β : Type} {x : Option α} {f : α → Option β} {b : β} (h : x.bind f = some b) : ∃ a, x = some a ∧ f a = some b := by
  cases x with
  | none => cases h
  | some a => exact ⟨a, rfl, h⟩
theorem noneS {α : Type} {r : α} {P : Prop} (h : (none : Option α) = some r) : P := by cases h
theorem nb01 {v : Int32} (h : ¬ ¬ (v = 0 ∨ v = 1)) : narrow .boolean (.int v) = .int v := by
  rcases Classical.not_not.mp h with rfl | rfl <;> rfl
theorem sw_def {x : Int32} {lo : Int} {n : Nat} {offs : Array Int} {d : Int} (sp : List Nat) (hd : ∀ j, j < n → offs[j]? = some d ∨ j ∈ sp) (hx : ∀ j ∈ sp, ¬ x.toInt = lo + (j : Int)) (h1 : ¬ x.toInt < lo) (h2 : x.toInt < lo + n) : offs[(x.toInt - lo).toNat]? = some d := by
  have hj : (x.toInt - lo).toNat < n := by omega
  rcases hd _ hj with h | h
  · exact h
  · exact absurd (by omega) (hx _ h)
/-- what a walk knows of the machine and of the method that runs -/
def Cx (p : Program) (s : State) (m : MethodId) (args : Array Value) (meth : Method) (c : Code) (cc : ByteArray) (own : String) (nL : Nat) (rt : Option FieldType) : Prop :=
  p.tables.exec = Jvm.exec ∧ c.code = cc ∧ meth.sig.returnType = rt ∧ c.maxLocals = nL ∧ s.vm.findClass own = some m.cls ∧ (∀ w ∈ wG, w.before args s = true) ∧ meth.locks = false
/-- a contract's start: its cells, the classes, what nobody writes -/
def pW (D : va_G) (cA : ClassId) (zz : zT) (sz : Nat) (wc : va_W) : State → Prop := fun U => U.heap.size = sz ∧ va_P D classes wc U.heap ∧ va_K D classes [(cA, .int)] U ∧ va_D (fun _ => True) wc ∧ ZS zz (va_A wc sz) U U.heap
/-- and its end -/
def qB (D : va_G) (cA : ClassId) (A : Nat → Prop) (wN : va_W) : Unit → State → Prop := fun _ t => va_P D classes wN t.heap ∧ va_K D classes [(cA, .int)] t ∧ va_D A wN
abbrev qI (ty : FieldType) (D : va_G) (cA : ClassId) (A : Nat → Prop) (r : Int32) (wN : va_W) : Array Value → State → Outcome → State → Prop := va_Qi (fun r' (_ : Unit) => r' = r ∧ narrow ty (.int r') = .int r') (qB D cA A wN) A
abbrev qV (D : va_G) (cA : ClassId) (A : Nat → Prop) (wN : va_W) : Array Value → State → Outcome → State → Prop := va_Qv (fun (_ : Unit) => True) (qB D cA A wN) A
abbrev QI (ty : FieldType) (below : List Frame) (args : Array Value) (s : State) (D : va_G) (cA : ClassId) (A : Nat → Prop) (r : Int32) (wN : va_W) : State → Prop := MQ below (qI ty D cA A r wN) args s 0 0 A
abbrev QV (below : List Frame) (args : Array Value) (s : State) (D : va_G) (cA : ClassId) (A : Nat → Prop) (wN : va_W) : State → Prop := MQ below (qV D cA A wN) args s 0 0 A
/-- a contract without new cells: int-like answer; void -/
def MI (l : Launch) (D : va_G) (cA : ClassId) (zz : zT) (y : MethodName) (cc : ByteArray) (mx : Nat) (ty : FieldType) (rm : Room) (av : List Value) (wc : va_W) (r : Int32) (wN : va_W) : Prop :=
  ∀ sz : Nat, Met l y (Cond.code y cc mx (some ty) :: wG) rm (va_Pc av (pW D cA zz sz wc)) (qI ty D cA (va_A wc sz) r wN) 0 0 (va_A wc sz)
def MV (l : Launch) (D : va_G) (cA : ClassId) (zz : zT) (y : MethodName) (cc : ByteArray) (mx : Nat) (rm : Room) (av : List Value) (wc wN : va_W) : Prop :=
  ∀ sz : Nat, Met l y (Cond.code y cc mx none :: wG) rm (va_Pc av (pW D cA zz sz wc)) (qV D cA (va_A wc sz) wN) 0 0 (va_A wc sz)
section RET
variable {p : Program} {l : Launch} {e : Env} {R : Room} {s : State} {m : MethodId} {args : Array Value} {below : List Frame} {meth : Method} {c : Code} {H : Heap} {locs : List Loc} {cc : ByteArray} {pc : Nat} {ls : Array Slot} {D : va_G} {cA : ClassId} {A : Nat → Prop} {own : String} {nL : Nat}
theorem rI {ty : FieldType} {v : Int32} {wN : va_W} (C0 : Cx p s m args meth c cc own nL (some ty)) (hn : narrow ty (.int v) = .int v) (hK : va_K D classes [(cA, .int)] s) (hP : va_P D classes wN H) (hD : va_D A wN) (hS : va_S A s.heap H locs) (hdg : decode cc pc = .ok (.ireturn, 1)) :
    W p l e R s m args below meth c H locs 0 0 (QI ty below args s D cA A v wN) (F0 m pc ls [.int v]) := by
  obtain ⟨hx, hb, hr, hml, hown, hG, hlk⟩ := C0
  exact W.zret (v := v) hx hb hr hn (fun t ht hW => ⟨⟨v, (), rfl, ⟨rfl, hn⟩, by rw [ht]; exact hP, va_K.moved hW.alike hK, hD⟩, hS.F ht⟩) hS.2.2 hdg
theorem rV {wN : va_W} (C0 : Cx p s m args meth c cc own nL none) (hK : va_K D classes [(cA, .int)] s) (hP : va_P D classes wN H) (hD : va_D A wN) (hS : va_S A s.heap H locs) (hdg : decode cc pc = .ok (.return_, 1)) :
    W p l e R s m args below meth c H locs 0 0 (QV below args s D cA A wN) (F0 m pc ls []) := by
  obtain ⟨hx, hb, hr, hml, hown, hG, hlk⟩ := C0
  exact W.vret hx hb hr (fun t ht hW => ⟨⟨(), rfl, trivial, by rw [ht]; exact hP, va_K.moved hW.alike hK, hD⟩, hS.F ht⟩) hS.2.2 hdg
end RET
theorem MI_enter {l : Launch} {D : va_G} {cA : ClassId} {zz : zT} {y : MethodName} {cc : ByteArray} {mx : Nat} {ty : FieldType} {rm : Room} {av : List Value} {wc wN : va_W} {r0 : Int32} (hy : plainName y.cls = true) (hav : (lg_sl av).length ≤ mx)
    (body : ∀ (p : Program) (e : Env) (s : State) (m : MethodId) (below : List Frame) (meth : Method) (c : Code) (A : Nat → Prop) (ls : Array Slot), Cx p s m av.toArray meth c cc y.cls mx (some ty) → va_K D classes [(cA, .int)] s → (∀ q : Nat, s.heap.size ≤ q → A q) → ZS zz A s s.heap → va_P D classes wc s.heap → va_D A wc → lv_has ls mx (lv_args 0 av) →
      W p l e rm s m av.toArray below meth c s.heap [] 0 0 (QI ty below av.toArray s D cA A r0 wN) (F0 m 0 ls [])) : MI l D cA zz y cc mx ty rm av wc r0 wN := by
  intro sz
  refine Met.ofW (cc := cc) (maxL := mx) (ret := some ty) hy rfl ?_
  intro p e s m args below meth c s₁ B hml hv
  obtain ⟨rfl, hsz, hP, hK, hD0, hZ⟩ := hv
  subst hsz
  have hts := atoms_spec (ws := Cond.code y cc mx (some ty) :: wG) B.pre
  rw [lg_entry_eq]
  exact body p e s m below meth c (va_A wc s.heap.size) _ ⟨B.exec, B.bytes, B.returns, hml, findClass_of_methodNamed B.named, fun w h => hts w (List.mem_cons_of_mem _ h), B.notSynchronized⟩ hK (fun q h => Or.inr h) hZ hP hD0.self (lv_entry av hav)
theorem MV_enter {l : Launch} {D : va_G} {cA : ClassId} {zz : zT} {y : MethodName} {cc : ByteArray} {mx : Nat} {rm : Room} {av : List Value} {wc wN : va_W} (hy : plainName y.cls = true) (hav : (lg_sl av).length ≤ mx)
    (body : ∀ (p : Program) (e : Env) (s : State) (m : MethodId) (below : List Frame) (meth : Method) (c : Code) (A : Nat → Prop) (ls : Array Slot), Cx p s m av.toArray meth c cc y.cls mx none → va_K D classes [(cA, .int)] s → (∀ q : Nat, s.heap.size ≤ q → A q) → ZS zz A s s.heap → va_P D classes wc s.heap → va_D A wc → lv_has ls mx (lv_args 0 av) →
      W p l e rm s m av.toArray below meth c s.heap [] 0 0 (QV below av.toArray s D cA A wN) (F0 m 0 ls [])) : MV l D cA zz y cc mx rm av wc wN := by
  intro sz
  refine Met.ofW (cc := cc) (maxL := mx) (ret := none) hy rfl ?_
  intro p e s m args below meth c s₁ B hml hv
  obtain ⟨rfl, hsz, hP, hK, hD0, hZ⟩ := hv
  subst hsz
  have hts := atoms_spec (ws := Cond.code y cc mx none :: wG) B.pre
  rw [lg_entry_eq]
  exact body p e s m below meth c (va_A wc s.heap.size) _ ⟨B.exec, B.bytes, B.returns, hml, findClass_of_methodNamed B.named, fun w h => hts w (List.mem_cons_of_mem _ h), B.notSynchronized⟩ hK (fun q h => Or.inr h) hZ hP hD0.self (lv_entry av hav)
/-- what the tables say of a call: of an instance method, of a static one -/
def LkV (own : String) (idx : Nat) (y : MethodName) (cc : ByteArray) (mx : Nat) (rt : Option FieldType) (n : Nat) : Prop :=
  Cond.methodLink own idx y ∈ wG ∧ Cond.instanceMethod y ∈ wG ∧ Cond.selects y.cls y y ∈ wG ∧ Cond.initialized y.cls ∈ wG ∧ Cond.code y cc mx rt ∈ wG ∧ (y.cls ≠ "java/lang/invoke/MethodHandle" ∧ y.cls ≠ "java/lang/invoke/VarHandle" ∧ (parseMethodDescriptor y.desc).map (fun d => d.parameters.length) = some n)
def LkS (own : String) (idx : Nat) (y : MethodName) (cc : ByteArray) (mx : Nat) (rt : Option FieldType) (n : Nat) : Prop :=
  Cond.methodLink own idx y ∈ wG ∧ Cond.static y ∈ wG ∧ Cond.initialized y.cls ∈ wG ∧ Cond.code y cc mx rt ∈ wG ∧ (y.cls ≠ "java/lang/invoke/MethodHandle" ∧ y.cls ≠ "java/lang/invoke/VarHandle" ∧ (parseMethodDescriptor y.desc).map (fun d => d.parameters.length) = some n)
theorem gG {y : MethodName} {cc : ByteArray} {mx : Nat} {rt : Option FieldType} (h : Cond.code y cc mx rt ∈ wG) : GoodIn wG (Cond.code y cc mx rt :: wG) := by
  intro w hw
  rcases List.mem_cons.mp hw with rfl | hw
  · exact ⟨h, Or.inl rfl⟩
  · exact ⟨hw, wG_good w hw⟩
theorem pW_blind {av : List Value} {D : va_G} {cA : ClassId} {zz : zT} {sz : Nat} {wc : va_W} : FrameBlind (va_Pc av (pW D cA zz sz wc)) := by
  intro a U g mk q
  obtain ⟨q0, q1, qP, qK, qD, qZ⟩ := q
  exact ⟨q0, q1, qP, va_K.moved (u := U) (U := U.calling g mk a) (Vm.Alike.refl U.vm) qK, qD, ZS_same (u := U) (U := U.calling g mk a) rfl qZ⟩
section CALL
variable {p : Program} {l : Launch} {e : Env} {R : Room} {s : State} {m : MethodId} {args : Array Value} {below : List Frame} {meth : Method} {c : Code} {H : Heap} {locs : List Loc} {cells slots : Nat} {Q : State → Prop}
variable {cc : ByteArray} {pc nL : Nat} {ls : Array Slot} {rest As : List Value} {D : va_G} {cA : ClassId} {zz : zT} {A : Nat → Prop} {own : String} {rt : Option FieldType} {ws wc wr w1 wN : va_W}
variable {y : MethodName} {ci : ByteArray} {mx idx n b : Nat} {ty : FieldType} {rm : Room} {r : Int32} {st0 : List Value}
theorem pre_at (hK : va_K D classes [(cA, .int)] s) (hP : va_P D classes ws H) (hD : va_D A ws) (hS : va_S A s.heap H locs) (hA : ∀ q : Nat, s.heap.size ≤ q → A q) (hZ : ZS zz A s s.heap) (isC : List Nat) (hC : isC.map (fun i => ws[i]?) = wc.map some) (hCn : va_nd isC = true) {av : List Value} : ∀ U : State, U.heap = H → s.WarmedH U.vm → va_Pc av (pW D cA zz H.size wc) av.toArray U := by
  intro U hU hW
  have hPc : va_P D classes wc H := by
    intro k q hq
    have h1 : (isC.map (fun i => ws[i]?))[k]? = some (some q) := by rw [hC, List.getElem?_map, hq]; rfl
    rw [List.getElem?_map] at h1
    cases hi : isC[k]? with
    | none => rw [hi] at h1; cases h1
    | some i => rw [hi] at h1; exact hP i q (Option.some.inj h1)
  have hFc := va_free (wc := wc) hD hS hA isC hC
  refine ⟨rfl, by rw [hU], by rw [hU]; exact hPc, va_K.moved hW.alike hK, (hD.sub isC hCn hC).weaken (fun _ _ _ _ => trivial), ?_⟩
  rw [hU]
  exact ZS_warm hW (ZS_narrow (ZS_kept hZ (fun a h1 h2 => hS.2.1 a h1 h2)) hFc)
theorem call_ki (C0 : Cx p s m args meth c cc own nL rt) (hK : va_K D classes [(cA, .int)] s) (hP : va_P D classes ws H) (hD : va_D A ws) (hS : va_S A s.heap H locs) (hA : ∀ q : Nat, s.heap.size ≤ q → A q) (hZ : ZS zz A s s.heap) (hM : MI l D cA zz y ci mx ty rm (.ref b :: As) wc r w1)
    (isC isR isN : List Nat) (hC : isC.map (fun i => ws[i]?) = wc.map some) (hCn : va_nd isC = true) (hR : isR.map (fun i => ws[i]?) = wr.map some) (hRn : va_nd isR = true) (hdis : ∀ i ∈ isR, i ∉ isC) (hN : isN.map (fun i => (wr ++ w1)[i]?) = wN.map some) (hNn : va_nd isN = true)
    (hrecv : ∃ cell : Cell, H[b]? = some cell ∧ cell.vm.isStatics = false ∧ s.vm.findClass y.cls = some cell.cls) (lk : LkV own idx y ci mx (some ty) n) (hroom : rm.frames + 1 ≤ R.frames ∧ 8 + (mx + 11) + rm.locals ≤ R.locals) (hcs : rm.cells = 0 ∧ rm.slots = 0) (hn : As.length = n) (hsz : ls.size = nL) (hst : st0 = As.reverse ++ .ref b :: rest) (hrest : (rest.map fun v => v.category).sum ≤ 8) (hcl : cells ≤ R.cells ∧ slots ≤ R.slots)
    (hdg : decode cc pc = .ok (.invokevirtual idx, 3))
    (kk : narrow ty (.int r) = .int r → ∀ (H1 : Heap) (locs1 : List Loc), va_P D classes wN H1 → va_D A wN → va_S A s.heap H1 locs1 → W p l e R s m args below meth c H1 locs1 cells slots Q (F0 m (pc + 3) ls (.int r :: rest))) : W p l e R s m args below meth c H locs cells slots Q (F0 m pc ls st0) := by
  obtain ⟨hx, hb, hr, hml, hown, hG, hlk⟩ := C0
  obtain ⟨k1, k2, k3, k4, k5, k6⟩ := lk
  have hFc := va_free (wc := wc) hD hS hA isC hC
  have pre := pre_at (av := .ref b :: As) hK hP hD hS hA hZ isC hC hCn
  refine va_calli (va_runV (As := As) (rest := rest) ⟨hx, hb, hml, hown, hG⟩ (hM H.size) ⟨callB_of n hG (gG k5) rfl hcs.1 hcs.2 (hG _ k4) (hG _ k1) k6 hroom, hG _ k2, hG _ k3⟩ ⟨pW_blind, hrecv, pre⟩ rfl hn hsz hst (lv_room hrest) hdg hcl) hS (fun q _ h => hFc q h) hFc (fun r' u t H1 locs1 ht hvm hw hB hz1 hk1 hS1 => ?_)
  obtain ⟨rfl, hw2⟩ := hw
  obtain ⟨hP1, hK1, hD1⟩ := hB
  rw [ht] at hP1
  obtain ⟨hPj, hDj⟩ := va_join (wr := wr) (w1 := w1) hP hD isC isR hC hR hRn hdis hk1 hFc hP1 hD1
  refine kk hw2 H1 locs1 ?_ (hDj.sub isN hNn hN) hS1
  intro k q hq
  have h1 : (isN.map (fun i => (wr ++ w1)[i]?))[k]? = some (some q) := by rw [hN, List.getElem?_map, hq]; rfl
  rw [List.getElem?_map] at h1
  cases hi : isN[k]? with
  | none => rw [hi] at h1; cases h1
  | some i => rw [hi] at h1; exact hPj i q (Option.some.inj h1)
theorem call_vi (C0 : Cx p s m args meth c cc own nL rt) (hK : va_K D classes [(cA, .int)] s) (hP : va_P D classes ws H) (hD : va_D A ws) (hS : va_S A s.heap H locs) (hA : ∀ q : Nat, s.heap.size ≤ q → A q) (hZ : ZS zz A s s.heap) (hM : MI l D cA zz y ci mx ty rm (.ref b :: As) wc r w1)
    (isC isR isN : List Nat) (hC : isC.map (fun i => ws[i]?) = wc.map some) (hCn : va_nd isC = true) (hR : isR.map (fun i => ws[i]?) = wr.map some) (hRn : va_nd isR = true) (hdis : ∀ i ∈ isR, i ∉ isC) (hN : isN.map (fun i => (wr ++ w1)[i]?) = wN.map some) (hNn : va_nd isN = true)
    (q0 cj : Nat) {fs : List Value} {T : u_T} {NN : Nat} (he : wc[q0]? = some (b, .inr (cj, fs))) (hcj : classes[cj]? = some (y.cls, T, NN)) (lk : LkV own idx y ci mx (some ty) n) (hroom : rm.frames + 1 ≤ R.frames ∧ 8 + (mx + 11) + rm.locals ≤ R.locals) (hcs : rm.cells = 0 ∧ rm.slots = 0) (hn : As.length = n) (hsz : ls.size = nL) (hst : st0 = As.reverse ++ .ref b :: rest) (hrest : (rest.map fun v => v.category).sum ≤ 8) (hcl : cells ≤ R.cells ∧ slots ≤ R.slots)
    (hdg : decode cc pc = .ok (.invokevirtual idx, 3))
    (kk : narrow ty (.int r) = .int r → ∀ (H1 : Heap) (locs1 : List Loc), va_P D classes wN H1 → va_D A wN → va_S A s.heap H1 locs1 → W p l e R s m args below meth c H1 locs1 cells slots Q (F0 m (pc + 3) ls (.int r :: rest))) : W p l e R s m args below meth c H locs cells slots Q (F0 m pc ls st0) := by
  obtain ⟨hx, hb, hr, hml, hown, hG, hlk⟩ := C0
  obtain ⟨k1, k2, k3, k4, k5, k6⟩ := lk
  have hFc := va_free (wc := wc) hD hS hA isC hC
  have pre := pre_at (av := .ref b :: As) hK hP hD hS hA hZ isC hC hCn
  have hPc : va_P D classes wc H := by
    intro k q hq
    have h1 : (isC.map (fun i => ws[i]?))[k]? = some (some q) := by rw [hC, List.getElem?_map, hq]; rfl
    rw [List.getElem?_map] at h1
    cases hi : isC[k]? with
    | none => rw [hi] at h1; cases h1
    | some i => rw [hi] at h1; exact hP i q (Option.some.inj h1)
  refine va_calli (va_runV (As := As) (rest := rest) ⟨hx, hb, hml, hown, hG⟩ (hM H.size) ⟨callB_of n hG (gG k5) rfl hcs.1 hcs.2 (hG _ k4) (hG _ k1) k6 hroom, hG _ k2, hG _ k3⟩ ⟨pW_blind, va_recv hK hPc (ci := cj) (q0 := q0) hcj he, pre⟩ rfl hn hsz hst (lv_room hrest) hdg hcl) hS (fun q _ h => hFc q h) hFc (fun r' u t H1 locs1 ht hvm hw hB hz1 hk1 hS1 => ?_)
  obtain ⟨rfl, hw2⟩ := hw
  obtain ⟨hP1, hK1, hD1⟩ := hB
  rw [ht] at hP1
  obtain ⟨hPj, hDj⟩ := va_join (wr := wr) (w1 := w1) hP hD isC isR hC hR hRn hdis hk1 hFc hP1 hD1
  refine kk hw2 H1 locs1 ?_ (hDj.sub isN hNn hN) hS1
  intro k q hq
  have h1 : (isN.map (fun i => (wr ++ w1)[i]?))[k]? = some (some q) := by rw [hN, List.getElem?_map, hq]; rfl
  rw [List.getElem?_map] at h1
  cases hi : isN[k]? with
  | none => rw [hi] at h1; cases h1
  | some i => rw [hi] at h1; exact hPj i q (Option.some.inj h1)
theorem call_vv (C0 : Cx p s m args meth c cc own nL rt) (hK : va_K D classes [(cA, .int)] s) (hP : va_P D classes ws H) (hD : va_D A ws) (hS : va_S A s.heap H locs) (hA : ∀ q : Nat, s.heap.size ≤ q → A q) (hZ : ZS zz A s s.heap) (hM : MV l D cA zz y ci mx rm (.ref b :: As) wc w1)
    (isC isR isN : List Nat) (hC : isC.map (fun i => ws[i]?) = wc.map some) (hCn : va_nd isC = true) (hR : isR.map (fun i => ws[i]?) = wr.map some) (hRn : va_nd isR = true) (hdis : ∀ i ∈ isR, i ∉ isC) (hN : isN.map (fun i => (wr ++ w1)[i]?) = wN.map some) (hNn : va_nd isN = true)
    (q0 cj : Nat) {fs : List Value} {T : u_T} {NN : Nat} (he : wc[q0]? = some (b, .inr (cj, fs))) (hcj : classes[cj]? = some (y.cls, T, NN)) (lk : LkV own idx y ci mx none n) (hroom : rm.frames + 1 ≤ R.frames ∧ 8 + (mx + 11) + rm.locals ≤ R.locals) (hcs : rm.cells = 0 ∧ rm.slots = 0) (hn : As.length = n) (hsz : ls.size = nL) (hst : st0 = As.reverse ++ .ref b :: rest) (hrest : (rest.map fun v => v.category).sum ≤ 8) (hcl : cells ≤ R.cells ∧ slots ≤ R.slots)
    (hdg : decode cc pc = .ok (.invokevirtual idx, 3))
    (kk : ∀ (H1 : Heap) (locs1 : List Loc), va_P D classes wN H1 → va_D A wN → va_S A s.heap H1 locs1 → W p l e R s m args below meth c H1 locs1 cells slots Q (F0 m (pc + 3) ls rest)) : W p l e R s m args below meth c H locs cells slots Q (F0 m pc ls st0) := by
  obtain ⟨hx, hb, hr, hml, hown, hG, hlk⟩ := C0
  obtain ⟨k1, k2, k3, k4, k5, k6⟩ := lk
  have hFc := va_free (wc := wc) hD hS hA isC hC
  have pre := pre_at (av := .ref b :: As) hK hP hD hS hA hZ isC hC hCn
  have hPc : va_P D classes wc H := by
    intro k q hq
    have h1 : (isC.map (fun i => ws[i]?))[k]? = some (some q) := by rw [hC, List.getElem?_map, hq]; rfl
    rw [List.getElem?_map] at h1
    cases hi : isC[k]? with
    | none => rw [hi] at h1; cases h1
    | some i => rw [hi] at h1; exact hP i q (Option.some.inj h1)
  refine va_callv (va_runV (As := As) (rest := rest) ⟨hx, hb, hml, hown, hG⟩ (hM H.size) ⟨callB_of n hG (gG k5) rfl hcs.1 hcs.2 (hG _ k4) (hG _ k1) k6 hroom, hG _ k2, hG _ k3⟩ ⟨pW_blind, va_recv hK hPc (ci := cj) (q0 := q0) hcj he, pre⟩ rfl hn hsz hst (lv_room hrest) hdg hcl) hS (fun q _ h => hFc q h) hFc (fun u t H1 locs1 ht hvm hw hB hz1 hk1 hS1 => ?_)
  obtain ⟨hP1, hK1, hD1⟩ := hB
  rw [ht] at hP1
  obtain ⟨hPj, hDj⟩ := va_join (wr := wr) (w1 := w1) hP hD isC isR hC hR hRn hdis hk1 hFc hP1 hD1
  refine kk H1 locs1 ?_ (hDj.sub isN hNn hN) hS1
  intro k q hq
  have h1 : (isN.map (fun i => (wr ++ w1)[i]?))[k]? = some (some q) := by rw [hN, List.getElem?_map, hq]; rfl
  rw [List.getElem?_map] at h1
  cases hi : isN[k]? with
  | none => rw [hi] at h1; cases h1
  | some i => rw [hi] at h1; exact hPj i q (Option.some.inj h1)
theorem call_si (C0 : Cx p s m args meth c cc own nL rt) (hK : va_K D classes [(cA, .int)] s) (hP : va_P D classes ws H) (hD : va_D A ws) (hS : va_S A s.heap H locs) (hA : ∀ q : Nat, s.heap.size ≤ q → A q) (hZ : ZS zz A s s.heap) (hM : MI l D cA zz y ci mx ty rm As wc r w1)
    (isC isR isN : List Nat) (hC : isC.map (fun i => ws[i]?) = wc.map some) (hCn : va_nd isC = true) (hR : isR.map (fun i => ws[i]?) = wr.map some) (hRn : va_nd isR = true) (hdis : ∀ i ∈ isR, i ∉ isC) (hN : isN.map (fun i => (wr ++ w1)[i]?) = wN.map some) (hNn : va_nd isN = true)
    (lk : LkS own idx y ci mx (some ty) n) (hroom : rm.frames + 1 ≤ R.frames ∧ 8 + (mx + 11) + rm.locals ≤ R.locals) (hcs : rm.cells = 0 ∧ rm.slots = 0) (hn : As.length = n) (hsz : ls.size = nL) (hst : st0 = As.reverse ++ rest) (hrest : (rest.map fun v => v.category).sum ≤ 8) (hcl : cells ≤ R.cells ∧ slots ≤ R.slots)
    (hdg : decode cc pc = .ok (.invokestatic idx, 3))
    (kk : narrow ty (.int r) = .int r → ∀ (H1 : Heap) (locs1 : List Loc), va_P D classes wN H1 → va_D A wN → va_S A s.heap H1 locs1 → W p l e R s m args below meth c H1 locs1 cells slots Q (F0 m (pc + 3) ls (.int r :: rest))) : W p l e R s m args below meth c H locs cells slots Q (F0 m pc ls st0) := by
  obtain ⟨hx, hb, hr, hml, hown, hG, hlk⟩ := C0
  obtain ⟨k1, k2, k4, k5, k6⟩ := lk
  have hFc := va_free (wc := wc) hD hS hA isC hC
  have pre := pre_at (av := As) hK hP hD hS hA hZ isC hC hCn
  refine va_calli (va_runS (As := As) (rest := rest) ⟨hx, hb, hml, hown, hG⟩ (hM H.size) ⟨callB_of n hG (gG k5) rfl hcs.1 hcs.2 (hG _ k4) (hG _ k1) k6 hroom, hG _ k2⟩ ⟨pW_blind, pre⟩ rfl hn hsz hst (lv_room hrest) hdg hcl) hS (fun q _ h => hFc q h) hFc (fun r' u t H1 locs1 ht hvm hw hB hz1 hk1 hS1 => ?_)
  obtain ⟨rfl, hw2⟩ := hw
  obtain ⟨hP1, hK1, hD1⟩ := hB
  rw [ht] at hP1
  obtain ⟨hPj, hDj⟩ := va_join (wr := wr) (w1 := w1) hP hD isC isR hC hR hRn hdis hk1 hFc hP1 hD1
  refine kk hw2 H1 locs1 ?_ (hDj.sub isN hNn hN) hS1
  intro k q hq
  have h1 : (isN.map (fun i => (wr ++ w1)[i]?))[k]? = some (some q) := by rw [hN, List.getElem?_map, hq]; rfl
  rw [List.getElem?_map] at h1
  cases hi : isN[k]? with
  | none => rw [hi] at h1; cases h1
  | some i => rw [hi] at h1; exact hPj i q (Option.some.inj h1)
theorem call_sv (C0 : Cx p s m args meth c cc own nL rt) (hK : va_K D classes [(cA, .int)] s) (hP : va_P D classes ws H) (hD : va_D A ws) (hS : va_S A s.heap H locs) (hA : ∀ q : Nat, s.heap.size ≤ q → A q) (hZ : ZS zz A s s.heap) (hM : MV l D cA zz y ci mx rm As wc w1)
    (isC isR isN : List Nat) (hC : isC.map (fun i => ws[i]?) = wc.map some) (hCn : va_nd isC = true) (hR : isR.map (fun i => ws[i]?) = wr.map some) (hRn : va_nd isR = true) (hdis : ∀ i ∈ isR, i ∉ isC) (hN : isN.map (fun i => (wr ++ w1)[i]?) = wN.map some) (hNn : va_nd isN = true)
    (lk : LkS own idx y ci mx none n) (hroom : rm.frames + 1 ≤ R.frames ∧ 8 + (mx + 11) + rm.locals ≤ R.locals) (hcs : rm.cells = 0 ∧ rm.slots = 0) (hn : As.length = n) (hsz : ls.size = nL) (hst : st0 = As.reverse ++ rest) (hrest : (rest.map fun v => v.category).sum ≤ 8) (hcl : cells ≤ R.cells ∧ slots ≤ R.slots)
    (hdg : decode cc pc = .ok (.invokestatic idx, 3))
    (kk : ∀ (H1 : Heap) (locs1 : List Loc), va_P D classes wN H1 → va_D A wN → va_S A s.heap H1 locs1 → W p l e R s m args below meth c H1 locs1 cells slots Q (F0 m (pc + 3) ls rest)) : W p l e R s m args below meth c H locs cells slots Q (F0 m pc ls st0) := by
  obtain ⟨hx, hb, hr, hml, hown, hG, hlk⟩ := C0
  obtain ⟨k1, k2, k4, k5, k6⟩ := lk
  have hFc := va_free (wc := wc) hD hS hA isC hC
  have pre := pre_at (av := As) hK hP hD hS hA hZ isC hC hCn
  refine va_callv (va_runS (As := As) (rest := rest) ⟨hx, hb, hml, hown, hG⟩ (hM H.size) ⟨callB_of n hG (gG k5) rfl hcs.1 hcs.2 (hG _ k4) (hG _ k1) k6 hroom, hG _ k2⟩ ⟨pW_blind, pre⟩ rfl hn hsz hst (lv_room hrest) hdg hcl) hS (fun q _ h => hFc q h) hFc (fun u t H1 locs1 ht hvm hw hB hz1 hk1 hS1 => ?_)
  obtain ⟨hP1, hK1, hD1⟩ := hB
  rw [ht] at hP1
  obtain ⟨hPj, hDj⟩ := va_join (wr := wr) (w1 := w1) hP hD isC isR hC hR hRn hdis hk1 hFc hP1 hD1
  refine kk H1 locs1 ?_ (hDj.sub isN hNn hN) hS1
  intro k q hq
  have h1 : (isN.map (fun i => (wr ++ w1)[i]?))[k]? = some (some q) := by rw [hN, List.getElem?_map, hq]; rfl
  rw [List.getElem?_map] at h1
  cases hi : isN[k]? with
  | none => rw [hi] at h1; cases h1
  | some i => rw [hi] at h1; exact hPj i q (Option.some.inj h1)
end CALL
/-- a constructor's contract: cells come, their addresses are u -/
def MA {S : Type} (l : Launch) (D : va_G) (cA : ClassId) (zz : zT) (y : MethodName) (cc : ByteArray) (mx : Nat) (rm : Room) (av : List Value) (wc : va_W) (wN : S → va_W) (mc ms : Nat) : Prop :=
  ∀ sz : Nat, Met l y (Cond.code y cc mx none :: wG) rm (va_Pc av (pW D cA zz sz wc)) (va_Qv (fun (_ : S) => True) (fun u t => va_P D classes (wN u) t.heap ∧ va_K D classes [(cA, .int)] t ∧ va_D (va_A wc sz) (wN u)) (va_A wc sz)) mc ms (va_A wc sz)
def LkI (own : String) (idx : Nat) (y : MethodName) (cc : ByteArray) (mx : Nat) (n : Nat) : Prop :=
  Cond.methodLink own idx y ∈ wG ∧ Cond.instanceMethod y ∈ wG ∧ y.name = "<init>" ∧ Cond.initialized y.cls ∈ wG ∧ Cond.code y cc mx none ∈ wG ∧ (y.cls ≠ "java/lang/invoke/MethodHandle" ∧ y.cls ≠ "java/lang/invoke/VarHandle" ∧ (parseMethodDescriptor y.desc).map (fun d => d.parameters.length) = some n)
section CALLI
variable {p : Program} {l : Launch} {e : Env} {R : Room} {s : State} {m : MethodId} {args : Array Value} {below : List Frame} {meth : Method} {c : Code} {H : Heap} {locs : List Loc} {cells slots : Nat} {Q : State → Prop}
variable {cc : ByteArray} {pc nL : Nat} {ls : Array Slot} {rest As : List Value} {D : va_G} {cA : ClassId} {zz : zT} {A : Nat → Prop} {own : String} {rt : Option FieldType} {ws wc wr : va_W}
variable {y : MethodName} {ci : ByteArray} {mx idx n b mc ms : Nat} {rm : Room} {st0 : List Value}
theorem call_iv {S : Type} {w1 : S → va_W} (C0 : Cx p s m args meth c cc own nL rt) (hK : va_K D classes [(cA, .int)] s) (hP : va_P D classes ws H) (hD : va_D A ws) (hS : va_S A s.heap H locs) (hA : ∀ q : Nat, s.heap.size ≤ q → A q) (hZ : ZS zz A s s.heap) (hM : MA l D cA zz y ci mx rm (.ref b :: As) wc w1 mc ms)
    (isC isR : List Nat) (hC : isC.map (fun i => ws[i]?) = wc.map some) (hCn : va_nd isC = true) (hR : isR.map (fun i => ws[i]?) = wr.map some) (hRn : va_nd isR = true) (hdis : ∀ i ∈ isR, i ∉ isC)
    (lk : LkI own idx y ci mx n) (hroom : rm.frames + 1 ≤ R.frames ∧ 8 + (mx + 11) + rm.locals ≤ R.locals) (hcs : rm.cells = mc ∧ rm.slots = ms) (hn : As.length = n) (hsz : ls.size = nL) (hst : st0 = As.reverse ++ .ref b :: rest) (hrest : (rest.map fun v => v.category).sum ≤ 8) (hcl : cells + mc ≤ R.cells ∧ slots + ms ≤ R.slots)
    (hdg : decode cc pc = .ok (.invokespecial idx, 3))
    (kk : ∀ (u : S) (H1 : Heap) (locs1 : List Loc), va_P D classes (wr ++ w1 u) H1 → va_D A (wr ++ w1 u) → va_S A s.heap H1 locs1 → W p l e R s m args below meth c H1 locs1 (cells + mc) (slots + ms) Q (F0 m (pc + 3) ls rest)) : W p l e R s m args below meth c H locs cells slots Q (F0 m pc ls st0) := by
  obtain ⟨hx, hb, hr, hml, hown, hG, hlk⟩ := C0
  obtain ⟨k1, k2, k3, k4, k5, k6⟩ := lk
  have hFc := va_free (wc := wc) hD hS hA isC hC
  have pre := pre_at (av := .ref b :: As) hK hP hD hS hA hZ isC hC hCn
  refine va_callv (va_runI (As := As) (rest := rest) ⟨hx, hb, hml, hown, hG⟩ (hM H.size) ⟨callB_of n hG (gG k5) rfl hcs.1 hcs.2 (hG _ k4) (hG _ k1) k6 hroom, k3, hG _ k2⟩ ⟨pW_blind, pre⟩ rfl hn hsz hst (lv_room hrest) hdg hcl) hS (fun q _ h => hFc q h) hFc (fun u t H1 locs1 ht hvm hw hB hz1 hk1 hS1 => ?_)
  obtain ⟨hP1, hK1, hD1⟩ := hB
  rw [ht] at hP1
  obtain ⟨hPj, hDj⟩ := va_join (wr := wr) (w1 := w1 u) hP hD isC isR hC hR hRn hdis hk1 hFc hP1 hD1
  exact kk u H1 locs1 hPj hDj hS1
end CALLI
end
section
/-! THE CLAIM OUT OF ONE WALK OF THE LAW'S BODY. Your part is whole_start (and what it stands on); all else here is the same for every law, but numbers. -/
def R_law : String := "ListWordsLaw"
def lw_P (b : Addr) (xs : List Int32) (args : Array Value) (s : State) : Prop := args = #[.ref b] ∧ s.IntsAt b xs ∧ xs.length ≤ 3072 ∧ (Jvm.Cond.and given_1 narrow_1).before args s = true
def lw_Q (_ : Array Value) (s : State) (o : Outcome) (t : State) : Prop := o = .returned (some (.int 1)) ∧ Framed s o t [] 17 13442
def lw_Z (below : List Frame) (a : Array Value) (s : State) : State → Prop := fun t => ∃ o, t.status = .running ∧ Ended t below o ∧ lw_Q a s o t
/-- the law's own end, with 1 on the stack, nothing written that was there before, its room as the claim has it -/
theorem lw_ret {p : Program} {l : Launch} {e : Env} {s : State} {m : MethodId} {below : List Frame} {meth : Method} {c : Code} {b : Nat} (hx : p.tables.exec = Jvm.exec) (hb : c.code = code) (hr : meth.sig.returnType = ret) (hlocks : meth.locks = false) {pc : Nat} {H : Heap} {ls : Array Slot} (hdg : decode code pc = .ok (.ireturn, 1)) : W p l e room_1 s m #[Value.ref b] below meth c H [] 17 13442 (lw_Z below #[Value.ref b] s) (F0 m pc ls [.int 1]) := by
  intro T hT X
  obtain ⟨fs, hret, hrun, hended, hW, hframe⟩ := X.leave (v := some (.int 1)) (hlocks := hlocks) (fun h => by rw [hr] at h; cases h)
  have hmeth' : T.vm.method? m = some meth := X.method'
  refine ⟨T.setFrames fs, ?_, .returned (some (.int 1)), hrun, hended, rfl, ⟨_, rfl⟩, hW, hframe⟩
  jvm_step X.here [X.here.top, hx, hb, hdg, hmeth', hr, ret, narrow_b1]
  (try refine ⟨rfl, ?_⟩); (try refine ⟨rfl, ?_⟩)
  first | (intro acts; rw [hret _ acts rfl rfl rfl]) | rw [hret _ _ rfl rfl rfl]
  exact Steps.refl _
/-- what holds at the law's entry: the machine, the code, the tables' words (any of lw_tbl by 'hts w (by decide +kernel)'), the script of L ints xs at the cell b, what the Statement gives of the start (any of its parts by flat_of_before) -/
def lw_At (p : Program) (s : State) (m : MethodId) (meth : Method) (c : Code) (b L : Nat) (xs : Nat → Int32) : Prop :=
  p.tables.exec = Jvm.exec ∧ c.code = code ∧ meth.sig.returnType = ret ∧ c.maxLocals = 4 ∧ s.vm.findClass R_law = some m.cls ∧ (∀ w ∈ lw_tbl, w.before #[Value.ref b] s = true) ∧ va_X b L xs s s.heap ∧ b < s.heap.size ∧ meth.locks = false ∧ (Jvm.Cond.and given_1 narrow_1).before #[Value.ref b] s = true

theorem f_R_15 : Cond.fieldLink R_R 15 "ListWords$Row" "size" "I" ∈ wG := (mT1 (i := 26) rfl rfl)
theorem f_R_9 : Cond.fieldLink R_R 9 "ListWords$Row" "bytes" "[I" ∈ wG := (mT1 (i := 25) rfl rfl)
theorem f_X_19 : Cond.fieldLink R_X 19 "ListWords" "item" "LListWords$Row;" ∈ wG := (mT1 (i := 35) rfl rfl)
theorem m_X_58 : LkV R_X 58 y_R_byteAt b_R_byteAt 2 (some .int) 1 := ⟨(mT1 (i := 107) rfl rfl), (mT1 (i := 108) rfl rfl), (mT1 (i := 109) rfl rfl), (mT1 (i := 2) rfl rfl), (mT1 (i := 110) rfl rfl), ⟨by decide +kernel, by decide +kernel, by decide +kernel⟩⟩
theorem f_M_99 : Cond.fieldLink R_M 99 "ListWordsModel" "itemSize" "I" ∈ wG := (mT2 (i := 75) rfl rfl)
theorem f_M_16 : Cond.fieldLink R_M 16 "ListWordsModel" "item" "[I" ∈ wG := (mT2 (i := 74) rfl rfl)
theorem f_X_16 : Cond.fieldLink R_X 16 "ListWords" "list" "LListWords$Row;" ∈ wG := (mT1 (i := 34) rfl rfl)
theorem f_M_25 : Cond.fieldLink R_M 25 "ListWordsModel" "listSize" "I" ∈ wG := (mT2 (i := 73) rfl rfl)
theorem f_M_13 : Cond.fieldLink R_M 13 "ListWordsModel" "list" "[I" ∈ wG := (mT2 (i := 72) rfl rfl)
theorem m_R_23 : Cond.methodLink R_R 23 arraycopyName ∈ wG := (mT1 (i := 88) rfl rfl)
theorem m_R_29 : LkV R_R 29 y_R_putAll b_R_putAll 2 (some .boolean) 1 := ⟨(mT1 (i := 84) rfl rfl), (mT1 (i := 85) rfl rfl), (mT1 (i := 86) rfl rfl), (mT1 (i := 2) rfl rfl), (mT1 (i := 87) rfl rfl), ⟨by decide +kernel, by decide +kernel, by decide +kernel⟩⟩
theorem m_X_44 : LkV R_X 44 y_R_takeAll b_R_takeAll 2 (some .int) 1 := ⟨(mT1 (i := 80) rfl rfl), (mT1 (i := 81) rfl rfl), (mT1 (i := 82) rfl rfl), (mT1 (i := 2) rfl rfl), (mT1 (i := 83) rfl rfl), ⟨by decide +kernel, by decide +kernel, by decide +kernel⟩⟩
theorem m_X_113 : LkS R_X 113 y_X_isNamedSpace b_X_isNamedSpace 1 (some .boolean) 1 := ⟨(mT1 (i := 114) rfl rfl), (mT1 (i := 115) rfl rfl), (mT1 (i := 1) rfl rfl), (mT1 (i := 116) rfl rfl), ⟨by decide +kernel, by decide +kernel, by decide +kernel⟩⟩
theorem m_X_32 : LkV R_X 32 y_R_size b_R_size 1 (some .int) 0 := ⟨(mT1 (i := 56) rfl rfl), (mT1 (i := 57) rfl rfl), (mT1 (i := 58) rfl rfl), (mT1 (i := 2) rfl rfl), (mT1 (i := 59) rfl rfl), ⟨by decide +kernel, by decide +kernel, by decide +kernel⟩⟩
theorem m_X_75 : LkS R_X 75 y_X_isSpace b_X_isSpace 1 (some .boolean) 1 := ⟨(mT1 (i := 111) rfl rfl), (mT1 (i := 112) rfl rfl), (mT1 (i := 1) rfl rfl), (mT1 (i := 113) rfl rfl), ⟨by decide +kernel, by decide +kernel, by decide +kernel⟩⟩
theorem f_X_22 : Cond.fieldLink R_X 22 "ListWords" "word" "LListWords$Row;" ∈ wG := (mT1 (i := 36) rfl rfl)
theorem m_X_78 : LkV R_X 78 y_R_put b_R_put 2 (some .boolean) 1 := ⟨(mT1 (i := 121) rfl rfl), (mT1 (i := 65) rfl rfl), (mT1 (i := 66) rfl rfl), (mT1 (i := 2) rfl rfl), (mT1 (i := 67) rfl rfl), ⟨by decide +kernel, by decide +kernel, by decide +kernel⟩⟩
theorem m_X_110 : LkS R_X 110 y_X_digitOf b_X_digitOf 1 (some .int) 1 := ⟨(mT1 (i := 138) rfl rfl), (mT1 (i := 139) rfl rfl), (mT1 (i := 1) rfl rfl), (mT1 (i := 140) rfl rfl), ⟨by decide +kernel, by decide +kernel, by decide +kernel⟩⟩
theorem f_S_38 : Cond.fieldLink R_S 38 "java/lang/String" "COMPACT_STRINGS" "Z" ∈ wG := (mT1 (i := 158) rfl rfl)
theorem f_S_15 : Cond.fieldLink R_S 15 "java/lang/String" "coder" "B" ∈ wG := (mT2 (i := 225) rfl rfl)
theorem f_S_9 : Cond.fieldLink R_S 9 "java/lang/String" "value" "[B" ∈ wG := (mT2 (i := 226) rfl rfl)
theorem m_S_335 : LkV R_S 335 y_S_coder b_S_coder 1 (some .byte) 0 := ⟨(mT1 (i := 164) rfl rfl), (mT1 (i := 165) rfl rfl), (mT1 (i := 166) rfl rfl), (mT1 (i := 5) rfl rfl), (mT1 (i := 167) rfl rfl), ⟨by decide +kernel, by decide +kernel, by decide +kernel⟩⟩
theorem m_SL_88 : LkS R_SL 88 y_SL_canEncode1 b_SL_canEncode1 1 (some .boolean) 1 := ⟨(mT1 (i := 171) rfl rfl), (mT1 (i := 172) rfl rfl), (mT1 (i := 6) rfl rfl), (mT1 (i := 173) rfl rfl), ⟨by decide +kernel, by decide +kernel, by decide +kernel⟩⟩
theorem m_SL_92 : Cond.methodLink R_SL 92 Lib.Math.max.name ∈ wG := (mT1 (i := 174) rfl rfl)
theorem m_SL_38 : Cond.methodLink R_SL 38 Lib.Math.min.name ∈ wG := (mT1 (i := 177) rfl rfl)
theorem m_SL_95 : LkS R_SL 95 y_SL_indexOfChar b_SL_indexOfChar 6 (some .int) 4 := ⟨(mT1 (i := 180) rfl rfl), (mT1 (i := 181) rfl rfl), (mT1 (i := 6) rfl rfl), (mT1 (i := 182) rfl rfl), ⟨by decide +kernel, by decide +kernel, by decide +kernel⟩⟩
theorem m_S_492 : LkV R_S 492 y_S_isLatin1 b_S_isLatin1 1 (some .boolean) 0 := ⟨(mT1 (i := 154) rfl rfl), (mT1 (i := 155) rfl rfl), (mT1 (i := 156) rfl rfl), (mT1 (i := 5) rfl rfl), (mT1 (i := 157) rfl rfl), ⟨by decide +kernel, by decide +kernel, by decide +kernel⟩⟩
theorem m_S_505 : LkV R_S 505 y_S_length b_S_length 1 (some .int) 0 := ⟨(mT1 (i := 160) rfl rfl), (mT1 (i := 161) rfl rfl), (mT1 (i := 162) rfl rfl), (mT1 (i := 5) rfl rfl), (mT1 (i := 163) rfl rfl), ⟨by decide +kernel, by decide +kernel, by decide +kernel⟩⟩
theorem m_S_637 : LkS R_S 637 y_SL_indexOf0 b_SL_indexOf0 4 (some .int) 4 := ⟨(mT1 (i := 168) rfl rfl), (mT1 (i := 169) rfl rfl), (mT1 (i := 6) rfl rfl), (mT1 (i := 170) rfl rfl), ⟨by decide +kernel, by decide +kernel, by decide +kernel⟩⟩
theorem m_S_633 : LkV R_S 633 y_S_indexOf1 b_S_indexOf1 3 (some .int) 2 := ⟨(mT1 (i := 150) rfl rfl), (mT1 (i := 151) rfl rfl), (mT1 (i := 152) rfl rfl), (mT1 (i := 5) rfl rfl), (mT1 (i := 153) rfl rfl), ⟨by decide +kernel, by decide +kernel, by decide +kernel⟩⟩
theorem m_X_87 : LkV R_X 87 y_X_countDigits b_X_countDigits 5 (some .int) 3 := ⟨(mT1 (i := 134) rfl rfl), (mT1 (i := 136) rfl rfl), (mTP (i := 6) rfl rfl), (mT1 (i := 1) rfl rfl), (mT1 (i := 137) rfl rfl), ⟨by decide +kernel, by decide +kernel, by decide +kernel⟩⟩
theorem m_X_91 : LkV R_X 91 y_X_numberAt b_X_numberAt 6 (some .int) 3 := ⟨(mT1 (i := 141) rfl rfl), (mT1 (i := 143) rfl rfl), (mTP (i := 7) rfl rfl), (mT1 (i := 1) rfl rfl), (mT1 (i := 144) rfl rfl), ⟨by decide +kernel, by decide +kernel, by decide +kernel⟩⟩
theorem m_X_96 : LkV R_X 96 y_S_indexOf0 b_S_indexOf0 2 (some .int) 1 := ⟨(mT1 (i := 146) rfl rfl), (mT1 (i := 147) rfl rfl), (mT1 (i := 148) rfl rfl), (mT1 (i := 5) rfl rfl), (mT1 (i := 149) rfl rfl), ⟨by decide +kernel, by decide +kernel, by decide +kernel⟩⟩
theorem m_X_101 : LkV R_X 101 y_X_countBlanks b_X_countBlanks 3 (some .int) 1 := ⟨(mT1 (i := 236) rfl rfl), (mT1 (i := 238) rfl rfl), (mTP (i := 9) rfl rfl), (mT1 (i := 1) rfl rfl), (mT1 (i := 239) rfl rfl), ⟨by decide +kernel, by decide +kernel, by decide +kernel⟩⟩
theorem m_X_104 : Cond.methodLink R_X 104 Lib.Math.max.name ∈ wG := (mT2 (i := 0) rfl rfl)
theorem m_X_81 : LkV R_X 81 y_X_meaningOfBackslash b_X_meaningOfBackslash 5 (some .int) 1 := ⟨(mT1 (i := 130) rfl rfl), (mT1 (i := 132) rfl rfl), (mTP (i := 5) rfl rfl), (mT1 (i := 1) rfl rfl), (mT1 (i := 133) rfl rfl), ⟨by decide +kernel, by decide +kernel, by decide +kernel⟩⟩
theorem m_X_84 : LkV R_X 84 y_X_bytesBehindBackslash b_X_bytesBehindBackslash 3 (some .int) 1 := ⟨(mT1 (i := 232) rfl rfl), (mT1 (i := 234) rfl rfl), (mTP (i := 8) rfl rfl), (mT1 (i := 1) rfl rfl), (mT1 (i := 235) rfl rfl), ⟨by decide +kernel, by decide +kernel, by decide +kernel⟩⟩
theorem f_X_28 : Cond.fieldLink R_X 28 "ListWords" "place" "I" ∈ wG := (mT1 (i := 38) rfl rfl)
theorem m_X_62 : LkV R_X 62 y_X_behindSpaces b_X_behindSpaces 3 (some .int) 1 := ⟨(mT1 (i := 103) rfl rfl), (mT1 (i := 105) rfl rfl), (mTP (i := 1) rfl rfl), (mT1 (i := 1) rfl rfl), (mT1 (i := 106) rfl rfl), ⟨by decide +kernel, by decide +kernel, by decide +kernel⟩⟩
theorem m_X_40 : LkV R_X 40 y_R_cutTo b_R_cutTo 2 (some .boolean) 1 := ⟨(mT1 (i := 72) rfl rfl), (mT1 (i := 73) rfl rfl), (mT1 (i := 74) rfl rfl), (mT1 (i := 2) rfl rfl), (mT1 (i := 75) rfl rfl), ⟨by decide +kernel, by decide +kernel, by decide +kernel⟩⟩
theorem m_X_65 : LkV R_X 65 y_X_readBraced b_X_readBraced 5 (some .int) 1 := ⟨(mT1 (i := 117) rfl rfl), (mT1 (i := 119) rfl rfl), (mTP (i := 2) rfl rfl), (mT1 (i := 1) rfl rfl), (mT1 (i := 120) rfl rfl), ⟨by decide +kernel, by decide +kernel, by decide +kernel⟩⟩
theorem m_X_68 : LkV R_X 68 y_X_behindCloser b_X_behindCloser 3 (some .int) 1 := ⟨(mT1 (i := 122) rfl rfl), (mT1 (i := 124) rfl rfl), (mTP (i := 3) rfl rfl), (mT1 (i := 1) rfl rfl), (mT1 (i := 125) rfl rfl), ⟨by decide +kernel, by decide +kernel, by decide +kernel⟩⟩
theorem m_X_71 : LkV R_X 71 y_X_readUnbraced b_X_readUnbraced 5 (some .int) 2 := ⟨(mT1 (i := 126) rfl rfl), (mT1 (i := 128) rfl rfl), (mTP (i := 4) rfl rfl), (mT1 (i := 1) rfl rfl), (mT1 (i := 129) rfl rfl), ⟨by decide +kernel, by decide +kernel, by decide +kernel⟩⟩
theorem m_X_48 : LkV R_X 48 y_X_nextElement b_X_nextElement 4 (some .int) 0 := ⟨(mT1 (i := 99) rfl rfl), (mT1 (i := 101) rfl rfl), (mTP (i := 0) rfl rfl), (mT1 (i := 1) rfl rfl), (mT1 (i := 102) rfl rfl), ⟨by decide +kernel, by decide +kernel, by decide +kernel⟩⟩
theorem m_X_129 : LkS R_X 129 y_X_needsBackslash b_X_needsBackslash 3 (some .boolean) 2 := ⟨(mT2 (i := 17) rfl rfl), (mT2 (i := 18) rfl rfl), (mT1 (i := 1) rfl rfl), (mT2 (i := 19) rfl rfl), ⟨by decide +kernel, by decide +kernel, by decide +kernel⟩⟩
theorem f_S_1053 : Cond.fieldLink R_S 1053 "jdk/internal/util/Preconditions" "SIOOBE_FORMATTER" "Ljava/util/function/BiFunction;" ∈ wG := (mT1 (i := 201) rfl rfl)
theorem m_S_1059 : LkS R_S 1059 y_PC_checkIndex0 b_PC_checkIndex0 3 (some .int) 3 := ⟨(mT2 (i := 38) rfl rfl), (mT2 (i := 39) rfl rfl), (mT1 (i := 9) rfl rfl), (mT2 (i := 40) rfl rfl), ⟨by decide +kernel, by decide +kernel, by decide +kernel⟩⟩
theorem m_SL_9 : LkS R_SL 9 y_S_checkIndex b_S_checkIndex 2 none 2 := ⟨(mT2 (i := 35) rfl rfl), (mT2 (i := 36) rfl rfl), (mT1 (i := 5) rfl rfl), (mT2 (i := 37) rfl rfl), ⟨by decide +kernel, by decide +kernel, by decide +kernel⟩⟩
theorem m_S_495 : LkS R_S 495 y_SL_charAt b_SL_charAt 2 (some .char) 2 := ⟨(mT2 (i := 32) rfl rfl), (mT2 (i := 33) rfl rfl), (mT1 (i := 6) rfl rfl), (mT2 (i := 34) rfl rfl), ⟨by decide +kernel, by decide +kernel, by decide +kernel⟩⟩
theorem m_X_133 : LkV R_X 133 y_S_charAt b_S_charAt 2 (some .char) 1 := ⟨(mT2 (i := 28) rfl rfl), (mT2 (i := 29) rfl rfl), (mT2 (i := 30) rfl rfl), (mT1 (i := 5) rfl rfl), (mT2 (i := 31) rfl rfl), ⟨by decide +kernel, by decide +kernel, by decide +kernel⟩⟩
theorem m_X_116 : LkS R_X 116 y_X_canStandBare b_X_canStandBare 2 (some .boolean) 1 := ⟨(mT2 (i := 14) rfl rfl), (mT2 (i := 15) rfl rfl), (mT1 (i := 1) rfl rfl), (mT2 (i := 16) rfl rfl), ⟨by decide +kernel, by decide +kernel, by decide +kernel⟩⟩
theorem m_X_120 : LkV R_X 120 y_R_putAll b_R_putAll 2 (some .boolean) 1 := ⟨(mT2 (i := 21) rfl rfl), (mT1 (i := 85) rfl rfl), (mT1 (i := 86) rfl rfl), (mT1 (i := 2) rfl rfl), (mT1 (i := 87) rfl rfl), ⟨by decide +kernel, by decide +kernel, by decide +kernel⟩⟩
theorem m_X_123 : LkS R_X 123 y_X_canStandInBraces b_X_canStandInBraces 4 (some .boolean) 1 := ⟨(mT2 (i := 22) rfl rfl), (mT2 (i := 23) rfl rfl), (mT1 (i := 1) rfl rfl), (mT2 (i := 24) rfl rfl), ⟨by decide +kernel, by decide +kernel, by decide +kernel⟩⟩
theorem m_X_126 : LkS R_X 126 y_X_writeWithBackslashes b_X_writeWithBackslashes 4 (some .boolean) 2 := ⟨(mT2 (i := 25) rfl rfl), (mT2 (i := 26) rfl rfl), (mT1 (i := 1) rfl rfl), (mT2 (i := 27) rfl rfl), ⟨by decide +kernel, by decide +kernel, by decide +kernel⟩⟩
theorem m_X_51 : LkV R_X 51 y_X_count b_X_count 3 (some .int) 0 := ⟨(mT2 (i := 6) rfl rfl), (mT1 (i := 96) rfl rfl), (mT1 (i := 97) rfl rfl), (mT1 (i := 1) rfl rfl), (mT1 (i := 98) rfl rfl), ⟨by decide +kernel, by decide +kernel, by decide +kernel⟩⟩
theorem f_X_25 : Cond.fieldLink R_X 25 "ListWords" "written" "LListWords$Row;" ∈ wG := (mT1 (i := 37) rfl rfl)
theorem m_X_54 : LkS R_X 54 y_X_writeBehind b_X_writeBehind 2 (some .boolean) 2 := ⟨(mT2 (i := 11) rfl rfl), (mT2 (i := 12) rfl rfl), (mT1 (i := 1) rfl rfl), (mT2 (i := 13) rfl rfl), ⟨by decide +kernel, by decide +kernel, by decide +kernel⟩⟩
theorem m_M_29 : LkV R_M 29 y_M_at b_M_at 2 (some .int) 1 := ⟨(mT2 (i := 129) rfl rfl), (mT2 (i := 131) rfl rfl), (mTP (i := 12) rfl rfl), (mT1 (i := 3) rfl rfl), (mT2 (i := 132) rfl rfl), ⟨by decide +kernel, by decide +kernel, by decide +kernel⟩⟩
theorem m_M_33 : LkS R_M 33 y_M_isSpace b_M_isSpace 1 (some .boolean) 1 := ⟨(mT2 (i := 133) rfl rfl), (mT2 (i := 134) rfl rfl), (mT1 (i := 3) rfl rfl), (mT2 (i := 135) rfl rfl), ⟨by decide +kernel, by decide +kernel, by decide +kernel⟩⟩
theorem m_M_37 : LkV R_M 37 y_M_behind b_M_behind 3 (some .int) 1 := ⟨(mT2 (i := 144) rfl rfl), (mT2 (i := 146) rfl rfl), (mTP (i := 15) rfl rfl), (mT1 (i := 3) rfl rfl), (mT2 (i := 147) rfl rfl), ⟨by decide +kernel, by decide +kernel, by decide +kernel⟩⟩
theorem m_M_40 : LkV R_M 40 y_M_bare b_M_bare 3 (some .int) 1 := ⟨(mT2 (i := 140) rfl rfl), (mT2 (i := 142) rfl rfl), (mTP (i := 14) rfl rfl), (mT1 (i := 3) rfl rfl), (mT2 (i := 143) rfl rfl), ⟨by decide +kernel, by decide +kernel, by decide +kernel⟩⟩
theorem m_M_43 : LkV R_M 43 y_M_closing b_M_closing 5 (some .int) 1 := ⟨(mT2 (i := 148) rfl rfl), (mT2 (i := 150) rfl rfl), (mTP (i := 16) rfl rfl), (mT1 (i := 3) rfl rfl), (mT2 (i := 151) rfl rfl), ⟨by decide +kernel, by decide +kernel, by decide +kernel⟩⟩
theorem m_M_46 : LkV R_M 46 y_M_quote b_M_quote 3 (some .int) 1 := ⟨(mT2 (i := 152) rfl rfl), (mT2 (i := 154) rfl rfl), (mTP (i := 17) rfl rfl), (mT1 (i := 3) rfl rfl), (mT2 (i := 155) rfl rfl), ⟨by decide +kernel, by decide +kernel, by decide +kernel⟩⟩
theorem f_M_19 : Cond.fieldLink R_M 19 "ListWordsModel" "word" "[I" ∈ wG := (mT2 (i := 76) rfl rfl)
theorem f_M_49 : Cond.fieldLink R_M 49 "ListWordsModel" "wordSize" "I" ∈ wG := (mT2 (i := 77) rfl rfl)
theorem m_M_52 : LkV R_M 52 y_M_add b_M_add 2 none 1 := ⟨(mT2 (i := 164) rfl rfl), (mT2 (i := 166) rfl rfl), (mTP (i := 20) rfl rfl), (mT1 (i := 3) rfl rfl), (mT2 (i := 167) rfl rfl), ⟨by decide +kernel, by decide +kernel, by decide +kernel⟩⟩
theorem m_M_56 : LkS R_M 56 y_M_digit b_M_digit 2 (some .int) 1 := ⟨(mT2 (i := 168) rfl rfl), (mT2 (i := 169) rfl rfl), (mT1 (i := 3) rfl rfl), (mT2 (i := 170) rfl rfl), ⟨by decide +kernel, by decide +kernel, by decide +kernel⟩⟩
theorem m_M_59 : LkS R_M 59 y_M_letter b_M_letter 1 (some .int) 1 := ⟨(mT2 (i := 171) rfl rfl), (mT2 (i := 172) rfl rfl), (mT1 (i := 3) rfl rfl), (mT2 (i := 173) rfl rfl), ⟨by decide +kernel, by decide +kernel, by decide +kernel⟩⟩
theorem m_M_62 : LkV R_M 62 y_M_meaning b_M_meaning 10 (some .int) 2 := ⟨(mT2 (i := 160) rfl rfl), (mT2 (i := 162) rfl rfl), (mTP (i := 19) rfl rfl), (mT1 (i := 3) rfl rfl), (mT2 (i := 163) rfl rfl), ⟨by decide +kernel, by decide +kernel, by decide +kernel⟩⟩
theorem m_M_66 : LkV R_M 66 y_M_skip b_M_skip 3 (some .int) 1 := ⟨(mT2 (i := 125) rfl rfl), (mT2 (i := 127) rfl rfl), (mTP (i := 11) rfl rfl), (mT1 (i := 3) rfl rfl), (mT2 (i := 128) rfl rfl), ⟨by decide +kernel, by decide +kernel, by decide +kernel⟩⟩
theorem m_M_69 : LkV R_M 69 y_M_ending b_M_ending 5 (some .int) 1 := ⟨(mT2 (i := 136) rfl rfl), (mT2 (i := 138) rfl rfl), (mTP (i := 13) rfl rfl), (mT1 (i := 3) rfl rfl), (mT2 (i := 139) rfl rfl), ⟨by decide +kernel, by decide +kernel, by decide +kernel⟩⟩
theorem m_M_72 : LkV R_M 72 y_M_read b_M_read 7 none 2 := ⟨(mT2 (i := 156) rfl rfl), (mT2 (i := 158) rfl rfl), (mTP (i := 18) rfl rfl), (mT1 (i := 3) rfl rfl), (mT2 (i := 159) rfl rfl), ⟨by decide +kernel, by decide +kernel, by decide +kernel⟩⟩
theorem f_M_22 : Cond.fieldLink R_M 22 "ListWordsModel" "text" "[I" ∈ wG := (mT2 (i := 78) rfl rfl)
theorem f_M_76 : Cond.fieldLink R_M 76 "ListWordsModel" "textSize" "I" ∈ wG := (mT2 (i := 79) rfl rfl)
theorem m_M_79 : LkS R_M 79 y_M_isSpecial b_M_isSpecial 1 (some .boolean) 1 := ⟨(mT2 (i := 194) rfl rfl), (mT2 (i := 195) rfl rfl), (mT1 (i := 3) rfl rfl), (mT2 (i := 196) rfl rfl), ⟨by decide +kernel, by decide +kernel, by decide +kernel⟩⟩
theorem m_M_82 : LkV R_M 82 y_M_put b_M_put 2 none 1 := ⟨(mT2 (i := 182) rfl rfl), (mT2 (i := 184) rfl rfl), (mTP (i := 21) rfl rfl), (mT1 (i := 3) rfl rfl), (mT2 (i := 185) rfl rfl), ⟨by decide +kernel, by decide +kernel, by decide +kernel⟩⟩
theorem m_M_85 : LkV R_M 85 y_M_isPlain b_M_isPlain 3 (some .boolean) 0 := ⟨(mT2 (i := 190) rfl rfl), (mT2 (i := 192) rfl rfl), (mTP (i := 23) rfl rfl), (mT1 (i := 3) rfl rfl), (mT2 (i := 193) rfl rfl), ⟨by decide +kernel, by decide +kernel, by decide +kernel⟩⟩
theorem m_M_89 : LkV R_M 89 y_M_isBraced b_M_isBraced 4 (some .boolean) 0 := ⟨(mT2 (i := 197) rfl rfl), (mT2 (i := 199) rfl rfl), (mTP (i := 24) rfl rfl), (mT1 (i := 3) rfl rfl), (mT2 (i := 200) rfl rfl), ⟨by decide +kernel, by decide +kernel, by decide +kernel⟩⟩
theorem m_M_92 : LkV R_M 92 y_M_escape b_M_escape 3 none 2 := ⟨(mT2 (i := 201) rfl rfl), (mT2 (i := 203) rfl rfl), (mTP (i := 25) rfl rfl), (mT1 (i := 3) rfl rfl), (mT2 (i := 204) rfl rfl), ⟨by decide +kernel, by decide +kernel, by decide +kernel⟩⟩
theorem m_M_102 : LkV R_M 102 y_M_goOver b_M_goOver 5 (some .int) 1 := ⟨(mT2 (i := 121) rfl rfl), (mT2 (i := 123) rfl rfl), (mTP (i := 10) rfl rfl), (mT1 (i := 3) rfl rfl), (mT2 (i := 124) rfl rfl), ⟨by decide +kernel, by decide +kernel, by decide +kernel⟩⟩
theorem m_M_105 : LkV R_M 105 y_M_write b_M_write 4 none 0 := ⟨(mT2 (i := 186) rfl rfl), (mT2 (i := 188) rfl rfl), (mTP (i := 22) rfl rfl), (mT1 (i := 3) rfl rfl), (mT2 (i := 189) rfl rfl), ⟨by decide +kernel, by decide +kernel, by decide +kernel⟩⟩
theorem m_M_108 : LkV R_M 108 y_M_settle b_M_settle 2 (some .int) 0 := ⟨(mT2 (i := 205) rfl rfl), (mT2 (i := 207) rfl rfl), (mTP (i := 26) rfl rfl), (mT1 (i := 3) rfl rfl), (mT2 (i := 208) rfl rfl), ⟨by decide +kernel, by decide +kernel, by decide +kernel⟩⟩
theorem f_X_10 : Cond.fieldLink R_X 10 "ListWords" "tape" "LListWords$Row;" ∈ wG := (mT1 (i := 33) rfl rfl)
theorem f_M_96 : Cond.fieldLink R_M 96 "ListWordsModel" "tapeSize" "I" ∈ wG := (mT2 (i := 71) rfl rfl)
theorem f_M_7 : Cond.fieldLink R_M 7 "ListWordsModel" "tape" "[I" ∈ wG := (mT2 (i := 70) rfl rfl)
theorem m_R_19 : LkV R_R 19 y_R_put b_R_put 2 (some .boolean) 1 := ⟨(mT1 (i := 64) rfl rfl), (mT1 (i := 65) rfl rfl), (mT1 (i := 66) rfl rfl), (mT1 (i := 2) rfl rfl), (mT1 (i := 67) rfl rfl), ⟨by decide +kernel, by decide +kernel, by decide +kernel⟩⟩
theorem m_X_36 : LkV R_X 36 y_R_putNumber b_R_putNumber 2 none 1 := ⟨(mT1 (i := 60) rfl rfl), (mT1 (i := 61) rfl rfl), (mT1 (i := 62) rfl rfl), (mT1 (i := 2) rfl rfl), (mT1 (i := 63) rfl rfl), ⟨by decide +kernel, by decide +kernel, by decide +kernel⟩⟩
theorem m_R_3 : Cond.methodLink R_R 3 objectInit ∈ wG := (mT1 (i := 24) rfl rfl)
theorem m_X_1 : Cond.methodLink R_X 1 objectInit ∈ wG := (mT1 (i := 16) rfl rfl)
theorem k_X_7 : Cond.classLink R_X 7 R_R ∈ wG := (mT1 (i := 19) rfl rfl)
theorem m_X_9 : LkI R_X 9 y_R_init b_R_init 1 0 := ⟨(mT1 (i := 21) rfl rfl), (mT1 (i := 22) rfl rfl), rfl, (mT1 (i := 2) rfl rfl), (mT1 (i := 23) rfl rfl), ⟨by decide +kernel, by decide +kernel, by decide +kernel⟩⟩
theorem m_M_1 : Cond.methodLink R_M 1 objectInit ∈ wG := (mT2 (i := 69) rfl rfl)
theorem k_L_7 : Cond.classLink R_law 7 R_X ∈ wG := (mT1 (i := 11) rfl rfl)
theorem m_L_9 : LkI R_law 9 y_X_init b_X_init 1 0 := ⟨(mT1 (i := 13) rfl rfl), (mT1 (i := 14) rfl rfl), rfl, (mT1 (i := 1) rfl rfl), (mT1 (i := 15) rfl rfl), ⟨by decide +kernel, by decide +kernel, by decide +kernel⟩⟩
theorem k_L_10 : Cond.classLink R_law 10 R_M ∈ wG := (mT2 (i := 64) rfl rfl)
theorem m_L_12 : LkI R_law 12 y_M_init b_M_init 1 0 := ⟨(mT2 (i := 66) rfl rfl), (mT2 (i := 67) rfl rfl), rfl, (mT1 (i := 3) rfl rfl), (mT2 (i := 68) rfl rfl), ⟨by decide +kernel, by decide +kernel, by decide +kernel⟩⟩
theorem m_L_13 : LkV R_law 13 y_X_feed b_X_feed 6 (some .boolean) 5 := ⟨(mT1 (i := 52) rfl rfl), (mT1 (i := 53) rfl rfl), (mT1 (i := 54) rfl rfl), (mT1 (i := 1) rfl rfl), (mT1 (i := 55) rfl rfl), ⟨by decide +kernel, by decide +kernel, by decide +kernel⟩⟩
theorem m_L_17 : LkV R_law 17 y_M_feed b_M_feed 8 (some .boolean) 5 := ⟨(mT2 (i := 101) rfl rfl), (mT2 (i := 102) rfl rfl), (mT2 (i := 103) rfl rfl), (mT1 (i := 3) rfl rfl), (mT2 (i := 104) rfl rfl), ⟨by decide +kernel, by decide +kernel, by decide +kernel⟩⟩
theorem m_L_18 : LkV R_law 18 y_X_end b_X_end 2 (some .boolean) 1 := ⟨(mT1 (i := 68) rfl rfl), (mT1 (i := 69) rfl rfl), (mT1 (i := 70) rfl rfl), (mT1 (i := 1) rfl rfl), (mT1 (i := 71) rfl rfl), ⟨by decide +kernel, by decide +kernel, by decide +kernel⟩⟩
theorem m_L_22 : LkV R_law 22 y_M_end b_M_end 2 (some .boolean) 1 := ⟨(mT2 (i := 105) rfl rfl), (mT2 (i := 106) rfl rfl), (mT2 (i := 107) rfl rfl), (mT1 (i := 3) rfl rfl), (mT2 (i := 108) rfl rfl), ⟨by decide +kernel, by decide +kernel, by decide +kernel⟩⟩
theorem m_L_23 : LkV R_law 23 y_X_list b_X_list 1 (some .int) 0 := ⟨(mT1 (i := 76) rfl rfl), (mT1 (i := 77) rfl rfl), (mT1 (i := 78) rfl rfl), (mT1 (i := 1) rfl rfl), (mT1 (i := 79) rfl rfl), ⟨by decide +kernel, by decide +kernel, by decide +kernel⟩⟩
theorem m_L_27 : LkV R_law 27 y_M_list b_M_list 2 (some .int) 0 := ⟨(mT2 (i := 109) rfl rfl), (mT2 (i := 110) rfl rfl), (mT2 (i := 111) rfl rfl), (mT1 (i := 3) rfl rfl), (mT2 (i := 112) rfl rfl), ⟨by decide +kernel, by decide +kernel, by decide +kernel⟩⟩
theorem m_L_28 : LkV R_law 28 y_X_item b_X_item 1 (some .int) 0 := ⟨(mT1 (i := 91) rfl rfl), (mT1 (i := 92) rfl rfl), (mT1 (i := 93) rfl rfl), (mT1 (i := 1) rfl rfl), (mT1 (i := 94) rfl rfl), ⟨by decide +kernel, by decide +kernel, by decide +kernel⟩⟩
theorem m_L_31 : LkV R_law 31 y_M_item b_M_item 2 (some .int) 0 := ⟨(mT2 (i := 113) rfl rfl), (mT2 (i := 114) rfl rfl), (mT2 (i := 115) rfl rfl), (mT1 (i := 3) rfl rfl), (mT2 (i := 116) rfl rfl), ⟨by decide +kernel, by decide +kernel, by decide +kernel⟩⟩
theorem m_L_32 : LkV R_law 32 y_X_count b_X_count 3 (some .int) 0 := ⟨(mT1 (i := 95) rfl rfl), (mT1 (i := 96) rfl rfl), (mT1 (i := 97) rfl rfl), (mT1 (i := 1) rfl rfl), (mT1 (i := 98) rfl rfl), ⟨by decide +kernel, by decide +kernel, by decide +kernel⟩⟩
theorem m_L_35 : LkV R_law 35 y_M_count b_M_count 1 (some .int) 0 := ⟨(mT2 (i := 117) rfl rfl), (mT2 (i := 118) rfl rfl), (mT2 (i := 119) rfl rfl), (mT1 (i := 3) rfl rfl), (mT2 (i := 120) rfl rfl), ⟨by decide +kernel, by decide +kernel, by decide +kernel⟩⟩
theorem m_L_36 : LkV R_law 36 y_X_element b_X_element 4 (some .int) 1 := ⟨(mT2 (i := 2) rfl rfl), (mT2 (i := 3) rfl rfl), (mT2 (i := 4) rfl rfl), (mT1 (i := 1) rfl rfl), (mT2 (i := 5) rfl rfl), ⟨by decide +kernel, by decide +kernel, by decide +kernel⟩⟩
theorem m_L_40 : LkV R_law 40 y_M_element b_M_element 4 (some .int) 1 := ⟨(mT2 (i := 174) rfl rfl), (mT2 (i := 175) rfl rfl), (mT2 (i := 176) rfl rfl), (mT1 (i := 3) rfl rfl), (mT2 (i := 177) rfl rfl), ⟨by decide +kernel, by decide +kernel, by decide +kernel⟩⟩
theorem m_L_41 : LkV R_law 41 y_X_append b_X_append 2 (some .int) 0 := ⟨(mT2 (i := 7) rfl rfl), (mT2 (i := 8) rfl rfl), (mT2 (i := 9) rfl rfl), (mT1 (i := 1) rfl rfl), (mT2 (i := 10) rfl rfl), ⟨by decide +kernel, by decide +kernel, by decide +kernel⟩⟩
theorem m_L_44 : LkV R_law 44 y_M_append b_M_append 2 (some .int) 0 := ⟨(mT2 (i := 178) rfl rfl), (mT2 (i := 179) rfl rfl), (mT2 (i := 180) rfl rfl), (mT1 (i := 3) rfl rfl), (mT2 (i := 181) rfl rfl), ⟨by decide +kernel, by decide +kernel, by decide +kernel⟩⟩
theorem m_L_45 : LkV R_law 45 y_X_again b_X_again 3 (some .int) 0 := ⟨(mT2 (i := 48) rfl rfl), (mT2 (i := 49) rfl rfl), (mT2 (i := 50) rfl rfl), (mT1 (i := 1) rfl rfl), (mT2 (i := 51) rfl rfl), ⟨by decide +kernel, by decide +kernel, by decide +kernel⟩⟩
theorem m_L_48 : LkV R_law 48 y_M_again b_M_again 4 (some .int) 0 := ⟨(mT2 (i := 209) rfl rfl), (mT2 (i := 210) rfl rfl), (mT2 (i := 211) rfl rfl), (mT1 (i := 3) rfl rfl), (mT2 (i := 212) rfl rfl), ⟨by decide +kernel, by decide +kernel, by decide +kernel⟩⟩
theorem m_L_49 : LkV R_law 49 y_X_wrap b_X_wrap 1 (some .int) 0 := ⟨(mT2 (i := 52) rfl rfl), (mT2 (i := 53) rfl rfl), (mT2 (i := 54) rfl rfl), (mT1 (i := 1) rfl rfl), (mT2 (i := 55) rfl rfl), ⟨by decide +kernel, by decide +kernel, by decide +kernel⟩⟩
theorem m_L_52 : LkV R_law 52 y_M_wrap b_M_wrap 2 (some .int) 0 := ⟨(mT2 (i := 213) rfl rfl), (mT2 (i := 214) rfl rfl), (mT2 (i := 215) rfl rfl), (mT1 (i := 3) rfl rfl), (mT2 (i := 216) rfl rfl), ⟨by decide +kernel, by decide +kernel, by decide +kernel⟩⟩
theorem m_L_53 : LkV R_law 53 y_X_listAt b_X_listAt 2 (some .int) 1 := ⟨(mT2 (i := 56) rfl rfl), (mT2 (i := 57) rfl rfl), (mT2 (i := 58) rfl rfl), (mT1 (i := 1) rfl rfl), (mT2 (i := 59) rfl rfl), ⟨by decide +kernel, by decide +kernel, by decide +kernel⟩⟩
theorem m_L_56 : LkV R_law 56 y_M_listAt b_M_listAt 2 (some .int) 1 := ⟨(mT2 (i := 217) rfl rfl), (mT2 (i := 218) rfl rfl), (mT2 (i := 219) rfl rfl), (mT1 (i := 3) rfl rfl), (mT2 (i := 220) rfl rfl), ⟨by decide +kernel, by decide +kernel, by decide +kernel⟩⟩
theorem m_L_57 : LkV R_law 57 y_X_itemAt b_X_itemAt 2 (some .int) 1 := ⟨(mT2 (i := 60) rfl rfl), (mT2 (i := 61) rfl rfl), (mT2 (i := 62) rfl rfl), (mT1 (i := 1) rfl rfl), (mT2 (i := 63) rfl rfl), ⟨by decide +kernel, by decide +kernel, by decide +kernel⟩⟩
theorem m_L_60 : LkV R_law 60 y_M_itemAt b_M_itemAt 2 (some .int) 1 := ⟨(mT2 (i := 221) rfl rfl), (mT2 (i := 222) rfl rfl), (mT2 (i := 223) rfl rfl), (mT1 (i := 3) rfl rfl), (mT2 (i := 224) rfl rfl), ⟨by decide +kernel, by decide +kernel, by decide +kernel⟩⟩
end
section
abbrev rm_R_byteAt : Room := { frames := 0, cells := 0, slots := 0, locals := 0 }
def p_R_byteAt_0 (N : Nat) (size_this : Int32) (a_bytes : Nat → Int32) (x1 : Int32) : Option (Int32) := (if x1 < (0 : Int32) then some ((-1 : Int32)) else (if size_this ≤ x1 then some ((-1 : Int32)) else (if (x1 < 0 ∨ 1024 ≤ x1.toNatClampNeg) then none else some ((a_bytes x1.toNatClampNeg)))))
def p_R_byteAt (N : Nat) (size_this : Int32) (a_bytes : Nat → Int32) (x1 : Int32) : Option (Int32) := p_R_byteAt_0 N size_this a_bytes x1
abbrev rm_X_itemAt : Room := { frames := 1, cells := 0, slots := 0, locals := 21 }
def p_X_itemAt_0 (N : Nat) (size_item : Int32) (a_item_bytes : Nat → Int32) (x1 : Int32) : Option (Int32) := ((p_R_byteAt N size_item a_item_bytes x1).bind fun r_5 => some (r_5))
def p_X_itemAt (N : Nat) (size_item : Int32) (a_item_bytes : Nat → Int32) (x1 : Int32) : Option (Int32) := p_X_itemAt_0 N size_item a_item_bytes x1
abbrev rm_M_itemAt : Room := { frames := 0, cells := 0, slots := 0, locals := 0 }
def p_M_itemAt_0 (N : Nat) (itemSize_this : Int32) (a_item : Nat → Int32) (x1 : Int32) : Option (Int32) := (if x1 < (0 : Int32) then some ((-1 : Int32)) else (if itemSize_this ≤ x1 then some ((-1 : Int32)) else (if (x1 < 0 ∨ 1024 ≤ x1.toNatClampNeg) then none else some ((a_item x1.toNatClampNeg)))))
def p_M_itemAt (N : Nat) (itemSize_this : Int32) (a_item : Nat → Int32) (x1 : Int32) : Option (Int32) := p_M_itemAt_0 N itemSize_this a_item x1
abbrev rm_X_listAt : Room := { frames := 1, cells := 0, slots := 0, locals := 21 }
def p_X_listAt_0 (N : Nat) (size_list : Int32) (a_list_bytes : Nat → Int32) (x1 : Int32) : Option (Int32) := ((p_R_byteAt N size_list a_list_bytes x1).bind fun r_5 => some (r_5))
def p_X_listAt (N : Nat) (size_list : Int32) (a_list_bytes : Nat → Int32) (x1 : Int32) : Option (Int32) := p_X_listAt_0 N size_list a_list_bytes x1
abbrev rm_M_listAt : Room := { frames := 0, cells := 0, slots := 0, locals := 0 }
def p_M_listAt_0 (N : Nat) (listSize_this : Int32) (a_list : Nat → Int32) (x1 : Int32) : Option (Int32) := (if x1 < (0 : Int32) then some ((-1 : Int32)) else (if listSize_this ≤ x1 then some ((-1 : Int32)) else (if (x1 < 0 ∨ 1024 ≤ x1.toNatClampNeg) then none else some ((a_list x1.toNatClampNeg)))))
def p_M_listAt (N : Nat) (listSize_this : Int32) (a_list : Nat → Int32) (x1 : Int32) : Option (Int32) := p_M_listAt_0 N listSize_this a_list x1
abbrev rm_R_putAll : Room := { frames := 1, cells := 0, slots := 0, locals := 40 }
def p_R_putAll_0 (N : Nat) (size_p1 : Int32) (a_p1_bytes : Nat → Int32) (size_this : Int32) (a_bytes : Nat → Int32) : Option (Int32 × Int32 × (Nat → Int32)) := (if size_p1 ≤ ((1024 : Int32) - size_this) then (if ((0 : Int32) < 0 ∨ size_this < 0 ∨ size_p1 < 0 ∨ 1024 < (0 : Int32).toNatClampNeg + size_p1.toNatClampNeg ∨ 1024 < size_this.toNatClampNeg + size_p1.toNatClampNeg) then none else some ((1 : Int32), (size_this + size_p1), (va_cpy a_p1_bytes a_bytes (0 : Int32).toNatClampNeg size_this.toNatClampNeg size_p1.toNatClampNeg))) else some ((0 : Int32), size_this, a_bytes))
def p_R_putAll (N : Nat) (size_this : Int32) (a_bytes : Nat → Int32) (size_p1 : Int32) (a_p1_bytes : Nat → Int32) : Option (Int32 × Int32 × (Nat → Int32)) := p_R_putAll_0 N size_p1 a_p1_bytes size_this a_bytes
abbrev rm_R_takeAll : Room := { frames := 2, cells := 0, slots := 0, locals := 61 }
def p_R_takeAll_0 (N : Nat) (a_p1_bytes : Nat → Int32) (size_this : Int32) (a_bytes : Nat → Int32) (size_p1 : Int32) : Option (Int32 × Int32 × (Nat → Int32) × Int32) := ((p_R_putAll N (0 : Int32) a_bytes size_p1 a_p1_bytes).bind fun r_7 => some (r_7.2.1, r_7.2.1, r_7.2.2, (0 : Int32)))
def p_R_takeAll (N : Nat) (size_this : Int32) (a_bytes : Nat → Int32) (size_p1 : Int32) (a_p1_bytes : Nat → Int32) : Option (Int32 × Int32 × (Nat → Int32) × Int32) := p_R_takeAll_0 N a_p1_bytes size_this a_bytes size_p1
abbrev rm_X_wrap : Room := { frames := 3, cells := 0, slots := 0, locals := 82 }
def p_X_wrap_0 (N : Nat) (a_list_bytes : Nat → Int32) (size_list : Int32) (size_item : Int32) (a_item_bytes : Nat → Int32) : Option (Int32 × Int32 × Int32 × (Nat → Int32)) := ((p_R_takeAll N size_item a_item_bytes size_list a_list_bytes).bind fun r_8 => some (r_8.1, r_8.2.2.2, r_8.2.1, r_8.2.2.1))
def p_X_wrap (N : Nat) (size_list : Int32) (a_list_bytes : Nat → Int32) (size_item : Int32) (a_item_bytes : Nat → Int32) : Option (Int32 × Int32 × Int32 × (Nat → Int32)) := p_X_wrap_0 N a_list_bytes size_list size_item a_item_bytes
abbrev rm_M_wrap : Room := { frames := 0, cells := 0, slots := 0, locals := 0 }
def p_M_wrap_2 (N : Nat) (a_list : Nat → Int32) : Nat → Int32 → Int32 → (Nat → Int32) → Int32 → Option (Int32 × Int32 × Int32 × (Nat → Int32))
  | 0, _, _, _, _ => none
  | n + 1, listSize_this, itemSize_this, a_item, x1 => (if listSize_this ≤ x1 then some (listSize_this, (0 : Int32), listSize_this, a_item) else (if (x1 < 0 ∨ 1024 ≤ x1.toNatClampNeg) then none else (if (x1 < 0 ∨ 1024 ≤ x1.toNatClampNeg) then none else (p_M_wrap_2 N a_list n listSize_this itemSize_this (upd a_item x1.toNatClampNeg (a_list x1.toNatClampNeg)) (x1 + (1 : Int32))))))
def p_M_wrap_0 (N : Nat) (a_list : Nat → Int32) (listSize_this : Int32) (itemSize_this : Int32) (a_item : Nat → Int32) : Option (Int32 × Int32 × Int32 × (Nat → Int32)) := (p_M_wrap_2 N a_list N listSize_this itemSize_this a_item (0 : Int32))
def p_M_wrap (N : Nat) (listSize_this : Int32) (itemSize_this : Int32) (a_list : Nat → Int32) (a_item : Nat → Int32) : Option (Int32 × Int32 × Int32 × (Nat → Int32)) := p_M_wrap_0 N a_list listSize_this itemSize_this a_item
abbrev rm_R_size : Room := { frames := 0, cells := 0, slots := 0, locals := 0 }
def p_R_size_0 (N : Nat) (size_this : Int32) : Option (Int32) := some (size_this)
def p_R_size (N : Nat) (size_this : Int32) : Option (Int32) := p_R_size_0 N size_this
abbrev rm_X_isNamedSpace : Room := { frames := 0, cells := 0, slots := 0, locals := 0 }
def p_X_isNamedSpace_0 (N : Nat) (x0 : Int32) : Option (Int32) := (if x0 < (9 : Int32) then some ((0 : Int32)) else (if (13 : Int32) < x0 then some ((0 : Int32)) else some ((1 : Int32))))
def p_X_isNamedSpace (N : Nat) (x0 : Int32) : Option (Int32) := p_X_isNamedSpace_0 N x0
abbrev rm_X_isSpace : Room := { frames := 1, cells := 0, slots := 0, locals := 20 }
def p_X_isSpace_0 (N : Nat) (x0 : Int32) : Option (Int32) := (if x0 = (32 : Int32) then some ((1 : Int32)) else ((p_X_isNamedSpace N x0).bind fun r_7 => (if r_7 = (0 : Int32) then some ((0 : Int32)) else some ((1 : Int32)))))
def p_X_isSpace (N : Nat) (x0 : Int32) : Option (Int32) := p_X_isSpace_0 N x0
abbrev rm_X_behindSpaces : Room := { frames := 2, cells := 0, slots := 0, locals := 40 }
def p_X_behindSpaces_2 (N : Nat) (size_list : Int32) (a_list_bytes : Nat → Int32) : Nat → Int32 → Option (Int32)
  | 0, _ => none
  | n + 1, x2 => ((p_R_size N size_list).bind fun r_7 => (if r_7 ≤ x2 then some (x2) else ((p_R_byteAt N size_list a_list_bytes x2).bind fun r_18 => ((p_X_isSpace N r_18).bind fun r_21 => (if r_21 = (0 : Int32) then some (x2) else (p_X_behindSpaces_2 N size_list a_list_bytes n (x2 + (1 : Int32))))))))
def p_X_behindSpaces_0 (N : Nat) (size_list : Int32) (a_list_bytes : Nat → Int32) (x1 : Int32) : Option (Int32) := (p_X_behindSpaces_2 N size_list a_list_bytes N x1)
def p_X_behindSpaces (N : Nat) (size_list : Int32) (a_list_bytes : Nat → Int32) (x1 : Int32) : Option (Int32) := p_X_behindSpaces_0 N size_list a_list_bytes x1
abbrev rm_R_cutTo : Room := { frames := 0, cells := 0, slots := 0, locals := 0 }
def p_R_cutTo_0 (N : Nat) (size_this : Int32) (x1 : Int32) : Option (Int32 × Int32) := (if x1 < (0 : Int32) then some ((0 : Int32), size_this) else (if x1 ≤ size_this then some ((1 : Int32), x1) else some ((0 : Int32), size_this)))
def p_R_cutTo (N : Nat) (size_this : Int32) (x1 : Int32) : Option (Int32 × Int32) := p_R_cutTo_0 N size_this x1
abbrev rm_R_put : Room := { frames := 0, cells := 0, slots := 0, locals := 0 }
def p_R_put_0 (N : Nat) (size_this : Int32) (a_bytes : Nat → Int32) (x1 : Int32) : Option (Int32 × Int32 × (Nat → Int32)) := (if size_this < (1024 : Int32) then (if (size_this < 0 ∨ 1024 ≤ size_this.toNatClampNeg) then none else some ((1 : Int32), (size_this + (1 : Int32)), (upd a_bytes size_this.toNatClampNeg (x1 &&& (255 : Int32))))) else some ((0 : Int32), size_this, a_bytes))
def p_R_put (N : Nat) (size_this : Int32) (a_bytes : Nat → Int32) (x1 : Int32) : Option (Int32 × Int32 × (Nat → Int32)) := p_R_put_0 N size_this a_bytes x1
abbrev rm_X_readBraced : Room := { frames := 1, cells := 0, slots := 0, locals := 21 }
def p_X_readBraced_48 (N : Nat) (size_list : Int32) (a_list_bytes : Nat → Int32) (k_4 : Int32 → (Nat → Int32) → Int32 → Int32 → Option (Int32 × Int32 × (Nat → Int32))) (size_word : Int32) (a_word_bytes : Nat → Int32) (x2 : Int32) (x3 : Int32) (x4 : Int32) : Option (Int32 × Int32 × (Nat → Int32)) := (if x2 = (0 : Int32) then some (x3, size_word, a_word_bytes) else ((p_R_put N size_word a_word_bytes x4).bind fun r_60 => (if x4 = (92 : Int32) then ((p_R_size N size_list).bind fun r_78 => (if r_78 ≤ (x3 + (1 : Int32)) then (k_4 r_60.2.1 r_60.2.2 x2 (x3 + (1 : Int32))) else ((p_R_byteAt N size_list a_list_bytes (x3 + (1 : Int32))).bind fun r_96 => ((p_R_put N r_60.2.1 r_60.2.2 r_96).bind fun r_99 => (k_4 r_99.2.1 r_99.2.2 x2 ((x3 + (1 : Int32)) + (1 : Int32))))))) else (k_4 r_60.2.1 r_60.2.2 x2 (x3 + (1 : Int32))))))
def p_X_readBraced_4 (N : Nat) (size_list : Int32) (a_list_bytes : Nat → Int32) : Nat → Int32 → (Nat → Int32) → Int32 → Int32 → Option (Int32 × Int32 × (Nat → Int32))
  | 0, _, _, _, _ => none
  | n + 1, size_word, a_word_bytes, x2, x3 => ((p_R_size N size_list).bind fun r_9 => (if r_9 ≤ x3 then some ((-2 : Int32), size_word, a_word_bytes) else ((p_R_byteAt N size_list a_list_bytes x3).bind fun r_20 => (if r_20 = (123 : Int32) then (p_X_readBraced_48 N size_list a_list_bytes (p_X_readBraced_4 N size_list a_list_bytes n) size_word a_word_bytes (x2 + (1 : Int32)) x3 r_20) else (if r_20 = (125 : Int32) then (p_X_readBraced_48 N size_list a_list_bytes (p_X_readBraced_4 N size_list a_list_bytes n) size_word a_word_bytes (x2 + (-1 : Int32)) x3 r_20) else (p_X_readBraced_48 N size_list a_list_bytes (p_X_readBraced_4 N size_list a_list_bytes n) size_word a_word_bytes x2 x3 r_20))))))
def p_X_readBraced_0 (N : Nat) (size_list : Int32) (a_list_bytes : Nat → Int32) (size_word : Int32) (a_word_bytes : Nat → Int32) (x1 : Int32) : Option (Int32 × Int32 × (Nat → Int32)) := (p_X_readBraced_4 N size_list a_list_bytes N size_word a_word_bytes (1 : Int32) x1)
def p_X_readBraced (N : Nat) (size_list : Int32) (a_list_bytes : Nat → Int32) (size_word : Int32) (a_word_bytes : Nat → Int32) (x1 : Int32) : Option (Int32 × Int32 × (Nat → Int32)) := p_X_readBraced_0 N size_list a_list_bytes size_word a_word_bytes x1
abbrev rm_X_behindCloser : Room := { frames := 2, cells := 0, slots := 0, locals := 40 }
def p_X_behindCloser_0 (N : Nat) (size_list : Int32) (a_list_bytes : Nat → Int32) (x1 : Int32) : Option (Int32) := (if x1 = (-2 : Int32) then some ((-2 : Int32)) else ((p_R_byteAt N size_list a_list_bytes (x1 + (1 : Int32))).bind fun r_16 => (if r_16 = (-1 : Int32) then some ((x1 + (1 : Int32))) else ((p_X_isSpace N r_16).bind fun r_26 => (if r_26 = (0 : Int32) then some ((-2 : Int32)) else some ((x1 + (1 : Int32))))))))
def p_X_behindCloser (N : Nat) (size_list : Int32) (a_list_bytes : Nat → Int32) (x1 : Int32) : Option (Int32) := p_X_behindCloser_0 N size_list a_list_bytes x1
abbrev rm_X_digitOf : Room := { frames := 0, cells := 0, slots := 0, locals := 0 }
def p_X_digitOf_37 (N : Nat) (x0 : Int32) : Option (Int32) := (if x0 < (65 : Int32) then some ((16 : Int32)) else (if (70 : Int32) < x0 then some ((16 : Int32)) else some (((x0 - (65 : Int32)) + (10 : Int32)))))
def p_X_digitOf_17 (N : Nat) (x0 : Int32) : Option (Int32) := (if x0 < (97 : Int32) then (p_X_digitOf_37 N x0) else (if (102 : Int32) < x0 then (p_X_digitOf_37 N x0) else some (((x0 - (97 : Int32)) + (10 : Int32)))))
def p_X_digitOf_0 (N : Nat) (x0 : Int32) : Option (Int32) := (if x0 < (48 : Int32) then (p_X_digitOf_17 N x0) else (if (57 : Int32) < x0 then (p_X_digitOf_17 N x0) else some ((x0 - (48 : Int32)))))
def p_X_digitOf (N : Nat) (x0 : Int32) : Option (Int32) := p_X_digitOf_0 N x0
abbrev rm_X_countDigits : Room := { frames := 1, cells := 0, slots := 0, locals := 21 }
def p_X_countDigits_3 (N : Nat) (size_list : Int32) (a_list_bytes : Nat → Int32) : Nat → Int32 → Int32 → Int32 → Int32 → Option (Int32)
  | 0, _, _, _, _ => none
  | n + 1, x1, x2, x3, x4 => (if x2 ≤ x4 then some (x4) else ((p_R_byteAt N size_list a_list_bytes (x1 + x4)).bind fun r_17 => ((p_X_digitOf N r_17).bind fun r_20 => (if x3 ≤ r_20 then some (x4) else (p_X_countDigits_3 N size_list a_list_bytes n x1 x2 x3 (x4 + (1 : Int32)))))))
def p_X_countDigits_0 (N : Nat) (size_list : Int32) (a_list_bytes : Nat → Int32) (x1 : Int32) (x2 : Int32) (x3 : Int32) : Option (Int32) := (p_X_countDigits_3 N size_list a_list_bytes N x1 x2 x3 (0 : Int32))
def p_X_countDigits (N : Nat) (size_list : Int32) (a_list_bytes : Nat → Int32) (x1 : Int32) (x2 : Int32) (x3 : Int32) : Option (Int32) := p_X_countDigits_0 N size_list a_list_bytes x1 x2 x3
abbrev rm_X_numberAt : Room := { frames := 1, cells := 0, slots := 0, locals := 21 }
def p_X_numberAt_6 (N : Nat) (size_list : Int32) (a_list_bytes : Nat → Int32) : Nat → Int32 → Int32 → Int32 → Int32 → Int32 → Option (Int32)
  | 0, _, _, _, _, _ => none
  | n + 1, x1, x2, x3, x4, x5 => (if x2 ≤ x5 then some ((x4 &&& (255 : Int32))) else ((p_R_byteAt N size_list a_list_bytes (x1 + x5)).bind fun r_24 => ((p_X_digitOf N r_24).bind fun r_27 => (p_X_numberAt_6 N size_list a_list_bytes n x1 x2 x3 ((x4 * x3) + r_27) (x5 + (1 : Int32))))))
def p_X_numberAt_0 (N : Nat) (size_list : Int32) (a_list_bytes : Nat → Int32) (x1 : Int32) (x2 : Int32) (x3 : Int32) : Option (Int32) := (p_X_numberAt_6 N size_list a_list_bytes N x1 x2 x3 (0 : Int32) (0 : Int32))
def p_X_numberAt (N : Nat) (size_list : Int32) (a_list_bytes : Nat → Int32) (x1 : Int32) (x2 : Int32) (x3 : Int32) : Option (Int32) := p_X_numberAt_0 N size_list a_list_bytes x1 x2 x3
abbrev rm_S_isLatin1 : Room := { frames := 0, cells := 0, slots := 0, locals := 0 }
def p_S_isLatin1_0 (N : Nat) (k0 : Nat) : Option (Int32) := (if (1 : Int32) = (0 : Int32) then some ((0 : Int32)) else (if (0 : Int32) = (0 : Int32) then some ((1 : Int32)) else some ((0 : Int32))))
def p_S_isLatin1 (N : Nat) (k0 : Nat) : Option (Int32) := p_S_isLatin1_0 N k0
abbrev rm_S_coder : Room := { frames := 0, cells := 0, slots := 0, locals := 0 }
def p_S_coder_0 (N : Nat) (k0 : Nat) : Option (Int32) := (if (1 : Int32) = (0 : Int32) then some ((1 : Int32)) else some ((0 : Int32)))
def p_S_coder (N : Nat) (k0 : Nat) : Option (Int32) := p_S_coder_0 N k0
abbrev rm_S_length : Room := { frames := 1, cells := 0, slots := 0, locals := 20 }
def p_S_length_0 (N : Nat) (k0 : Nat) : Option (Int32) := ((p_S_coder N k0).bind fun r_6 => some (((Int32.ofNat (lenJS.getD k0 0)) >>> (r_6 &&& 31))))
def p_S_length (N : Nat) (k0 : Nat) : Option (Int32) := p_S_length_0 N k0
abbrev rm_SL_canEncode1 : Room := { frames := 0, cells := 0, slots := 0, locals := 0 }
def p_SL_canEncode1_0 (N : Nat) (x0 : Int32) : Option (Int32) := (if x0 < (0 : Int32) then some ((0 : Int32)) else (if (255 : Int32) < x0 then some ((0 : Int32)) else some ((1 : Int32))))
def p_SL_canEncode1 (N : Nat) (x0 : Int32) : Option (Int32) := p_SL_canEncode1_0 N x0
abbrev rm_SL_indexOfChar : Room := { frames := 0, cells := 0, slots := 0, locals := 0 }
def p_SL_indexOfChar_7 (N : Nat) (k0 : Nat) : Nat → Int32 → Int32 → Int32 → Option (Int32)
  | 0, _, _, _ => none
  | n + 1, x3, x4, x5 => (if x3 ≤ x5 then some ((-1 : Int32)) else (if (x5 < 0 ∨ lenJS.getD k0 0 ≤ x5.toNatClampNeg) then none else (if ((bytJS.getD k0 []).getD x5.toNatClampNeg 0) = x4 then some (x5) else (p_SL_indexOfChar_7 N k0 n x3 x4 (x5 + (1 : Int32))))))
def p_SL_indexOfChar_0 (N : Nat) (k0 : Nat) (x1 : Int32) (x2 : Int32) (x3 : Int32) : Option (Int32) := (p_SL_indexOfChar_7 N k0 N x3 x1.toInt8.toInt32 x2)
def p_SL_indexOfChar (N : Nat) (k0 : Nat) (x1 : Int32) (x2 : Int32) (x3 : Int32) : Option (Int32) := p_SL_indexOfChar_0 N k0 x1 x2 x3
abbrev rm_SL_indexOf0 : Room := { frames := 1, cells := 0, slots := 0, locals := 30 }
def p_SL_indexOf0_0 (N : Nat) (k0 : Nat) (x1 : Int32) (x2 : Int32) (x3 : Int32) : Option (Int32) := ((p_SL_canEncode1 N x1).bind fun r_1 => (if r_1 = (0 : Int32) then some ((-1 : Int32)) else (if (if x2 < (0 : Int32) then (0 : Int32) else x2) < (if (Int32.ofNat (lenJS.getD k0 0)) < x3 then (Int32.ofNat (lenJS.getD k0 0)) else x3) then ((p_SL_indexOfChar N k0 x1 (if x2 < (0 : Int32) then (0 : Int32) else x2) (if (Int32.ofNat (lenJS.getD k0 0)) < x3 then (Int32.ofNat (lenJS.getD k0 0)) else x3)).bind fun r_33 => some (r_33)) else some ((-1 : Int32)))))
def p_SL_indexOf0 (N : Nat) (k0 : Nat) (x1 : Int32) (x2 : Int32) (x3 : Int32) : Option (Int32) := p_SL_indexOf0_0 N k0 x1 x2 x3
abbrev rm_S_indexOf1 : Room := { frames := 2, cells := 0, slots := 0, locals := 53 }
def p_S_indexOf1_0 (N : Nat) (k0 : Nat) (x1 : Int32) (x2 : Int32) : Option (Int32) := ((p_S_isLatin1 N k0).bind fun r_1 => (if r_1 = (0 : Int32) then ((p_S_length N k0).bind fun r_30 => none) else ((p_S_length N k0).bind fun r_14 => ((p_SL_indexOf0 N k0 x1 x2 r_14).bind fun r_17 => some (r_17)))))
def p_S_indexOf1 (N : Nat) (k0 : Nat) (x1 : Int32) (x2 : Int32) : Option (Int32) := p_S_indexOf1_0 N k0 x1 x2
abbrev rm_S_indexOf0 : Room := { frames := 3, cells := 0, slots := 0, locals := 75 }
def p_S_indexOf0_0 (N : Nat) (k0 : Nat) (x1 : Int32) : Option (Int32) := ((p_S_indexOf1 N k0 x1 (0 : Int32)).bind fun r_3 => some (r_3))
def p_S_indexOf0 (N : Nat) (k0 : Nat) (x1 : Int32) : Option (Int32) := p_S_indexOf0_0 N k0 x1
abbrev rm_X_meaningOfBackslash : Room := { frames := 4, cells := 0, slots := 0, locals := 96 }
def p_X_meaningOfBackslash_0 (N : Nat) (size_list : Int32) (a_list_bytes : Nat → Int32) (x1 : Int32) : Option (Int32) := ((p_R_byteAt N size_list a_list_bytes (x1 + (1 : Int32))).bind fun r_7 => (if r_7 = (-1 : Int32) then some ((92 : Int32)) else (if r_7 = (10 : Int32) then some ((32 : Int32)) else (if r_7 = (120 : Int32) then ((p_X_countDigits N size_list a_list_bytes (x1 + (2 : Int32)) (2 : Int32) (16 : Int32)).bind fun r_41 => (if r_41 = (0 : Int32) then some ((120 : Int32)) else ((p_X_numberAt N size_list a_list_bytes (x1 + (2 : Int32)) r_41 (16 : Int32)).bind fun r_61 => some (r_61)))) else ((p_X_countDigits N size_list a_list_bytes (x1 + (1 : Int32)) (3 : Int32) (8 : Int32)).bind fun r_72 => (if r_72 ≤ (0 : Int32) then ((p_S_indexOf0 N 0 (r_7.toUInt32 % 65536).toInt32).bind fun r_95 => (if r_95 < (0 : Int32) then some (r_7) else some (((7 : Int32) + r_95)))) else ((p_X_numberAt N size_list a_list_bytes (x1 + (1 : Int32)) r_72 (8 : Int32)).bind fun r_87 => some (r_87))))))))
def p_X_meaningOfBackslash (N : Nat) (size_list : Int32) (a_list_bytes : Nat → Int32) (x1 : Int32) : Option (Int32) := p_X_meaningOfBackslash_0 N size_list a_list_bytes x1
abbrev rm_X_countBlanks : Room := { frames := 1, cells := 0, slots := 0, locals := 21 }
def p_X_countBlanks_2 (N : Nat) (size_list : Int32) (a_list_bytes : Nat → Int32) : Nat → Int32 → Int32 → Option (Int32)
  | 0, _, _ => none
  | n + 1, x1, x2 => ((p_R_size N size_list).bind fun r_7 => (if r_7 ≤ x2 then some ((x2 - x1)) else ((p_R_byteAt N size_list a_list_bytes x2).bind fun r_18 => (if r_18 = (32 : Int32) then (p_X_countBlanks_2 N size_list a_list_bytes n x1 (x2 + (1 : Int32))) else ((p_R_byteAt N size_list a_list_bytes x2).bind fun r_31 => (if r_31 = (9 : Int32) then (p_X_countBlanks_2 N size_list a_list_bytes n x1 (x2 + (1 : Int32))) else some ((x2 - x1))))))))
def p_X_countBlanks_0 (N : Nat) (size_list : Int32) (a_list_bytes : Nat → Int32) (x1 : Int32) : Option (Int32) := (p_X_countBlanks_2 N size_list a_list_bytes N x1 x1)
def p_X_countBlanks (N : Nat) (size_list : Int32) (a_list_bytes : Nat → Int32) (x1 : Int32) : Option (Int32) := p_X_countBlanks_0 N size_list a_list_bytes x1
abbrev rm_X_bytesBehindBackslash : Room := { frames := 2, cells := 0, slots := 0, locals := 45 }
def p_X_bytesBehindBackslash_0 (N : Nat) (size_list : Int32) (a_list_bytes : Nat → Int32) (x1 : Int32) : Option (Int32) := ((p_R_byteAt N size_list a_list_bytes (x1 + (1 : Int32))).bind fun r_7 => ((p_R_byteAt N size_list a_list_bytes x1).bind fun r_16 => (if r_16 = (92 : Int32) then (if r_7 = (-1 : Int32) then some ((0 : Int32)) else (if r_7 = (10 : Int32) then ((p_X_countBlanks N size_list a_list_bytes (x1 + (2 : Int32))).bind fun r_42 => some (((1 : Int32) + r_42))) else (if r_7 = (120 : Int32) then ((p_X_countDigits N size_list a_list_bytes (x1 + (2 : Int32)) (2 : Int32) (16 : Int32)).bind fun r_61 => some (((1 : Int32) + r_61))) else ((p_X_countDigits N size_list a_list_bytes (x1 + (1 : Int32)) (3 : Int32) (8 : Int32)).bind fun r_74 => some ((if (1 : Int32) < r_74 then r_74 else (1 : Int32))))))) else some ((0 : Int32)))))
def p_X_bytesBehindBackslash (N : Nat) (size_list : Int32) (a_list_bytes : Nat → Int32) (x1 : Int32) : Option (Int32) := p_X_bytesBehindBackslash_0 N size_list a_list_bytes x1
abbrev rm_X_readUnbraced : Room := { frames := 5, cells := 0, slots := 0, locals := 120 }
def p_X_readUnbraced_68 (N : Nat) (size_list : Int32) (a_list_bytes : Nat → Int32) (k_2 : Int32 → (Nat → Int32) → Int32 → Int32 → Option (Int32 × Int32 × (Nat → Int32))) (size_word : Int32) (a_word_bytes : Nat → Int32) (x2 : Int32) (x3 : Int32) (y0 : Int32) : Option (Int32 × Int32 × (Nat → Int32)) := ((p_R_put N size_word a_word_bytes y0).bind fun r_68 => ((p_X_bytesBehindBackslash N size_list a_list_bytes x3).bind fun r_75 => (k_2 r_68.2.1 r_68.2.2 x2 ((x3 + r_75) + (1 : Int32)))))
def p_X_readUnbraced_47 (N : Nat) (size_list : Int32) (a_list_bytes : Nat → Int32) (k_2 : Int32 → (Nat → Int32) → Int32 → Int32 → Option (Int32 × Int32 × (Nat → Int32))) (size_word : Int32) (a_word_bytes : Nat → Int32) (x2 : Int32) (x3 : Int32) (x4 : Int32) : Option (Int32 × Int32 × (Nat → Int32)) := (if x4 = (92 : Int32) then ((p_X_meaningOfBackslash N size_list a_list_bytes x3).bind fun r_60 => (p_X_readUnbraced_68 N size_list a_list_bytes k_2 size_word a_word_bytes x2 x3 r_60)) else (p_X_readUnbraced_68 N size_list a_list_bytes k_2 size_word a_word_bytes x2 x3 x4))
def p_X_readUnbraced_2 (N : Nat) (size_list : Int32) (a_list_bytes : Nat → Int32) : Nat → Int32 → (Nat → Int32) → Int32 → Int32 → Option (Int32 × Int32 × (Nat → Int32))
  | 0, _, _, _, _ => none
  | n + 1, size_word, a_word_bytes, x2, x3 => ((p_R_size N size_list).bind fun r_7 => (if r_7 ≤ x3 then (if x2 = (0 : Int32) then ((p_R_size N size_list).bind fun r_99 => some (r_99, size_word, a_word_bytes)) else some ((-2 : Int32), size_word, a_word_bytes)) else ((p_R_byteAt N size_list a_list_bytes x3).bind fun r_18 => (if x2 = (0 : Int32) then ((p_X_isSpace N r_18).bind fun r_39 => (if r_39 = (0 : Int32) then (p_X_readUnbraced_47 N size_list a_list_bytes (p_X_readUnbraced_2 N size_list a_list_bytes n) size_word a_word_bytes x2 x3 r_18) else some (x3, size_word, a_word_bytes))) else (if r_18 = (34 : Int32) then some (x3, size_word, a_word_bytes) else (p_X_readUnbraced_47 N size_list a_list_bytes (p_X_readUnbraced_2 N size_list a_list_bytes n) size_word a_word_bytes x2 x3 r_18))))))
def p_X_readUnbraced_0 (N : Nat) (size_list : Int32) (a_list_bytes : Nat → Int32) (size_word : Int32) (a_word_bytes : Nat → Int32) (x1 : Int32) (x2 : Int32) : Option (Int32 × Int32 × (Nat → Int32)) := (p_X_readUnbraced_2 N size_list a_list_bytes N size_word a_word_bytes x2 x1)
def p_X_readUnbraced (N : Nat) (size_list : Int32) (a_list_bytes : Nat → Int32) (size_word : Int32) (a_word_bytes : Nat → Int32) (x1 : Int32) (x2 : Int32) : Option (Int32 × Int32 × (Nat → Int32)) := p_X_readUnbraced_0 N size_list a_list_bytes size_word a_word_bytes x1 x2
abbrev rm_X_nextElement : Room := { frames := 6, cells := 0, slots := 0, locals := 144 }
def p_X_nextElement_84 (N : Nat) (size_list : Int32) (a_list_bytes : Nat → Int32) (place_this : Int32) (size_word : Int32) (a_word_bytes : Nat → Int32) (x3 : Int32) : Option (Int32 × Int32 × Int32 × (Nat → Int32)) := (if x3 = (-2 : Int32) then some ((-2 : Int32), place_this, size_word, a_word_bytes) else ((p_R_size N size_word).bind fun r_102 => some (r_102, x3, size_word, a_word_bytes)))
def p_X_nextElement_0 (N : Nat) (size_list : Int32) (a_list_bytes : Nat → Int32) (place_this : Int32) (size_word : Int32) (a_word_bytes : Nat → Int32) : Option (Int32 × Int32 × Int32 × (Nat → Int32)) := ((p_X_behindSpaces N size_list a_list_bytes place_this).bind fun r_5 => ((p_R_byteAt N size_list a_list_bytes r_5).bind fun r_14 => (if r_14 = (-1 : Int32) then some ((-1 : Int32), place_this, size_word, a_word_bytes) else ((p_R_cutTo N size_word (0 : Int32)).bind fun r_30 => (if r_14 = (123 : Int32) then ((p_X_readBraced N size_list a_list_bytes r_30.2 a_word_bytes (r_5 + (1 : Int32))).bind fun r_45 => ((p_X_behindCloser N size_list a_list_bytes r_45.1).bind fun r_48 => (p_X_nextElement_84 N size_list a_list_bytes place_this r_45.2.1 r_45.2.2 r_48))) else (if r_14 = (34 : Int32) then ((p_X_readUnbraced N size_list a_list_bytes r_30.2 a_word_bytes (r_5 + (1 : Int32)) (1 : Int32)).bind fun r_67 => ((p_X_behindCloser N size_list a_list_bytes r_67.1).bind fun r_70 => (p_X_nextElement_84 N size_list a_list_bytes place_this r_67.2.1 r_67.2.2 r_70))) else ((p_X_readUnbraced N size_list a_list_bytes r_30.2 a_word_bytes r_5 (0 : Int32)).bind fun r_80 => (p_X_nextElement_84 N size_list a_list_bytes place_this r_80.2.1 r_80.2.2 r_80.1))))))))
def p_X_nextElement (N : Nat) (place_this : Int32) (size_list : Int32) (a_list_bytes : Nat → Int32) (size_word : Int32) (a_word_bytes : Nat → Int32) : Option (Int32 × Int32 × Int32 × (Nat → Int32)) := p_X_nextElement_0 N size_list a_list_bytes place_this size_word a_word_bytes
abbrev rm_X_count : Room := { frames := 7, cells := 0, slots := 0, locals := 167 }
def p_X_count_12 (N : Nat) (size_list : Int32) (a_list_bytes : Nat → Int32) : Nat → Int32 → Int32 → (Nat → Int32) → Int32 → Int32 → Option (Int32 × Int32 × Int32 × (Nat → Int32))
  | 0, _, _, _, _, _ => none
  | n + 1, place_this, size_word, a_word_bytes, x1, x2 => (if x2 < (0 : Int32) then (if x2 = (-2 : Int32) then some ((-2 : Int32), place_this, size_word, a_word_bytes) else some (x1, place_this, size_word, a_word_bytes)) else (if (1024 : Int32) ≤ x1 then (if x2 = (-2 : Int32) then some ((-2 : Int32), place_this, size_word, a_word_bytes) else some (x1, place_this, size_word, a_word_bytes)) else ((p_X_nextElement N place_this size_list a_list_bytes size_word a_word_bytes).bind fun r_27 => (p_X_count_12 N size_list a_list_bytes n r_27.2.1 r_27.2.2.1 r_27.2.2.2 (x1 + (1 : Int32)) r_27.1))))
def p_X_count_0 (N : Nat) (size_list : Int32) (a_list_bytes : Nat → Int32) (place_this : Int32) (size_word : Int32) (a_word_bytes : Nat → Int32) : Option (Int32 × Int32 × Int32 × (Nat → Int32)) := ((p_X_nextElement N (0 : Int32) size_list a_list_bytes size_word a_word_bytes).bind fun r_8 => (p_X_count_12 N size_list a_list_bytes N r_8.2.1 r_8.2.2.1 r_8.2.2.2 (0 : Int32) r_8.1))
def p_X_count (N : Nat) (place_this : Int32) (size_list : Int32) (a_list_bytes : Nat → Int32) (size_word : Int32) (a_word_bytes : Nat → Int32) : Option (Int32 × Int32 × Int32 × (Nat → Int32)) := p_X_count_0 N size_list a_list_bytes place_this size_word a_word_bytes
abbrev rm_X_needsBackslash : Room := { frames := 4, cells := 0, slots := 0, locals := 96 }
def p_X_needsBackslash_0 (N : Nat) (size_p0 : Int32) (a_p0_bytes : Nat → Int32) (x1 : Int32) : Option (Int32) := ((p_R_byteAt N size_p0 a_p0_bytes x1).bind fun r_2 => ((p_X_isSpace N r_2).bind fun r_7 => (if r_7 = (0 : Int32) then ((p_S_indexOf0 N 1 (r_2.toUInt32 % 65536).toInt32).bind fun r_17 => (if (0 : Int32) ≤ r_17 then some ((1 : Int32)) else (if r_2 = (35 : Int32) then (if x1 = (0 : Int32) then some ((1 : Int32)) else some ((0 : Int32))) else some ((0 : Int32))))) else some ((1 : Int32)))))
def p_X_needsBackslash (N : Nat) (size_p0 : Int32) (a_p0_bytes : Nat → Int32) (x1 : Int32) : Option (Int32) := p_X_needsBackslash_0 N size_p0 a_p0_bytes x1
abbrev rm_X_canStandBare : Room := { frames := 5, cells := 0, slots := 0, locals := 118 }
def p_X_canStandBare_2 (N : Nat) (size_p0 : Int32) (a_p0_bytes : Nat → Int32) : Nat → Int32 → Option (Int32)
  | 0, _ => none
  | n + 1, x1 => ((p_R_size N size_p0).bind fun r_4 => (if r_4 ≤ x1 then ((p_R_size N size_p0).bind fun r_27 => (if r_27 ≤ (0 : Int32) then some ((0 : Int32)) else some ((1 : Int32)))) else ((p_X_needsBackslash N size_p0 a_p0_bytes x1).bind fun r_12 => (if r_12 = (0 : Int32) then (p_X_canStandBare_2 N size_p0 a_p0_bytes n (x1 + (1 : Int32))) else some ((0 : Int32))))))
def p_X_canStandBare_0 (N : Nat) (size_p0 : Int32) (a_p0_bytes : Nat → Int32) : Option (Int32) := (p_X_canStandBare_2 N size_p0 a_p0_bytes N (0 : Int32))
def p_X_canStandBare (N : Nat) (size_p0 : Int32) (a_p0_bytes : Nat → Int32) : Option (Int32) := p_X_canStandBare_0 N size_p0 a_p0_bytes
abbrev rm_X_canStandInBraces : Room := { frames := 1, cells := 0, slots := 0, locals := 21 }
def p_X_canStandInBraces_39 (N : Nat) (size_p0 : Int32) (a_p0_bytes : Nat → Int32) (k_4 : Int32 → Int32 → Option (Int32)) (x1 : Int32) (x2 : Int32) (x3 : Int32) : Option (Int32) := (if x3 = (92 : Int32) then some ((0 : Int32)) else (if (0 : Int32) ≤ x1 then (k_4 x1 (x2 + (1 : Int32))) else some ((0 : Int32))))
def p_X_canStandInBraces_4 (N : Nat) (size_p0 : Int32) (a_p0_bytes : Nat → Int32) : Nat → Int32 → Int32 → Option (Int32)
  | 0, _, _ => none
  | n + 1, x1, x2 => ((p_R_size N size_p0).bind fun r_6 => (if r_6 ≤ x2 then (if x1 = (0 : Int32) then some ((1 : Int32)) else some ((0 : Int32))) else ((p_R_byteAt N size_p0 a_p0_bytes x2).bind fun r_14 => (if r_14 = (123 : Int32) then (p_X_canStandInBraces_39 N size_p0 a_p0_bytes (p_X_canStandInBraces_4 N size_p0 a_p0_bytes n) (x1 + (1 : Int32)) x2 r_14) else (if r_14 = (125 : Int32) then (p_X_canStandInBraces_39 N size_p0 a_p0_bytes (p_X_canStandInBraces_4 N size_p0 a_p0_bytes n) (x1 + (-1 : Int32)) x2 r_14) else (p_X_canStandInBraces_39 N size_p0 a_p0_bytes (p_X_canStandInBraces_4 N size_p0 a_p0_bytes n) x1 x2 r_14))))))
def p_X_canStandInBraces_0 (N : Nat) (size_p0 : Int32) (a_p0_bytes : Nat → Int32) : Option (Int32) := (p_X_canStandInBraces_4 N size_p0 a_p0_bytes N (0 : Int32) (0 : Int32))
def p_X_canStandInBraces (N : Nat) (size_p0 : Int32) (a_p0_bytes : Nat → Int32) : Option (Int32) := p_X_canStandInBraces_0 N size_p0 a_p0_bytes
abbrev rm_PC_checkIndex0 : Room := { frames := 0, cells := 0, slots := 0, locals := 0 }
def p_PC_checkIndex0_0 (N : Nat) (x0 : Int32) (x1 : Int32) : Option (Int32) := (if x0 < (0 : Int32) then none else (if x0 < x1 then some (x0) else none))
def p_PC_checkIndex0 (N : Nat) (x0 : Int32) (x1 : Int32) : Option (Int32) := p_PC_checkIndex0_0 N x0 x1
abbrev rm_S_checkIndex : Room := { frames := 1, cells := 0, slots := 0, locals := 22 }
def p_S_checkIndex_0 (N : Nat) (x0 : Int32) (x1 : Int32) : Option (Unit) := ((p_PC_checkIndex0 N x0 x1).bind fun r_5 => some ())
def p_S_checkIndex (N : Nat) (x0 : Int32) (x1 : Int32) : Option (Unit) := p_S_checkIndex_0 N x0 x1
abbrev rm_SL_charAt : Room := { frames := 2, cells := 0, slots := 0, locals := 43 }
def p_SL_charAt_0 (N : Nat) (k0 : Nat) (x1 : Int32) : Option (Int32) := ((p_S_checkIndex N x1 (Int32.ofNat (lenJS.getD k0 0))).bind fun r_3 => (if (x1 < 0 ∨ lenJS.getD k0 0 ≤ x1.toNatClampNeg) then none else some (((((bytJS.getD k0 []).getD x1.toNatClampNeg 0) &&& (255 : Int32)).toUInt32 % 65536).toInt32)))
def p_SL_charAt (N : Nat) (k0 : Nat) (x1 : Int32) : Option (Int32) := p_SL_charAt_0 N k0 x1
abbrev rm_S_charAt : Room := { frames := 3, cells := 0, slots := 0, locals := 64 }
def p_S_charAt_0 (N : Nat) (k0 : Nat) (x1 : Int32) : Option (Int32) := ((p_S_isLatin1 N k0).bind fun r_1 => (if r_1 = (0 : Int32) then none else ((p_SL_charAt N k0 x1).bind fun r_12 => some (r_12))))
def p_S_charAt (N : Nat) (k0 : Nat) (x1 : Int32) : Option (Int32) := p_S_charAt_0 N k0 x1
abbrev rm_X_writeWithBackslashes : Room := { frames := 5, cells := 0, slots := 0, locals := 118 }
def p_X_writeWithBackslashes_56 (N : Nat) (size_p1 : Int32) (a_p1_bytes : Nat → Int32) (k_2 : Int32 → (Nat → Int32) → Int32 → Option (Int32 × Int32 × (Nat → Int32))) (size_p0 : Int32) (a_p0_bytes : Nat → Int32) (x2 : Int32) (y0 : Int32) : Option (Int32 × Int32 × (Nat → Int32)) := ((p_R_put N size_p0 a_p0_bytes y0).bind fun r_56 => (if r_56.1 = (0 : Int32) then some ((0 : Int32), r_56.2.1, r_56.2.2) else (k_2 r_56.2.1 r_56.2.2 (x2 + (1 : Int32)))))
def p_X_writeWithBackslashes_35 (N : Nat) (size_p1 : Int32) (a_p1_bytes : Nat → Int32) (k_2 : Int32 → (Nat → Int32) → Int32 → Option (Int32 × Int32 × (Nat → Int32))) (size_p0 : Int32) (a_p0_bytes : Nat → Int32) (x2 : Int32) (x3 : Int32) : Option (Int32 × Int32 × (Nat → Int32)) := ((p_X_isNamedSpace N x3).bind fun r_37 => (if r_37 = (0 : Int32) then (p_X_writeWithBackslashes_56 N size_p1 a_p1_bytes k_2 size_p0 a_p0_bytes x2 x3) else ((p_S_charAt N 0 (x3 - (7 : Int32))).bind fun r_49 => (p_X_writeWithBackslashes_56 N size_p1 a_p1_bytes k_2 size_p0 a_p0_bytes x2 r_49))))
def p_X_writeWithBackslashes_2 (N : Nat) (size_p1 : Int32) (a_p1_bytes : Nat → Int32) : Nat → Int32 → (Nat → Int32) → Int32 → Option (Int32 × Int32 × (Nat → Int32))
  | 0, _, _, _ => none
  | n + 1, size_p0, a_p0_bytes, x2 => ((p_R_size N size_p1).bind fun r_4 => (if r_4 ≤ x2 then some ((1 : Int32), size_p0, a_p0_bytes) else ((p_R_byteAt N size_p1 a_p1_bytes x2).bind fun r_12 => ((p_X_needsBackslash N size_p1 a_p1_bytes x2).bind fun r_18 => (if r_18 = (0 : Int32) then (p_X_writeWithBackslashes_35 N size_p1 a_p1_bytes (p_X_writeWithBackslashes_2 N size_p1 a_p1_bytes n) size_p0 a_p0_bytes x2 r_12) else ((p_R_put N size_p0 a_p0_bytes (92 : Int32)).bind fun r_27 => (if r_27.1 = (0 : Int32) then some ((0 : Int32), r_27.2.1, r_27.2.2) else (p_X_writeWithBackslashes_35 N size_p1 a_p1_bytes (p_X_writeWithBackslashes_2 N size_p1 a_p1_bytes n) r_27.2.1 r_27.2.2 x2 r_12))))))))
def p_X_writeWithBackslashes_0 (N : Nat) (size_p1 : Int32) (a_p1_bytes : Nat → Int32) (size_p0 : Int32) (a_p0_bytes : Nat → Int32) : Option (Int32 × Int32 × (Nat → Int32)) := (p_X_writeWithBackslashes_2 N size_p1 a_p1_bytes N size_p0 a_p0_bytes (0 : Int32))
def p_X_writeWithBackslashes (N : Nat) (size_p0 : Int32) (a_p0_bytes : Nat → Int32) (size_p1 : Int32) (a_p1_bytes : Nat → Int32) : Option (Int32 × Int32 × (Nat → Int32)) := p_X_writeWithBackslashes_0 N size_p1 a_p1_bytes size_p0 a_p0_bytes
abbrev rm_X_writeBehind : Room := { frames := 6, cells := 0, slots := 0, locals := 141 }
def p_X_writeBehind_18 (N : Nat) (size_p1 : Int32) (a_p1_bytes : Nat → Int32) (size_p0 : Int32) (a_p0_bytes : Nat → Int32) : Option (Int32 × Int32 × (Nat → Int32)) := ((p_X_canStandBare N size_p1 a_p1_bytes).bind fun r_19 => (if r_19 = (0 : Int32) then ((p_X_canStandInBraces N size_p1 a_p1_bytes).bind fun r_32 => (if r_32 = (0 : Int32) then ((p_X_writeWithBackslashes N size_p0 a_p0_bytes size_p1 a_p1_bytes).bind fun r_72 => some (r_72.1, r_72.2.1, r_72.2.2)) else ((p_R_put N size_p0 a_p0_bytes (123 : Int32)).bind fun r_41 => (if r_41.1 = (0 : Int32) then some ((0 : Int32), r_41.2.1, r_41.2.2) else ((p_R_putAll N r_41.2.1 r_41.2.2 size_p1 a_p1_bytes).bind fun r_49 => (if r_49.1 = (0 : Int32) then some ((0 : Int32), r_49.2.1, r_49.2.2) else ((p_R_put N r_49.2.1 r_49.2.2 (125 : Int32)).bind fun r_58 => (if r_58.1 = (0 : Int32) then some ((0 : Int32), r_58.2.1, r_58.2.2) else some ((1 : Int32), r_58.2.1, r_58.2.2))))))))) else ((p_R_putAll N size_p0 a_p0_bytes size_p1 a_p1_bytes).bind fun r_27 => some (r_27.1, r_27.2.1, r_27.2.2))))
def p_X_writeBehind_0 (N : Nat) (size_p1 : Int32) (a_p1_bytes : Nat → Int32) (size_p0 : Int32) (a_p0_bytes : Nat → Int32) : Option (Int32 × Int32 × (Nat → Int32)) := ((p_R_size N size_p0).bind fun r_1 => (if r_1 ≤ (0 : Int32) then (p_X_writeBehind_18 N size_p1 a_p1_bytes size_p0 a_p0_bytes) else ((p_R_put N size_p0 a_p0_bytes (32 : Int32)).bind fun r_10 => (if r_10.1 = (0 : Int32) then some ((0 : Int32), r_10.2.1, r_10.2.2) else (p_X_writeBehind_18 N size_p1 a_p1_bytes r_10.2.1 r_10.2.2)))))
def p_X_writeBehind (N : Nat) (size_p0 : Int32) (a_p0_bytes : Nat → Int32) (size_p1 : Int32) (a_p1_bytes : Nat → Int32) : Option (Int32 × Int32 × (Nat → Int32)) := p_X_writeBehind_0 N size_p1 a_p1_bytes size_p0 a_p0_bytes
abbrev rm_X_again : Room := { frames := 8, cells := 0, slots := 0, locals := 189 }
def p_X_again_30 (N : Nat) : Nat → Int32 → Int32 → (Nat → Int32) → Int32 → (Nat → Int32) → Int32 → (Nat → Int32) → Int32 → Int32 → Option (Int32 × Int32 × Int32 × (Nat → Int32) × Int32 × (Nat → Int32) × Int32 × (Nat → Int32))
  | 0, _, _, _, _, _, _, _, _, _ => none
  | n + 1, place_this, size_list, a_list_bytes, size_word, a_word_bytes, size_written, a_written_bytes, x1, x2 => (if x1 ≤ x2 then ((p_R_takeAll N size_list a_list_bytes size_written a_written_bytes).bind fun r_71 => some (r_71.1, place_this, r_71.2.1, r_71.2.2.1, size_word, a_word_bytes, r_71.2.2.2, a_written_bytes)) else ((p_X_nextElement N place_this size_list a_list_bytes size_word a_word_bytes).bind fun r_36 => ((p_X_writeBehind N size_written a_written_bytes r_36.2.2.1 r_36.2.2.2).bind fun r_48 => (if r_48.1 = (0 : Int32) then some ((-3 : Int32), r_36.2.1, size_list, a_list_bytes, r_36.2.2.1, r_36.2.2.2, r_48.2.1, r_48.2.2) else (p_X_again_30 N n r_36.2.1 size_list a_list_bytes r_36.2.2.1 r_36.2.2.2 r_48.2.1 r_48.2.2 x1 (x2 + (1 : Int32)))))))
def p_X_again_0 (N : Nat) (place_this : Int32) (size_list : Int32) (a_list_bytes : Nat → Int32) (size_word : Int32) (a_word_bytes : Nat → Int32) (size_written : Int32) (a_written_bytes : Nat → Int32) : Option (Int32 × Int32 × Int32 × (Nat → Int32) × Int32 × (Nat → Int32) × Int32 × (Nat → Int32)) := ((p_X_count N place_this size_list a_list_bytes size_word a_word_bytes).bind fun r_1 => (if r_1.1 = (-2 : Int32) then some ((-2 : Int32), r_1.2.1, size_list, a_list_bytes, r_1.2.2.1, r_1.2.2.2, size_written, a_written_bytes) else ((p_R_cutTo N size_written (0 : Int32)).bind fun r_19 => (p_X_again_30 N N (0 : Int32) size_list a_list_bytes r_1.2.2.1 r_1.2.2.2 r_19.2 a_written_bytes r_1.1 (0 : Int32)))))
def p_X_again (N : Nat) (place_this : Int32) (size_list : Int32) (a_list_bytes : Nat → Int32) (size_word : Int32) (a_word_bytes : Nat → Int32) (size_written : Int32) (a_written_bytes : Nat → Int32) : Option (Int32 × Int32 × Int32 × (Nat → Int32) × Int32 × (Nat → Int32) × Int32 × (Nat → Int32)) := p_X_again_0 N place_this size_list a_list_bytes size_word a_word_bytes size_written a_written_bytes
abbrev rm_M_at : Room := { frames := 0, cells := 0, slots := 0, locals := 0 }
def p_M_at_0 (N : Nat) (listSize_this : Int32) (a_list : Nat → Int32) (x1 : Int32) : Option (Int32) := (if listSize_this ≤ x1 then some ((-1 : Int32)) else (if (x1 < 0 ∨ 1024 ≤ x1.toNatClampNeg) then none else some ((a_list x1.toNatClampNeg))))
def p_M_at (N : Nat) (listSize_this : Int32) (a_list : Nat → Int32) (x1 : Int32) : Option (Int32) := p_M_at_0 N listSize_this a_list x1
abbrev rm_M_isSpace : Room := { frames := 0, cells := 0, slots := 0, locals := 0 }
def p_M_isSpace_0 (N : Nat) (x0 : Int32) : Option (Int32) := (if x0 = (32 : Int32) then some ((1 : Int32)) else (if x0 ≤ (8 : Int32) then some ((0 : Int32)) else (if (14 : Int32) ≤ x0 then some ((0 : Int32)) else some ((1 : Int32)))))
def p_M_isSpace (N : Nat) (x0 : Int32) : Option (Int32) := p_M_isSpace_0 N x0
abbrev rm_M_skip : Room := { frames := 1, cells := 0, slots := 0, locals := 21 }
def p_M_skip_2 (N : Nat) (listSize_this : Int32) (a_list : Nat → Int32) : Nat → Int32 → Option (Int32)
  | 0, _ => none
  | n + 1, x2 => (if listSize_this ≤ x2 then some (x2) else ((p_M_at N listSize_this a_list x2).bind fun r_12 => ((p_M_isSpace N r_12).bind fun r_15 => (if r_15 = (0 : Int32) then some (x2) else (p_M_skip_2 N listSize_this a_list n (x2 + (1 : Int32)))))))
def p_M_skip_0 (N : Nat) (listSize_this : Int32) (a_list : Nat → Int32) (x1 : Int32) : Option (Int32) := (p_M_skip_2 N listSize_this a_list N x1)
def p_M_skip (N : Nat) (listSize_this : Int32) (a_list : Nat → Int32) (x1 : Int32) : Option (Int32) := p_M_skip_0 N listSize_this a_list x1
abbrev rm_M_behind : Room := { frames := 1, cells := 0, slots := 0, locals := 21 }
def p_M_behind_42 (N : Nat) (listSize_this : Int32) (a_list : Nat → Int32) (x2 : Int32) : Option (Int32) := (if listSize_this ≤ x2 then some (listSize_this) else some (x2))
def p_M_behind_16 (N : Nat) (listSize_this : Int32) (a_list : Nat → Int32) : Nat → Int32 → Option (Int32)
  | 0, _ => none
  | n + 1, x2 => ((p_M_at N listSize_this a_list x2).bind fun r_18 => (if r_18 = (32 : Int32) then (p_M_behind_16 N listSize_this a_list n (x2 + (1 : Int32))) else ((p_M_at N listSize_this a_list x2).bind fun r_28 => (if r_28 = (9 : Int32) then (p_M_behind_16 N listSize_this a_list n (x2 + (1 : Int32))) else (p_M_behind_42 N listSize_this a_list x2)))))
def p_M_behind_0 (N : Nat) (listSize_this : Int32) (a_list : Nat → Int32) (x1 : Int32) : Option (Int32) := ((p_M_at N listSize_this a_list (x1 + (1 : Int32))).bind fun r_8 => (if r_8 = (10 : Int32) then (p_M_behind_16 N listSize_this a_list N (x1 + (2 : Int32))) else (p_M_behind_42 N listSize_this a_list (x1 + (2 : Int32)))))
def p_M_behind (N : Nat) (listSize_this : Int32) (a_list : Nat → Int32) (x1 : Int32) : Option (Int32) := p_M_behind_0 N listSize_this a_list x1
abbrev rm_M_bare : Room := { frames := 2, cells := 0, slots := 0, locals := 43 }
def p_M_bare_2 (N : Nat) (listSize_this : Int32) (a_list : Nat → Int32) : Nat → Int32 → Option (Int32)
  | 0, _ => none
  | n + 1, x2 => (if listSize_this ≤ x2 then some (x2) else ((p_M_at N listSize_this a_list x2).bind fun r_12 => ((p_M_isSpace N r_12).bind fun r_15 => (if r_15 = (0 : Int32) then ((p_M_at N listSize_this a_list x2).bind fun r_23 => (if r_23 = (92 : Int32) then ((p_M_behind N listSize_this a_list x2).bind fun r_33 => (p_M_bare_2 N listSize_this a_list n r_33)) else (p_M_bare_2 N listSize_this a_list n (x2 + (1 : Int32))))) else some (x2)))))
def p_M_bare_0 (N : Nat) (listSize_this : Int32) (a_list : Nat → Int32) (x1 : Int32) : Option (Int32) := (p_M_bare_2 N listSize_this a_list N x1)
def p_M_bare (N : Nat) (listSize_this : Int32) (a_list : Nat → Int32) (x1 : Int32) : Option (Int32) := p_M_bare_0 N listSize_this a_list x1
abbrev rm_M_closing : Room := { frames := 1, cells := 0, slots := 0, locals := 21 }
def p_M_closing_45 (N : Nat) (listSize_this : Int32) (a_list : Nat → Int32) (k_6 : Int32 → Int32 → Option (Int32)) (x3 : Int32) (x4 : Int32) (y0 : Int32) (y1 : Int32) : Option (Int32) := (if (y1 + y0) = (0 : Int32) then some (x3) else (if x4 = (92 : Int32) then (k_6 (y1 + y0) (x3 + (2 : Int32))) else (k_6 (y1 + y0) (x3 + (1 : Int32)))))
def p_M_closing_6 (N : Nat) (listSize_this : Int32) (a_list : Nat → Int32) : Nat → Int32 → Int32 → Option (Int32)
  | 0, _, _ => none
  | n + 1, x2, x3 => (if listSize_this ≤ x3 then some (listSize_this) else ((p_M_at N listSize_this a_list x3).bind fun r_16 => (if r_16 = (123 : Int32) then (p_M_closing_45 N listSize_this a_list (p_M_closing_6 N listSize_this a_list n) x3 r_16 (1 : Int32) x2) else (if r_16 = (125 : Int32) then (p_M_closing_45 N listSize_this a_list (p_M_closing_6 N listSize_this a_list n) x3 r_16 (-1 : Int32) x2) else (p_M_closing_45 N listSize_this a_list (p_M_closing_6 N listSize_this a_list n) x3 r_16 (0 : Int32) x2)))))
def p_M_closing_0 (N : Nat) (listSize_this : Int32) (a_list : Nat → Int32) (x1 : Int32) : Option (Int32) := (p_M_closing_6 N listSize_this a_list N (1 : Int32) (x1 + (1 : Int32)))
def p_M_closing (N : Nat) (listSize_this : Int32) (a_list : Nat → Int32) (x1 : Int32) : Option (Int32) := p_M_closing_0 N listSize_this a_list x1
abbrev rm_M_quote : Room := { frames := 1, cells := 0, slots := 0, locals := 21 }
def p_M_quote_43 (N : Nat) (listSize_this : Int32) (a_list : Nat → Int32) (x2 : Int32) : Option (Int32) := (if listSize_this ≤ x2 then some (listSize_this) else some (x2))
def p_M_quote_4 (N : Nat) (listSize_this : Int32) (a_list : Nat → Int32) : Nat → Int32 → Option (Int32)
  | 0, _ => none
  | n + 1, x2 => (if listSize_this ≤ x2 then (p_M_quote_43 N listSize_this a_list x2) else ((p_M_at N listSize_this a_list x2).bind fun r_14 => (if r_14 = (34 : Int32) then (p_M_quote_43 N listSize_this a_list x2) else ((p_M_at N listSize_this a_list x2).bind fun r_25 => (if r_25 = (92 : Int32) then (p_M_quote_4 N listSize_this a_list n (x2 + (2 : Int32))) else (p_M_quote_4 N listSize_this a_list n (x2 + (1 : Int32))))))))
def p_M_quote_0 (N : Nat) (listSize_this : Int32) (a_list : Nat → Int32) (x1 : Int32) : Option (Int32) := (p_M_quote_4 N listSize_this a_list N (x1 + (1 : Int32)))
def p_M_quote (N : Nat) (listSize_this : Int32) (a_list : Nat → Int32) (x1 : Int32) : Option (Int32) := p_M_quote_0 N listSize_this a_list x1
abbrev rm_M_ending : Room := { frames := 3, cells := 0, slots := 0, locals := 65 }
def p_M_ending_80 (N : Nat) (listSize_this : Int32) (a_list : Nat → Int32) (x3 : Int32) (y0 : Int32) : Option (Int32) := (if y0 = (0 : Int32) then some ((-2 : Int32)) else some ((x3 + (1 : Int32))))
def p_M_ending_79 (N : Nat) (listSize_this : Int32) (a_list : Nat → Int32) (x3 : Int32) : Option (Int32) := (p_M_ending_80 N listSize_this a_list x3 (0 : Int32))
def p_M_ending_75 (N : Nat) (listSize_this : Int32) (a_list : Nat → Int32) (x3 : Int32) : Option (Int32) := (p_M_ending_80 N listSize_this a_list x3 (1 : Int32))
def p_M_ending_43 (N : Nat) (listSize_this : Int32) (a_list : Nat → Int32) (y0 : Int32) : Option (Int32) := (if listSize_this ≤ y0 then (p_M_ending_79 N listSize_this a_list y0) else (if (y0 + (1 : Int32)) = listSize_this then (p_M_ending_75 N listSize_this a_list y0) else ((p_M_at N listSize_this a_list (y0 + (1 : Int32))).bind fun r_66 => ((p_M_isSpace N r_66).bind fun r_69 => (if r_69 = (0 : Int32) then (p_M_ending_79 N listSize_this a_list y0) else (p_M_ending_75 N listSize_this a_list y0))))))
def p_M_ending_24 (N : Nat) (listSize_this : Int32) (a_list : Nat → Int32) (x1 : Int32) (x2 : Int32) : Option (Int32) := (if x2 = (123 : Int32) then ((p_M_closing N listSize_this a_list x1).bind fun r_32 => (p_M_ending_43 N listSize_this a_list r_32)) else ((p_M_quote N listSize_this a_list x1).bind fun r_40 => (p_M_ending_43 N listSize_this a_list r_40)))
def p_M_ending_0 (N : Nat) (listSize_this : Int32) (a_list : Nat → Int32) (x1 : Int32) : Option (Int32) := ((p_M_at N listSize_this a_list x1).bind fun r_2 => (if r_2 = (123 : Int32) then (p_M_ending_24 N listSize_this a_list x1 r_2) else (if r_2 = (34 : Int32) then (p_M_ending_24 N listSize_this a_list x1 r_2) else ((p_M_bare N listSize_this a_list x1).bind fun r_20 => some (r_20)))))
def p_M_ending (N : Nat) (listSize_this : Int32) (a_list : Nat → Int32) (x1 : Int32) : Option (Int32) := p_M_ending_0 N listSize_this a_list x1
abbrev rm_M_add : Room := { frames := 0, cells := 0, slots := 0, locals := 0 }
def p_M_add_0 (N : Nat) (wordSize_this : Int32) (a_word : Nat → Int32) (x1 : Int32) : Option (Int32 × (Nat → Int32)) := (if (wordSize_this < 0 ∨ 1024 ≤ wordSize_this.toNatClampNeg) then none else some ((wordSize_this + (1 : Int32)), (upd a_word wordSize_this.toNatClampNeg x1)))
def p_M_add (N : Nat) (wordSize_this : Int32) (a_word : Nat → Int32) (x1 : Int32) : Option (Int32 × (Nat → Int32)) := p_M_add_0 N wordSize_this a_word x1
abbrev rm_M_digit : Room := { frames := 0, cells := 0, slots := 0, locals := 0 }
def p_M_digit_41 (N : Nat) (x0 : Int32) : Option (Int32) := (if x0 < (65 : Int32) then some ((99 : Int32)) else (if (70 : Int32) < x0 then some ((99 : Int32)) else some (((x0 - (65 : Int32)) + (10 : Int32)))))
def p_M_digit_19 (N : Nat) (x0 : Int32) : Option (Int32) := (if x0 < (97 : Int32) then (p_M_digit_41 N x0) else (if (102 : Int32) < x0 then (p_M_digit_41 N x0) else some (((x0 - (97 : Int32)) + (10 : Int32)))))
def p_M_digit_0 (N : Nat) (x0 : Int32) : Option (Int32) := (if x0 < (48 : Int32) then (p_M_digit_19 N x0) else (if (57 : Int32) < x0 then (p_M_digit_19 N x0) else some ((x0 - (48 : Int32)))))
def p_M_digit (N : Nat) (x0 : Int32) : Option (Int32) := p_M_digit_0 N x0
abbrev rm_M_letter : Room := { frames := 0, cells := 0, slots := 0, locals := 0 }
def p_M_letter_0 (N : Nat) (x0 : Int32) : Option (Int32) := (if x0 = (97 : Int32) then some ((7 : Int32)) else (if x0 = (98 : Int32) then some ((8 : Int32)) else (if x0 = (102 : Int32) then some ((12 : Int32)) else (if x0 = (110 : Int32) then some ((10 : Int32)) else (if x0 = (114 : Int32) then some ((13 : Int32)) else (if x0 = (116 : Int32) then some ((9 : Int32)) else (if x0 = (118 : Int32) then some ((11 : Int32)) else some (x0))))))))
def p_M_letter (N : Nat) (x0 : Int32) : Option (Int32) := p_M_letter_0 N x0
abbrev rm_M_meaning : Room := { frames := 2, cells := 0, slots := 0, locals := 43 }
def p_M_meaning_157 (N : Nat) (listSize_this : Int32) (a_list : Nat → Int32) (wordSize_this : Int32) (a_word : Nat → Int32) (x1 : Int32) (x3 : Int32) (x6 : Int32) (x8 : Int32) (x9 : Int32) : Option (Int32 × Int32 × (Nat → Int32)) := (if x9 ≤ (0 : Int32) then ((p_M_letter N x3).bind fun r_177 => ((p_M_add N wordSize_this a_word r_177).bind fun r_180 => some ((x1 + (2 : Int32)), r_180.1, r_180.2))) else ((p_M_add N wordSize_this a_word (x8 &&& (255 : Int32))).bind fun r_169 => some (x6, r_169.1, r_169.2)))
def p_M_meaning_104 (N : Nat) (listSize_this : Int32) (a_list : Nat → Int32) : Nat → Int32 → (Nat → Int32) → Int32 → Int32 → Int32 → Int32 → Int32 → Int32 → Int32 → Int32 → Option (Int32 × Int32 × (Nat → Int32))
  | 0, _, _, _, _, _, _, _, _, _, _ => none
  | n + 1, wordSize_this, a_word, x1, x2, x3, x5, x6, x7, x8, x9 => (if x7 ≤ x9 then (p_M_meaning_157 N listSize_this a_list wordSize_this a_word x1 x3 x6 x8 x9) else (if x2 ≤ x6 then (p_M_meaning_157 N listSize_this a_list wordSize_this a_word x1 x3 x6 x8 x9) else ((p_M_at N listSize_this a_list x6).bind fun r_120 => ((p_M_digit N r_120).bind fun r_123 => (if x5 ≤ r_123 then (p_M_meaning_157 N listSize_this a_list wordSize_this a_word x1 x3 x6 x8 x9) else ((p_M_at N listSize_this a_list x6).bind fun r_139 => ((p_M_digit N r_139).bind fun r_142 => (p_M_meaning_104 N listSize_this a_list n wordSize_this a_word x1 x2 x3 x5 (x6 + (1 : Int32)) x7 ((x5 * x8) + r_142) (x9 + (1 : Int32))))))))))
def p_M_meaning_84 (N : Nat) (listSize_this : Int32) (a_list : Nat → Int32) (wordSize_this : Int32) (a_word : Nat → Int32) (x1 : Int32) (x2 : Int32) (x3 : Int32) (x4 : Int32) (x5 : Int32) (y0 : Int32) : Option (Int32 × Int32 × (Nat → Int32)) := (if x4 = (0 : Int32) then (p_M_meaning_104 N listSize_this a_list N wordSize_this a_word x1 x2 x3 x5 y0 (3 : Int32) (0 : Int32) (0 : Int32)) else (p_M_meaning_104 N listSize_this a_list N wordSize_this a_word x1 x2 x3 x5 y0 (2 : Int32) (0 : Int32) (0 : Int32)))
def p_M_meaning_68 (N : Nat) (listSize_this : Int32) (a_list : Nat → Int32) (wordSize_this : Int32) (a_word : Nat → Int32) (x1 : Int32) (x2 : Int32) (x3 : Int32) (x4 : Int32) (y0 : Int32) : Option (Int32 × Int32 × (Nat → Int32)) := (if x4 = (0 : Int32) then (p_M_meaning_84 N listSize_this a_list wordSize_this a_word x1 x2 x3 x4 y0 (x1 + (1 : Int32))) else (p_M_meaning_84 N listSize_this a_list wordSize_this a_word x1 x2 x3 x4 y0 (x1 + (2 : Int32))))
def p_M_meaning_54 (N : Nat) (listSize_this : Int32) (a_list : Nat → Int32) (wordSize_this : Int32) (a_word : Nat → Int32) (x1 : Int32) (x2 : Int32) (x3 : Int32) (y0 : Int32) : Option (Int32 × Int32 × (Nat → Int32)) := (if y0 = (0 : Int32) then (p_M_meaning_68 N listSize_this a_list wordSize_this a_word x1 x2 x3 y0 (8 : Int32)) else (p_M_meaning_68 N listSize_this a_list wordSize_this a_word x1 x2 x3 y0 (16 : Int32)))
def p_M_meaning_0 (N : Nat) (listSize_this : Int32) (a_list : Nat → Int32) (wordSize_this : Int32) (a_word : Nat → Int32) (x1 : Int32) (x2 : Int32) : Option (Int32 × Int32 × (Nat → Int32)) := (if (x1 + (1 : Int32)) < x2 then ((p_M_at N listSize_this a_list (x1 + (1 : Int32))).bind fun r_21 => (if r_21 = (10 : Int32) then ((p_M_add N wordSize_this a_word (32 : Int32)).bind fun r_34 => ((p_M_behind N listSize_this a_list x1).bind fun r_39 => some (r_39, r_34.1, r_34.2))) else (if r_21 = (120 : Int32) then (p_M_meaning_54 N listSize_this a_list wordSize_this a_word x1 x2 r_21 (1 : Int32)) else (p_M_meaning_54 N listSize_this a_list wordSize_this a_word x1 x2 r_21 (0 : Int32))))) else ((p_M_add N wordSize_this a_word (92 : Int32)).bind fun r_10 => some ((x1 + (1 : Int32)), r_10.1, r_10.2)))
def p_M_meaning (N : Nat) (listSize_this : Int32) (wordSize_this : Int32) (a_list : Nat → Int32) (a_word : Nat → Int32) (x1 : Int32) (x2 : Int32) : Option (Int32 × Int32 × (Nat → Int32)) := p_M_meaning_0 N listSize_this a_list wordSize_this a_word x1 x2
abbrev rm_M_read : Room := { frames := 3, cells := 0, slots := 0, locals := 72 }
def p_M_read_94 (N : Nat) (listSize_this : Int32) (a_list : Nat → Int32) (k_57 : Int32 → (Nat → Int32) → Int32 → Int32 → Int32 → Option (Int32 × (Nat → Int32))) (wordSize_this : Int32) (a_word : Nat → Int32) (x3 : Int32) (x5 : Int32) (x6 : Int32) : Option (Int32 × (Nat → Int32)) := ((p_M_at N listSize_this a_list x6).bind fun r_98 => ((p_M_add N wordSize_this a_word r_98).bind fun r_101 => (k_57 r_101.1 r_101.2 x3 x5 (x6 + (1 : Int32)))))
def p_M_read_57 (N : Nat) (listSize_this : Int32) (a_list : Nat → Int32) : Nat → Int32 → (Nat → Int32) → Int32 → Int32 → Int32 → Option (Int32 × (Nat → Int32))
  | 0, _, _, _, _, _ => none
  | n + 1, wordSize_this, a_word, x3, x5, x6 => (if x5 ≤ x6 then some (wordSize_this, a_word) else (if x3 = (123 : Int32) then (p_M_read_94 N listSize_this a_list (p_M_read_57 N listSize_this a_list n) wordSize_this a_word x3 x5 x6) else ((p_M_at N listSize_this a_list x6).bind fun r_73 => (if r_73 = (92 : Int32) then ((p_M_meaning N listSize_this wordSize_this a_list a_word x6 x5).bind fun r_86 => (p_M_read_57 N listSize_this a_list n r_86.2.1 r_86.2.2 x3 x5 r_86.1)) else (p_M_read_94 N listSize_this a_list (p_M_read_57 N listSize_this a_list n) wordSize_this a_word x3 x5 x6)))))
def p_M_read_39 (N : Nat) (listSize_this : Int32) (a_list : Nat → Int32) (wordSize_this : Int32) (a_word : Nat → Int32) (x2 : Int32) (x3 : Int32) (x4 : Int32) : Option (Int32 × (Nat → Int32)) := (p_M_read_57 N listSize_this a_list N (0 : Int32) a_word x3 (x2 - (1 : Int32)) x4)
def p_M_read_25 (N : Nat) (listSize_this : Int32) (a_list : Nat → Int32) (wordSize_this : Int32) (a_word : Nat → Int32) (x2 : Int32) (x3 : Int32) (y0 : Int32) : Option (Int32 × (Nat → Int32)) := (if x3 = (123 : Int32) then (p_M_read_39 N listSize_this a_list wordSize_this a_word x2 x3 y0) else (if x3 = (34 : Int32) then (p_M_read_39 N listSize_this a_list wordSize_this a_word x2 x3 y0) else (p_M_read_57 N listSize_this a_list N (0 : Int32) a_word x3 x2 y0)))
def p_M_read_18 (N : Nat) (listSize_this : Int32) (a_list : Nat → Int32) (wordSize_this : Int32) (a_word : Nat → Int32) (x1 : Int32) (x2 : Int32) (x3 : Int32) : Option (Int32 × (Nat → Int32)) := (p_M_read_25 N listSize_this a_list wordSize_this a_word x2 x3 (x1 + (1 : Int32)))
def p_M_read_0 (N : Nat) (listSize_this : Int32) (a_list : Nat → Int32) (wordSize_this : Int32) (a_word : Nat → Int32) (x1 : Int32) (x2 : Int32) : Option (Int32 × (Nat → Int32)) := ((p_M_at N listSize_this a_list x1).bind fun r_2 => (if r_2 = (123 : Int32) then (p_M_read_18 N listSize_this a_list wordSize_this a_word x1 x2 r_2) else (if r_2 = (34 : Int32) then (p_M_read_18 N listSize_this a_list wordSize_this a_word x1 x2 r_2) else (p_M_read_25 N listSize_this a_list wordSize_this a_word x2 r_2 x1))))
def p_M_read (N : Nat) (listSize_this : Int32) (wordSize_this : Int32) (a_list : Nat → Int32) (a_word : Nat → Int32) (x1 : Int32) (x2 : Int32) : Option (Int32 × (Nat → Int32)) := p_M_read_0 N listSize_this a_list wordSize_this a_word x1 x2
abbrev rm_M_goOver : Room := { frames := 4, cells := 0, slots := 0, locals := 98 }
def p_M_goOver_50 (N : Nat) (listSize_this : Int32) (a_list : Nat → Int32) (k_8 : Int32 → (Nat → Int32) → Int32 → Int32 → Int32 → Option (Int32 × Int32 × (Nat → Int32))) (wordSize_this : Int32) (a_word : Nat → Int32) (x1 : Int32) (x2 : Int32) (x4 : Int32) : Option (Int32 × Int32 × (Nat → Int32)) := ((p_M_skip N listSize_this a_list x4).bind fun r_56 => (k_8 wordSize_this a_word x1 (x2 + (1 : Int32)) r_56))
def p_M_goOver_8 (N : Nat) (listSize_this : Int32) (a_list : Nat → Int32) : Nat → Int32 → (Nat → Int32) → Int32 → Int32 → Int32 → Option (Int32 × Int32 × (Nat → Int32))
  | 0, _, _, _, _, _ => none
  | n + 1, wordSize_this, a_word, x1, x2, x3 => (if listSize_this ≤ x3 then some (x2, wordSize_this, a_word) else (if x1 < x2 then some (x2, wordSize_this, a_word) else ((p_M_ending N listSize_this a_list x3).bind fun r_23 => (if r_23 = (-2 : Int32) then some ((-2 : Int32), wordSize_this, a_word) else (if x2 = x1 then ((p_M_read N listSize_this wordSize_this a_list a_word x3 r_23).bind fun r_47 => (p_M_goOver_50 N listSize_this a_list (p_M_goOver_8 N listSize_this a_list n) r_47.1 r_47.2 x1 x2 r_23)) else (p_M_goOver_50 N listSize_this a_list (p_M_goOver_8 N listSize_this a_list n) wordSize_this a_word x1 x2 r_23))))))
def p_M_goOver_0 (N : Nat) (listSize_this : Int32) (a_list : Nat → Int32) (wordSize_this : Int32) (a_word : Nat → Int32) (x1 : Int32) : Option (Int32 × Int32 × (Nat → Int32)) := ((p_M_skip N listSize_this a_list (0 : Int32)).bind fun r_4 => (p_M_goOver_8 N listSize_this a_list N wordSize_this a_word x1 (0 : Int32) r_4))
def p_M_goOver (N : Nat) (listSize_this : Int32) (wordSize_this : Int32) (a_list : Nat → Int32) (a_word : Nat → Int32) (x1 : Int32) : Option (Int32 × Int32 × (Nat → Int32)) := p_M_goOver_0 N listSize_this a_list wordSize_this a_word x1
abbrev rm_M_put : Room := { frames := 0, cells := 0, slots := 0, locals := 0 }
def p_M_put_0 (N : Nat) (textSize_this : Int32) (a_text : Nat → Int32) (x1 : Int32) : Option (Int32 × (Nat → Int32)) := (if (textSize_this < 0 ∨ 4200 ≤ textSize_this.toNatClampNeg) then none else some ((textSize_this + (1 : Int32)), (upd a_text textSize_this.toNatClampNeg x1)))
def p_M_put (N : Nat) (textSize_this : Int32) (a_text : Nat → Int32) (x1 : Int32) : Option (Int32 × (Nat → Int32)) := p_M_put_0 N textSize_this a_text x1
abbrev rm_M_isSpecial : Room := { frames := 1, cells := 0, slots := 0, locals := 20 }
def p_M_isSpecial_0 (N : Nat) (x0 : Int32) : Option (Int32) := ((p_M_isSpace N x0).bind fun r_1 => (if r_1 = (0 : Int32) then (if x0 = (34 : Int32) then some ((1 : Int32)) else (if x0 = (36 : Int32) then some ((1 : Int32)) else (if x0 = (59 : Int32) then some ((1 : Int32)) else (if x0 = (91 : Int32) then some ((1 : Int32)) else (if x0 = (92 : Int32) then some ((1 : Int32)) else (if x0 = (93 : Int32) then some ((1 : Int32)) else (if x0 = (123 : Int32) then some ((1 : Int32)) else (if x0 = (125 : Int32) then some ((1 : Int32)) else some ((0 : Int32)))))))))) else some ((1 : Int32))))
def p_M_isSpecial (N : Nat) (x0 : Int32) : Option (Int32) := p_M_isSpecial_0 N x0
abbrev rm_M_isPlain : Room := { frames := 2, cells := 0, slots := 0, locals := 40 }
def p_M_isPlain_26 (N : Nat) (wordSize_this : Int32) (a_word : Nat → Int32) : Nat → Int32 → Int32 → Option (Int32)
  | 0, _, _ => none
  | n + 1, x1, x2 => (if wordSize_this ≤ x2 then (if ¬ (x1 = 0 ∨ x1 = 1) then none else some (x1)) else (if x1 = (0 : Int32) then (p_M_isPlain_26 N wordSize_this a_word n (0 : Int32) (x2 + (1 : Int32))) else (if (x2 < 0 ∨ 1024 ≤ x2.toNatClampNeg) then none else ((p_M_isSpecial N (a_word x2.toNatClampNeg)).bind fun r_44 => (if r_44 = (0 : Int32) then (p_M_isPlain_26 N wordSize_this a_word n (1 : Int32) (x2 + (1 : Int32))) else (p_M_isPlain_26 N wordSize_this a_word n (0 : Int32) (x2 + (1 : Int32))))))))
def p_M_isPlain_0 (N : Nat) (wordSize_this : Int32) (a_word : Nat → Int32) : Option (Int32) := (if wordSize_this ≤ (0 : Int32) then (p_M_isPlain_26 N wordSize_this a_word N (0 : Int32) (0 : Int32)) else (if ((0 : Int32) < 0 ∨ 1024 ≤ (0 : Int32).toNatClampNeg) then none else (if (a_word (0 : Int32).toNatClampNeg) = (35 : Int32) then (p_M_isPlain_26 N wordSize_this a_word N (0 : Int32) (0 : Int32)) else (p_M_isPlain_26 N wordSize_this a_word N (1 : Int32) (0 : Int32)))))
def p_M_isPlain (N : Nat) (wordSize_this : Int32) (a_word : Nat → Int32) : Option (Int32) := p_M_isPlain_0 N wordSize_this a_word
abbrev rm_M_isBraced : Room := { frames := 0, cells := 0, slots := 0, locals := 0 }
def p_M_isBraced_46 (N : Nat) (wordSize_this : Int32) (a_word : Nat → Int32) (k_6 : Int32 → Int32 → Int32 → Option (Int32)) (x1 : Int32) (x3 : Int32) (y0 : Int32) (y1 : Int32) : Option (Int32) := (if x1 = (0 : Int32) then (k_6 (0 : Int32) (y1 + y0) (x3 + (1 : Int32))) else (if (y1 + y0) < (0 : Int32) then (k_6 (0 : Int32) (y1 + y0) (x3 + (1 : Int32))) else (if (x3 < 0 ∨ 1024 ≤ x3.toNatClampNeg) then none else (if (a_word x3.toNatClampNeg) = (92 : Int32) then (k_6 (0 : Int32) (y1 + y0) (x3 + (1 : Int32))) else (k_6 (1 : Int32) (y1 + y0) (x3 + (1 : Int32)))))))
def p_M_isBraced_6 (N : Nat) (wordSize_this : Int32) (a_word : Nat → Int32) : Nat → Int32 → Int32 → Int32 → Option (Int32)
  | 0, _, _, _ => none
  | n + 1, x1, x2, x3 => (if wordSize_this ≤ x3 then (if x1 = (0 : Int32) then some ((0 : Int32)) else (if x2 = (0 : Int32) then some ((1 : Int32)) else some ((0 : Int32)))) else (if (x3 < 0 ∨ 1024 ≤ x3.toNatClampNeg) then none else (if (a_word x3.toNatClampNeg) = (123 : Int32) then (p_M_isBraced_46 N wordSize_this a_word (p_M_isBraced_6 N wordSize_this a_word n) x1 x3 (1 : Int32) x2) else (if (x3 < 0 ∨ 1024 ≤ x3.toNatClampNeg) then none else (if (a_word x3.toNatClampNeg) = (125 : Int32) then (p_M_isBraced_46 N wordSize_this a_word (p_M_isBraced_6 N wordSize_this a_word n) x1 x3 (-1 : Int32) x2) else (p_M_isBraced_46 N wordSize_this a_word (p_M_isBraced_6 N wordSize_this a_word n) x1 x3 (0 : Int32) x2))))))
def p_M_isBraced_0 (N : Nat) (wordSize_this : Int32) (a_word : Nat → Int32) : Option (Int32) := (p_M_isBraced_6 N wordSize_this a_word N (1 : Int32) (0 : Int32) (0 : Int32))
def p_M_isBraced (N : Nat) (wordSize_this : Int32) (a_word : Nat → Int32) : Option (Int32) := p_M_isBraced_0 N wordSize_this a_word
abbrev rm_M_escape : Room := { frames := 2, cells := 0, slots := 0, locals := 40 }
def p_M_escape_80 (N : Nat) (textSize_this : Int32) (a_text : Nat → Int32) (y0 : Int32) : Option (Int32 × (Nat → Int32)) := ((p_M_put N textSize_this a_text y0).bind fun r_80 => some (r_80.1, r_80.2))
def p_M_escape_23 (N : Nat) (textSize_this : Int32) (a_text : Nat → Int32) (x1 : Int32) : Option (Int32 × (Nat → Int32)) := (if x1 = (9 : Int32) then (p_M_escape_80 N textSize_this a_text (116 : Int32)) else (if x1 = (10 : Int32) then (p_M_escape_80 N textSize_this a_text (110 : Int32)) else (if x1 = (11 : Int32) then (p_M_escape_80 N textSize_this a_text (118 : Int32)) else (if x1 = (12 : Int32) then (p_M_escape_80 N textSize_this a_text (102 : Int32)) else (if x1 = (13 : Int32) then (p_M_escape_80 N textSize_this a_text (114 : Int32)) else (p_M_escape_80 N textSize_this a_text x1))))))
def p_M_escape_17 (N : Nat) (textSize_this : Int32) (a_text : Nat → Int32) (x1 : Int32) : Option (Int32 × (Nat → Int32)) := ((p_M_put N textSize_this a_text (92 : Int32)).bind fun r_20 => (p_M_escape_23 N r_20.1 r_20.2 x1))
def p_M_escape_0 (N : Nat) (textSize_this : Int32) (a_text : Nat → Int32) (x1 : Int32) (x2 : Int32) : Option (Int32 × (Nat → Int32)) := ((p_M_isSpecial N x1).bind fun r_1 => (if r_1 = (0 : Int32) then (if x2 = (0 : Int32) then (p_M_escape_23 N textSize_this a_text x1) else (if x1 = (35 : Int32) then (p_M_escape_17 N textSize_this a_text x1) else (p_M_escape_23 N textSize_this a_text x1))) else (p_M_escape_17 N textSize_this a_text x1)))
def p_M_escape (N : Nat) (textSize_this : Int32) (a_text : Nat → Int32) (x1 : Int32) (x2 : Int32) : Option (Int32 × (Nat → Int32)) := p_M_escape_0 N textSize_this a_text x1 x2
abbrev rm_M_write : Room := { frames := 3, cells := 0, slots := 0, locals := 62 }
def p_M_write_103 (N : Nat) (wordSize_this : Int32) (a_word : Nat → Int32) (k_62 : Int32 → (Nat → Int32) → Int32 → Int32 → Int32 → Option (Int32 × (Nat → Int32))) (textSize_this : Int32) (a_text : Nat → Int32) (x1 : Int32) (x2 : Int32) (x3 : Int32) (y0 : Int32) (y1 : Int32) : Option (Int32 × (Nat → Int32)) := ((p_M_escape N textSize_this a_text y1 y0).bind fun r_103 => (k_62 r_103.1 r_103.2 x1 x2 (x3 + (1 : Int32))))
def p_M_write_62 (N : Nat) (wordSize_this : Int32) (a_word : Nat → Int32) : Nat → Int32 → (Nat → Int32) → Int32 → Int32 → Int32 → Option (Int32 × (Nat → Int32))
  | 0, _, _, _, _, _ => none
  | n + 1, textSize_this, a_text, x1, x2, x3 => (if wordSize_this ≤ x3 then (if x1 = (0 : Int32) then some (textSize_this, a_text) else ((p_M_put N textSize_this a_text (125 : Int32)).bind fun r_119 => some (r_119.1, r_119.2))) else (if x2 = (0 : Int32) then (if (x3 < 0 ∨ 1024 ≤ x3.toNatClampNeg) then none else (if x3 = (0 : Int32) then (p_M_write_103 N wordSize_this a_word (p_M_write_62 N wordSize_this a_word n) textSize_this a_text x1 x2 x3 (1 : Int32) (a_word x3.toNatClampNeg)) else (p_M_write_103 N wordSize_this a_word (p_M_write_62 N wordSize_this a_word n) textSize_this a_text x1 x2 x3 (0 : Int32) (a_word x3.toNatClampNeg)))) else (if (x3 < 0 ∨ 1024 ≤ x3.toNatClampNeg) then none else ((p_M_put N textSize_this a_text (a_word x3.toNatClampNeg)).bind fun r_81 => (p_M_write_62 N wordSize_this a_word n r_81.1 r_81.2 x1 x2 (x3 + (1 : Int32)))))))
def p_M_write_49 (N : Nat) (wordSize_this : Int32) (a_word : Nat → Int32) (textSize_this : Int32) (a_text : Nat → Int32) (x1 : Int32) (y0 : Int32) : Option (Int32 × (Nat → Int32)) := (if x1 = (0 : Int32) then (p_M_write_62 N wordSize_this a_word N textSize_this a_text x1 y0 (0 : Int32)) else ((p_M_put N textSize_this a_text (123 : Int32)).bind fun r_57 => (p_M_write_62 N wordSize_this a_word N r_57.1 r_57.2 x1 y0 (0 : Int32))))
def p_M_write_44 (N : Nat) (wordSize_this : Int32) (a_word : Nat → Int32) (textSize_this : Int32) (a_text : Nat → Int32) (x1 : Int32) : Option (Int32 × (Nat → Int32)) := (p_M_write_49 N wordSize_this a_word textSize_this a_text x1 (1 : Int32))
def p_M_write_32 (N : Nat) (wordSize_this : Int32) (a_word : Nat → Int32) (textSize_this : Int32) (a_text : Nat → Int32) (y0 : Int32) : Option (Int32 × (Nat → Int32)) := ((p_M_isPlain N wordSize_this a_word).bind fun r_34 => (if r_34 = (0 : Int32) then (if y0 = (0 : Int32) then (p_M_write_49 N wordSize_this a_word textSize_this a_text y0 (0 : Int32)) else (p_M_write_44 N wordSize_this a_word textSize_this a_text y0)) else (p_M_write_44 N wordSize_this a_word textSize_this a_text y0)))
def p_M_write_31 (N : Nat) (wordSize_this : Int32) (a_word : Nat → Int32) (textSize_this : Int32) (a_text : Nat → Int32) : Option (Int32 × (Nat → Int32)) := (p_M_write_32 N wordSize_this a_word textSize_this a_text (0 : Int32))
def p_M_write_13 (N : Nat) (wordSize_this : Int32) (a_word : Nat → Int32) (textSize_this : Int32) (a_text : Nat → Int32) : Option (Int32 × (Nat → Int32)) := ((p_M_isPlain N wordSize_this a_word).bind fun r_14 => (if r_14 = (0 : Int32) then ((p_M_isBraced N wordSize_this a_word).bind fun r_21 => (if r_21 = (0 : Int32) then (p_M_write_31 N wordSize_this a_word textSize_this a_text) else (p_M_write_32 N wordSize_this a_word textSize_this a_text (1 : Int32)))) else (p_M_write_31 N wordSize_this a_word textSize_this a_text)))
def p_M_write_0 (N : Nat) (wordSize_this : Int32) (a_word : Nat → Int32) (textSize_this : Int32) (a_text : Nat → Int32) : Option (Int32 × (Nat → Int32)) := (if textSize_this ≤ (0 : Int32) then (p_M_write_13 N wordSize_this a_word textSize_this a_text) else ((p_M_put N textSize_this a_text (32 : Int32)).bind fun r_10 => (p_M_write_13 N wordSize_this a_word r_10.1 r_10.2)))
def p_M_write (N : Nat) (wordSize_this : Int32) (textSize_this : Int32) (a_word : Nat → Int32) (a_text : Nat → Int32) : Option (Int32 × (Nat → Int32)) := p_M_write_0 N wordSize_this a_word textSize_this a_text
abbrev rm_M_settle : Room := { frames := 0, cells := 0, slots := 0, locals := 0 }
def p_M_settle_15 (N : Nat) (textSize_this : Int32) (a_text : Nat → Int32) : Nat → Int32 → (Nat → Int32) → Int32 → Option (Int32 × Int32 × (Nat → Int32))
  | 0, _, _, _ => none
  | n + 1, listSize_this, a_list, x1 => (if textSize_this ≤ x1 then some (textSize_this, textSize_this, a_list) else (if (x1 < 0 ∨ 4200 ≤ x1.toNatClampNeg) then none else (if (x1 < 0 ∨ 1024 ≤ x1.toNatClampNeg) then none else (p_M_settle_15 N textSize_this a_text n listSize_this (upd a_list x1.toNatClampNeg (a_text x1.toNatClampNeg)) (x1 + (1 : Int32))))))
def p_M_settle_0 (N : Nat) (textSize_this : Int32) (a_text : Nat → Int32) (listSize_this : Int32) (a_list : Nat → Int32) : Option (Int32 × Int32 × (Nat → Int32)) := (if textSize_this ≤ (1024 : Int32) then (p_M_settle_15 N textSize_this a_text N listSize_this a_list (0 : Int32)) else some ((-3 : Int32), listSize_this, a_list))
def p_M_settle (N : Nat) (listSize_this : Int32) (textSize_this : Int32) (a_list : Nat → Int32) (a_text : Nat → Int32) : Option (Int32 × Int32 × (Nat → Int32)) := p_M_settle_0 N textSize_this a_text listSize_this a_list
abbrev rm_M_again : Room := { frames := 5, cells := 0, slots := 0, locals := 122 }
def p_M_again_55 (N : Nat) (listSize_this : Int32) (wordSize_this : Int32) (textSize_this : Int32) (a_list : Nat → Int32) (a_word : Nat → Int32) (a_text : Nat → Int32) : Option (Int32 × Int32 × Int32 × Int32 × (Nat → Int32) × (Nat → Int32) × (Nat → Int32)) := ((p_M_settle N listSize_this textSize_this a_list a_text).bind fun r_56 => some (r_56.1, r_56.2.1, wordSize_this, textSize_this, r_56.2.2, a_word, a_text))
def p_M_again_24 (N : Nat) : Nat → Int32 → Int32 → Int32 → (Nat → Int32) → (Nat → Int32) → (Nat → Int32) → Int32 → Int32 → Option (Int32 × Int32 × Int32 × Int32 × (Nat → Int32) × (Nat → Int32) × (Nat → Int32))
  | 0, _, _, _, _, _, _, _, _ => none
  | n + 1, listSize_this, wordSize_this, textSize_this, a_list, a_word, a_text, x1, x2 => (if x1 ≤ x2 then (p_M_again_55 N listSize_this wordSize_this textSize_this a_list a_word a_text) else (if (1024 : Int32) < textSize_this then (p_M_again_55 N listSize_this wordSize_this textSize_this a_list a_word a_text) else ((p_M_goOver N listSize_this wordSize_this a_list a_word x2).bind fun r_41 => ((p_M_write N r_41.2.1 textSize_this r_41.2.2 a_text).bind fun r_46 => (p_M_again_24 N n listSize_this r_41.2.1 r_46.1 a_list r_41.2.2 r_46.2 x1 (x2 + (1 : Int32)))))))
def p_M_again_0 (N : Nat) (listSize_this : Int32) (wordSize_this : Int32) (textSize_this : Int32) (a_list : Nat → Int32) (a_word : Nat → Int32) (a_text : Nat → Int32) : Option (Int32 × Int32 × Int32 × Int32 × (Nat → Int32) × (Nat → Int32) × (Nat → Int32)) := ((p_M_goOver N listSize_this wordSize_this a_list a_word (1024 : Int32)).bind fun r_4 => (if r_4.1 = (-2 : Int32) then some ((-2 : Int32), listSize_this, r_4.2.1, textSize_this, a_list, r_4.2.2, a_text) else (p_M_again_24 N N listSize_this r_4.2.1 (0 : Int32) a_list r_4.2.2 a_text r_4.1 (0 : Int32))))
def p_M_again (N : Nat) (listSize_this : Int32) (wordSize_this : Int32) (textSize_this : Int32) (a_list : Nat → Int32) (a_word : Nat → Int32) (a_text : Nat → Int32) : Option (Int32 × Int32 × Int32 × Int32 × (Nat → Int32) × (Nat → Int32) × (Nat → Int32)) := p_M_again_0 N listSize_this wordSize_this textSize_this a_list a_word a_text
abbrev rm_X_append : Room := { frames := 7, cells := 0, slots := 0, locals := 162 }
def p_X_append_0 (N : Nat) (size_item : Int32) (a_item_bytes : Nat → Int32) (size_list : Int32) (a_list_bytes : Nat → Int32) : Option (Int32 × Int32 × (Nat → Int32)) := ((p_R_size N size_list).bind fun r_4 => ((p_X_writeBehind N size_list a_list_bytes size_item a_item_bytes).bind fun r_16 => (if r_16.1 = (0 : Int32) then ((p_R_cutTo N r_16.2.1 r_4).bind fun r_35 => some ((-3 : Int32), r_35.2, r_16.2.2)) else ((p_R_size N r_16.2.1).bind fun r_26 => some (r_26, r_16.2.1, r_16.2.2)))))
def p_X_append (N : Nat) (size_list : Int32) (a_list_bytes : Nat → Int32) (size_item : Int32) (a_item_bytes : Nat → Int32) : Option (Int32 × Int32 × (Nat → Int32)) := p_X_append_0 N size_item a_item_bytes size_list a_list_bytes
abbrev rm_M_append : Room := { frames := 4, cells := 0, slots := 0, locals := 85 }
def p_M_append_33 (N : Nat) (itemSize_this : Int32) (a_item : Nat → Int32) : Nat → Int32 → Int32 → Int32 → (Nat → Int32) → (Nat → Int32) → (Nat → Int32) → Int32 → Option (Int32 × Int32 × Int32 × Int32 × (Nat → Int32) × (Nat → Int32) × (Nat → Int32))
  | 0, _, _, _, _, _, _, _ => none
  | n + 1, listSize_this, wordSize_this, textSize_this, a_list, a_word, a_text, x1 => (if itemSize_this ≤ x1 then ((p_M_write N itemSize_this textSize_this a_word a_text).bind fun r_68 => ((p_M_settle N listSize_this r_68.1 a_list r_68.2).bind fun r_72 => some (r_72.1, r_72.2.1, itemSize_this, r_68.1, r_72.2.2, a_word, r_68.2))) else (if (x1 < 0 ∨ 1024 ≤ x1.toNatClampNeg) then none else (if (x1 < 0 ∨ 1024 ≤ x1.toNatClampNeg) then none else (p_M_append_33 N itemSize_this a_item n listSize_this wordSize_this textSize_this a_list (upd a_word x1.toNatClampNeg (a_item x1.toNatClampNeg)) a_text (x1 + (1 : Int32))))))
def p_M_append_7 (N : Nat) (itemSize_this : Int32) (a_item : Nat → Int32) : Nat → Int32 → Int32 → Int32 → (Nat → Int32) → (Nat → Int32) → (Nat → Int32) → Int32 → Option (Int32 × Int32 × Int32 × Int32 × (Nat → Int32) × (Nat → Int32) × (Nat → Int32))
  | 0, _, _, _, _, _, _, _ => none
  | n + 1, listSize_this, wordSize_this, textSize_this, a_list, a_word, a_text, x1 => (if listSize_this ≤ x1 then (p_M_append_33 N itemSize_this a_item N listSize_this wordSize_this textSize_this a_list a_word a_text (0 : Int32)) else (if (x1 < 0 ∨ 1024 ≤ x1.toNatClampNeg) then none else ((p_M_put N textSize_this a_text (a_list x1.toNatClampNeg)).bind fun r_22 => (p_M_append_7 N itemSize_this a_item n listSize_this wordSize_this r_22.1 a_list a_word r_22.2 (x1 + (1 : Int32))))))
def p_M_append_0 (N : Nat) (itemSize_this : Int32) (a_item : Nat → Int32) (listSize_this : Int32) (wordSize_this : Int32) (textSize_this : Int32) (a_list : Nat → Int32) (a_word : Nat → Int32) (a_text : Nat → Int32) : Option (Int32 × Int32 × Int32 × Int32 × (Nat → Int32) × (Nat → Int32) × (Nat → Int32)) := (p_M_append_7 N itemSize_this a_item N listSize_this wordSize_this (0 : Int32) a_list a_word a_text (0 : Int32))
def p_M_append (N : Nat) (listSize_this : Int32) (itemSize_this : Int32) (wordSize_this : Int32) (textSize_this : Int32) (a_list : Nat → Int32) (a_item : Nat → Int32) (a_word : Nat → Int32) (a_text : Nat → Int32) : Option (Int32 × Int32 × Int32 × Int32 × (Nat → Int32) × (Nat → Int32) × (Nat → Int32)) := p_M_append_0 N itemSize_this a_item listSize_this wordSize_this textSize_this a_list a_word a_text
abbrev rm_X_element : Room := { frames := 8, cells := 0, slots := 0, locals := 189 }
def p_X_element_32 (N : Nat) (size_list : Int32) (a_list_bytes : Nat → Int32) : Nat → Int32 → Int32 → (Nat → Int32) → Int32 → (Nat → Int32) → Int32 → Int32 → Option (Int32 × Int32 × Int32 × (Nat → Int32) × Int32 × (Nat → Int32))
  | 0, _, _, _, _, _, _, _ => none
  | n + 1, place_this, size_item, a_item_bytes, size_word, a_word_bytes, x1, x3 => (if x1 < x3 then ((p_R_takeAll N size_item a_item_bytes size_word a_word_bytes).bind fun r_56 => some (r_56.1, place_this, r_56.2.1, r_56.2.2.1, r_56.2.2.2, a_word_bytes)) else ((p_X_nextElement N place_this size_list a_list_bytes size_word a_word_bytes).bind fun r_38 => (p_X_element_32 N size_list a_list_bytes n r_38.2.1 size_item a_item_bytes r_38.2.2.1 r_38.2.2.2 x1 (x3 + (1 : Int32)))))
def p_X_element_0 (N : Nat) (size_list : Int32) (a_list_bytes : Nat → Int32) (place_this : Int32) (size_item : Int32) (a_item_bytes : Nat → Int32) (size_word : Int32) (a_word_bytes : Nat → Int32) (x1 : Int32) : Option (Int32 × Int32 × Int32 × (Nat → Int32) × Int32 × (Nat → Int32)) := ((p_X_count N place_this size_list a_list_bytes size_word a_word_bytes).bind fun r_1 => (if r_1.1 = (-2 : Int32) then some ((-2 : Int32), r_1.2.1, size_item, a_item_bytes, r_1.2.2.1, r_1.2.2.2) else (if x1 < (0 : Int32) then some ((-1 : Int32), r_1.2.1, size_item, a_item_bytes, r_1.2.2.1, r_1.2.2.2) else (if x1 < r_1.1 then (p_X_element_32 N size_list a_list_bytes N (0 : Int32) size_item a_item_bytes r_1.2.2.1 r_1.2.2.2 x1 (0 : Int32)) else some ((-1 : Int32), r_1.2.1, size_item, a_item_bytes, r_1.2.2.1, r_1.2.2.2)))))
def p_X_element (N : Nat) (place_this : Int32) (size_list : Int32) (a_list_bytes : Nat → Int32) (size_item : Int32) (a_item_bytes : Nat → Int32) (size_word : Int32) (a_word_bytes : Nat → Int32) (x1 : Int32) : Option (Int32 × Int32 × Int32 × (Nat → Int32) × Int32 × (Nat → Int32)) := p_X_element_0 N size_list a_list_bytes place_this size_item a_item_bytes size_word a_word_bytes x1
abbrev rm_M_element : Room := { frames := 5, cells := 0, slots := 0, locals := 122 }
def p_M_element_36 (N : Nat) (listSize_this : Int32) (a_list : Nat → Int32) : Nat → Int32 → Int32 → (Nat → Int32) → (Nat → Int32) → Int32 → Option (Int32 × Int32 × Int32 × (Nat → Int32) × (Nat → Int32))
  | 0, _, _, _, _, _ => none
  | n + 1, itemSize_this, wordSize_this, a_item, a_word, x3 => (if wordSize_this ≤ x3 then some (wordSize_this, wordSize_this, wordSize_this, a_item, a_word) else (if (x3 < 0 ∨ 1024 ≤ x3.toNatClampNeg) then none else (if (x3 < 0 ∨ 1024 ≤ x3.toNatClampNeg) then none else (p_M_element_36 N listSize_this a_list n itemSize_this wordSize_this (upd a_item x3.toNatClampNeg (a_word x3.toNatClampNeg)) a_word (x3 + (1 : Int32))))))
def p_M_element_0 (N : Nat) (listSize_this : Int32) (a_list : Nat → Int32) (itemSize_this : Int32) (wordSize_this : Int32) (a_item : Nat → Int32) (a_word : Nat → Int32) (x1 : Int32) : Option (Int32 × Int32 × Int32 × (Nat → Int32) × (Nat → Int32)) := ((p_M_goOver N listSize_this wordSize_this a_list a_word (1024 : Int32)).bind fun r_4 => (if r_4.1 = (-2 : Int32) then some ((-2 : Int32), itemSize_this, r_4.2.1, a_item, r_4.2.2) else (if x1 < (0 : Int32) then some ((-1 : Int32), itemSize_this, r_4.2.1, a_item, r_4.2.2) else (if x1 < r_4.1 then ((p_M_goOver N listSize_this r_4.2.1 a_list r_4.2.2 x1).bind fun r_30 => (p_M_element_36 N listSize_this a_list N itemSize_this r_30.2.1 a_item r_30.2.2 (0 : Int32))) else some ((-1 : Int32), itemSize_this, r_4.2.1, a_item, r_4.2.2)))))
def p_M_element (N : Nat) (listSize_this : Int32) (itemSize_this : Int32) (wordSize_this : Int32) (a_list : Nat → Int32) (a_item : Nat → Int32) (a_word : Nat → Int32) (x1 : Int32) : Option (Int32 × Int32 × Int32 × (Nat → Int32) × (Nat → Int32)) := p_M_element_0 N listSize_this a_list itemSize_this wordSize_this a_item a_word x1
abbrev rm_M_count : Room := { frames := 5, cells := 0, slots := 0, locals := 122 }
def p_M_count_0 (N : Nat) (listSize_this : Int32) (a_list : Nat → Int32) (wordSize_this : Int32) (a_word : Nat → Int32) : Option (Int32 × Int32 × (Nat → Int32)) := ((p_M_goOver N listSize_this wordSize_this a_list a_word (1024 : Int32)).bind fun r_4 => some (r_4.1, r_4.2.1, r_4.2.2))
def p_M_count (N : Nat) (listSize_this : Int32) (wordSize_this : Int32) (a_list : Nat → Int32) (a_word : Nat → Int32) : Option (Int32 × Int32 × (Nat → Int32)) := p_M_count_0 N listSize_this a_list wordSize_this a_word
abbrev rm_X_item : Room := { frames := 3, cells := 0, slots := 0, locals := 82 }
def p_X_item_0 (N : Nat) (a_tape_bytes : Nat → Int32) (size_tape : Int32) (size_item : Int32) (a_item_bytes : Nat → Int32) : Option (Int32 × Int32 × Int32 × (Nat → Int32)) := ((p_R_takeAll N size_item a_item_bytes size_tape a_tape_bytes).bind fun r_8 => some (r_8.1, r_8.2.2.2, r_8.2.1, r_8.2.2.1))
def p_X_item (N : Nat) (size_tape : Int32) (a_tape_bytes : Nat → Int32) (size_item : Int32) (a_item_bytes : Nat → Int32) : Option (Int32 × Int32 × Int32 × (Nat → Int32)) := p_X_item_0 N a_tape_bytes size_tape size_item a_item_bytes
abbrev rm_M_item : Room := { frames := 0, cells := 0, slots := 0, locals := 0 }
def p_M_item_2 (N : Nat) (a_tape : Nat → Int32) : Nat → Int32 → Int32 → (Nat → Int32) → Int32 → Option (Int32 × Int32 × Int32 × (Nat → Int32))
  | 0, _, _, _, _ => none
  | n + 1, tapeSize_this, itemSize_this, a_item, x1 => (if tapeSize_this ≤ x1 then some (tapeSize_this, (0 : Int32), tapeSize_this, a_item) else (if (x1 < 0 ∨ 1024 ≤ x1.toNatClampNeg) then none else (if (x1 < 0 ∨ 1024 ≤ x1.toNatClampNeg) then none else (p_M_item_2 N a_tape n tapeSize_this itemSize_this (upd a_item x1.toNatClampNeg (a_tape x1.toNatClampNeg)) (x1 + (1 : Int32))))))
def p_M_item_0 (N : Nat) (a_tape : Nat → Int32) (tapeSize_this : Int32) (itemSize_this : Int32) (a_item : Nat → Int32) : Option (Int32 × Int32 × Int32 × (Nat → Int32)) := (p_M_item_2 N a_tape N tapeSize_this itemSize_this a_item (0 : Int32))
def p_M_item (N : Nat) (tapeSize_this : Int32) (itemSize_this : Int32) (a_tape : Nat → Int32) (a_item : Nat → Int32) : Option (Int32 × Int32 × Int32 × (Nat → Int32)) := p_M_item_0 N a_tape tapeSize_this itemSize_this a_item
abbrev rm_X_list : Room := { frames := 3, cells := 0, slots := 0, locals := 82 }
def p_X_list_0 (N : Nat) (a_tape_bytes : Nat → Int32) (size_tape : Int32) (size_list : Int32) (a_list_bytes : Nat → Int32) : Option (Int32 × Int32 × Int32 × (Nat → Int32)) := ((p_R_takeAll N size_list a_list_bytes size_tape a_tape_bytes).bind fun r_8 => some (r_8.1, r_8.2.2.2, r_8.2.1, r_8.2.2.1))
def p_X_list (N : Nat) (size_tape : Int32) (a_tape_bytes : Nat → Int32) (size_list : Int32) (a_list_bytes : Nat → Int32) : Option (Int32 × Int32 × Int32 × (Nat → Int32)) := p_X_list_0 N a_tape_bytes size_tape size_list a_list_bytes
abbrev rm_M_list : Room := { frames := 0, cells := 0, slots := 0, locals := 0 }
def p_M_list_2 (N : Nat) (a_tape : Nat → Int32) : Nat → Int32 → Int32 → (Nat → Int32) → Int32 → Option (Int32 × Int32 × Int32 × (Nat → Int32))
  | 0, _, _, _, _ => none
  | n + 1, tapeSize_this, listSize_this, a_list, x1 => (if tapeSize_this ≤ x1 then some (tapeSize_this, (0 : Int32), tapeSize_this, a_list) else (if (x1 < 0 ∨ 1024 ≤ x1.toNatClampNeg) then none else (if (x1 < 0 ∨ 1024 ≤ x1.toNatClampNeg) then none else (p_M_list_2 N a_tape n tapeSize_this listSize_this (upd a_list x1.toNatClampNeg (a_tape x1.toNatClampNeg)) (x1 + (1 : Int32))))))
def p_M_list_0 (N : Nat) (a_tape : Nat → Int32) (tapeSize_this : Int32) (listSize_this : Int32) (a_list : Nat → Int32) : Option (Int32 × Int32 × Int32 × (Nat → Int32)) := (p_M_list_2 N a_tape N tapeSize_this listSize_this a_list (0 : Int32))
def p_M_list (N : Nat) (tapeSize_this : Int32) (listSize_this : Int32) (a_tape : Nat → Int32) (a_list : Nat → Int32) : Option (Int32 × Int32 × Int32 × (Nat → Int32)) := p_M_list_0 N a_tape tapeSize_this listSize_this a_list
abbrev rm_X_end : Room := { frames := 1, cells := 0, slots := 0, locals := 21 }
def p_X_end_0 (N : Nat) (size_tape : Int32) (x1 : Int32) : Option (Int32 × Int32) := ((p_R_cutTo N size_tape x1).bind fun r_5 => some (r_5.1, r_5.2))
def p_X_end (N : Nat) (size_tape : Int32) (x1 : Int32) : Option (Int32 × Int32) := p_X_end_0 N size_tape x1
abbrev rm_M_end : Room := { frames := 0, cells := 0, slots := 0, locals := 0 }
def p_M_end_0 (N : Nat) (tapeSize_this : Int32) (x1 : Int32) : Option (Int32 × Int32) := (if x1 < (0 : Int32) then some ((0 : Int32), tapeSize_this) else (if x1 ≤ tapeSize_this then some ((1 : Int32), x1) else some ((0 : Int32), tapeSize_this)))
def p_M_end (N : Nat) (tapeSize_this : Int32) (x1 : Int32) : Option (Int32 × Int32) := p_M_end_0 N tapeSize_this x1
abbrev rm_R_putNumber : Room := { frames := 1, cells := 0, slots := 0, locals := 21 }
def p_R_putNumber_0 (N : Nat) (size_this : Int32) (a_bytes : Nat → Int32) (x1 : Int32) : Option (Int32 × (Nat → Int32)) := ((p_R_put N size_this a_bytes (x1.toUInt32 >>> ((24 : Int32).toUInt32 &&& Int32.toUInt32 31)).toInt32).bind fun r_5 => ((p_R_put N r_5.2.1 r_5.2.2 (x1.toUInt32 >>> ((16 : Int32).toUInt32 &&& Int32.toUInt32 31)).toInt32).bind fun r_14 => ((p_R_put N r_14.2.1 r_14.2.2 (x1.toUInt32 >>> ((8 : Int32).toUInt32 &&& Int32.toUInt32 31)).toInt32).bind fun r_23 => ((p_R_put N r_23.2.1 r_23.2.2 x1).bind fun r_29 => some (r_29.2.1, r_29.2.2)))))
def p_R_putNumber (N : Nat) (size_this : Int32) (a_bytes : Nat → Int32) (x1 : Int32) : Option (Int32 × (Nat → Int32)) := p_R_putNumber_0 N size_this a_bytes x1
abbrev rm_X_feed : Room := { frames := 2, cells := 0, slots := 0, locals := 42 }
def p_X_feed_0 (N : Nat) (size_tape : Int32) (a_tape_bytes : Nat → Int32) (x1 : Int32) (x2 : Int32) (x3 : Int32) (x4 : Int32) (x5 : Int32) : Option (Int32 × Int32 × (Nat → Int32)) := ((p_R_size N size_tape).bind fun r_4 => (if r_4 ≤ (1004 : Int32) then ((p_R_putNumber N size_tape a_tape_bytes x1).bind fun r_20 => ((p_R_putNumber N r_20.1 r_20.2 x2).bind fun r_28 => ((p_R_putNumber N r_28.1 r_28.2 x3).bind fun r_36 => ((p_R_putNumber N r_36.1 r_36.2 x4).bind fun r_45 => ((p_R_putNumber N r_45.1 r_45.2 x5).bind fun r_54 => some ((1 : Int32), r_54.1, r_54.2)))))) else some ((0 : Int32), size_tape, a_tape_bytes)))
def p_X_feed (N : Nat) (size_tape : Int32) (a_tape_bytes : Nat → Int32) (x1 : Int32) (x2 : Int32) (x3 : Int32) (x4 : Int32) (x5 : Int32) : Option (Int32 × Int32 × (Nat → Int32)) := p_X_feed_0 N size_tape a_tape_bytes x1 x2 x3 x4 x5
abbrev rm_M_feed : Room := { frames := 0, cells := 0, slots := 0, locals := 0 }
def p_M_feed_71 (N : Nat) (k_18 : Int32 → (Nat → Int32) → Int32 → Int32 → Int32 → Int32 → Int32 → Int32 → Option (Int32 × Int32 × (Nat → Int32))) (tapeSize_this : Int32) (a_tape : Nat → Int32) (x1 : Int32) (x2 : Int32) (x3 : Int32) (x4 : Int32) (x5 : Int32) (x6 : Int32) (y0 : Int32) : Option (Int32 × Int32 × (Nat → Int32)) := (if (tapeSize_this < 0 ∨ 1024 ≤ tapeSize_this.toNatClampNeg) then none else (k_18 (tapeSize_this + (1 : Int32)) (upd a_tape tapeSize_this.toNatClampNeg ((y0 >>> (((24 : Int32) - ((8 : Int32) * (x6 - x6 / (4 : Int32) * (4 : Int32)))) &&& 31)) &&& (255 : Int32))) x1 x2 x3 x4 x5 (x6 + (1 : Int32))))
def p_M_feed_18 (N : Nat) : Nat → Int32 → (Nat → Int32) → Int32 → Int32 → Int32 → Int32 → Int32 → Int32 → Option (Int32 × Int32 × (Nat → Int32))
  | 0, _, _, _, _, _, _, _, _ => none
  | n + 1, tapeSize_this, a_tape, x1, x2, x3, x4, x5, x6 => (if (20 : Int32) ≤ x6 then some ((1 : Int32), tapeSize_this, a_tape) else (if (4 : Int32) ≤ x6 then (if (8 : Int32) ≤ x6 then (if (12 : Int32) ≤ x6 then (if (16 : Int32) ≤ x6 then (p_M_feed_71 N (p_M_feed_18 N n) tapeSize_this a_tape x1 x2 x3 x4 x5 x6 x5) else (p_M_feed_71 N (p_M_feed_18 N n) tapeSize_this a_tape x1 x2 x3 x4 x5 x6 x4)) else (p_M_feed_71 N (p_M_feed_18 N n) tapeSize_this a_tape x1 x2 x3 x4 x5 x6 x3)) else (p_M_feed_71 N (p_M_feed_18 N n) tapeSize_this a_tape x1 x2 x3 x4 x5 x6 x2)) else (p_M_feed_71 N (p_M_feed_18 N n) tapeSize_this a_tape x1 x2 x3 x4 x5 x6 x1)))
def p_M_feed_0 (N : Nat) (tapeSize_this : Int32) (a_tape : Nat → Int32) (x1 : Int32) (x2 : Int32) (x3 : Int32) (x4 : Int32) (x5 : Int32) : Option (Int32 × Int32 × (Nat → Int32)) := (if (tapeSize_this + (20 : Int32)) ≤ (1024 : Int32) then (p_M_feed_18 N N tapeSize_this a_tape x1 x2 x3 x4 x5 (0 : Int32)) else some ((0 : Int32), tapeSize_this, a_tape))
def p_M_feed (N : Nat) (tapeSize_this : Int32) (a_tape : Nat → Int32) (x1 : Int32) (x2 : Int32) (x3 : Int32) (x4 : Int32) (x5 : Int32) : Option (Int32 × Int32 × (Nat → Int32)) := p_M_feed_0 N tapeSize_this a_tape x1 x2 x3 x4 x5
def p_L_law_18 (N : Nat) (L : Nat) (xs : Nat → Int32) : Nat → Int32 → Int32 → (Nat → Int32) → Int32 → (Nat → Int32) → Int32 → (Nat → Int32) → Int32 → (Nat → Int32) → Int32 → (Nat → Int32) → Int32 → Int32 → Int32 → Int32 → Int32 → (Nat → Int32) → (Nat → Int32) → (Nat → Int32) → (Nat → Int32) → (Nat → Int32) → Int32 → Option (Int32)
  | 0, _, _, _, _, _, _, _, _, _, _, _, _, _, _, _, _, _, _, _, _, _, _ => none
  | n + 1, place_x, size_x_tape, a_x_tape_bytes, size_x_list, a_x_list_bytes, size_x_item, a_x_item_bytes, size_x_word, a_x_word_bytes, size_x_written, a_x_written_bytes, tapeSize_m, listSize_m, itemSize_m, wordSize_m, textSize_m, a_m_tape, a_m_list, a_m_item, a_m_word, a_m_text, x3 => (if ((Int32.ofNat L) - (6 : Int32)) < x3 then some (1 : Int32) else (if (x3 < 0 ∨ L ≤ x3.toNatClampNeg) then none else (if ((xs x3.toNatClampNeg) &&& (15 : Int32)) = (0 : Int32) then (if ((x3 + (1 : Int32)) < 0 ∨ L ≤ (x3 + (1 : Int32)).toNatClampNeg) then none else (if ((x3 + (2 : Int32)) < 0 ∨ L ≤ (x3 + (2 : Int32)).toNatClampNeg) then none else (if ((x3 + (3 : Int32)) < 0 ∨ L ≤ (x3 + (3 : Int32)).toNatClampNeg) then none else (if ((x3 + (4 : Int32)) < 0 ∨ L ≤ (x3 + (4 : Int32)).toNatClampNeg) then none else (if ((x3 + (5 : Int32)) < 0 ∨ L ≤ (x3 + (5 : Int32)).toNatClampNeg) then none else ((p_X_feed N size_x_tape a_x_tape_bytes (xs (x3 + (1 : Int32)).toNatClampNeg) (xs (x3 + (2 : Int32)).toNatClampNeg) (xs (x3 + (3 : Int32)).toNatClampNeg) (xs (x3 + (4 : Int32)).toNatClampNeg) (xs (x3 + (5 : Int32)).toNatClampNeg)).bind fun r_118 => (if ((x3 + (1 : Int32)) < 0 ∨ L ≤ (x3 + (1 : Int32)).toNatClampNeg) then none else (if ((x3 + (2 : Int32)) < 0 ∨ L ≤ (x3 + (2 : Int32)).toNatClampNeg) then none else (if ((x3 + (3 : Int32)) < 0 ∨ L ≤ (x3 + (3 : Int32)).toNatClampNeg) then none else (if ((x3 + (4 : Int32)) < 0 ∨ L ≤ (x3 + (4 : Int32)).toNatClampNeg) then none else (if ((x3 + (5 : Int32)) < 0 ∨ L ≤ (x3 + (5 : Int32)).toNatClampNeg) then none else ((p_M_feed N tapeSize_m a_m_tape (xs (x3 + (1 : Int32)).toNatClampNeg) (xs (x3 + (2 : Int32)).toNatClampNeg) (xs (x3 + (3 : Int32)).toNatClampNeg) (xs (x3 + (4 : Int32)).toNatClampNeg) (xs (x3 + (5 : Int32)).toNatClampNeg)).bind fun r_147 => (if r_118.1 = r_147.1 then (p_L_law_18 N L xs n place_x r_118.2.1 r_118.2.2 size_x_list a_x_list_bytes size_x_item a_x_item_bytes size_x_word a_x_word_bytes size_x_written a_x_written_bytes r_147.2.1 listSize_m itemSize_m wordSize_m textSize_m r_147.2.2 a_m_list a_m_item a_m_word a_m_text (x3 + (6 : Int32))) else some (0 : Int32)))))))))))))) else (if ((xs x3.toNatClampNeg) &&& (15 : Int32)) = (1 : Int32) then (if ((x3 + (1 : Int32)) < 0 ∨ L ≤ (x3 + (1 : Int32)).toNatClampNeg) then none else ((p_X_end N size_x_tape (xs (x3 + (1 : Int32)).toNatClampNeg)).bind fun r_161 => (if ((x3 + (1 : Int32)) < 0 ∨ L ≤ (x3 + (1 : Int32)).toNatClampNeg) then none else ((p_M_end N tapeSize_m (xs (x3 + (1 : Int32)).toNatClampNeg)).bind fun r_170 => (if r_161.1 = r_170.1 then (p_L_law_18 N L xs n place_x r_161.2 a_x_tape_bytes size_x_list a_x_list_bytes size_x_item a_x_item_bytes size_x_word a_x_word_bytes size_x_written a_x_written_bytes r_170.2 listSize_m itemSize_m wordSize_m textSize_m a_m_tape a_m_list a_m_item a_m_word a_m_text (x3 + (6 : Int32))) else some (0 : Int32)))))) else (if ((xs x3.toNatClampNeg) &&& (15 : Int32)) = (2 : Int32) then ((p_X_list N size_x_tape a_x_tape_bytes size_x_list a_x_list_bytes).bind fun r_179 => ((p_M_list N tapeSize_m listSize_m a_m_tape a_m_list).bind fun r_183 => (if r_179.1 = r_183.1 then (p_L_law_18 N L xs n place_x r_179.2.1 a_x_tape_bytes r_179.2.2.1 r_179.2.2.2 size_x_item a_x_item_bytes size_x_word a_x_word_bytes size_x_written a_x_written_bytes r_183.2.1 r_183.2.2.1 itemSize_m wordSize_m textSize_m a_m_tape r_183.2.2.2 a_m_item a_m_word a_m_text (x3 + (6 : Int32))) else some (0 : Int32)))) else (if ((xs x3.toNatClampNeg) &&& (15 : Int32)) = (3 : Int32) then ((p_X_item N size_x_tape a_x_tape_bytes size_x_item a_x_item_bytes).bind fun r_192 => ((p_M_item N tapeSize_m itemSize_m a_m_tape a_m_item).bind fun r_196 => (if r_192.1 = r_196.1 then (p_L_law_18 N L xs n place_x r_192.2.1 a_x_tape_bytes size_x_list a_x_list_bytes r_192.2.2.1 r_192.2.2.2 size_x_word a_x_word_bytes size_x_written a_x_written_bytes r_196.2.1 listSize_m r_196.2.2.1 wordSize_m textSize_m a_m_tape a_m_list r_196.2.2.2 a_m_word a_m_text (x3 + (6 : Int32))) else some (0 : Int32)))) else (if ((xs x3.toNatClampNeg) &&& (15 : Int32)) = (4 : Int32) then ((p_X_count N place_x size_x_list a_x_list_bytes size_x_word a_x_word_bytes).bind fun r_205 => ((p_M_count N listSize_m wordSize_m a_m_list a_m_word).bind fun r_209 => (if r_205.1 = r_209.1 then (p_L_law_18 N L xs n r_205.2.1 size_x_tape a_x_tape_bytes size_x_list a_x_list_bytes size_x_item a_x_item_bytes r_205.2.2.1 r_205.2.2.2 size_x_written a_x_written_bytes tapeSize_m listSize_m itemSize_m r_209.2.1 textSize_m a_m_tape a_m_list a_m_item r_209.2.2 a_m_text (x3 + (6 : Int32))) else some (0 : Int32)))) else (if ((xs x3.toNatClampNeg) &&& (15 : Int32)) = (5 : Int32) then (if ((x3 + (1 : Int32)) < 0 ∨ L ≤ (x3 + (1 : Int32)).toNatClampNeg) then none else ((p_X_element N place_x size_x_list a_x_list_bytes size_x_item a_x_item_bytes size_x_word a_x_word_bytes (xs (x3 + (1 : Int32)).toNatClampNeg)).bind fun r_223 => (if ((x3 + (1 : Int32)) < 0 ∨ L ≤ (x3 + (1 : Int32)).toNatClampNeg) then none else ((p_M_element N listSize_m itemSize_m wordSize_m a_m_list a_m_item a_m_word (xs (x3 + (1 : Int32)).toNatClampNeg)).bind fun r_232 => (if r_223.1 = r_232.1 then (p_L_law_18 N L xs n r_223.2.1 size_x_tape a_x_tape_bytes size_x_list a_x_list_bytes r_223.2.2.1 r_223.2.2.2.1 r_223.2.2.2.2.1 r_223.2.2.2.2.2 size_x_written a_x_written_bytes tapeSize_m listSize_m r_232.2.1 r_232.2.2.1 textSize_m a_m_tape a_m_list r_232.2.2.2.1 r_232.2.2.2.2 a_m_text (x3 + (6 : Int32))) else some (0 : Int32)))))) else (if ((xs x3.toNatClampNeg) &&& (15 : Int32)) = (6 : Int32) then ((p_X_append N size_x_list a_x_list_bytes size_x_item a_x_item_bytes).bind fun r_241 => ((p_M_append N listSize_m itemSize_m wordSize_m textSize_m a_m_list a_m_item a_m_word a_m_text).bind fun r_245 => (if r_241.1 = r_245.1 then (p_L_law_18 N L xs n place_x size_x_tape a_x_tape_bytes r_241.2.1 r_241.2.2 size_x_item a_x_item_bytes size_x_word a_x_word_bytes size_x_written a_x_written_bytes tapeSize_m r_245.2.1 itemSize_m r_245.2.2.1 r_245.2.2.2.1 a_m_tape r_245.2.2.2.2.1 a_m_item r_245.2.2.2.2.2.1 r_245.2.2.2.2.2.2 (x3 + (6 : Int32))) else some (0 : Int32)))) else (if ((xs x3.toNatClampNeg) &&& (15 : Int32)) = (7 : Int32) then ((p_X_again N place_x size_x_list a_x_list_bytes size_x_word a_x_word_bytes size_x_written a_x_written_bytes).bind fun r_254 => ((p_M_again N listSize_m wordSize_m textSize_m a_m_list a_m_word a_m_text).bind fun r_258 => (if r_254.1 = r_258.1 then (p_L_law_18 N L xs n r_254.2.1 size_x_tape a_x_tape_bytes r_254.2.2.1 r_254.2.2.2.1 size_x_item a_x_item_bytes r_254.2.2.2.2.1 r_254.2.2.2.2.2.1 r_254.2.2.2.2.2.2.1 r_254.2.2.2.2.2.2.2 tapeSize_m r_258.2.1 itemSize_m r_258.2.2.1 r_258.2.2.2.1 a_m_tape r_258.2.2.2.2.1 a_m_item r_258.2.2.2.2.2.1 r_258.2.2.2.2.2.2 (x3 + (6 : Int32))) else some (0 : Int32)))) else (if ((xs x3.toNatClampNeg) &&& (15 : Int32)) = (8 : Int32) then ((p_X_wrap N size_x_list a_x_list_bytes size_x_item a_x_item_bytes).bind fun r_267 => ((p_M_wrap N listSize_m itemSize_m a_m_list a_m_item).bind fun r_271 => (if r_267.1 = r_271.1 then (p_L_law_18 N L xs n place_x size_x_tape a_x_tape_bytes r_267.2.1 a_x_list_bytes r_267.2.2.1 r_267.2.2.2 size_x_word a_x_word_bytes size_x_written a_x_written_bytes tapeSize_m r_271.2.1 r_271.2.2.1 wordSize_m textSize_m a_m_tape a_m_list r_271.2.2.2 a_m_word a_m_text (x3 + (6 : Int32))) else some (0 : Int32)))) else (if ((xs x3.toNatClampNeg) &&& (15 : Int32)) = (9 : Int32) then (if ((x3 + (1 : Int32)) < 0 ∨ L ≤ (x3 + (1 : Int32)).toNatClampNeg) then none else ((p_X_listAt N size_x_list a_x_list_bytes (xs (x3 + (1 : Int32)).toNatClampNeg)).bind fun r_285 => (if ((x3 + (1 : Int32)) < 0 ∨ L ≤ (x3 + (1 : Int32)).toNatClampNeg) then none else ((p_M_listAt N listSize_m a_m_list (xs (x3 + (1 : Int32)).toNatClampNeg)).bind fun r_294 => (if r_285 = r_294 then (p_L_law_18 N L xs n place_x size_x_tape a_x_tape_bytes size_x_list a_x_list_bytes size_x_item a_x_item_bytes size_x_word a_x_word_bytes size_x_written a_x_written_bytes tapeSize_m listSize_m itemSize_m wordSize_m textSize_m a_m_tape a_m_list a_m_item a_m_word a_m_text (x3 + (6 : Int32))) else some (0 : Int32)))))) else (if ((xs x3.toNatClampNeg) &&& (15 : Int32)) = (10 : Int32) then (if ((x3 + (1 : Int32)) < 0 ∨ L ≤ (x3 + (1 : Int32)).toNatClampNeg) then none else ((p_X_itemAt N size_x_item a_x_item_bytes (xs (x3 + (1 : Int32)).toNatClampNeg)).bind fun r_308 => (if ((x3 + (1 : Int32)) < 0 ∨ L ≤ (x3 + (1 : Int32)).toNatClampNeg) then none else ((p_M_itemAt N itemSize_m a_m_item (xs (x3 + (1 : Int32)).toNatClampNeg)).bind fun r_317 => (if r_308 = r_317 then (p_L_law_18 N L xs n place_x size_x_tape a_x_tape_bytes size_x_list a_x_list_bytes size_x_item a_x_item_bytes size_x_word a_x_word_bytes size_x_written a_x_written_bytes tapeSize_m listSize_m itemSize_m wordSize_m textSize_m a_m_tape a_m_list a_m_item a_m_word a_m_text (x3 + (6 : Int32))) else some (0 : Int32)))))) else (p_L_law_18 N L xs n place_x size_x_tape a_x_tape_bytes size_x_list a_x_list_bytes size_x_item a_x_item_bytes size_x_word a_x_word_bytes size_x_written a_x_written_bytes tapeSize_m listSize_m itemSize_m wordSize_m textSize_m a_m_tape a_m_list a_m_item a_m_word a_m_text (x3 + (6 : Int32))))))))))))))))
end
section
-- java/lang/String.isLatin1()Z
set_option maxHeartbeats 4000000 in
set_option maxRecDepth 100000 in
theorem t_S_isLatin1_0 {p : Program} {l : Launch} {e : Env} {s : State} {m : MethodId} {args : Array Value} {below : List Frame} {meth : Method} {c : Code} {D : va_G} {cA : ClassId} {zz : zT} {A : Nat → Prop} (C0 : Cx p s m args meth c b_S_isLatin1 R_S 1 (some .boolean)) (hK : va_K D classes [(cA, .int)] s) (hA : ∀ q : Nat, s.heap.size ≤ q → A q) (hZ : ZS zz A s s.heap) (N : Nat) (k0 : Nat) (hk0 : k0 < nJS) (res : Int32) :
    p_S_isLatin1_0 N k0 = some res → ∀ (H : Heap) (locs : List Loc), va_P D classes [] H → va_D A [] → va_S A s.heap H locs → ∀ (ls : Array Slot), lv_has ls 1 [(0, .ref (zz.1 k0))] → W p l e rm_S_isLatin1 s m args below meth c H locs 0 0 (QI .boolean below args s D cA A (res) []) (F0 m 0 ls []) := by
  obtain ⟨hx, hb, hr, hml, hown, hG, hlk⟩ := id C0
  intro h H locs hP hD hS ls hl
  unfold p_S_isLatin1_0 at h
  refine va_gets (v := .int 1) hx hb (ZS_compact hZ) hS hown (hG _ f_S_38) (fun _ h9 => h9) d_S_isLatin1_0 ?_
  refine lv_if_eq (tgt := 17) hx hb d_S_isLatin1_3 (by decide) (fun c_3 => ?_) (fun c_3 => ?_)
  · have h := iteP c_3 h
    refine lv_iconst (v := (0 : Int32)) hx hb d_S_isLatin1_17 (by decide) ?_
    obtain rfl := Option.some.inj h
    exact rI (v := (0 : Int32)) C0 rfl hK hP hD hS d_S_isLatin1_18
  · have h := iteN c_3 h
    refine lv_aload_n hx hb d_S_isLatin1_6 rfl (lv_at hl 0 rfl) ?_
    refine vk_getf hx hb (ZS_coder hZ hk0) hS hown (hG _ f_S_15) (fun _ h9 => h9) d_S_isLatin1_7 ?_
    refine lv_if_ne (tgt := 17) hx hb d_S_isLatin1_10 (by decide) (fun c_10 => ?_) (fun c_10 => ?_)
    · have h := iteN c_10 h
      refine lv_iconst (v := (0 : Int32)) hx hb d_S_isLatin1_17 (by decide) ?_
      obtain rfl := Option.some.inj h
      exact rI (v := (0 : Int32)) C0 rfl hK hP hD hS d_S_isLatin1_18
    · have h := iteP c_10 h
      refine lv_iconst (v := (1 : Int32)) hx hb d_S_isLatin1_13 (by decide) ?_
      refine lv_goto (tgt := 18) hx hb d_S_isLatin1_14 (by decide) ?_
      obtain rfl := Option.some.inj h
      exact rI (v := (1 : Int32)) C0 rfl hK hP hD hS d_S_isLatin1_18
theorem c_S_isLatin1 (l : Launch) (D : va_G) (cA : ClassId) (zz : zT) (N : Nat) (k0 : Nat) (hk0 : k0 < nJS)  (res : Int32) (h : p_S_isLatin1 N k0 = some res) : MI l D cA zz y_S_isLatin1 b_S_isLatin1 1 .boolean rm_S_isLatin1 [.ref (zz.1 k0)] [] (res) [] := by
  unfold p_S_isLatin1 at h
  exact MI_enter (by decide) (Nat.le_of_ble_eq_true rfl) (fun p e s m below meth c A ls C0 hK hA hZ hP hD hl => t_S_isLatin1_0 C0 hK hA hZ N k0 hk0 res h s.heap [] hP hD va_S.rf ls hl)
-- java/lang/String.coder()B
set_option maxHeartbeats 4000000 in
set_option maxRecDepth 100000 in
theorem t_S_coder_0 {p : Program} {l : Launch} {e : Env} {s : State} {m : MethodId} {args : Array Value} {below : List Frame} {meth : Method} {c : Code} {D : va_G} {cA : ClassId} {zz : zT} {A : Nat → Prop} (C0 : Cx p s m args meth c b_S_coder R_S 1 (some .byte)) (hK : va_K D classes [(cA, .int)] s) (hA : ∀ q : Nat, s.heap.size ≤ q → A q) (hZ : ZS zz A s s.heap) (N : Nat) (k0 : Nat) (hk0 : k0 < nJS) (res : Int32) :
    p_S_coder_0 N k0 = some res → ∀ (H : Heap) (locs : List Loc), va_P D classes [] H → va_D A [] → va_S A s.heap H locs → ∀ (ls : Array Slot), lv_has ls 1 [(0, .ref (zz.1 k0))] → W p l e rm_S_coder s m args below meth c H locs 0 0 (QI .byte below args s D cA A (res) []) (F0 m 0 ls []) := by
  obtain ⟨hx, hb, hr, hml, hown, hG, hlk⟩ := id C0
  intro h H locs hP hD hS ls hl
  unfold p_S_coder_0 at h
  refine va_gets (v := .int 1) hx hb (ZS_compact hZ) hS hown (hG _ f_S_38) (fun _ h9 => h9) d_S_coder_0 ?_
  refine lv_if_eq (tgt := 13) hx hb d_S_coder_3 (by decide) (fun c_3 => ?_) (fun c_3 => ?_)
  · have h := iteP c_3 h
    refine lv_iconst (v := (1 : Int32)) hx hb d_S_coder_13 (by decide) ?_
    obtain rfl := Option.some.inj h
    exact rI (v := (1 : Int32)) C0 rfl hK hP hD hS d_S_coder_14
  · have h := iteN c_3 h
    refine lv_aload_n hx hb d_S_coder_6 rfl (lv_at hl 0 rfl) ?_
    refine vk_getf hx hb (ZS_coder hZ hk0) hS hown (hG _ f_S_15) (fun _ h9 => h9) d_S_coder_7 ?_
    refine lv_goto (tgt := 14) hx hb d_S_coder_10 (by decide) ?_
    obtain rfl := Option.some.inj h
    exact rI (v := (0 : Int32)) C0 rfl hK hP hD hS d_S_coder_14
theorem c_S_coder (l : Launch) (D : va_G) (cA : ClassId) (zz : zT) (N : Nat) (k0 : Nat) (hk0 : k0 < nJS)  (res : Int32) (h : p_S_coder N k0 = some res) : MI l D cA zz y_S_coder b_S_coder 1 .byte rm_S_coder [.ref (zz.1 k0)] [] (res) [] := by
  unfold p_S_coder at h
  exact MI_enter (by decide) (Nat.le_of_ble_eq_true rfl) (fun p e s m below meth c A ls C0 hK hA hZ hP hD hl => t_S_coder_0 C0 hK hA hZ N k0 hk0 res h s.heap [] hP hD va_S.rf ls hl)
-- java/lang/String.length()I
set_option maxHeartbeats 4000000 in
set_option maxRecDepth 100000 in
theorem t_S_length_0 {p : Program} {l : Launch} {e : Env} {s : State} {m : MethodId} {args : Array Value} {below : List Frame} {meth : Method} {c : Code} {D : va_G} {cA : ClassId} {zz : zT} {A : Nat → Prop} (C0 : Cx p s m args meth c b_S_length R_S 1 (some .int)) (hK : va_K D classes [(cA, .int)] s) (hA : ∀ q : Nat, s.heap.size ≤ q → A q) (hZ : ZS zz A s s.heap) (N : Nat) (k0 : Nat) (hk0 : k0 < nJS) (res : Int32) :
    p_S_length_0 N k0 = some res → ∀ (H : Heap) (locs : List Loc), va_P D classes [] H → va_D A [] → va_S A s.heap H locs → ∀ (ls : Array Slot), lv_has ls 1 [(0, .ref (zz.1 k0))] → W p l e rm_S_length s m args below meth c H locs 0 0 (QI .int below args s D cA A (res) []) (F0 m 0 ls []) := by
  obtain ⟨hx, hb, hr, hml, hown, hG, hlk⟩ := id C0
  intro h H locs hP hD hS ls hl
  unfold p_S_length_0 at h
  refine lv_aload_n hx hb d_S_length_0 rfl (lv_at hl 0 rfl) ?_
  refine vk_getf hx hb (ZS_value hZ hk0) hS hown (hG _ f_S_9) (fun _ h9 => h9) d_S_length_1 ?_
  refine va_tlen (v := (Int32.ofNat (lenJS.getD k0 0))) hx hb (ZS_bytes hZ hk0) hS rfl d_S_length_4 ?_
  refine lv_aload_n hx hb d_S_length_5 rfl (lv_at hl 0 rfl) ?_
  obtain ⟨r_6, h_6, h⟩ := bindS h
  refine call_ki (wr := []) (w1 := []) (wN := []) (rest := [.int (Int32.ofNat (lenJS.getD k0 0))]) C0 hK hP hD hS hA hZ (c_S_coder l D cA zz N k0 hk0 r_6 h_6) [] [] [] rfl rfl rfl rfl (by decide) rfl rfl (ZS_recv hZ hk0 hS) m_S_335 ⟨Nat.le_of_ble_eq_true rfl, Nat.le_of_ble_eq_true rfl⟩ ⟨rfl, rfl⟩ rfl hl.1 rfl (Nat.le_of_ble_eq_true rfl) ⟨Nat.le_of_ble_eq_true rfl, Nat.le_of_ble_eq_true rfl⟩ d_S_length_6 (fun b_6 H locs hP hD hS => ?_)
  refine lv_ishr hx hb d_S_length_9 ?_
  obtain rfl := Option.some.inj h
  exact rI (v := ((Int32.ofNat (lenJS.getD k0 0)) >>> (r_6 &&& 31))) C0 (vp_nar_int _) hK hP hD hS d_S_length_10
theorem c_S_length (l : Launch) (D : va_G) (cA : ClassId) (zz : zT) (N : Nat) (k0 : Nat) (hk0 : k0 < nJS)  (res : Int32) (h : p_S_length N k0 = some res) : MI l D cA zz y_S_length b_S_length 1 .int rm_S_length [.ref (zz.1 k0)] [] (res) [] := by
  unfold p_S_length at h
  exact MI_enter (by decide) (Nat.le_of_ble_eq_true rfl) (fun p e s m below meth c A ls C0 hK hA hZ hP hD hl => t_S_length_0 C0 hK hA hZ N k0 hk0 res h s.heap [] hP hD va_S.rf ls hl)
-- java/lang/StringLatin1.canEncode(I)Z
set_option maxHeartbeats 4000000 in
set_option maxRecDepth 100000 in
theorem t_SL_canEncode1_0 {p : Program} {l : Launch} {e : Env} {s : State} {m : MethodId} {args : Array Value} {below : List Frame} {meth : Method} {c : Code} {D : va_G} {cA : ClassId} {zz : zT} {A : Nat → Prop} (C0 : Cx p s m args meth c b_SL_canEncode1 R_SL 1 (some .boolean)) (hK : va_K D classes [(cA, .int)] s) (hA : ∀ q : Nat, s.heap.size ≤ q → A q) (hZ : ZS zz A s s.heap) (N : Nat) (res : Int32) :
    ∀ (x0 : Int32), p_SL_canEncode1_0 N x0 = some res → ∀ (H : Heap) (locs : List Loc), va_P D classes [] H → va_D A [] → va_S A s.heap H locs → ∀ (ls : Array Slot), lv_has ls 1 [(0, .int x0)] → W p l e rm_SL_canEncode1 s m args below meth c H locs 0 0 (QI .boolean below args s D cA A (res) []) (F0 m 0 ls []) := by
  obtain ⟨hx, hb, hr, hml, hown, hG, hlk⟩ := id C0
  intro x0 h H locs hP hD hS ls hl
  unfold p_SL_canEncode1_0 at h
  refine lv_iload_n hx hb d_SL_canEncode1_0 rfl (lv_at hl 0 rfl) ?_
  refine lv_if_lt (tgt := 15) hx hb d_SL_canEncode1_1 (by decide) (fun c_1 => ?_) (fun c_1 => ?_)
  · have h := iteP c_1 h
    refine lv_iconst (v := (0 : Int32)) hx hb d_SL_canEncode1_15 (by decide) ?_
    obtain rfl := Option.some.inj h
    exact rI (v := (0 : Int32)) C0 rfl hK hP hD hS d_SL_canEncode1_16
  · have h := iteN c_1 h
    refine lv_iload_n hx hb d_SL_canEncode1_4 rfl (lv_at hl 0 rfl) ?_
    refine lv_sipush (v := (255 : Int32)) hx hb d_SL_canEncode1_5 (by decide) ?_
    refine lv_icmp_gt (tgt := 15) hx hb d_SL_canEncode1_8 (by decide) (fun c_8 => ?_) (fun c_8 => ?_)
    · have h := iteP c_8 h
      refine lv_iconst (v := (0 : Int32)) hx hb d_SL_canEncode1_15 (by decide) ?_
      obtain rfl := Option.some.inj h
      exact rI (v := (0 : Int32)) C0 rfl hK hP hD hS d_SL_canEncode1_16
    · have h := iteN c_8 h
      refine lv_iconst (v := (1 : Int32)) hx hb d_SL_canEncode1_11 (by decide) ?_
      refine lv_goto (tgt := 16) hx hb d_SL_canEncode1_12 (by decide) ?_
      obtain rfl := Option.some.inj h
      exact rI (v := (1 : Int32)) C0 rfl hK hP hD hS d_SL_canEncode1_16
theorem c_SL_canEncode1 (l : Launch) (D : va_G) (cA : ClassId) (zz : zT) (N : Nat)  (x0 : Int32) (res : Int32) (h : p_SL_canEncode1 N x0 = some res) : MI l D cA zz y_SL_canEncode1 b_SL_canEncode1 1 .boolean rm_SL_canEncode1 [.int x0] [] (res) [] := by
  unfold p_SL_canEncode1 at h
  exact MI_enter (by decide) (Nat.le_of_ble_eq_true rfl) (fun p e s m below meth c A ls C0 hK hA hZ hP hD hl => t_SL_canEncode1_0 C0 hK hA hZ N res _ h s.heap [] hP hD va_S.rf ls hl)
-- java/lang/StringLatin1.indexOfChar([BIII)I
set_option maxHeartbeats 4000000 in
set_option maxRecDepth 100000 in
theorem t_SL_indexOfChar_7 {p : Program} {l : Launch} {e : Env} {s : State} {m : MethodId} {args : Array Value} {below : List Frame} {meth : Method} {c : Code} {D : va_G} {cA : ClassId} {zz : zT} {A : Nat → Prop} (C0 : Cx p s m args meth c b_SL_indexOfChar R_SL 6 (some .int)) (hK : va_K D classes [(cA, .int)] s) (hA : ∀ q : Nat, s.heap.size ≤ q → A q) (hZ : ZS zz A s s.heap) (N : Nat) (k0 : Nat) (hk0 : k0 < nJS) (res : Int32) :
    ∀ (n : Nat), ∀ (x3 : Int32) (x4 : Int32) (x5 : Int32), p_SL_indexOfChar_7 N k0 n x3 x4 x5 = some res → ∀ (H : Heap) (locs : List Loc), va_P D classes [] H → va_D A [] → va_S A s.heap H locs → ∀ (ls : Array Slot), lv_has ls 6 [(0, .ref (zz.2.1 k0)), (3, .int x3), (4, .int x4), (5, .int x5)] → W p l e rm_SL_indexOfChar s m args below meth c H locs 0 0 (QI .int below args s D cA A (res) []) (F0 m 7 ls []) := by
  obtain ⟨hx, hb, hr, hml, hown, hG, hlk⟩ := id C0
  intro n
  induction n with
  | zero =>
    intro x3 x4 x5 h H locs hP hD hS ls hl
    exact absurd h (by simp [p_SL_indexOfChar_7])
  | succ n ih =>
    intro x3 x4 x5 h H locs hP hD hS ls hl
    rw [p_SL_indexOfChar_7] at h
    refine lv_iload hx hb d_SL_indexOfChar_7 (lv_at hl 3 rfl) ?_
    refine lv_iload_n hx hb d_SL_indexOfChar_9 rfl (lv_at hl 1 rfl) ?_
    refine lv_icmp_ge (tgt := 31) hx hb d_SL_indexOfChar_10 (by decide) (fun c_10 => ?_) (fun c_10 => ?_)
    · have h := iteP c_10 h
      refine lv_iconst (v := (-1 : Int32)) hx hb d_SL_indexOfChar_31 (by decide) ?_
      obtain rfl := Option.some.inj h
      exact rI (v := (-1 : Int32)) C0 (vp_nar_int _) hK hP hD hS d_SL_indexOfChar_32
    · have h := iteN c_10 h
      refine lv_aload_n hx hb d_SL_indexOfChar_13 rfl (lv_at hl 0 rfl) ?_
      refine lv_iload hx hb d_SL_indexOfChar_14 (lv_at hl 3 rfl) ?_
      obtain ⟨g_16, h⟩ := guardN h
      refine va_tb (v := .int ((bytJS.getD k0 []).getD x5.toNatClampNeg 0)) hx hb (ZS_bytes hZ hk0) hS g_16 rfl d_SL_indexOfChar_16 ?_
      refine lv_iload hx hb d_SL_indexOfChar_17 (lv_at hl 2 rfl) ?_
      refine lv_icmp_ne (tgt := 25) hx hb d_SL_indexOfChar_19 (by decide) (fun c_19 => ?_) (fun c_19 => ?_)
      · have h := iteN c_19 h
        refine lv_iinc (v := (x5 + (1 : Int32))) (lv' := [(5, .int (x5 + (1 : Int32))), (0, .ref (zz.2.1 k0)), (3, .int x3), (4, .int x4)]) hx hb d_SL_indexOfChar_25 hl (k := 3) rfl rfl (by decide) rfl (fun ls hl => ?_)
        refine lv_goto (tgt := 7) hx hb d_SL_indexOfChar_28 (by decide) ?_
        exact ih _ _ _ h H locs hP hD hS ls (lv_sub hl [1, 2, 3, 0] rfl)
      · have h := iteP c_19 h
        refine lv_iload hx hb d_SL_indexOfChar_22 (lv_at hl 3 rfl) ?_
        obtain rfl := Option.some.inj h
        exact rI (v := x5) C0 (vp_nar_int _) hK hP hD hS d_SL_indexOfChar_24
set_option maxHeartbeats 4000000 in
set_option maxRecDepth 100000 in
theorem t_SL_indexOfChar_0 {p : Program} {l : Launch} {e : Env} {s : State} {m : MethodId} {args : Array Value} {below : List Frame} {meth : Method} {c : Code} {D : va_G} {cA : ClassId} {zz : zT} {A : Nat → Prop} (C0 : Cx p s m args meth c b_SL_indexOfChar R_SL 6 (some .int)) (hK : va_K D classes [(cA, .int)] s) (hA : ∀ q : Nat, s.heap.size ≤ q → A q) (hZ : ZS zz A s s.heap) (N : Nat) (k0 : Nat) (hk0 : k0 < nJS) (res : Int32) :
    ∀ (x1 : Int32) (x2 : Int32) (x3 : Int32), p_SL_indexOfChar_0 N k0 x1 x2 x3 = some res → ∀ (H : Heap) (locs : List Loc), va_P D classes [] H → va_D A [] → va_S A s.heap H locs → ∀ (ls : Array Slot), lv_has ls 6 [(0, .ref (zz.2.1 k0)), (1, .int x1), (2, .int x2), (3, .int x3)] → W p l e rm_SL_indexOfChar s m args below meth c H locs 0 0 (QI .int below args s D cA A (res) []) (F0 m 0 ls []) := by
  obtain ⟨hx, hb, hr, hml, hown, hG, hlk⟩ := id C0
  intro x1 x2 x3 h H locs hP hD hS ls hl
  unfold p_SL_indexOfChar_0 at h
  refine lv_iload_n hx hb d_SL_indexOfChar_0 rfl (lv_at hl 1 rfl) ?_
  refine lv_i2b (v := x1.toInt8.toInt32) hx hb d_SL_indexOfChar_1 rfl ?_
  refine lv_istore (lv' := [(4, .int x1.toInt8.toInt32), (0, .ref (zz.2.1 k0)), (1, .int x1), (2, .int x2), (3, .int x3)]) hx hb d_SL_indexOfChar_2 hl (by decide) rfl (fun ls hl => ?_)
  refine lv_iload_n hx hb d_SL_indexOfChar_4 rfl (lv_at hl 3 rfl) ?_
  refine lv_istore (lv' := [(5, .int x2), (4, .int x1.toInt8.toInt32), (0, .ref (zz.2.1 k0)), (1, .int x1), (2, .int x2), (3, .int x3)]) hx hb d_SL_indexOfChar_5 hl (by decide) rfl (fun ls hl => ?_)
  exact t_SL_indexOfChar_7 C0 hK hA hZ N k0 hk0 res N _ _ _ h H locs hP hD hS ls (lv_sub hl [2, 5, 1, 0] rfl)
theorem c_SL_indexOfChar (l : Launch) (D : va_G) (cA : ClassId) (zz : zT) (N : Nat) (k0 : Nat) (hk0 : k0 < nJS)  (x1 : Int32) (x2 : Int32) (x3 : Int32) (res : Int32) (h : p_SL_indexOfChar N k0 x1 x2 x3 = some res) : MI l D cA zz y_SL_indexOfChar b_SL_indexOfChar 6 .int rm_SL_indexOfChar [.ref (zz.2.1 k0), .int x1, .int x2, .int x3] [] (res) [] := by
  unfold p_SL_indexOfChar at h
  exact MI_enter (by decide) (Nat.le_of_ble_eq_true rfl) (fun p e s m below meth c A ls C0 hK hA hZ hP hD hl => t_SL_indexOfChar_0 C0 hK hA hZ N k0 hk0 res _ _ _ h s.heap [] hP hD va_S.rf ls hl)
-- java/lang/StringLatin1.indexOf([BIII)I
set_option maxHeartbeats 4000000 in
set_option maxRecDepth 100000 in
theorem t_SL_indexOf0_0 {p : Program} {l : Launch} {e : Env} {s : State} {m : MethodId} {args : Array Value} {below : List Frame} {meth : Method} {c : Code} {D : va_G} {cA : ClassId} {zz : zT} {A : Nat → Prop} (C0 : Cx p s m args meth c b_SL_indexOf0 R_SL 4 (some .int)) (hK : va_K D classes [(cA, .int)] s) (hA : ∀ q : Nat, s.heap.size ≤ q → A q) (hZ : ZS zz A s s.heap) (N : Nat) (k0 : Nat) (hk0 : k0 < nJS) (res : Int32) :
    ∀ (x1 : Int32) (x2 : Int32) (x3 : Int32), p_SL_indexOf0_0 N k0 x1 x2 x3 = some res → ∀ (H : Heap) (locs : List Loc), va_P D classes [] H → va_D A [] → va_S A s.heap H locs → ∀ (ls : Array Slot), lv_has ls 4 [(0, .ref (zz.2.1 k0)), (1, .int x1), (2, .int x2), (3, .int x3)] → W p l e rm_SL_indexOf0 s m args below meth c H locs 0 0 (QI .int below args s D cA A (res) []) (F0 m 0 ls []) := by
  obtain ⟨hx, hb, hr, hml, hown, hG, hlk⟩ := id C0
  intro x1 x2 x3 h H locs hP hD hS ls hl
  unfold p_SL_indexOf0_0 at h
  refine lv_iload_n hx hb d_SL_indexOf0_0 rfl (lv_at hl 1 rfl) ?_
  obtain ⟨r_1, h_1, h⟩ := bindS h
  refine call_si (wr := []) (w1 := []) (wN := []) (rest := []) C0 hK hP hD hS hA hZ (c_SL_canEncode1 l D cA zz N x1 r_1 h_1) [] [] [] rfl rfl rfl rfl (by decide) rfl rfl m_SL_88 ⟨Nat.le_of_ble_eq_true rfl, Nat.le_of_ble_eq_true rfl⟩ ⟨rfl, rfl⟩ rfl hl.1 rfl (Nat.le_of_ble_eq_true rfl) ⟨Nat.le_of_ble_eq_true rfl, Nat.le_of_ble_eq_true rfl⟩ d_SL_indexOf0_1 (fun b_1 H locs hP hD hS => ?_)
  refine lv_if_ne (tgt := 9) hx hb d_SL_indexOf0_4 (by decide) (fun c_4 => ?_) (fun c_4 => ?_)
  · have h := iteN c_4 h
    refine lv_iload_n hx hb d_SL_indexOf0_9 rfl (lv_at hl 2 rfl) ?_
    refine lv_iconst (v := (0 : Int32)) hx hb d_SL_indexOf0_10 (by decide) ?_
    refine va_mmax hx hb (hml.trans hl.1.symm) hown (hG _ m_SL_92) (hG _ w_math_max_static) (hG _ w_math_init) (hG _ w_math_max_code) (Nat.le_of_ble_eq_true rfl) (Nat.le_of_ble_eq_true rfl) (Nat.le_of_ble_eq_true rfl) (Nat.le_of_ble_eq_true rfl) d_SL_indexOf0_11 ?_
    refine lv_istore_n (lv' := [(2, .int (if x2 < (0 : Int32) then (0 : Int32) else x2)), (0, .ref (zz.2.1 k0)), (1, .int x1), (3, .int x3)]) hx hb d_SL_indexOf0_14 rfl hl (by decide) rfl (fun ls hl => ?_)
    refine lv_iload_n hx hb d_SL_indexOf0_15 rfl (lv_at hl 3 rfl) ?_
    refine lv_aload_n hx hb d_SL_indexOf0_16 rfl (lv_at hl 1 rfl) ?_
    refine va_tlen (v := (Int32.ofNat (lenJS.getD k0 0))) hx hb (ZS_bytes hZ hk0) hS rfl d_SL_indexOf0_17 ?_
    refine va_mmin hx hb (hml.trans hl.1.symm) hown (hG _ m_SL_38) (hG _ w_math_min_static) (hG _ w_math_init) (hG _ w_math_min_code) (Nat.le_of_ble_eq_true rfl) (Nat.le_of_ble_eq_true rfl) (Nat.le_of_ble_eq_true rfl) (Nat.le_of_ble_eq_true rfl) d_SL_indexOf0_18 ?_
    refine lv_istore_n (lv' := [(3, .int (if (Int32.ofNat (lenJS.getD k0 0)) < x3 then (Int32.ofNat (lenJS.getD k0 0)) else x3)), (2, .int (if x2 < (0 : Int32) then (0 : Int32) else x2)), (0, .ref (zz.2.1 k0)), (1, .int x1)]) hx hb d_SL_indexOf0_21 rfl hl (by decide) rfl (fun ls hl => ?_)
    refine lv_iload_n hx hb d_SL_indexOf0_22 rfl (lv_at hl 1 rfl) ?_
    refine lv_iload_n hx hb d_SL_indexOf0_23 rfl (lv_at hl 0 rfl) ?_
    refine lv_icmp_lt (tgt := 29) hx hb d_SL_indexOf0_24 (by decide) (fun c_24 => ?_) (fun c_24 => ?_)
    · have h := iteP c_24 h
      refine lv_aload_n hx hb d_SL_indexOf0_29 rfl (lv_at hl 2 rfl) ?_
      refine lv_iload_n hx hb d_SL_indexOf0_30 rfl (lv_at hl 3 rfl) ?_
      refine lv_iload_n hx hb d_SL_indexOf0_31 rfl (lv_at hl 1 rfl) ?_
      refine lv_iload_n hx hb d_SL_indexOf0_32 rfl (lv_at hl 0 rfl) ?_
      obtain ⟨r_33, h_33, h⟩ := bindS h
      refine call_si (wr := []) (w1 := []) (wN := []) (rest := []) C0 hK hP hD hS hA hZ (c_SL_indexOfChar l D cA zz N k0 hk0 x1 (if x2 < (0 : Int32) then (0 : Int32) else x2) (if (Int32.ofNat (lenJS.getD k0 0)) < x3 then (Int32.ofNat (lenJS.getD k0 0)) else x3) r_33 h_33) [] [] [] rfl rfl rfl rfl (by decide) rfl rfl m_SL_95 ⟨Nat.le_of_ble_eq_true rfl, Nat.le_of_ble_eq_true rfl⟩ ⟨rfl, rfl⟩ rfl hl.1 rfl (Nat.le_of_ble_eq_true rfl) ⟨Nat.le_of_ble_eq_true rfl, Nat.le_of_ble_eq_true rfl⟩ d_SL_indexOf0_33 (fun b_33 H locs hP hD hS => ?_)
      obtain rfl := Option.some.inj h
      exact rI (v := r_33) C0 (vp_nar_int _) hK hP hD hS d_SL_indexOf0_36
    · have h := iteN c_24 h
      refine lv_iconst (v := (-1 : Int32)) hx hb d_SL_indexOf0_27 (by decide) ?_
      obtain rfl := Option.some.inj h
      exact rI (v := (-1 : Int32)) C0 (vp_nar_int _) hK hP hD hS d_SL_indexOf0_28
  · have h := iteP c_4 h
    refine lv_iconst (v := (-1 : Int32)) hx hb d_SL_indexOf0_7 (by decide) ?_
    obtain rfl := Option.some.inj h
    exact rI (v := (-1 : Int32)) C0 (vp_nar_int _) hK hP hD hS d_SL_indexOf0_8
theorem c_SL_indexOf0 (l : Launch) (D : va_G) (cA : ClassId) (zz : zT) (N : Nat) (k0 : Nat) (hk0 : k0 < nJS)  (x1 : Int32) (x2 : Int32) (x3 : Int32) (res : Int32) (h : p_SL_indexOf0 N k0 x1 x2 x3 = some res) : MI l D cA zz y_SL_indexOf0 b_SL_indexOf0 4 .int rm_SL_indexOf0 [.ref (zz.2.1 k0), .int x1, .int x2, .int x3] [] (res) [] := by
  unfold p_SL_indexOf0 at h
  exact MI_enter (by decide) (Nat.le_of_ble_eq_true rfl) (fun p e s m below meth c A ls C0 hK hA hZ hP hD hl => t_SL_indexOf0_0 C0 hK hA hZ N k0 hk0 res _ _ _ h s.heap [] hP hD va_S.rf ls hl)
-- java/lang/String.indexOf(II)I
set_option maxHeartbeats 4000000 in
set_option maxRecDepth 100000 in
theorem t_S_indexOf1_0 {p : Program} {l : Launch} {e : Env} {s : State} {m : MethodId} {args : Array Value} {below : List Frame} {meth : Method} {c : Code} {D : va_G} {cA : ClassId} {zz : zT} {A : Nat → Prop} (C0 : Cx p s m args meth c b_S_indexOf1 R_S 3 (some .int)) (hK : va_K D classes [(cA, .int)] s) (hA : ∀ q : Nat, s.heap.size ≤ q → A q) (hZ : ZS zz A s s.heap) (N : Nat) (k0 : Nat) (hk0 : k0 < nJS) (res : Int32) :
    ∀ (x1 : Int32) (x2 : Int32), p_S_indexOf1_0 N k0 x1 x2 = some res → ∀ (H : Heap) (locs : List Loc), va_P D classes [] H → va_D A [] → va_S A s.heap H locs → ∀ (ls : Array Slot), lv_has ls 3 [(0, .ref (zz.1 k0)), (1, .int x1), (2, .int x2)] → W p l e rm_S_indexOf1 s m args below meth c H locs 0 0 (QI .int below args s D cA A (res) []) (F0 m 0 ls []) := by
  obtain ⟨hx, hb, hr, hml, hown, hG, hlk⟩ := id C0
  intro x1 x2 h H locs hP hD hS ls hl
  unfold p_S_indexOf1_0 at h
  refine lv_aload_n hx hb d_S_indexOf1_0 rfl (lv_at hl 0 rfl) ?_
  obtain ⟨r_1, h_1, h⟩ := bindS h
  refine call_ki (wr := []) (w1 := []) (wN := []) (rest := []) C0 hK hP hD hS hA hZ (c_S_isLatin1 l D cA zz N k0 hk0 r_1 h_1) [] [] [] rfl rfl rfl rfl (by decide) rfl rfl (ZS_recv hZ hk0 hS) m_S_492 ⟨Nat.le_of_ble_eq_true rfl, Nat.le_of_ble_eq_true rfl⟩ ⟨rfl, rfl⟩ rfl hl.1 rfl (Nat.le_of_ble_eq_true rfl) ⟨Nat.le_of_ble_eq_true rfl, Nat.le_of_ble_eq_true rfl⟩ d_S_indexOf1_1 (fun b_1 H locs hP hD hS => ?_)
  refine lv_if_eq (tgt := 23) hx hb d_S_indexOf1_4 (by decide) (fun c_4 => ?_) (fun c_4 => ?_)
  · have h := iteP c_4 h
    refine lv_aload_n hx hb d_S_indexOf1_23 rfl (lv_at hl 0 rfl) ?_
    refine vk_getf hx hb (ZS_value hZ hk0) hS hown (hG _ f_S_9) (fun _ h9 => h9) d_S_indexOf1_24 ?_
    refine lv_iload_n hx hb d_S_indexOf1_27 rfl (lv_at hl 1 rfl) ?_
    refine lv_iload_n hx hb d_S_indexOf1_28 rfl (lv_at hl 2 rfl) ?_
    refine lv_aload_n hx hb d_S_indexOf1_29 rfl (lv_at hl 0 rfl) ?_
    obtain ⟨r_30, h_30, h⟩ := bindS h
    refine call_ki (wr := []) (w1 := []) (wN := []) (rest := [.int x2, .int x1, .ref (zz.2.1 k0)]) C0 hK hP hD hS hA hZ (c_S_length l D cA zz N k0 hk0 r_30 h_30) [] [] [] rfl rfl rfl rfl (by decide) rfl rfl (ZS_recv hZ hk0 hS) m_S_505 ⟨Nat.le_of_ble_eq_true rfl, Nat.le_of_ble_eq_true rfl⟩ ⟨rfl, rfl⟩ rfl hl.1 rfl (Nat.le_of_ble_eq_true rfl) ⟨Nat.le_of_ble_eq_true rfl, Nat.le_of_ble_eq_true rfl⟩ d_S_indexOf1_30 (fun b_30 H locs hP hD hS => ?_)
    exact noneS h
  · have h := iteN c_4 h
    refine lv_aload_n hx hb d_S_indexOf1_7 rfl (lv_at hl 0 rfl) ?_
    refine vk_getf hx hb (ZS_value hZ hk0) hS hown (hG _ f_S_9) (fun _ h9 => h9) d_S_indexOf1_8 ?_
    refine lv_iload_n hx hb d_S_indexOf1_11 rfl (lv_at hl 1 rfl) ?_
    refine lv_iload_n hx hb d_S_indexOf1_12 rfl (lv_at hl 2 rfl) ?_
    refine lv_aload_n hx hb d_S_indexOf1_13 rfl (lv_at hl 0 rfl) ?_
    obtain ⟨r_14, h_14, h⟩ := bindS h
    refine call_ki (wr := []) (w1 := []) (wN := []) (rest := [.int x2, .int x1, .ref (zz.2.1 k0)]) C0 hK hP hD hS hA hZ (c_S_length l D cA zz N k0 hk0 r_14 h_14) [] [] [] rfl rfl rfl rfl (by decide) rfl rfl (ZS_recv hZ hk0 hS) m_S_505 ⟨Nat.le_of_ble_eq_true rfl, Nat.le_of_ble_eq_true rfl⟩ ⟨rfl, rfl⟩ rfl hl.1 rfl (Nat.le_of_ble_eq_true rfl) ⟨Nat.le_of_ble_eq_true rfl, Nat.le_of_ble_eq_true rfl⟩ d_S_indexOf1_14 (fun b_14 H locs hP hD hS => ?_)
    obtain ⟨r_17, h_17, h⟩ := bindS h
    refine call_si (wr := []) (w1 := []) (wN := []) (rest := []) C0 hK hP hD hS hA hZ (c_SL_indexOf0 l D cA zz N k0 hk0 x1 x2 r_14 r_17 h_17) [] [] [] rfl rfl rfl rfl (by decide) rfl rfl m_S_637 ⟨Nat.le_of_ble_eq_true rfl, Nat.le_of_ble_eq_true rfl⟩ ⟨rfl, rfl⟩ rfl hl.1 rfl (Nat.le_of_ble_eq_true rfl) ⟨Nat.le_of_ble_eq_true rfl, Nat.le_of_ble_eq_true rfl⟩ d_S_indexOf1_17 (fun b_17 H locs hP hD hS => ?_)
    refine lv_goto (tgt := 36) hx hb d_S_indexOf1_20 (by decide) ?_
    obtain rfl := Option.some.inj h
    exact rI (v := r_17) C0 (vp_nar_int _) hK hP hD hS d_S_indexOf1_36
theorem c_S_indexOf1 (l : Launch) (D : va_G) (cA : ClassId) (zz : zT) (N : Nat) (k0 : Nat) (hk0 : k0 < nJS)  (x1 : Int32) (x2 : Int32) (res : Int32) (h : p_S_indexOf1 N k0 x1 x2 = some res) : MI l D cA zz y_S_indexOf1 b_S_indexOf1 3 .int rm_S_indexOf1 [.ref (zz.1 k0), .int x1, .int x2] [] (res) [] := by
  unfold p_S_indexOf1 at h
  exact MI_enter (by decide) (Nat.le_of_ble_eq_true rfl) (fun p e s m below meth c A ls C0 hK hA hZ hP hD hl => t_S_indexOf1_0 C0 hK hA hZ N k0 hk0 res _ _ h s.heap [] hP hD va_S.rf ls hl)
-- java/lang/String.indexOf(I)I
set_option maxHeartbeats 4000000 in
set_option maxRecDepth 100000 in
theorem t_S_indexOf0_0 {p : Program} {l : Launch} {e : Env} {s : State} {m : MethodId} {args : Array Value} {below : List Frame} {meth : Method} {c : Code} {D : va_G} {cA : ClassId} {zz : zT} {A : Nat → Prop} (C0 : Cx p s m args meth c b_S_indexOf0 R_S 2 (some .int)) (hK : va_K D classes [(cA, .int)] s) (hA : ∀ q : Nat, s.heap.size ≤ q → A q) (hZ : ZS zz A s s.heap) (N : Nat) (k0 : Nat) (hk0 : k0 < nJS) (res : Int32) :
    ∀ (x1 : Int32), p_S_indexOf0_0 N k0 x1 = some res → ∀ (H : Heap) (locs : List Loc), va_P D classes [] H → va_D A [] → va_S A s.heap H locs → ∀ (ls : Array Slot), lv_has ls 2 [(0, .ref (zz.1 k0)), (1, .int x1)] → W p l e rm_S_indexOf0 s m args below meth c H locs 0 0 (QI .int below args s D cA A (res) []) (F0 m 0 ls []) := by
  obtain ⟨hx, hb, hr, hml, hown, hG, hlk⟩ := id C0
  intro x1 h H locs hP hD hS ls hl
  unfold p_S_indexOf0_0 at h
  refine lv_aload_n hx hb d_S_indexOf0_0 rfl (lv_at hl 0 rfl) ?_
  refine lv_iload_n hx hb d_S_indexOf0_1 rfl (lv_at hl 1 rfl) ?_
  refine lv_iconst (v := (0 : Int32)) hx hb d_S_indexOf0_2 (by decide) ?_
  obtain ⟨r_3, h_3, h⟩ := bindS h
  refine call_ki (wr := []) (w1 := []) (wN := []) (rest := []) C0 hK hP hD hS hA hZ (c_S_indexOf1 l D cA zz N k0 hk0 x1 (0 : Int32) r_3 h_3) [] [] [] rfl rfl rfl rfl (by decide) rfl rfl (ZS_recv hZ hk0 hS) m_S_633 ⟨Nat.le_of_ble_eq_true rfl, Nat.le_of_ble_eq_true rfl⟩ ⟨rfl, rfl⟩ rfl hl.1 rfl (Nat.le_of_ble_eq_true rfl) ⟨Nat.le_of_ble_eq_true rfl, Nat.le_of_ble_eq_true rfl⟩ d_S_indexOf0_3 (fun b_3 H locs hP hD hS => ?_)
  obtain rfl := Option.some.inj h
  exact rI (v := r_3) C0 (vp_nar_int _) hK hP hD hS d_S_indexOf0_6
theorem c_S_indexOf0 (l : Launch) (D : va_G) (cA : ClassId) (zz : zT) (N : Nat) (k0 : Nat) (hk0 : k0 < nJS)  (x1 : Int32) (res : Int32) (h : p_S_indexOf0 N k0 x1 = some res) : MI l D cA zz y_S_indexOf0 b_S_indexOf0 2 .int rm_S_indexOf0 [.ref (zz.1 k0), .int x1] [] (res) [] := by
  unfold p_S_indexOf0 at h
  exact MI_enter (by decide) (Nat.le_of_ble_eq_true rfl) (fun p e s m below meth c A ls C0 hK hA hZ hP hD hl => t_S_indexOf0_0 C0 hK hA hZ N k0 hk0 res _ h s.heap [] hP hD va_S.rf ls hl)
-- jdk/internal/util/Preconditions.checkIndex(IILjava/util/function/BiFunction;)I
set_option maxHeartbeats 4000000 in
set_option maxRecDepth 100000 in
theorem t_PC_checkIndex0_0 {p : Program} {l : Launch} {e : Env} {s : State} {m : MethodId} {args : Array Value} {below : List Frame} {meth : Method} {c : Code} {D : va_G} {cA : ClassId} {zz : zT} {A : Nat → Prop} (C0 : Cx p s m args meth c b_PC_checkIndex0 R_PC 3 (some .int)) (hK : va_K D classes [(cA, .int)] s) (hA : ∀ q : Nat, s.heap.size ≤ q → A q) (hZ : ZS zz A s s.heap) (N : Nat) (v2 : Value) (hv2 : v2 = .null ∨ ∃ t, v2 = .ref t) (res : Int32) :
    ∀ (x0 : Int32) (x1 : Int32), p_PC_checkIndex0_0 N x0 x1 = some res → ∀ (H : Heap) (locs : List Loc), va_P D classes [] H → va_D A [] → va_S A s.heap H locs → ∀ (ls : Array Slot), lv_has ls 3 [(0, .int x0), (1, .int x1), (2, v2)] → W p l e rm_PC_checkIndex0 s m args below meth c H locs 0 0 (QI .int below args s D cA A (res) []) (F0 m 0 ls []) := by
  obtain ⟨hx, hb, hr, hml, hown, hG, hlk⟩ := id C0
  intro x0 x1 h H locs hP hD hS ls hl
  unfold p_PC_checkIndex0_0 at h
  refine lv_iload_n hx hb d_PC_checkIndex0_0 rfl (lv_at hl 0 rfl) ?_
  refine lv_if_lt (tgt := 9) hx hb d_PC_checkIndex0_1 (by decide) (fun c_1 => ?_) (fun c_1 => ?_)
  · have h := iteP c_1 h
    exact noneS h
  · have h := iteN c_1 h
    refine lv_iload_n hx hb d_PC_checkIndex0_4 rfl (lv_at hl 0 rfl) ?_
    refine lv_iload_n hx hb d_PC_checkIndex0_5 rfl (lv_at hl 1 rfl) ?_
    refine lv_icmp_lt (tgt := 16) hx hb d_PC_checkIndex0_6 (by decide) (fun c_6 => ?_) (fun c_6 => ?_)
    · have h := iteP c_6 h
      refine lv_iload_n hx hb d_PC_checkIndex0_16 rfl (lv_at hl 0 rfl) ?_
      obtain rfl := Option.some.inj h
      exact rI (v := x0) C0 (vp_nar_int _) hK hP hD hS d_PC_checkIndex0_17
    · have h := iteN c_6 h
      exact noneS h
theorem c_PC_checkIndex0 (l : Launch) (D : va_G) (cA : ClassId) (zz : zT) (N : Nat) (v2 : Value) (hv2 : v2 = .null ∨ ∃ t, v2 = .ref t)  (x0 : Int32) (x1 : Int32) (res : Int32) (h : p_PC_checkIndex0 N x0 x1 = some res) : MI l D cA zz y_PC_checkIndex0 b_PC_checkIndex0 3 .int rm_PC_checkIndex0 [.int x0, .int x1, v2] [] (res) [] := by
  unfold p_PC_checkIndex0 at h
  rcases hv2 with rfl | ⟨t, rfl⟩
  · exact MI_enter (by decide) (Nat.le_of_ble_eq_true rfl) (fun p e s m below meth c A ls C0 hK hA hZ hP hD hl => t_PC_checkIndex0_0 C0 hK hA hZ N .null (Or.inl rfl) res _ _ h s.heap [] hP hD va_S.rf ls hl)
  · exact MI_enter (by decide) (Nat.le_of_ble_eq_true rfl) (fun p e s m below meth c A ls C0 hK hA hZ hP hD hl => t_PC_checkIndex0_0 C0 hK hA hZ N (.ref t) (Or.inr ⟨t, rfl⟩) res _ _ h s.heap [] hP hD va_S.rf ls hl)
-- java/lang/String.checkIndex(II)V
set_option maxHeartbeats 4000000 in
set_option maxRecDepth 100000 in
theorem t_S_checkIndex_0 {p : Program} {l : Launch} {e : Env} {s : State} {m : MethodId} {args : Array Value} {below : List Frame} {meth : Method} {c : Code} {D : va_G} {cA : ClassId} {zz : zT} {A : Nat → Prop} (C0 : Cx p s m args meth c b_S_checkIndex R_S 2 none) (hK : va_K D classes [(cA, .int)] s) (hA : ∀ q : Nat, s.heap.size ≤ q → A q) (hZ : ZS zz A s s.heap) (N : Nat) (res : Unit) :
    ∀ (x0 : Int32) (x1 : Int32), p_S_checkIndex_0 N x0 x1 = some res → ∀ (H : Heap) (locs : List Loc), va_P D classes [] H → va_D A [] → va_S A s.heap H locs → ∀ (ls : Array Slot), lv_has ls 2 [(0, .int x0), (1, .int x1)] → W p l e rm_S_checkIndex s m args below meth c H locs 0 0 (QV below args s D cA A []) (F0 m 0 ls []) := by
  obtain ⟨hx, hb, hr, hml, hown, hG, hlk⟩ := id C0
  intro x0 x1 h H locs hP hD hS ls hl
  unfold p_S_checkIndex_0 at h
  refine lv_iload_n hx hb d_S_checkIndex_0 rfl (lv_at hl 0 rfl) ?_
  refine lv_iload_n hx hb d_S_checkIndex_1 rfl (lv_at hl 1 rfl) ?_
  refine va_gets (v := zz.2.2) hx hb (ZS_form hZ) hS hown (hG _ f_S_1053) (fun _ h9 => h9) d_S_checkIndex_2 ?_
  obtain ⟨r_5, h_5, h⟩ := bindS h
  refine call_si (wr := []) (w1 := []) (wN := []) (rest := []) C0 hK hP hD hS hA hZ (c_PC_checkIndex0 l D cA zz N zz.2.2 (ZS_fm hZ) x0 x1 r_5 h_5) [] [] [] rfl rfl rfl rfl (by decide) rfl rfl m_S_1059 ⟨Nat.le_of_ble_eq_true rfl, Nat.le_of_ble_eq_true rfl⟩ ⟨rfl, rfl⟩ rfl hl.1 rfl (Nat.le_of_ble_eq_true rfl) ⟨Nat.le_of_ble_eq_true rfl, Nat.le_of_ble_eq_true rfl⟩ d_S_checkIndex_5 (fun b_5 H locs hP hD hS => ?_)
  refine lv_pop hx hb d_S_checkIndex_8 rfl ?_
  obtain rfl := Option.some.inj h
  exact rV C0 hK hP hD hS d_S_checkIndex_9
theorem c_S_checkIndex (l : Launch) (D : va_G) (cA : ClassId) (zz : zT) (N : Nat)  (x0 : Int32) (x1 : Int32) (res : Unit) (h : p_S_checkIndex N x0 x1 = some res) : MV l D cA zz y_S_checkIndex b_S_checkIndex 2 rm_S_checkIndex [.int x0, .int x1] [] [] := by
  unfold p_S_checkIndex at h
  exact MV_enter (by decide) (Nat.le_of_ble_eq_true rfl) (fun p e s m below meth c A ls C0 hK hA hZ hP hD hl => t_S_checkIndex_0 C0 hK hA hZ N res _ _ h s.heap [] hP hD va_S.rf ls hl)
-- java/lang/StringLatin1.charAt([BI)C
set_option maxHeartbeats 4000000 in
set_option maxRecDepth 100000 in
theorem t_SL_charAt_0 {p : Program} {l : Launch} {e : Env} {s : State} {m : MethodId} {args : Array Value} {below : List Frame} {meth : Method} {c : Code} {D : va_G} {cA : ClassId} {zz : zT} {A : Nat → Prop} (C0 : Cx p s m args meth c b_SL_charAt R_SL 2 (some .char)) (hK : va_K D classes [(cA, .int)] s) (hA : ∀ q : Nat, s.heap.size ≤ q → A q) (hZ : ZS zz A s s.heap) (N : Nat) (k0 : Nat) (hk0 : k0 < nJS) (res : Int32) :
    ∀ (x1 : Int32), p_SL_charAt_0 N k0 x1 = some res → ∀ (H : Heap) (locs : List Loc), va_P D classes [] H → va_D A [] → va_S A s.heap H locs → ∀ (ls : Array Slot), lv_has ls 2 [(0, .ref (zz.2.1 k0)), (1, .int x1)] → W p l e rm_SL_charAt s m args below meth c H locs 0 0 (QI .char below args s D cA A (res) []) (F0 m 0 ls []) := by
  obtain ⟨hx, hb, hr, hml, hown, hG, hlk⟩ := id C0
  intro x1 h H locs hP hD hS ls hl
  unfold p_SL_charAt_0 at h
  refine lv_iload_n hx hb d_SL_charAt_0 rfl (lv_at hl 1 rfl) ?_
  refine lv_aload_n hx hb d_SL_charAt_1 rfl (lv_at hl 0 rfl) ?_
  refine va_tlen (v := (Int32.ofNat (lenJS.getD k0 0))) hx hb (ZS_bytes hZ hk0) hS rfl d_SL_charAt_2 ?_
  obtain ⟨r_3, h_3, h⟩ := bindS h
  refine call_sv (wr := []) (w1 := []) (wN := []) (rest := []) C0 hK hP hD hS hA hZ (c_S_checkIndex l D cA zz N x1 (Int32.ofNat (lenJS.getD k0 0)) r_3 h_3) [] [] [] rfl rfl rfl rfl (by decide) rfl rfl m_SL_9 ⟨Nat.le_of_ble_eq_true rfl, Nat.le_of_ble_eq_true rfl⟩ ⟨rfl, rfl⟩ rfl hl.1 rfl (Nat.le_of_ble_eq_true rfl) ⟨Nat.le_of_ble_eq_true rfl, Nat.le_of_ble_eq_true rfl⟩ d_SL_charAt_3 (fun H locs hP hD hS => ?_)
  refine lv_aload_n hx hb d_SL_charAt_6 rfl (lv_at hl 0 rfl) ?_
  refine lv_iload_n hx hb d_SL_charAt_7 rfl (lv_at hl 1 rfl) ?_
  obtain ⟨g_8, h⟩ := guardN h
  refine va_tb (v := .int ((bytJS.getD k0 []).getD x1.toNatClampNeg 0)) hx hb (ZS_bytes hZ hk0) hS g_8 rfl d_SL_charAt_8 ?_
  refine lv_sipush (v := (255 : Int32)) hx hb d_SL_charAt_9 (by decide) ?_
  refine lv_iand hx hb d_SL_charAt_12 ?_
  refine lv_i2c (v := ((((bytJS.getD k0 []).getD x1.toNatClampNeg 0) &&& (255 : Int32)).toUInt32 % 65536).toInt32) hx hb d_SL_charAt_13 rfl ?_
  obtain rfl := Option.some.inj h
  exact rI (v := ((((bytJS.getD k0 []).getD x1.toNatClampNeg 0) &&& (255 : Int32)).toUInt32 % 65536).toInt32) C0 (pk_nc _) hK hP hD hS d_SL_charAt_14
theorem c_SL_charAt (l : Launch) (D : va_G) (cA : ClassId) (zz : zT) (N : Nat) (k0 : Nat) (hk0 : k0 < nJS)  (x1 : Int32) (res : Int32) (h : p_SL_charAt N k0 x1 = some res) : MI l D cA zz y_SL_charAt b_SL_charAt 2 .char rm_SL_charAt [.ref (zz.2.1 k0), .int x1] [] (res) [] := by
  unfold p_SL_charAt at h
  exact MI_enter (by decide) (Nat.le_of_ble_eq_true rfl) (fun p e s m below meth c A ls C0 hK hA hZ hP hD hl => t_SL_charAt_0 C0 hK hA hZ N k0 hk0 res _ h s.heap [] hP hD va_S.rf ls hl)
-- java/lang/String.charAt(I)C
set_option maxHeartbeats 4000000 in
set_option maxRecDepth 100000 in
theorem t_S_charAt_0 {p : Program} {l : Launch} {e : Env} {s : State} {m : MethodId} {args : Array Value} {below : List Frame} {meth : Method} {c : Code} {D : va_G} {cA : ClassId} {zz : zT} {A : Nat → Prop} (C0 : Cx p s m args meth c b_S_charAt R_S 2 (some .char)) (hK : va_K D classes [(cA, .int)] s) (hA : ∀ q : Nat, s.heap.size ≤ q → A q) (hZ : ZS zz A s s.heap) (N : Nat) (k0 : Nat) (hk0 : k0 < nJS) (res : Int32) :
    ∀ (x1 : Int32), p_S_charAt_0 N k0 x1 = some res → ∀ (H : Heap) (locs : List Loc), va_P D classes [] H → va_D A [] → va_S A s.heap H locs → ∀ (ls : Array Slot), lv_has ls 2 [(0, .ref (zz.1 k0)), (1, .int x1)] → W p l e rm_S_charAt s m args below meth c H locs 0 0 (QI .char below args s D cA A (res) []) (F0 m 0 ls []) := by
  obtain ⟨hx, hb, hr, hml, hown, hG, hlk⟩ := id C0
  intro x1 h H locs hP hD hS ls hl
  unfold p_S_charAt_0 at h
  refine lv_aload_n hx hb d_S_charAt_0 rfl (lv_at hl 0 rfl) ?_
  obtain ⟨r_1, h_1, h⟩ := bindS h
  refine call_ki (wr := []) (w1 := []) (wN := []) (rest := []) C0 hK hP hD hS hA hZ (c_S_isLatin1 l D cA zz N k0 hk0 r_1 h_1) [] [] [] rfl rfl rfl rfl (by decide) rfl rfl (ZS_recv hZ hk0 hS) m_S_492 ⟨Nat.le_of_ble_eq_true rfl, Nat.le_of_ble_eq_true rfl⟩ ⟨rfl, rfl⟩ rfl hl.1 rfl (Nat.le_of_ble_eq_true rfl) ⟨Nat.le_of_ble_eq_true rfl, Nat.le_of_ble_eq_true rfl⟩ d_S_charAt_1 (fun b_1 H locs hP hD hS => ?_)
  refine lv_if_eq (tgt := 16) hx hb d_S_charAt_4 (by decide) (fun c_4 => ?_) (fun c_4 => ?_)
  · have h := iteP c_4 h
    refine lv_aload_n hx hb d_S_charAt_16 rfl (lv_at hl 0 rfl) ?_
    refine vk_getf hx hb (ZS_value hZ hk0) hS hown (hG _ f_S_9) (fun _ h9 => h9) d_S_charAt_17 ?_
    refine lv_iload_n hx hb d_S_charAt_20 rfl (lv_at hl 1 rfl) ?_
    exact noneS h
  · have h := iteN c_4 h
    refine lv_aload_n hx hb d_S_charAt_7 rfl (lv_at hl 0 rfl) ?_
    refine vk_getf hx hb (ZS_value hZ hk0) hS hown (hG _ f_S_9) (fun _ h9 => h9) d_S_charAt_8 ?_
    refine lv_iload_n hx hb d_S_charAt_11 rfl (lv_at hl 1 rfl) ?_
    obtain ⟨r_12, h_12, h⟩ := bindS h
    refine call_si (wr := []) (w1 := []) (wN := []) (rest := []) C0 hK hP hD hS hA hZ (c_SL_charAt l D cA zz N k0 hk0 x1 r_12 h_12) [] [] [] rfl rfl rfl rfl (by decide) rfl rfl m_S_495 ⟨Nat.le_of_ble_eq_true rfl, Nat.le_of_ble_eq_true rfl⟩ ⟨rfl, rfl⟩ rfl hl.1 rfl (Nat.le_of_ble_eq_true rfl) ⟨Nat.le_of_ble_eq_true rfl, Nat.le_of_ble_eq_true rfl⟩ d_S_charAt_12 (fun b_12 H locs hP hD hS => ?_)
    obtain rfl := Option.some.inj h
    exact rI (v := r_12) C0 b_12 hK hP hD hS d_S_charAt_15
theorem c_S_charAt (l : Launch) (D : va_G) (cA : ClassId) (zz : zT) (N : Nat) (k0 : Nat) (hk0 : k0 < nJS)  (x1 : Int32) (res : Int32) (h : p_S_charAt N k0 x1 = some res) : MI l D cA zz y_S_charAt b_S_charAt 2 .char rm_S_charAt [.ref (zz.1 k0), .int x1] [] (res) [] := by
  unfold p_S_charAt at h
  exact MI_enter (by decide) (Nat.le_of_ble_eq_true rfl) (fun p e s m below meth c A ls C0 hK hA hZ hP hD hl => t_S_charAt_0 C0 hK hA hZ N k0 hk0 res _ h s.heap [] hP hD va_S.rf ls hl)
end
section
-- ListWords$Row.byteAt(I)I
set_option maxHeartbeats 4000000 in
set_option maxRecDepth 100000 in
theorem t_R_byteAt_0 {p : Program} {l : Launch} {e : Env} {s : State} {m : MethodId} {args : Array Value} {below : List Frame} {meth : Method} {c : Code} {D : va_G} {cA : ClassId} {zz : zT} {A : Nat → Prop} (C0 : Cx p s m args meth c b_R_byteAt R_R 2 (some .int)) (hK : va_K D classes [(cA, .int)] s) (hA : ∀ q : Nat, s.heap.size ≤ q → A q) (hZ : ZS zz A s s.heap) (N : Nat) (h_this : Nat) (h_this_bytes : Nat) (size_this : Int32) (a_bytes : Nat → Int32) (res : Int32) :
    ∀ (x1 : Int32), p_R_byteAt_0 N size_this a_bytes x1 = some res → ∀ (H : Heap) (locs : List Loc), va_P D classes [(h_this, .inr (0, [.ref h_this_bytes, .int size_this])), (h_this_bytes, .inl (cA, 1024, .inl a_bytes))] H → va_D A [(h_this, .inr (0, [.ref h_this_bytes, .int size_this])), (h_this_bytes, .inl (cA, 1024, .inl a_bytes))] → va_S A s.heap H locs → ∀ (ls : Array Slot), lv_has ls 2 [(0, .ref h_this), (1, .int x1)] → W p l e rm_R_byteAt s m args below meth c H locs 0 0 (QI .int below args s D cA A (res) [(h_this, .inr (0, [.ref h_this_bytes, .int size_this])), (h_this_bytes, .inl (cA, 1024, .inl a_bytes))]) (F0 m 0 ls []) := by
  obtain ⟨hx, hb, hr, hml, hown, hG, hlk⟩ := id C0
  intro x1 h H locs hP hD hS ls hl
  unfold p_R_byteAt_0 at h
  refine lv_iload_n hx hb d_R_byteAt_0 rfl (lv_at hl 1 rfl) ?_
  refine lv_if_lt (tgt := 21) hx hb d_R_byteAt_1 (by decide) (fun c_1 => ?_) (fun c_1 => ?_)
  · have h := iteP c_1 h
    refine lv_iconst (v := (-1 : Int32)) hx hb d_R_byteAt_21 (by decide) ?_
    obtain rfl := Option.some.inj h
    exact rI (v := (-1 : Int32)) C0 (vp_nar_int _) hK hP hD hS d_R_byteAt_22
  · have h := iteN c_1 h
    refine lv_iload_n hx hb d_R_byteAt_4 rfl (lv_at hl 1 rfl) ?_
    refine lv_aload_n hx hb d_R_byteAt_5 rfl (lv_at hl 0 rfl) ?_
    refine va_get (D := D) (ci := 0) (v := .int size_this) (C := R_R) (T := F_R) (N := 2) hx hb hG i_R hown hK hP 0 rfl rfl 1 (by decide) (hG _ f_R_15) (fun _ h9 => h9) rfl d_R_byteAt_6 ?_
    refine lv_icmp_ge (tgt := 21) hx hb d_R_byteAt_9 (by decide) (fun c_9 => ?_) (fun c_9 => ?_)
    · have h := iteP c_9 h
      refine lv_iconst (v := (-1 : Int32)) hx hb d_R_byteAt_21 (by decide) ?_
      obtain rfl := Option.some.inj h
      exact rI (v := (-1 : Int32)) C0 (vp_nar_int _) hK hP hD hS d_R_byteAt_22
    · have h := iteN c_9 h
      refine lv_aload_n hx hb d_R_byteAt_12 rfl (lv_at hl 0 rfl) ?_
      refine va_get (D := D) (ci := 0) (v := .ref h_this_bytes) (C := R_R) (T := F_R) (N := 2) hx hb hG i_R hown hK hP 0 rfl rfl 0 (by decide) (hG _ f_R_9) (fun _ h9 => h9) rfl d_R_byteAt_13 ?_
      refine lv_iload_n hx hb d_R_byteAt_16 rfl (lv_at hl 1 rfl) ?_
      obtain ⟨g_17, h⟩ := guardN h
      refine va_iald hx hb hK hP 1 0 rfl rfl g_17 d_R_byteAt_17 ?_
      refine lv_goto (tgt := 22) hx hb d_R_byteAt_18 (by decide) ?_
      obtain rfl := Option.some.inj h
      exact rI (v := (a_bytes x1.toNatClampNeg)) C0 (vp_nar_int _) hK hP hD hS d_R_byteAt_22
theorem c_R_byteAt (l : Launch) (D : va_G) (cA : ClassId) (zz : zT) (N : Nat) (h_this : Nat) (h_this_bytes : Nat) (size_this : Int32) (a_bytes : Nat → Int32) (x1 : Int32) (res : Int32) (h : p_R_byteAt N size_this a_bytes x1 = some res) : MI l D cA zz y_R_byteAt b_R_byteAt 2 .int rm_R_byteAt [.ref h_this, .int x1] [(h_this, .inr (0, [.ref h_this_bytes, .int size_this])), (h_this_bytes, .inl (cA, 1024, .inl a_bytes))] (res) [(h_this, .inr (0, [.ref h_this_bytes, .int size_this])), (h_this_bytes, .inl (cA, 1024, .inl a_bytes))] := by
  unfold p_R_byteAt at h
  exact MI_enter (by decide) (Nat.le_of_ble_eq_true rfl) (fun p e s m below meth c A ls C0 hK hA hZ hP hD hl => t_R_byteAt_0 C0 hK hA hZ N h_this h_this_bytes size_this a_bytes res _ h s.heap [] hP hD va_S.rf ls hl)
-- ListWords$Row.putAll(LListWords$Row;)Z
set_option maxHeartbeats 4000000 in
set_option maxRecDepth 100000 in
theorem t_R_putAll_0 {p : Program} {l : Launch} {e : Env} {s : State} {m : MethodId} {args : Array Value} {below : List Frame} {meth : Method} {c : Code} {D : va_G} {cA : ClassId} {zz : zT} {A : Nat → Prop} (C0 : Cx p s m args meth c b_R_putAll R_R 2 (some .boolean)) (hK : va_K D classes [(cA, .int)] s) (hA : ∀ q : Nat, s.heap.size ≤ q → A q) (hZ : ZS zz A s s.heap) (N : Nat) (h_this : Nat) (h_this_bytes : Nat) (h_p1 : Nat) (h_p1_bytes : Nat) (size_p1 : Int32) (a_p1_bytes : Nat → Int32) (res : Int32 × Int32 × (Nat → Int32)) :
    ∀ (size_this : Int32) (a_bytes : Nat → Int32), p_R_putAll_0 N size_p1 a_p1_bytes size_this a_bytes = some res → ∀ (H : Heap) (locs : List Loc), va_P D classes [(h_this, .inr (0, [.ref h_this_bytes, .int size_this])), (h_this_bytes, .inl (cA, 1024, .inl a_bytes)), (h_p1, .inr (0, [.ref h_p1_bytes, .int size_p1])), (h_p1_bytes, .inl (cA, 1024, .inl a_p1_bytes))] H → va_D A [(h_this, .inr (0, [.ref h_this_bytes, .int size_this])), (h_this_bytes, .inl (cA, 1024, .inl a_bytes)), (h_p1, .inr (0, [.ref h_p1_bytes, .int size_p1])), (h_p1_bytes, .inl (cA, 1024, .inl a_p1_bytes))] → va_S A s.heap H locs → ∀ (ls : Array Slot), lv_has ls 2 [(0, .ref h_this), (1, .ref h_p1)] → W p l e rm_R_putAll s m args below meth c H locs 0 0 (QI .boolean below args s D cA A (res.1) [(h_this, .inr (0, [.ref h_this_bytes, .int res.2.1])), (h_this_bytes, .inl (cA, 1024, .inl res.2.2)), (h_p1, .inr (0, [.ref h_p1_bytes, .int size_p1])), (h_p1_bytes, .inl (cA, 1024, .inl a_p1_bytes))]) (F0 m 0 ls []) := by
  obtain ⟨hx, hb, hr, hml, hown, hG, hlk⟩ := id C0
  intro size_this a_bytes h H locs hP hD hS ls hl
  unfold p_R_putAll_0 at h
  refine lv_aload_n hx hb d_R_putAll_0 rfl (lv_at hl 1 rfl) ?_
  refine va_get (D := D) (ci := 0) (v := .int size_p1) (C := R_R) (T := F_R) (N := 2) hx hb hG i_R hown hK hP 2 rfl rfl 1 (by decide) (hG _ f_R_15) (fun _ h9 => h9) rfl d_R_putAll_1 ?_
  refine lv_sipush (v := (1024 : Int32)) hx hb d_R_putAll_4 (by decide) ?_
  refine lv_aload_n hx hb d_R_putAll_7 rfl (lv_at hl 0 rfl) ?_
  refine va_get (D := D) (ci := 0) (v := .int size_this) (C := R_R) (T := F_R) (N := 2) hx hb hG i_R hown hK hP 0 rfl rfl 1 (by decide) (hG _ f_R_15) (fun _ h9 => h9) rfl d_R_putAll_8 ?_
  refine lv_isub hx hb d_R_putAll_11 ?_
  refine lv_icmp_le (tgt := 17) hx hb d_R_putAll_12 (by decide) (fun c_12 => ?_) (fun c_12 => ?_)
  · have h := iteP c_12 h
    refine lv_aload_n hx hb d_R_putAll_17 rfl (lv_at hl 1 rfl) ?_
    refine va_get (D := D) (ci := 0) (v := .ref h_p1_bytes) (C := R_R) (T := F_R) (N := 2) hx hb hG i_R hown hK hP 2 rfl rfl 0 (by decide) (hG _ f_R_9) (fun _ h9 => h9) rfl d_R_putAll_18 ?_
    refine lv_iconst (v := (0 : Int32)) hx hb d_R_putAll_21 (by decide) ?_
    refine lv_aload_n hx hb d_R_putAll_22 rfl (lv_at hl 0 rfl) ?_
    refine va_get (D := D) (ci := 0) (v := .ref h_this_bytes) (C := R_R) (T := F_R) (N := 2) hx hb hG i_R hown hK hP 0 rfl rfl 0 (by decide) (hG _ f_R_9) (fun _ h9 => h9) rfl d_R_putAll_23 ?_
    refine lv_aload_n hx hb d_R_putAll_26 rfl (lv_at hl 0 rfl) ?_
    refine va_get (D := D) (ci := 0) (v := .int size_this) (C := R_R) (T := F_R) (N := 2) hx hb hG i_R hown hK hP 0 rfl rfl 1 (by decide) (hG _ f_R_15) (fun _ h9 => h9) rfl d_R_putAll_27 ?_
    refine lv_aload_n hx hb d_R_putAll_30 rfl (lv_at hl 1 rfl) ?_
    refine va_get (D := D) (ci := 0) (v := .int size_p1) (C := R_R) (T := F_R) (N := 2) hx hb hG i_R hown hK hP 2 rfl rfl 1 (by decide) (hG _ f_R_15) (fun _ h9 => h9) rfl d_R_putAll_31 ?_
    obtain ⟨g_34, h⟩ := guardN h
    obtain ⟨ga_34, gb_34, gc_34, gd_34, ge_34⟩ := guard5 g_34
    refine va_copyi hx hb (hml.trans hl.1.symm) hown (hG _ m_R_23) (hG _ w_copy_native) (hG _ w_copy_static) (hG _ w_system_init) hK hP hD hS 3 1 0 0 rfl rfl rfl rfl rfl ga_34 gb_34 gc_34 gd_34 ge_34 (fun _ _ => rfl) (Nat.le_of_ble_eq_true rfl) (by decide) d_R_putAll_34 (fun H locs hP hD hS => ?_)
    have hP : va_P D classes [(h_this, .inr (0, [.ref h_this_bytes, .int size_this])), (h_this_bytes, .inl (cA, 1024, .inl (va_cpy a_p1_bytes a_bytes (0 : Int32).toNatClampNeg size_this.toNatClampNeg size_p1.toNatClampNeg))), (h_p1, .inr (0, [.ref h_p1_bytes, .int size_p1])), (h_p1_bytes, .inl (cA, 1024, .inl a_p1_bytes))] H := hP
    have hD : va_D A [(h_this, .inr (0, [.ref h_this_bytes, .int size_this])), (h_this_bytes, .inl (cA, 1024, .inl (va_cpy a_p1_bytes a_bytes (0 : Int32).toNatClampNeg size_this.toNatClampNeg size_p1.toNatClampNeg))), (h_p1, .inr (0, [.ref h_p1_bytes, .int size_p1])), (h_p1_bytes, .inl (cA, 1024, .inl a_p1_bytes))] := hD
    refine lv_aload_n hx hb d_R_putAll_37 rfl (lv_at hl 0 rfl) ?_
    refine lv_dup hx hb d_R_putAll_38 rfl ?_
    refine va_get (D := D) (ci := 0) (v := .int size_this) (C := R_R) (T := F_R) (N := 2) hx hb hG i_R hown hK hP 0 rfl rfl 1 (by decide) (hG _ f_R_15) (fun _ h9 => h9) rfl d_R_putAll_39 ?_
    refine lv_aload_n hx hb d_R_putAll_42 rfl (lv_at hl 1 rfl) ?_
    refine va_get (D := D) (ci := 0) (v := .int size_p1) (C := R_R) (T := F_R) (N := 2) hx hb hG i_R hown hK hP 2 rfl rfl 1 (by decide) (hG _ f_R_15) (fun _ h9 => h9) rfl d_R_putAll_43 ?_
    refine lv_iadd hx hb d_R_putAll_46 ?_
    refine va_put (D := D) (ci := 0) (v := .int (size_this + size_p1)) (ty := .int) (C := R_R) (T := F_R) (N := 2) hx hb hG i_R t_R t_R_ok n_R hown hK hP hD hS 0 rfl rfl 1 (by decide) (hG _ f_R_15) (fun _ h9 => h9) rfl (by decide +kernel) rfl rfl (Nat.le_of_ble_eq_true rfl) d_R_putAll_47 (fun H locs hP hD hS => ?_)
    have hP : va_P D classes [(h_this, .inr (0, [.ref h_this_bytes, .int (size_this + size_p1)])), (h_this_bytes, .inl (cA, 1024, .inl (va_cpy a_p1_bytes a_bytes (0 : Int32).toNatClampNeg size_this.toNatClampNeg size_p1.toNatClampNeg))), (h_p1, .inr (0, [.ref h_p1_bytes, .int size_p1])), (h_p1_bytes, .inl (cA, 1024, .inl a_p1_bytes))] H := hP
    have hD : va_D A [(h_this, .inr (0, [.ref h_this_bytes, .int (size_this + size_p1)])), (h_this_bytes, .inl (cA, 1024, .inl (va_cpy a_p1_bytes a_bytes (0 : Int32).toNatClampNeg size_this.toNatClampNeg size_p1.toNatClampNeg))), (h_p1, .inr (0, [.ref h_p1_bytes, .int size_p1])), (h_p1_bytes, .inl (cA, 1024, .inl a_p1_bytes))] := hD
    refine lv_iconst (v := (1 : Int32)) hx hb d_R_putAll_50 (by decide) ?_
    obtain rfl := Option.some.inj h
    exact rI (v := (1 : Int32)) C0 rfl hK hP hD hS d_R_putAll_51
  · have h := iteN c_12 h
    refine lv_iconst (v := (0 : Int32)) hx hb d_R_putAll_15 (by decide) ?_
    obtain rfl := Option.some.inj h
    exact rI (v := (0 : Int32)) C0 rfl hK hP hD hS d_R_putAll_16
theorem c_R_putAll (l : Launch) (D : va_G) (cA : ClassId) (zz : zT) (N : Nat) (h_this : Nat) (h_this_bytes : Nat) (h_p1 : Nat) (h_p1_bytes : Nat) (size_this : Int32) (a_bytes : Nat → Int32) (size_p1 : Int32) (a_p1_bytes : Nat → Int32) (res : Int32 × Int32 × (Nat → Int32)) (h : p_R_putAll N size_this a_bytes size_p1 a_p1_bytes = some res) : MI l D cA zz y_R_putAll b_R_putAll 2 .boolean rm_R_putAll [.ref h_this, .ref h_p1] [(h_this, .inr (0, [.ref h_this_bytes, .int size_this])), (h_this_bytes, .inl (cA, 1024, .inl a_bytes)), (h_p1, .inr (0, [.ref h_p1_bytes, .int size_p1])), (h_p1_bytes, .inl (cA, 1024, .inl a_p1_bytes))] (res.1) [(h_this, .inr (0, [.ref h_this_bytes, .int res.2.1])), (h_this_bytes, .inl (cA, 1024, .inl res.2.2)), (h_p1, .inr (0, [.ref h_p1_bytes, .int size_p1])), (h_p1_bytes, .inl (cA, 1024, .inl a_p1_bytes))] := by
  unfold p_R_putAll at h
  exact MI_enter (by decide) (Nat.le_of_ble_eq_true rfl) (fun p e s m below meth c A ls C0 hK hA hZ hP hD hl => t_R_putAll_0 C0 hK hA hZ N h_this h_this_bytes h_p1 h_p1_bytes size_p1 a_p1_bytes res _ _ h s.heap [] hP hD va_S.rf ls hl)
-- ListWords$Row.takeAll(LListWords$Row;)I
set_option maxHeartbeats 4000000 in
set_option maxRecDepth 100000 in
theorem t_R_takeAll_0 {p : Program} {l : Launch} {e : Env} {s : State} {m : MethodId} {args : Array Value} {below : List Frame} {meth : Method} {c : Code} {D : va_G} {cA : ClassId} {zz : zT} {A : Nat → Prop} (C0 : Cx p s m args meth c b_R_takeAll R_R 2 (some .int)) (hK : va_K D classes [(cA, .int)] s) (hA : ∀ q : Nat, s.heap.size ≤ q → A q) (hZ : ZS zz A s s.heap) (N : Nat) (h_this : Nat) (h_this_bytes : Nat) (h_p1 : Nat) (h_p1_bytes : Nat) (a_p1_bytes : Nat → Int32) (res : Int32 × Int32 × (Nat → Int32) × Int32) :
    ∀ (size_this : Int32) (a_bytes : Nat → Int32) (size_p1 : Int32), p_R_takeAll_0 N a_p1_bytes size_this a_bytes size_p1 = some res → ∀ (H : Heap) (locs : List Loc), va_P D classes [(h_this, .inr (0, [.ref h_this_bytes, .int size_this])), (h_this_bytes, .inl (cA, 1024, .inl a_bytes)), (h_p1, .inr (0, [.ref h_p1_bytes, .int size_p1])), (h_p1_bytes, .inl (cA, 1024, .inl a_p1_bytes))] H → va_D A [(h_this, .inr (0, [.ref h_this_bytes, .int size_this])), (h_this_bytes, .inl (cA, 1024, .inl a_bytes)), (h_p1, .inr (0, [.ref h_p1_bytes, .int size_p1])), (h_p1_bytes, .inl (cA, 1024, .inl a_p1_bytes))] → va_S A s.heap H locs → ∀ (ls : Array Slot), lv_has ls 2 [(0, .ref h_this), (1, .ref h_p1)] → W p l e rm_R_takeAll s m args below meth c H locs 0 0 (QI .int below args s D cA A (res.1) [(h_this, .inr (0, [.ref h_this_bytes, .int res.2.1])), (h_this_bytes, .inl (cA, 1024, .inl res.2.2.1)), (h_p1, .inr (0, [.ref h_p1_bytes, .int res.2.2.2])), (h_p1_bytes, .inl (cA, 1024, .inl a_p1_bytes))]) (F0 m 0 ls []) := by
  obtain ⟨hx, hb, hr, hml, hown, hG, hlk⟩ := id C0
  intro size_this a_bytes size_p1 h H locs hP hD hS ls hl
  unfold p_R_takeAll_0 at h
  refine lv_aload_n hx hb d_R_takeAll_0 rfl (lv_at hl 0 rfl) ?_
  refine lv_iconst (v := (0 : Int32)) hx hb d_R_takeAll_1 (by decide) ?_
  refine va_put (D := D) (ci := 0) (v := .int (0 : Int32)) (ty := .int) (C := R_R) (T := F_R) (N := 2) hx hb hG i_R t_R t_R_ok n_R hown hK hP hD hS 0 rfl rfl 1 (by decide) (hG _ f_R_15) (fun _ h9 => h9) rfl (by decide +kernel) rfl rfl (Nat.le_of_ble_eq_true rfl) d_R_takeAll_2 (fun H locs hP hD hS => ?_)
  have hP : va_P D classes [(h_this, .inr (0, [.ref h_this_bytes, .int (0 : Int32)])), (h_this_bytes, .inl (cA, 1024, .inl a_bytes)), (h_p1, .inr (0, [.ref h_p1_bytes, .int size_p1])), (h_p1_bytes, .inl (cA, 1024, .inl a_p1_bytes))] H := hP
  have hD : va_D A [(h_this, .inr (0, [.ref h_this_bytes, .int (0 : Int32)])), (h_this_bytes, .inl (cA, 1024, .inl a_bytes)), (h_p1, .inr (0, [.ref h_p1_bytes, .int size_p1])), (h_p1_bytes, .inl (cA, 1024, .inl a_p1_bytes))] := hD
  refine lv_aload_n hx hb d_R_takeAll_5 rfl (lv_at hl 0 rfl) ?_
  refine lv_aload_n hx hb d_R_takeAll_6 rfl (lv_at hl 1 rfl) ?_
  obtain ⟨r_7, h_7, h⟩ := bindS h
  refine call_vi (wr := []) (w1 := [(h_this, .inr (0, [.ref h_this_bytes, .int r_7.2.1])), (h_this_bytes, .inl (cA, 1024, .inl r_7.2.2)), (h_p1, .inr (0, [.ref h_p1_bytes, .int size_p1])), (h_p1_bytes, .inl (cA, 1024, .inl a_p1_bytes))]) (wN := [(h_this, .inr (0, [.ref h_this_bytes, .int r_7.2.1])), (h_this_bytes, .inl (cA, 1024, .inl r_7.2.2)), (h_p1, .inr (0, [.ref h_p1_bytes, .int size_p1])), (h_p1_bytes, .inl (cA, 1024, .inl a_p1_bytes))]) (rest := []) C0 hK hP hD hS hA hZ (c_R_putAll l D cA zz N h_this h_this_bytes h_p1 h_p1_bytes (0 : Int32) a_bytes size_p1 a_p1_bytes r_7 h_7) [0, 1, 2, 3] [] [0, 1, 2, 3] rfl rfl rfl rfl (by decide) rfl rfl 0 0 rfl rfl m_R_29 ⟨Nat.le_of_ble_eq_true rfl, Nat.le_of_ble_eq_true rfl⟩ ⟨rfl, rfl⟩ rfl hl.1 rfl (Nat.le_of_ble_eq_true rfl) ⟨Nat.le_of_ble_eq_true rfl, Nat.le_of_ble_eq_true rfl⟩ d_R_takeAll_7 (fun b_7 H locs hP hD hS => ?_)
  refine lv_pop hx hb d_R_takeAll_10 rfl ?_
  refine lv_aload_n hx hb d_R_takeAll_11 rfl (lv_at hl 1 rfl) ?_
  refine lv_iconst (v := (0 : Int32)) hx hb d_R_takeAll_12 (by decide) ?_
  refine va_put (D := D) (ci := 0) (v := .int (0 : Int32)) (ty := .int) (C := R_R) (T := F_R) (N := 2) hx hb hG i_R t_R t_R_ok n_R hown hK hP hD hS 2 rfl rfl 1 (by decide) (hG _ f_R_15) (fun _ h9 => h9) rfl (by decide +kernel) rfl rfl (Nat.le_of_ble_eq_true rfl) d_R_takeAll_13 (fun H locs hP hD hS => ?_)
  have hP : va_P D classes [(h_this, .inr (0, [.ref h_this_bytes, .int r_7.2.1])), (h_this_bytes, .inl (cA, 1024, .inl r_7.2.2)), (h_p1, .inr (0, [.ref h_p1_bytes, .int (0 : Int32)])), (h_p1_bytes, .inl (cA, 1024, .inl a_p1_bytes))] H := hP
  have hD : va_D A [(h_this, .inr (0, [.ref h_this_bytes, .int r_7.2.1])), (h_this_bytes, .inl (cA, 1024, .inl r_7.2.2)), (h_p1, .inr (0, [.ref h_p1_bytes, .int (0 : Int32)])), (h_p1_bytes, .inl (cA, 1024, .inl a_p1_bytes))] := hD
  refine lv_aload_n hx hb d_R_takeAll_16 rfl (lv_at hl 0 rfl) ?_
  refine va_get (D := D) (ci := 0) (v := .int r_7.2.1) (C := R_R) (T := F_R) (N := 2) hx hb hG i_R hown hK hP 0 rfl rfl 1 (by decide) (hG _ f_R_15) (fun _ h9 => h9) rfl d_R_takeAll_17 ?_
  obtain rfl := Option.some.inj h
  exact rI (v := r_7.2.1) C0 (vp_nar_int _) hK hP hD hS d_R_takeAll_20
theorem c_R_takeAll (l : Launch) (D : va_G) (cA : ClassId) (zz : zT) (N : Nat) (h_this : Nat) (h_this_bytes : Nat) (h_p1 : Nat) (h_p1_bytes : Nat) (size_this : Int32) (a_bytes : Nat → Int32) (size_p1 : Int32) (a_p1_bytes : Nat → Int32) (res : Int32 × Int32 × (Nat → Int32) × Int32) (h : p_R_takeAll N size_this a_bytes size_p1 a_p1_bytes = some res) : MI l D cA zz y_R_takeAll b_R_takeAll 2 .int rm_R_takeAll [.ref h_this, .ref h_p1] [(h_this, .inr (0, [.ref h_this_bytes, .int size_this])), (h_this_bytes, .inl (cA, 1024, .inl a_bytes)), (h_p1, .inr (0, [.ref h_p1_bytes, .int size_p1])), (h_p1_bytes, .inl (cA, 1024, .inl a_p1_bytes))] (res.1) [(h_this, .inr (0, [.ref h_this_bytes, .int res.2.1])), (h_this_bytes, .inl (cA, 1024, .inl res.2.2.1)), (h_p1, .inr (0, [.ref h_p1_bytes, .int res.2.2.2])), (h_p1_bytes, .inl (cA, 1024, .inl a_p1_bytes))] := by
  unfold p_R_takeAll at h
  exact MI_enter (by decide) (Nat.le_of_ble_eq_true rfl) (fun p e s m below meth c A ls C0 hK hA hZ hP hD hl => t_R_takeAll_0 C0 hK hA hZ N h_this h_this_bytes h_p1 h_p1_bytes a_p1_bytes res _ _ _ h s.heap [] hP hD va_S.rf ls hl)
-- ListWords$Row.size()I
set_option maxHeartbeats 4000000 in
set_option maxRecDepth 100000 in
theorem t_R_size_0 {p : Program} {l : Launch} {e : Env} {s : State} {m : MethodId} {args : Array Value} {below : List Frame} {meth : Method} {c : Code} {D : va_G} {cA : ClassId} {zz : zT} {A : Nat → Prop} (C0 : Cx p s m args meth c b_R_size R_R 1 (some .int)) (hK : va_K D classes [(cA, .int)] s) (hA : ∀ q : Nat, s.heap.size ≤ q → A q) (hZ : ZS zz A s s.heap) (N : Nat) (h_this : Nat) (h_this_bytes : Nat) (size_this : Int32) (res : Int32) :
    p_R_size_0 N size_this = some res → ∀ (H : Heap) (locs : List Loc), va_P D classes [(h_this, .inr (0, [.ref h_this_bytes, .int size_this]))] H → va_D A [(h_this, .inr (0, [.ref h_this_bytes, .int size_this]))] → va_S A s.heap H locs → ∀ (ls : Array Slot), lv_has ls 1 [(0, .ref h_this)] → W p l e rm_R_size s m args below meth c H locs 0 0 (QI .int below args s D cA A (res) [(h_this, .inr (0, [.ref h_this_bytes, .int size_this]))]) (F0 m 0 ls []) := by
  obtain ⟨hx, hb, hr, hml, hown, hG, hlk⟩ := id C0
  intro h H locs hP hD hS ls hl
  unfold p_R_size_0 at h
  refine lv_aload_n hx hb d_R_size_0 rfl (lv_at hl 0 rfl) ?_
  refine va_get (D := D) (ci := 0) (v := .int size_this) (C := R_R) (T := F_R) (N := 2) hx hb hG i_R hown hK hP 0 rfl rfl 1 (by decide) (hG _ f_R_15) (fun _ h9 => h9) rfl d_R_size_1 ?_
  obtain rfl := Option.some.inj h
  exact rI (v := size_this) C0 (vp_nar_int _) hK hP hD hS d_R_size_4
theorem c_R_size (l : Launch) (D : va_G) (cA : ClassId) (zz : zT) (N : Nat) (h_this : Nat) (h_this_bytes : Nat) (size_this : Int32) (res : Int32) (h : p_R_size N size_this = some res) : MI l D cA zz y_R_size b_R_size 1 .int rm_R_size [.ref h_this] [(h_this, .inr (0, [.ref h_this_bytes, .int size_this]))] (res) [(h_this, .inr (0, [.ref h_this_bytes, .int size_this]))] := by
  unfold p_R_size at h
  exact MI_enter (by decide) (Nat.le_of_ble_eq_true rfl) (fun p e s m below meth c A ls C0 hK hA hZ hP hD hl => t_R_size_0 C0 hK hA hZ N h_this h_this_bytes size_this res h s.heap [] hP hD va_S.rf ls hl)
-- ListWords$Row.cutTo(I)Z
set_option maxHeartbeats 4000000 in
set_option maxRecDepth 100000 in
theorem t_R_cutTo_0 {p : Program} {l : Launch} {e : Env} {s : State} {m : MethodId} {args : Array Value} {below : List Frame} {meth : Method} {c : Code} {D : va_G} {cA : ClassId} {zz : zT} {A : Nat → Prop} (C0 : Cx p s m args meth c b_R_cutTo R_R 2 (some .boolean)) (hK : va_K D classes [(cA, .int)] s) (hA : ∀ q : Nat, s.heap.size ≤ q → A q) (hZ : ZS zz A s s.heap) (N : Nat) (h_this : Nat) (h_this_bytes : Nat) (res : Int32 × Int32) :
    ∀ (size_this : Int32) (x1 : Int32), p_R_cutTo_0 N size_this x1 = some res → ∀ (H : Heap) (locs : List Loc), va_P D classes [(h_this, .inr (0, [.ref h_this_bytes, .int size_this]))] H → va_D A [(h_this, .inr (0, [.ref h_this_bytes, .int size_this]))] → va_S A s.heap H locs → ∀ (ls : Array Slot), lv_has ls 2 [(0, .ref h_this), (1, .int x1)] → W p l e rm_R_cutTo s m args below meth c H locs 0 0 (QI .boolean below args s D cA A (res.1) [(h_this, .inr (0, [.ref h_this_bytes, .int res.2]))]) (F0 m 0 ls []) := by
  obtain ⟨hx, hb, hr, hml, hown, hG, hlk⟩ := id C0
  intro size_this x1 h H locs hP hD hS ls hl
  unfold p_R_cutTo_0 at h
  refine lv_iload_n hx hb d_R_cutTo_0 rfl (lv_at hl 1 rfl) ?_
  refine lv_if_lt (tgt := 12) hx hb d_R_cutTo_1 (by decide) (fun c_1 => ?_) (fun c_1 => ?_)
  · have h := iteP c_1 h
    refine lv_iconst (v := (0 : Int32)) hx hb d_R_cutTo_12 (by decide) ?_
    obtain rfl := Option.some.inj h
    exact rI (v := (0 : Int32)) C0 rfl hK hP hD hS d_R_cutTo_13
  · have h := iteN c_1 h
    refine lv_iload_n hx hb d_R_cutTo_4 rfl (lv_at hl 1 rfl) ?_
    refine lv_aload_n hx hb d_R_cutTo_5 rfl (lv_at hl 0 rfl) ?_
    refine va_get (D := D) (ci := 0) (v := .int size_this) (C := R_R) (T := F_R) (N := 2) hx hb hG i_R hown hK hP 0 rfl rfl 1 (by decide) (hG _ f_R_15) (fun _ h9 => h9) rfl d_R_cutTo_6 ?_
    refine lv_icmp_le (tgt := 14) hx hb d_R_cutTo_9 (by decide) (fun c_9 => ?_) (fun c_9 => ?_)
    · have h := iteP c_9 h
      refine lv_aload_n hx hb d_R_cutTo_14 rfl (lv_at hl 0 rfl) ?_
      refine lv_iload_n hx hb d_R_cutTo_15 rfl (lv_at hl 1 rfl) ?_
      refine va_put (D := D) (ci := 0) (v := .int x1) (ty := .int) (C := R_R) (T := F_R) (N := 2) hx hb hG i_R t_R t_R_ok n_R hown hK hP hD hS 0 rfl rfl 1 (by decide) (hG _ f_R_15) (fun _ h9 => h9) rfl (by decide +kernel) rfl rfl (Nat.le_of_ble_eq_true rfl) d_R_cutTo_16 (fun H locs hP hD hS => ?_)
      have hP : va_P D classes [(h_this, .inr (0, [.ref h_this_bytes, .int x1]))] H := hP
      have hD : va_D A [(h_this, .inr (0, [.ref h_this_bytes, .int x1]))] := hD
      refine lv_iconst (v := (1 : Int32)) hx hb d_R_cutTo_19 (by decide) ?_
      obtain rfl := Option.some.inj h
      exact rI (v := (1 : Int32)) C0 rfl hK hP hD hS d_R_cutTo_20
    · have h := iteN c_9 h
      refine lv_iconst (v := (0 : Int32)) hx hb d_R_cutTo_12 (by decide) ?_
      obtain rfl := Option.some.inj h
      exact rI (v := (0 : Int32)) C0 rfl hK hP hD hS d_R_cutTo_13
theorem c_R_cutTo (l : Launch) (D : va_G) (cA : ClassId) (zz : zT) (N : Nat) (h_this : Nat) (h_this_bytes : Nat) (size_this : Int32) (x1 : Int32) (res : Int32 × Int32) (h : p_R_cutTo N size_this x1 = some res) : MI l D cA zz y_R_cutTo b_R_cutTo 2 .boolean rm_R_cutTo [.ref h_this, .int x1] [(h_this, .inr (0, [.ref h_this_bytes, .int size_this]))] (res.1) [(h_this, .inr (0, [.ref h_this_bytes, .int res.2]))] := by
  unfold p_R_cutTo at h
  exact MI_enter (by decide) (Nat.le_of_ble_eq_true rfl) (fun p e s m below meth c A ls C0 hK hA hZ hP hD hl => t_R_cutTo_0 C0 hK hA hZ N h_this h_this_bytes res _ _ h s.heap [] hP hD va_S.rf ls hl)
-- ListWords$Row.put(I)Z
set_option maxHeartbeats 4000000 in
set_option maxRecDepth 100000 in
theorem t_R_put_0 {p : Program} {l : Launch} {e : Env} {s : State} {m : MethodId} {args : Array Value} {below : List Frame} {meth : Method} {c : Code} {D : va_G} {cA : ClassId} {zz : zT} {A : Nat → Prop} (C0 : Cx p s m args meth c b_R_put R_R 2 (some .boolean)) (hK : va_K D classes [(cA, .int)] s) (hA : ∀ q : Nat, s.heap.size ≤ q → A q) (hZ : ZS zz A s s.heap) (N : Nat) (h_this : Nat) (h_this_bytes : Nat) (res : Int32 × Int32 × (Nat → Int32)) :
    ∀ (size_this : Int32) (a_bytes : Nat → Int32) (x1 : Int32), p_R_put_0 N size_this a_bytes x1 = some res → ∀ (H : Heap) (locs : List Loc), va_P D classes [(h_this, .inr (0, [.ref h_this_bytes, .int size_this])), (h_this_bytes, .inl (cA, 1024, .inl a_bytes))] H → va_D A [(h_this, .inr (0, [.ref h_this_bytes, .int size_this])), (h_this_bytes, .inl (cA, 1024, .inl a_bytes))] → va_S A s.heap H locs → ∀ (ls : Array Slot), lv_has ls 2 [(0, .ref h_this), (1, .int x1)] → W p l e rm_R_put s m args below meth c H locs 0 0 (QI .boolean below args s D cA A (res.1) [(h_this, .inr (0, [.ref h_this_bytes, .int res.2.1])), (h_this_bytes, .inl (cA, 1024, .inl res.2.2))]) (F0 m 0 ls []) := by
  obtain ⟨hx, hb, hr, hml, hown, hG, hlk⟩ := id C0
  intro size_this a_bytes x1 h H locs hP hD hS ls hl
  unfold p_R_put_0 at h
  refine lv_aload_n hx hb d_R_put_0 rfl (lv_at hl 0 rfl) ?_
  refine va_get (D := D) (ci := 0) (v := .int size_this) (C := R_R) (T := F_R) (N := 2) hx hb hG i_R hown hK hP 0 rfl rfl 1 (by decide) (hG _ f_R_15) (fun _ h9 => h9) rfl d_R_put_1 ?_
  refine lv_sipush (v := (1024 : Int32)) hx hb d_R_put_4 (by decide) ?_
  refine lv_icmp_lt (tgt := 12) hx hb d_R_put_7 (by decide) (fun c_7 => ?_) (fun c_7 => ?_)
  · have h := iteP c_7 h
    refine lv_aload_n hx hb d_R_put_12 rfl (lv_at hl 0 rfl) ?_
    refine va_get (D := D) (ci := 0) (v := .ref h_this_bytes) (C := R_R) (T := F_R) (N := 2) hx hb hG i_R hown hK hP 0 rfl rfl 0 (by decide) (hG _ f_R_9) (fun _ h9 => h9) rfl d_R_put_13 ?_
    refine lv_aload_n hx hb d_R_put_16 rfl (lv_at hl 0 rfl) ?_
    refine va_get (D := D) (ci := 0) (v := .int size_this) (C := R_R) (T := F_R) (N := 2) hx hb hG i_R hown hK hP 0 rfl rfl 1 (by decide) (hG _ f_R_15) (fun _ h9 => h9) rfl d_R_put_17 ?_
    refine lv_iload_n hx hb d_R_put_20 rfl (lv_at hl 1 rfl) ?_
    refine lv_sipush (v := (255 : Int32)) hx hb d_R_put_21 (by decide) ?_
    refine lv_iand hx hb d_R_put_24 ?_
    obtain ⟨g_25, h⟩ := guardN h
    refine va_iast hx hb hK hP hD hS 1 0 rfl rfl g_25 d_R_put_25 (fun H locs hP hD hS => ?_)
    have hP : va_P D classes [(h_this, .inr (0, [.ref h_this_bytes, .int size_this])), (h_this_bytes, .inl (cA, 1024, .inl (upd a_bytes size_this.toNatClampNeg (x1 &&& (255 : Int32)))))] H := hP
    have hD : va_D A [(h_this, .inr (0, [.ref h_this_bytes, .int size_this])), (h_this_bytes, .inl (cA, 1024, .inl (upd a_bytes size_this.toNatClampNeg (x1 &&& (255 : Int32)))))] := hD
    refine lv_aload_n hx hb d_R_put_26 rfl (lv_at hl 0 rfl) ?_
    refine lv_dup hx hb d_R_put_27 rfl ?_
    refine va_get (D := D) (ci := 0) (v := .int size_this) (C := R_R) (T := F_R) (N := 2) hx hb hG i_R hown hK hP 0 rfl rfl 1 (by decide) (hG _ f_R_15) (fun _ h9 => h9) rfl d_R_put_28 ?_
    refine lv_iconst (v := (1 : Int32)) hx hb d_R_put_31 (by decide) ?_
    refine lv_iadd hx hb d_R_put_32 ?_
    refine va_put (D := D) (ci := 0) (v := .int (size_this + (1 : Int32))) (ty := .int) (C := R_R) (T := F_R) (N := 2) hx hb hG i_R t_R t_R_ok n_R hown hK hP hD hS 0 rfl rfl 1 (by decide) (hG _ f_R_15) (fun _ h9 => h9) rfl (by decide +kernel) rfl rfl (Nat.le_of_ble_eq_true rfl) d_R_put_33 (fun H locs hP hD hS => ?_)
    have hP : va_P D classes [(h_this, .inr (0, [.ref h_this_bytes, .int (size_this + (1 : Int32))])), (h_this_bytes, .inl (cA, 1024, .inl (upd a_bytes size_this.toNatClampNeg (x1 &&& (255 : Int32)))))] H := hP
    have hD : va_D A [(h_this, .inr (0, [.ref h_this_bytes, .int (size_this + (1 : Int32))])), (h_this_bytes, .inl (cA, 1024, .inl (upd a_bytes size_this.toNatClampNeg (x1 &&& (255 : Int32)))))] := hD
    refine lv_iconst (v := (1 : Int32)) hx hb d_R_put_36 (by decide) ?_
    obtain rfl := Option.some.inj h
    exact rI (v := (1 : Int32)) C0 rfl hK hP hD hS d_R_put_37
  · have h := iteN c_7 h
    refine lv_iconst (v := (0 : Int32)) hx hb d_R_put_10 (by decide) ?_
    obtain rfl := Option.some.inj h
    exact rI (v := (0 : Int32)) C0 rfl hK hP hD hS d_R_put_11
theorem c_R_put (l : Launch) (D : va_G) (cA : ClassId) (zz : zT) (N : Nat) (h_this : Nat) (h_this_bytes : Nat) (size_this : Int32) (a_bytes : Nat → Int32) (x1 : Int32) (res : Int32 × Int32 × (Nat → Int32)) (h : p_R_put N size_this a_bytes x1 = some res) : MI l D cA zz y_R_put b_R_put 2 .boolean rm_R_put [.ref h_this, .int x1] [(h_this, .inr (0, [.ref h_this_bytes, .int size_this])), (h_this_bytes, .inl (cA, 1024, .inl a_bytes))] (res.1) [(h_this, .inr (0, [.ref h_this_bytes, .int res.2.1])), (h_this_bytes, .inl (cA, 1024, .inl res.2.2))] := by
  unfold p_R_put at h
  exact MI_enter (by decide) (Nat.le_of_ble_eq_true rfl) (fun p e s m below meth c A ls C0 hK hA hZ hP hD hl => t_R_put_0 C0 hK hA hZ N h_this h_this_bytes res _ _ _ h s.heap [] hP hD va_S.rf ls hl)
-- ListWords$Row.putNumber(I)V
set_option maxHeartbeats 4000000 in
set_option maxRecDepth 100000 in
theorem t_R_putNumber_0 {p : Program} {l : Launch} {e : Env} {s : State} {m : MethodId} {args : Array Value} {below : List Frame} {meth : Method} {c : Code} {D : va_G} {cA : ClassId} {zz : zT} {A : Nat → Prop} (C0 : Cx p s m args meth c b_R_putNumber R_R 2 none) (hK : va_K D classes [(cA, .int)] s) (hA : ∀ q : Nat, s.heap.size ≤ q → A q) (hZ : ZS zz A s s.heap) (N : Nat) (h_this : Nat) (h_this_bytes : Nat) (res : Int32 × (Nat → Int32)) :
    ∀ (size_this : Int32) (a_bytes : Nat → Int32) (x1 : Int32), p_R_putNumber_0 N size_this a_bytes x1 = some res → ∀ (H : Heap) (locs : List Loc), va_P D classes [(h_this, .inr (0, [.ref h_this_bytes, .int size_this])), (h_this_bytes, .inl (cA, 1024, .inl a_bytes))] H → va_D A [(h_this, .inr (0, [.ref h_this_bytes, .int size_this])), (h_this_bytes, .inl (cA, 1024, .inl a_bytes))] → va_S A s.heap H locs → ∀ (ls : Array Slot), lv_has ls 2 [(0, .ref h_this), (1, .int x1)] → W p l e rm_R_putNumber s m args below meth c H locs 0 0 (QV below args s D cA A [(h_this, .inr (0, [.ref h_this_bytes, .int res.1])), (h_this_bytes, .inl (cA, 1024, .inl res.2))]) (F0 m 0 ls []) := by
  obtain ⟨hx, hb, hr, hml, hown, hG, hlk⟩ := id C0
  intro size_this a_bytes x1 h H locs hP hD hS ls hl
  unfold p_R_putNumber_0 at h
  refine lv_aload_n hx hb d_R_putNumber_0 rfl (lv_at hl 0 rfl) ?_
  refine lv_iload_n hx hb d_R_putNumber_1 rfl (lv_at hl 1 rfl) ?_
  refine lv_bipush (v := (24 : Int32)) hx hb d_R_putNumber_2 (by decide) ?_
  refine lv_iushr (v := (x1.toUInt32 >>> ((24 : Int32).toUInt32 &&& Int32.toUInt32 31)).toInt32) hx hb d_R_putNumber_4 rfl ?_
  obtain ⟨r_5, h_5, h⟩ := bindS h
  refine call_vi (wr := []) (w1 := [(h_this, .inr (0, [.ref h_this_bytes, .int r_5.2.1])), (h_this_bytes, .inl (cA, 1024, .inl r_5.2.2))]) (wN := [(h_this, .inr (0, [.ref h_this_bytes, .int r_5.2.1])), (h_this_bytes, .inl (cA, 1024, .inl r_5.2.2))]) (rest := []) C0 hK hP hD hS hA hZ (c_R_put l D cA zz N h_this h_this_bytes size_this a_bytes (x1.toUInt32 >>> ((24 : Int32).toUInt32 &&& Int32.toUInt32 31)).toInt32 r_5 h_5) [0, 1] [] [0, 1] rfl rfl rfl rfl (by decide) rfl rfl 0 0 rfl rfl m_R_19 ⟨Nat.le_of_ble_eq_true rfl, Nat.le_of_ble_eq_true rfl⟩ ⟨rfl, rfl⟩ rfl hl.1 rfl (Nat.le_of_ble_eq_true rfl) ⟨Nat.le_of_ble_eq_true rfl, Nat.le_of_ble_eq_true rfl⟩ d_R_putNumber_5 (fun b_5 H locs hP hD hS => ?_)
  refine lv_pop hx hb d_R_putNumber_8 rfl ?_
  refine lv_aload_n hx hb d_R_putNumber_9 rfl (lv_at hl 0 rfl) ?_
  refine lv_iload_n hx hb d_R_putNumber_10 rfl (lv_at hl 1 rfl) ?_
  refine lv_bipush (v := (16 : Int32)) hx hb d_R_putNumber_11 (by decide) ?_
  refine lv_iushr (v := (x1.toUInt32 >>> ((16 : Int32).toUInt32 &&& Int32.toUInt32 31)).toInt32) hx hb d_R_putNumber_13 rfl ?_
  obtain ⟨r_14, h_14, h⟩ := bindS h
  refine call_vi (wr := []) (w1 := [(h_this, .inr (0, [.ref h_this_bytes, .int r_14.2.1])), (h_this_bytes, .inl (cA, 1024, .inl r_14.2.2))]) (wN := [(h_this, .inr (0, [.ref h_this_bytes, .int r_14.2.1])), (h_this_bytes, .inl (cA, 1024, .inl r_14.2.2))]) (rest := []) C0 hK hP hD hS hA hZ (c_R_put l D cA zz N h_this h_this_bytes r_5.2.1 r_5.2.2 (x1.toUInt32 >>> ((16 : Int32).toUInt32 &&& Int32.toUInt32 31)).toInt32 r_14 h_14) [0, 1] [] [0, 1] rfl rfl rfl rfl (by decide) rfl rfl 0 0 rfl rfl m_R_19 ⟨Nat.le_of_ble_eq_true rfl, Nat.le_of_ble_eq_true rfl⟩ ⟨rfl, rfl⟩ rfl hl.1 rfl (Nat.le_of_ble_eq_true rfl) ⟨Nat.le_of_ble_eq_true rfl, Nat.le_of_ble_eq_true rfl⟩ d_R_putNumber_14 (fun b_14 H locs hP hD hS => ?_)
  refine lv_pop hx hb d_R_putNumber_17 rfl ?_
  refine lv_aload_n hx hb d_R_putNumber_18 rfl (lv_at hl 0 rfl) ?_
  refine lv_iload_n hx hb d_R_putNumber_19 rfl (lv_at hl 1 rfl) ?_
  refine lv_bipush (v := (8 : Int32)) hx hb d_R_putNumber_20 (by decide) ?_
  refine lv_iushr (v := (x1.toUInt32 >>> ((8 : Int32).toUInt32 &&& Int32.toUInt32 31)).toInt32) hx hb d_R_putNumber_22 rfl ?_
  obtain ⟨r_23, h_23, h⟩ := bindS h
  refine call_vi (wr := []) (w1 := [(h_this, .inr (0, [.ref h_this_bytes, .int r_23.2.1])), (h_this_bytes, .inl (cA, 1024, .inl r_23.2.2))]) (wN := [(h_this, .inr (0, [.ref h_this_bytes, .int r_23.2.1])), (h_this_bytes, .inl (cA, 1024, .inl r_23.2.2))]) (rest := []) C0 hK hP hD hS hA hZ (c_R_put l D cA zz N h_this h_this_bytes r_14.2.1 r_14.2.2 (x1.toUInt32 >>> ((8 : Int32).toUInt32 &&& Int32.toUInt32 31)).toInt32 r_23 h_23) [0, 1] [] [0, 1] rfl rfl rfl rfl (by decide) rfl rfl 0 0 rfl rfl m_R_19 ⟨Nat.le_of_ble_eq_true rfl, Nat.le_of_ble_eq_true rfl⟩ ⟨rfl, rfl⟩ rfl hl.1 rfl (Nat.le_of_ble_eq_true rfl) ⟨Nat.le_of_ble_eq_true rfl, Nat.le_of_ble_eq_true rfl⟩ d_R_putNumber_23 (fun b_23 H locs hP hD hS => ?_)
  refine lv_pop hx hb d_R_putNumber_26 rfl ?_
  refine lv_aload_n hx hb d_R_putNumber_27 rfl (lv_at hl 0 rfl) ?_
  refine lv_iload_n hx hb d_R_putNumber_28 rfl (lv_at hl 1 rfl) ?_
  obtain ⟨r_29, h_29, h⟩ := bindS h
  refine call_vi (wr := []) (w1 := [(h_this, .inr (0, [.ref h_this_bytes, .int r_29.2.1])), (h_this_bytes, .inl (cA, 1024, .inl r_29.2.2))]) (wN := [(h_this, .inr (0, [.ref h_this_bytes, .int r_29.2.1])), (h_this_bytes, .inl (cA, 1024, .inl r_29.2.2))]) (rest := []) C0 hK hP hD hS hA hZ (c_R_put l D cA zz N h_this h_this_bytes r_23.2.1 r_23.2.2 x1 r_29 h_29) [0, 1] [] [0, 1] rfl rfl rfl rfl (by decide) rfl rfl 0 0 rfl rfl m_R_19 ⟨Nat.le_of_ble_eq_true rfl, Nat.le_of_ble_eq_true rfl⟩ ⟨rfl, rfl⟩ rfl hl.1 rfl (Nat.le_of_ble_eq_true rfl) ⟨Nat.le_of_ble_eq_true rfl, Nat.le_of_ble_eq_true rfl⟩ d_R_putNumber_29 (fun b_29 H locs hP hD hS => ?_)
  refine lv_pop hx hb d_R_putNumber_32 rfl ?_
  obtain rfl := Option.some.inj h
  exact rV C0 hK hP hD hS d_R_putNumber_33
theorem c_R_putNumber (l : Launch) (D : va_G) (cA : ClassId) (zz : zT) (N : Nat) (h_this : Nat) (h_this_bytes : Nat) (size_this : Int32) (a_bytes : Nat → Int32) (x1 : Int32) (res : Int32 × (Nat → Int32)) (h : p_R_putNumber N size_this a_bytes x1 = some res) : MV l D cA zz y_R_putNumber b_R_putNumber 2 rm_R_putNumber [.ref h_this, .int x1] [(h_this, .inr (0, [.ref h_this_bytes, .int size_this])), (h_this_bytes, .inl (cA, 1024, .inl a_bytes))] [(h_this, .inr (0, [.ref h_this_bytes, .int res.1])), (h_this_bytes, .inl (cA, 1024, .inl res.2))] := by
  unfold p_R_putNumber at h
  exact MV_enter (by decide) (Nat.le_of_ble_eq_true rfl) (fun p e s m below meth c A ls C0 hK hA hZ hP hD hl => t_R_putNumber_0 C0 hK hA hZ N h_this h_this_bytes res _ _ _ h s.heap [] hP hD va_S.rf ls hl)
end
