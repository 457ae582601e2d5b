section
-- ===== PART A: goes FIRST, ahead of the names: the tables' words, and 'selects' of the private methods out of them =====
/-- a private method of a class that the tables say can be made, by its rows of tables_1 -/
def lw_okq (q : MethodName × Nat) : Prop := (q.1.cls ≠ "java/lang/invoke/MethodHandle" ∧ q.1.cls ≠ "java/lang/invoke/VarHandle") ∧ Cond.instantiable q.1.cls q.2 ∈ tables_1 ∧ Cond.privateMethod q.1 ∈ tables_1 ∧ Cond.instanceMethod q.1 ∈ tables_1
theorem lw_p0 : lw_okq (⟨"ListWords", "nextElement", "()I"⟩, 6) := ⟨⟨by decide +kernel, by decide +kernel⟩, List.mem_of_getElem? (i := 12) (by decide +kernel), List.mem_of_getElem? (i := 100) (by decide +kernel), List.mem_of_getElem? (i := 101) (by decide +kernel)⟩
theorem lw_p1 : lw_okq (⟨"ListWords", "behindSpaces", "(I)I"⟩, 6) := ⟨⟨by decide +kernel, by decide +kernel⟩, List.mem_of_getElem? (i := 12) (by decide +kernel), List.mem_of_getElem? (i := 104) (by decide +kernel), List.mem_of_getElem? (i := 105) (by decide +kernel)⟩
theorem lw_p2 : lw_okq (⟨"ListWords", "readBraced", "(I)I"⟩, 6) := ⟨⟨by decide +kernel, by decide +kernel⟩, List.mem_of_getElem? (i := 12) (by decide +kernel), List.mem_of_getElem? (i := 118) (by decide +kernel), List.mem_of_getElem? (i := 119) (by decide +kernel)⟩
theorem lw_p3 : lw_okq (⟨"ListWords", "behindCloser", "(I)I"⟩, 6) := ⟨⟨by decide +kernel, by decide +kernel⟩, List.mem_of_getElem? (i := 12) (by decide +kernel), List.mem_of_getElem? (i := 123) (by decide +kernel), List.mem_of_getElem? (i := 124) (by decide +kernel)⟩
theorem lw_p4 : lw_okq (⟨"ListWords", "readUnbraced", "(IZ)I"⟩, 6) := ⟨⟨by decide +kernel, by decide +kernel⟩, List.mem_of_getElem? (i := 12) (by decide +kernel), List.mem_of_getElem? (i := 127) (by decide +kernel), List.mem_of_getElem? (i := 128) (by decide +kernel)⟩
theorem lw_p5 : lw_okq (⟨"ListWords", "meaningOfBackslash", "(I)I"⟩, 6) := ⟨⟨by decide +kernel, by decide +kernel⟩, List.mem_of_getElem? (i := 12) (by decide +kernel), List.mem_of_getElem? (i := 131) (by decide +kernel), List.mem_of_getElem? (i := 132) (by decide +kernel)⟩
theorem lw_p6 : lw_okq (⟨"ListWords", "countDigits", "(III)I"⟩, 6) := ⟨⟨by decide +kernel, by decide +kernel⟩, List.mem_of_getElem? (i := 12) (by decide +kernel), List.mem_of_getElem? (i := 135) (by decide +kernel), List.mem_of_getElem? (i := 136) (by decide +kernel)⟩
theorem lw_p7 : lw_okq (⟨"ListWords", "numberAt", "(III)I"⟩, 6) := ⟨⟨by decide +kernel, by decide +kernel⟩, List.mem_of_getElem? (i := 12) (by decide +kernel), List.mem_of_getElem? (i := 142) (by decide +kernel), List.mem_of_getElem? (i := 143) (by decide +kernel)⟩
theorem lw_p8 : lw_okq (⟨"ListWords", "bytesBehindBackslash", "(I)I"⟩, 6) := ⟨⟨by decide +kernel, by decide +kernel⟩, List.mem_of_getElem? (i := 12) (by decide +kernel), List.mem_of_getElem? (i := 233) (by decide +kernel), List.mem_of_getElem? (i := 234) (by decide +kernel)⟩
theorem lw_p9 : lw_okq (⟨"ListWords", "countBlanks", "(I)I"⟩, 6) := ⟨⟨by decide +kernel, by decide +kernel⟩, List.mem_of_getElem? (i := 12) (by decide +kernel), List.mem_of_getElem? (i := 237) (by decide +kernel), List.mem_of_getElem? (i := 238) (by decide +kernel)⟩
theorem lw_p10 : lw_okq (⟨"ListWordsModel", "goOver", "(I)I"⟩, 10) := ⟨⟨by decide +kernel, by decide +kernel⟩, List.mem_of_getElem? (i := 305) (by decide +kernel), List.mem_of_getElem? (i := 362) (by decide +kernel), List.mem_of_getElem? (i := 363) (by decide +kernel)⟩
theorem lw_p11 : lw_okq (⟨"ListWordsModel", "skip", "(I)I"⟩, 10) := ⟨⟨by decide +kernel, by decide +kernel⟩, List.mem_of_getElem? (i := 305) (by decide +kernel), List.mem_of_getElem? (i := 366) (by decide +kernel), List.mem_of_getElem? (i := 367) (by decide +kernel)⟩
theorem lw_p12 : lw_okq (⟨"ListWordsModel", "at", "(I)I"⟩, 10) := ⟨⟨by decide +kernel, by decide +kernel⟩, List.mem_of_getElem? (i := 305) (by decide +kernel), List.mem_of_getElem? (i := 370) (by decide +kernel), List.mem_of_getElem? (i := 371) (by decide +kernel)⟩
theorem lw_p13 : lw_okq (⟨"ListWordsModel", "ending", "(I)I"⟩, 10) := ⟨⟨by decide +kernel, by decide +kernel⟩, List.mem_of_getElem? (i := 305) (by decide +kernel), List.mem_of_getElem? (i := 377) (by decide +kernel), List.mem_of_getElem? (i := 378) (by decide +kernel)⟩
theorem lw_p14 : lw_okq (⟨"ListWordsModel", "bare", "(I)I"⟩, 10) := ⟨⟨by decide +kernel, by decide +kernel⟩, List.mem_of_getElem? (i := 305) (by decide +kernel), List.mem_of_getElem? (i := 381) (by decide +kernel), List.mem_of_getElem? (i := 382) (by decide +kernel)⟩
theorem lw_p15 : lw_okq (⟨"ListWordsModel", "behind", "(I)I"⟩, 10) := ⟨⟨by decide +kernel, by decide +kernel⟩, List.mem_of_getElem? (i := 305) (by decide +kernel), List.mem_of_getElem? (i := 385) (by decide +kernel), List.mem_of_getElem? (i := 386) (by decide +kernel)⟩
def lw_privs_1 : List (MethodName × Nat) := [(⟨"ListWords", "nextElement", "()I"⟩, 6), (⟨"ListWords", "behindSpaces", "(I)I"⟩, 6), (⟨"ListWords", "readBraced", "(I)I"⟩, 6), (⟨"ListWords", "behindCloser", "(I)I"⟩, 6), (⟨"ListWords", "readUnbraced", "(IZ)I"⟩, 6), (⟨"ListWords", "meaningOfBackslash", "(I)I"⟩, 6), (⟨"ListWords", "countDigits", "(III)I"⟩, 6), (⟨"ListWords", "numberAt", "(III)I"⟩, 6), (⟨"ListWords", "bytesBehindBackslash", "(I)I"⟩, 6), (⟨"ListWords", "countBlanks", "(I)I"⟩, 6), (⟨"ListWordsModel", "goOver", "(I)I"⟩, 10), (⟨"ListWordsModel", "skip", "(I)I"⟩, 10), (⟨"ListWordsModel", "at", "(I)I"⟩, 10), (⟨"ListWordsModel", "ending", "(I)I"⟩, 10), (⟨"ListWordsModel", "bare", "(I)I"⟩, 10), (⟨"ListWordsModel", "behind", "(I)I"⟩, 10)]
theorem lw_r1 : ∀ q ∈ lw_privs_1, lw_okq q := List.forall_mem_cons.mpr ⟨lw_p0, List.forall_mem_cons.mpr ⟨lw_p1, List.forall_mem_cons.mpr ⟨lw_p2, List.forall_mem_cons.mpr ⟨lw_p3, List.forall_mem_cons.mpr ⟨lw_p4, List.forall_mem_cons.mpr ⟨lw_p5, List.forall_mem_cons.mpr ⟨lw_p6, List.forall_mem_cons.mpr ⟨lw_p7, List.forall_mem_cons.mpr ⟨lw_p8, List.forall_mem_cons.mpr ⟨lw_p9, List.forall_mem_cons.mpr ⟨lw_p10, List.forall_mem_cons.mpr ⟨lw_p11, List.forall_mem_cons.mpr ⟨lw_p12, List.forall_mem_cons.mpr ⟨lw_p13, List.forall_mem_cons.mpr ⟨lw_p14, List.forall_mem_cons.mpr ⟨lw_p15, fun _ h => absurd h List.not_mem_nil⟩⟩⟩⟩⟩⟩⟩⟩⟩⟩⟩⟩⟩⟩⟩⟩
theorem lw_p16 : lw_okq (⟨"ListWordsModel", "closing", "(I)I"⟩, 10) := ⟨⟨by decide +kernel, by decide +kernel⟩, List.mem_of_getElem? (i := 305) (by decide +kernel), List.mem_of_getElem? (i := 389) (by decide +kernel), List.mem_of_getElem? (i := 390) (by decide +kernel)⟩
theorem lw_p17 : lw_okq (⟨"ListWordsModel", "quote", "(I)I"⟩, 10) := ⟨⟨by decide +kernel, by decide +kernel⟩, List.mem_of_getElem? (i := 305) (by decide +kernel), List.mem_of_getElem? (i := 393) (by decide +kernel), List.mem_of_getElem? (i := 394) (by decide +kernel)⟩
theorem lw_p18 : lw_okq (⟨"ListWordsModel", "read", "(II)V"⟩, 10) := ⟨⟨by decide +kernel, by decide +kernel⟩, List.mem_of_getElem? (i := 305) (by decide +kernel), List.mem_of_getElem? (i := 397) (by decide +kernel), List.mem_of_getElem? (i := 398) (by decide +kernel)⟩
theorem lw_p19 : lw_okq (⟨"ListWordsModel", "meaning", "(II)I"⟩, 10) := ⟨⟨by decide +kernel, by decide +kernel⟩, List.mem_of_getElem? (i := 305) (by decide +kernel), List.mem_of_getElem? (i := 401) (by decide +kernel), List.mem_of_getElem? (i := 402) (by decide +kernel)⟩
theorem lw_p20 : lw_okq (⟨"ListWordsModel", "add", "(I)V"⟩, 10) := ⟨⟨by decide +kernel, by decide +kernel⟩, List.mem_of_getElem? (i := 305) (by decide +kernel), List.mem_of_getElem? (i := 405) (by decide +kernel), List.mem_of_getElem? (i := 406) (by decide +kernel)⟩
theorem lw_p21 : lw_okq (⟨"ListWordsModel", "put", "(I)V"⟩, 10) := ⟨⟨by decide +kernel, by decide +kernel⟩, List.mem_of_getElem? (i := 305) (by decide +kernel), List.mem_of_getElem? (i := 423) (by decide +kernel), List.mem_of_getElem? (i := 424) (by decide +kernel)⟩
theorem lw_p22 : lw_okq (⟨"ListWordsModel", "write", "()V"⟩, 10) := ⟨⟨by decide +kernel, by decide +kernel⟩, List.mem_of_getElem? (i := 305) (by decide +kernel), List.mem_of_getElem? (i := 427) (by decide +kernel), List.mem_of_getElem? (i := 428) (by decide +kernel)⟩
theorem lw_p23 : lw_okq (⟨"ListWordsModel", "isPlain", "()Z"⟩, 10) := ⟨⟨by decide +kernel, by decide +kernel⟩, List.mem_of_getElem? (i := 305) (by decide +kernel), List.mem_of_getElem? (i := 431) (by decide +kernel), List.mem_of_getElem? (i := 432) (by decide +kernel)⟩
theorem lw_p24 : lw_okq (⟨"ListWordsModel", "isBraced", "()Z"⟩, 10) := ⟨⟨by decide +kernel, by decide +kernel⟩, List.mem_of_getElem? (i := 305) (by decide +kernel), List.mem_of_getElem? (i := 438) (by decide +kernel), List.mem_of_getElem? (i := 439) (by decide +kernel)⟩
theorem lw_p25 : lw_okq (⟨"ListWordsModel", "escape", "(IZ)V"⟩, 10) := ⟨⟨by decide +kernel, by decide +kernel⟩, List.mem_of_getElem? (i := 305) (by decide +kernel), List.mem_of_getElem? (i := 442) (by decide +kernel), List.mem_of_getElem? (i := 443) (by decide +kernel)⟩
theorem lw_p26 : lw_okq (⟨"ListWordsModel", "settle", "()I"⟩, 10) := ⟨⟨by decide +kernel, by decide +kernel⟩, List.mem_of_getElem? (i := 305) (by decide +kernel), List.mem_of_getElem? (i := 446) (by decide +kernel), List.mem_of_getElem? (i := 447) (by decide +kernel)⟩
def lw_privs_2 : List (MethodName × Nat) := [(⟨"ListWordsModel", "closing", "(I)I"⟩, 10), (⟨"ListWordsModel", "quote", "(I)I"⟩, 10), (⟨"ListWordsModel", "read", "(II)V"⟩, 10), (⟨"ListWordsModel", "meaning", "(II)I"⟩, 10), (⟨"ListWordsModel", "add", "(I)V"⟩, 10), (⟨"ListWordsModel", "put", "(I)V"⟩, 10), (⟨"ListWordsModel", "write", "()V"⟩, 10), (⟨"ListWordsModel", "isPlain", "()Z"⟩, 10), (⟨"ListWordsModel", "isBraced", "()Z"⟩, 10), (⟨"ListWordsModel", "escape", "(IZ)V"⟩, 10), (⟨"ListWordsModel", "settle", "()I"⟩, 10)]
theorem lw_r2 : ∀ q ∈ lw_privs_2, lw_okq q := List.forall_mem_cons.mpr ⟨lw_p16, List.forall_mem_cons.mpr ⟨lw_p17, List.forall_mem_cons.mpr ⟨lw_p18, List.forall_mem_cons.mpr ⟨lw_p19, List.forall_mem_cons.mpr ⟨lw_p20, List.forall_mem_cons.mpr ⟨lw_p21, List.forall_mem_cons.mpr ⟨lw_p22, List.forall_mem_cons.mpr ⟨lw_p23, List.forall_mem_cons.mpr ⟨lw_p24, List.forall_mem_cons.mpr ⟨lw_p25, List.forall_mem_cons.mpr ⟨lw_p26, fun _ h => absurd h List.not_mem_nil⟩⟩⟩⟩⟩⟩⟩⟩⟩⟩⟩
def lw_privs : List (MethodName × Nat) := lw_privs_1 ++ (lw_privs_2)
def lw_tbl : List Cond := k2_sels lw_privs ++ tables_1
theorem lw_privs_ok : ∀ q ∈ lw_privs, lw_okq q := by
  show ∀ q ∈ lw_privs_1 ++ (lw_privs_2), lw_okq q
  exact List.forall_mem_append.mpr ⟨lw_r1, lw_r2⟩

-- names
def wG : List Cond := lw_tbl.filter goodWord
theorem wG_good : ∀ w ∈ wG, (w.onTables && w.keeps) = true ∨ ∃ ty, w = .arrayClass ty := fun _ h => good_of_word (List.mem_filter.mp h).2
theorem mTP {i : Nat} {w : Cond} (h : (k2_sels lw_privs)[i]? = some w) (hg : goodWord w = true) : w ∈ wG := List.mem_filter.mpr ⟨List.mem_append_left _ (List.mem_of_getElem? h), hg⟩
theorem mT1 {i : Nat} {w : Cond} (h : tables_1_1[i]? = some w) (hg : goodWord w = true) : w ∈ wG := List.mem_filter.mpr ⟨List.mem_append_right _ (List.mem_append_left _ (List.mem_of_getElem? h)), hg⟩
theorem mT2 {i : Nat} {w : Cond} (h : tables_1_2[i]? = some w) (hg : goodWord w = true) : w ∈ wG := List.mem_filter.mpr ⟨List.mem_append_right _ (List.mem_append_right _ (List.mem_of_getElem? h)), hg⟩
def R_R : String := "ListWords$Row"
def F_R : u_T := fun k => match k with
  | 0 => ("ListWords$Row", "bytes", "[I", true)
  | _ => ("ListWords$Row", "size", "I", false)
def t_R : Nat → FieldType := fun k => match k with
  | 0 => .array .int
  | _ => .int
theorem n_R : ∀ a, a < 2 → ∀ b, b < 2 → a ≠ b → (F_R a).2.1 ≠ (F_R b).2.1 := by decide +kernel
theorem t_R_ok : ∀ k, k < 2 → parseFieldDescriptor (F_R k).2.2.1 = some (t_R k) := by decide +kernel
theorem i_R : ∀ w ∈ u_ws R_R F_R 2, w ∈ wG := List.forall_mem_cons.mpr ⟨(mT1 (i := 27) rfl rfl), List.forall_mem_cons.mpr ⟨(mT1 (i := 29) rfl rfl), fun _ h => absurd h List.not_mem_nil⟩⟩
theorem w_R_inst : Cond.instantiable R_R 2 ∈ wG := (mT1 (i := 20) rfl rfl)
theorem w_R_init : Cond.initialized R_R ∈ wG := (mT1 (i := 2) rfl rfl)
def R_X : String := "ListWords"
def F_X : u_T := fun k => match k with
  | 0 => ("ListWords", "tape", "LListWords$Row;", true)
  | 1 => ("ListWords", "list", "LListWords$Row;", true)
  | 2 => ("ListWords", "item", "LListWords$Row;", true)
  | 3 => ("ListWords", "word", "LListWords$Row;", true)
  | 4 => ("ListWords", "written", "LListWords$Row;", true)
  | _ => ("ListWords", "place", "I", false)
def t_X : Nat → FieldType := fun k => match k with
  | 0 => .object "ListWords$Row"
  | 1 => .object "ListWords$Row"
  | 2 => .object "ListWords$Row"
  | 3 => .object "ListWords$Row"
  | 4 => .object "ListWords$Row"
  | _ => .int
theorem n_X : ∀ a, a < 6 → ∀ b, b < 6 → a ≠ b → (F_X a).2.1 ≠ (F_X b).2.1 := by decide +kernel
theorem t_X_ok : ∀ k, k < 6 → parseFieldDescriptor (F_X k).2.2.1 = some (t_X k) := by decide +kernel
theorem i_X : ∀ w ∈ u_ws R_X F_X 6, w ∈ wG := List.forall_mem_cons.mpr ⟨(mT1 (i := 39) rfl rfl), List.forall_mem_cons.mpr ⟨(mT1 (i := 41) rfl rfl), List.forall_mem_cons.mpr ⟨(mT1 (i := 43) rfl rfl), List.forall_mem_cons.mpr ⟨(mT1 (i := 45) rfl rfl), List.forall_mem_cons.mpr ⟨(mT1 (i := 47) rfl rfl), List.forall_mem_cons.mpr ⟨(mT1 (i := 49) rfl rfl), fun _ h => absurd h List.not_mem_nil⟩⟩⟩⟩⟩⟩
theorem w_X_inst : Cond.instantiable R_X 6 ∈ wG := (mT1 (i := 12) rfl rfl)
theorem w_X_init : Cond.initialized R_X ∈ wG := (mT1 (i := 1) rfl rfl)
def R_M : String := "ListWordsModel"
def F_M : u_T := fun k => match k with
  | 0 => ("ListWordsModel", "tape", "[I", true)
  | 1 => ("ListWordsModel", "tapeSize", "I", false)
  | 2 => ("ListWordsModel", "list", "[I", true)
  | 3 => ("ListWordsModel", "listSize", "I", false)
  | 4 => ("ListWordsModel", "item", "[I", true)
  | 5 => ("ListWordsModel", "itemSize", "I", false)
  | 6 => ("ListWordsModel", "word", "[I", true)
  | 7 => ("ListWordsModel", "wordSize", "I", false)
  | 8 => ("ListWordsModel", "text", "[I", true)
  | _ => ("ListWordsModel", "textSize", "I", false)
def t_M : Nat → FieldType := fun k => match k with
  | 0 => .array .int
  | 1 => .int
  | 2 => .array .int
  | 3 => .int
  | 4 => .array .int
  | 5 => .int
  | 6 => .array .int
  | 7 => .int
  | 8 => .array .int
  | _ => .int
theorem n_M : ∀ a, a < 10 → ∀ b, b < 10 → a ≠ b → (F_M a).2.1 ≠ (F_M b).2.1 := by decide +kernel
theorem t_M_ok : ∀ k, k < 10 → parseFieldDescriptor (F_M k).2.2.1 = some (t_M k) := by decide +kernel
theorem i_M : ∀ w ∈ u_ws R_M F_M 10, w ∈ wG := List.forall_mem_cons.mpr ⟨(mT2 (i := 80) rfl rfl), List.forall_mem_cons.mpr ⟨(mT2 (i := 82) rfl rfl), List.forall_mem_cons.mpr ⟨(mT2 (i := 84) rfl rfl), List.forall_mem_cons.mpr ⟨(mT2 (i := 86) rfl rfl), List.forall_mem_cons.mpr ⟨(mT2 (i := 88) rfl rfl), List.forall_mem_cons.mpr ⟨(mT2 (i := 90) rfl rfl), List.forall_mem_cons.mpr ⟨(mT2 (i := 92) rfl rfl), List.forall_mem_cons.mpr ⟨(mT2 (i := 94) rfl rfl), List.forall_mem_cons.mpr ⟨(mT2 (i := 96) rfl rfl), List.forall_mem_cons.mpr ⟨(mT2 (i := 98) rfl rfl), fun _ h => absurd h List.not_mem_nil⟩⟩⟩⟩⟩⟩⟩⟩⟩⟩
theorem w_M_inst : Cond.instantiable R_M 10 ∈ wG := (mT2 (i := 65) rfl rfl)
theorem w_M_init : Cond.initialized R_M ∈ wG := (mT1 (i := 3) rfl rfl)
def R_S : String := "java/lang/String"
def R_SL : String := "java/lang/StringLatin1"
def R_PC : String := "jdk/internal/util/Preconditions"
abbrev classes : List vw_C := [(R_R, F_R, 2), (R_X, F_X, 6), (R_M, F_M, 10)]
theorem w_obj_inst : Cond.instanceMethod objectInit ∈ wG := (mT1 (i := 17) rfl rfl)
theorem w_obj_code : Cond.code objectInit ⟨#[0xb1]⟩ 1 none ∈ wG := (mT1 (i := 18) rfl rfl)
theorem w_arr_int : Cond.arrayClass (newarray.typeOf .int) ∈ wG := (mT1 (i := 32) rfl rfl)
theorem w_math_max_static : Cond.static Lib.Math.max.name ∈ wG := (mT1 (i := 175) rfl rfl)
theorem w_math_init : Cond.initialized "java/lang/Math" ∈ wG := (mT1 (i := 7) rfl rfl)
theorem w_math_max_code : Cond.code Lib.Math.max.name Lib.Math.max.code 2 (some .int) ∈ wG := (mT1 (i := 176) rfl rfl)
theorem w_copy_native : Cond.native arraycopyName ∈ wG := (mT1 (i := 90) rfl rfl)
theorem w_copy_static : Cond.static arraycopyName ∈ wG := (mT1 (i := 89) rfl rfl)
theorem w_system_init : Cond.initialized "java/lang/System" ∈ wG := (mT1 (i := 4) rfl rfl)
abbrev b_R_byteAt : ByteArray := prog_2_method_3_code
def y_R_byteAt : MethodName := ⟨R_R, "byteAt", "(I)I"⟩
abbrev b_X_itemAt : ByteArray := prog_1_method_12_code
def y_X_itemAt : MethodName := ⟨R_X, "itemAt", "(I)I"⟩
abbrev b_M_itemAt : ByteArray := prog_4_method_34_code
def y_M_itemAt : MethodName := ⟨R_M, "itemAt", "(I)I"⟩
abbrev b_X_listAt : ByteArray := prog_1_method_11_code
def y_X_listAt : MethodName := ⟨R_X, "listAt", "(I)I"⟩
abbrev b_M_listAt : ByteArray := prog_4_method_33_code
def y_M_listAt : MethodName := ⟨R_M, "listAt", "(I)I"⟩
abbrev b_R_putAll : ByteArray := prog_2_method_6_code
def y_R_putAll : MethodName := ⟨R_R, "putAll", "(LListWords$Row;)Z"⟩
abbrev b_R_takeAll : ByteArray := prog_2_method_8_code
def y_R_takeAll : MethodName := ⟨R_R, "takeAll", "(LListWords$Row;)I"⟩
abbrev b_X_wrap : ByteArray := prog_1_method_10_code
def y_X_wrap : MethodName := ⟨R_X, "wrap", "()I"⟩
abbrev b_M_wrap : ByteArray := prog_4_method_32_code
def y_M_wrap : MethodName := ⟨R_M, "wrap", "()I"⟩
abbrev b_R_size : ByteArray := prog_2_method_2_code
def y_R_size : MethodName := ⟨R_R, "size", "()I"⟩
abbrev b_X_isNamedSpace : ByteArray := prog_1_method_25_code
def y_X_isNamedSpace : MethodName := ⟨R_X, "isNamedSpace", "(I)Z"⟩
abbrev b_X_isSpace : ByteArray := prog_1_method_24_code
def y_X_isSpace : MethodName := ⟨R_X, "isSpace", "(I)Z"⟩
abbrev b_X_behindSpaces : ByteArray := prog_1_method_14_code
def y_X_behindSpaces : MethodName := ⟨R_X, "behindSpaces", "(I)I"⟩
abbrev b_R_cutTo : ByteArray := prog_2_method_7_code
def y_R_cutTo : MethodName := ⟨R_R, "cutTo", "(I)Z"⟩
abbrev b_R_put : ByteArray := prog_2_method_4_code
def y_R_put : MethodName := ⟨R_R, "put", "(I)Z"⟩
abbrev b_X_readBraced : ByteArray := prog_1_method_15_code
def y_X_readBraced : MethodName := ⟨R_X, "readBraced", "(I)I"⟩
abbrev b_X_behindCloser : ByteArray := prog_1_method_17_code
def y_X_behindCloser : MethodName := ⟨R_X, "behindCloser", "(I)I"⟩
abbrev b_X_digitOf : ByteArray := prog_1_method_23_code
def y_X_digitOf : MethodName := ⟨R_X, "digitOf", "(I)I"⟩
abbrev b_X_countDigits : ByteArray := prog_1_method_21_code
def y_X_countDigits : MethodName := ⟨R_X, "countDigits", "(III)I"⟩
abbrev b_X_numberAt : ByteArray := prog_1_method_22_code
def y_X_numberAt : MethodName := ⟨R_X, "numberAt", "(III)I"⟩
abbrev b_S_isLatin1 : ByteArray := prog_7_method_154_code
def y_S_isLatin1 : MethodName := ⟨R_S, "isLatin1", "()Z"⟩
abbrev b_S_coder : ByteArray := prog_7_method_152_code
def y_S_coder : MethodName := ⟨R_S, "coder", "()B"⟩
abbrev b_S_length : ByteArray := prog_7_method_54_code
def y_S_length : MethodName := ⟨R_S, "length", "()I"⟩
abbrev b_SL_canEncode1 : ByteArray := prog_8_method_4_code
def y_SL_canEncode1 : MethodName := ⟨R_SL, "canEncode", "(I)Z"⟩
abbrev b_SL_indexOfChar : ByteArray := prog_8_method_23_code
def y_SL_indexOfChar : MethodName := ⟨R_SL, "indexOfChar", "([BIII)I"⟩
abbrev b_SL_indexOf0 : ByteArray := prog_8_method_22_code
def y_SL_indexOf0 : MethodName := ⟨R_SL, "indexOf", "([BIII)I"⟩
abbrev b_S_indexOf1 : ByteArray := prog_7_method_80_code
def y_S_indexOf1 : MethodName := ⟨R_S, "indexOf", "(II)I"⟩
abbrev b_S_indexOf0 : ByteArray := prog_7_method_79_code
def y_S_indexOf0 : MethodName := ⟨R_S, "indexOf", "(I)I"⟩
abbrev b_X_meaningOfBackslash : ByteArray := prog_1_method_18_code
def y_X_meaningOfBackslash : MethodName := ⟨R_X, "meaningOfBackslash", "(I)I"⟩
abbrev b_X_countBlanks : ByteArray := prog_1_method_20_code
def y_X_countBlanks : MethodName := ⟨R_X, "countBlanks", "(I)I"⟩
abbrev b_X_bytesBehindBackslash : ByteArray := prog_1_method_19_code
def y_X_bytesBehindBackslash : MethodName := ⟨R_X, "bytesBehindBackslash", "(I)I"⟩
abbrev b_X_readUnbraced : ByteArray := prog_1_method_16_code
def y_X_readUnbraced : MethodName := ⟨R_X, "readUnbraced", "(IZ)I"⟩
abbrev b_X_nextElement : ByteArray := prog_1_method_13_code
def y_X_nextElement : MethodName := ⟨R_X, "nextElement", "()I"⟩
abbrev b_X_count : ByteArray := prog_1_method_6_code
def y_X_count : MethodName := ⟨R_X, "count", "()I"⟩
abbrev b_X_needsBackslash : ByteArray := prog_1_method_30_code
def y_X_needsBackslash : MethodName := ⟨R_X, "needsBackslash", "(LListWords$Row;I)Z"⟩
abbrev b_X_canStandBare : ByteArray := prog_1_method_27_code
def y_X_canStandBare : MethodName := ⟨R_X, "canStandBare", "(LListWords$Row;)Z"⟩
abbrev b_X_canStandInBraces : ByteArray := prog_1_method_28_code
def y_X_canStandInBraces : MethodName := ⟨R_X, "canStandInBraces", "(LListWords$Row;)Z"⟩
abbrev b_PC_checkIndex0 : ByteArray := prog_11_method_11_code
def y_PC_checkIndex0 : MethodName := ⟨R_PC, "checkIndex", "(IILjava/util/function/BiFunction;)I"⟩
abbrev b_S_checkIndex : ByteArray := prog_7_method_155_code
def y_S_checkIndex : MethodName := ⟨R_S, "checkIndex", "(II)V"⟩
abbrev b_SL_charAt : ByteArray := prog_8_method_2_code
def y_SL_charAt : MethodName := ⟨R_SL, "charAt", "([BI)C"⟩
abbrev b_S_charAt : ByteArray := prog_7_method_56_code
def y_S_charAt : MethodName := ⟨R_S, "charAt", "(I)C"⟩
abbrev b_X_writeWithBackslashes : ByteArray := prog_1_method_29_code
def y_X_writeWithBackslashes : MethodName := ⟨R_X, "writeWithBackslashes", "(LListWords$Row;LListWords$Row;)Z"⟩
abbrev b_X_writeBehind : ByteArray := prog_1_method_26_code
def y_X_writeBehind : MethodName := ⟨R_X, "writeBehind", "(LListWords$Row;LListWords$Row;)Z"⟩
abbrev b_X_again : ByteArray := prog_1_method_9_code
def y_X_again : MethodName := ⟨R_X, "again", "()I"⟩
abbrev b_M_at : ByteArray := prog_4_method_5_code
def y_M_at : MethodName := ⟨R_M, "at", "(I)I"⟩
abbrev b_M_isSpace : ByteArray := prog_4_method_3_code
def y_M_isSpace : MethodName := ⟨R_M, "isSpace", "(I)Z"⟩
abbrev b_M_skip : ByteArray := prog_4_method_11_code
def y_M_skip : MethodName := ⟨R_M, "skip", "(I)I"⟩
abbrev b_M_behind : ByteArray := prog_4_method_6_code
def y_M_behind : MethodName := ⟨R_M, "behind", "(I)I"⟩
abbrev b_M_bare : ByteArray := prog_4_method_9_code
def y_M_bare : MethodName := ⟨R_M, "bare", "(I)I"⟩
abbrev b_M_closing : ByteArray := prog_4_method_7_code
def y_M_closing : MethodName := ⟨R_M, "closing", "(I)I"⟩
abbrev b_M_quote : ByteArray := prog_4_method_8_code
def y_M_quote : MethodName := ⟨R_M, "quote", "(I)I"⟩
abbrev b_M_ending : ByteArray := prog_4_method_10_code
def y_M_ending : MethodName := ⟨R_M, "ending", "(I)I"⟩
abbrev b_M_add : ByteArray := prog_4_method_12_code
def y_M_add : MethodName := ⟨R_M, "add", "(I)V"⟩
abbrev b_M_digit : ByteArray := prog_4_method_4_code
def y_M_digit : MethodName := ⟨R_M, "digit", "(I)I"⟩
abbrev b_M_letter : ByteArray := prog_4_method_13_code
def y_M_letter : MethodName := ⟨R_M, "letter", "(I)I"⟩
abbrev b_M_meaning : ByteArray := prog_4_method_14_code
def y_M_meaning : MethodName := ⟨R_M, "meaning", "(II)I"⟩
abbrev b_M_read : ByteArray := prog_4_method_15_code
def y_M_read : MethodName := ⟨R_M, "read", "(II)V"⟩
abbrev b_M_goOver : ByteArray := prog_4_method_16_code
def y_M_goOver : MethodName := ⟨R_M, "goOver", "(I)I"⟩
abbrev b_M_put : ByteArray := prog_4_method_17_code
def y_M_put : MethodName := ⟨R_M, "put", "(I)V"⟩
abbrev b_M_isSpecial : ByteArray := prog_4_method_18_code
def y_M_isSpecial : MethodName := ⟨R_M, "isSpecial", "(I)Z"⟩
abbrev b_M_isPlain : ByteArray := prog_4_method_19_code
def y_M_isPlain : MethodName := ⟨R_M, "isPlain", "()Z"⟩
abbrev b_M_isBraced : ByteArray := prog_4_method_20_code
def y_M_isBraced : MethodName := ⟨R_M, "isBraced", "()Z"⟩
abbrev b_M_escape : ByteArray := prog_4_method_21_code
def y_M_escape : MethodName := ⟨R_M, "escape", "(IZ)V"⟩
abbrev b_M_write : ByteArray := prog_4_method_22_code
def y_M_write : MethodName := ⟨R_M, "write", "()V"⟩
abbrev b_M_settle : ByteArray := prog_4_method_23_code
def y_M_settle : MethodName := ⟨R_M, "settle", "()I"⟩
abbrev b_M_again : ByteArray := prog_4_method_31_code
def y_M_again : MethodName := ⟨R_M, "again", "()I"⟩
abbrev b_X_append : ByteArray := prog_1_method_8_code
def y_X_append : MethodName := ⟨R_X, "append", "()I"⟩
abbrev b_M_append : ByteArray := prog_4_method_30_code
def y_M_append : MethodName := ⟨R_M, "append", "()I"⟩
abbrev b_X_element : ByteArray := prog_1_method_7_code
def y_X_element : MethodName := ⟨R_X, "element", "(I)I"⟩
abbrev b_M_element : ByteArray := prog_4_method_29_code
def y_M_element : MethodName := ⟨R_M, "element", "(I)I"⟩
abbrev b_M_count : ByteArray := prog_4_method_28_code
def y_M_count : MethodName := ⟨R_M, "count", "()I"⟩
abbrev b_X_item : ByteArray := prog_1_method_5_code
def y_X_item : MethodName := ⟨R_X, "item", "()I"⟩
abbrev b_M_item : ByteArray := prog_4_method_27_code
def y_M_item : MethodName := ⟨R_M, "item", "()I"⟩
abbrev b_X_list : ByteArray := prog_1_method_4_code
def y_X_list : MethodName := ⟨R_X, "list", "()I"⟩
abbrev b_M_list : ByteArray := prog_4_method_26_code
def y_M_list : MethodName := ⟨R_M, "list", "()I"⟩
abbrev b_X_end : ByteArray := prog_1_method_3_code
def y_X_end : MethodName := ⟨R_X, "end", "(I)Z"⟩
abbrev b_M_end : ByteArray := prog_4_method_25_code
def y_M_end : MethodName := ⟨R_M, "end", "(I)Z"⟩
abbrev b_R_putNumber : ByteArray := prog_2_method_5_code
def y_R_putNumber : MethodName := ⟨R_R, "putNumber", "(I)V"⟩
abbrev b_X_feed : ByteArray := prog_1_method_2_code
def y_X_feed : MethodName := ⟨R_X, "feed", "(IIIII)Z"⟩
abbrev b_M_feed : ByteArray := prog_4_method_24_code
def y_M_feed : MethodName := ⟨R_M, "feed", "(IIIII)Z"⟩
abbrev b_R_init : ByteArray := prog_2_method_1_code
def y_R_init : MethodName := ⟨R_R, "<init>", "()V"⟩
abbrev b_X_init : ByteArray := prog_1_method_1_code
def y_X_init : MethodName := ⟨R_X, "<init>", "()V"⟩
abbrev b_M_init : ByteArray := prog_4_method_1_code
def y_M_init : MethodName := ⟨R_M, "<init>", "()V"⟩
end
section
abbrev nJS : Nat := 2
def lenJS : List Nat := [7, 8]
def bytJS : List (List Int32) := [[97, 98, 116, 110, 118, 102, 114], [34, 36, 59, 91, 92, 93, 123, 125]]
abbrev own0JS : String := "ListWords"
abbrev ix0JS : Nat := 94
abbrev tx0JS : String := "abtnvfr"
abbrev own1JS : String := "ListWords"
abbrev ix1JS : Nat := 137
abbrev tx1JS : String := "\"$;[\\]{}"
/-! ZS: the String constants of the class (their objects, their bytes), and String.COMPACT_STRINGS: what nobody writes -/
abbrev zT : Type := (Nat → Nat) × (Nat → Nat) × Value
def ZS (zz : zT) (A : Nat → Prop) (U : State) (H : Heap) : Prop :=
  vk_S nJS lenJS bytJS zz.1 zz.2.1 A U H ∧ (vk_R own0JS ix0JS tx0JS (zz.1 0) U ∧ vk_R own1JS ix1JS tx1JS (zz.1 1) U) ∧ va_Z "java/lang/String" "COMPACT_STRINGS" "Z" (.int 1) A U H ∧ va_Z "jdk/internal/util/Preconditions" "SIOOBE_FORMATTER" "Ljava/util/function/BiFunction;" zz.2.2 A U H ∧ (zz.2.2 = .null ∨ ∃ t, zz.2.2 = .ref t)
theorem ZS_same {zz : zT} {A : Nat → Prop} {u U : State} {H : Heap} (hv : U.vm = u.vm) (h : ZS zz A u H) : ZS zz A U H :=
  ⟨vk_S.moved (by rw [hv]; exact Vm.Alike.refl _) h.1, ⟨vk_R.same hv h.2.1.1, vk_R.same hv h.2.1.2⟩, va_Z.moved (by rw [hv]; exact Vm.Alike.refl _) h.2.2.1, va_Z.moved (by rw [hv]; exact Vm.Alike.refl _) h.2.2.2.1, h.2.2.2.2⟩
theorem ZS_warm {zz : zT} {A : Nat → Prop} {s U : State} {H : Heap} (hW : s.WarmedH U.vm) (h : ZS zz A s H) : ZS zz A U H :=
  ⟨vk_S.moved hW.alike h.1, ⟨vk_R.warm hW h.2.1.1, vk_R.warm hW h.2.1.2⟩, va_Z.moved hW.alike h.2.2.1, va_Z.moved hW.alike h.2.2.2.1, h.2.2.2.2⟩
theorem ZS_kept {zz : zT} {A : Nat → Prop} {U : State} {H H1 : Heap} (h : ZS zz A U H) (hq : ∀ a : Nat, a < H.size → ¬ A a → H1[a]? = H[a]?) : ZS zz A U H1 :=
  ⟨h.1.kept hq, h.2.1, h.2.2.1.kept hq, h.2.2.2.1.kept hq, h.2.2.2.2⟩
theorem ZS_narrow {zz : zT} {A B : Nat → Prop} {U : State} {H : Heap} (h : ZS zz A U H) (hAB : ∀ q, B q → A q) : ZS zz B U H :=
  ⟨h.1.narrow hAB, h.2.1, h.2.2.1.narrow hAB, h.2.2.2.1.narrow hAB, h.2.2.2.2⟩
theorem ZS_ldc0 {zz : zT} {A : Nat → Prop} {U : State} {H : Heap} (h : ZS zz A U H) : vk_R own0JS ix0JS tx0JS (zz.1 0) U := h.2.1.1
theorem ZS_ldc1 {zz : zT} {A : Nat → Prop} {U : State} {H : Heap} (h : ZS zz A U H) : vk_R own1JS ix1JS tx1JS (zz.1 1) U := h.2.1.2
theorem ZS_compact {zz : zT} {A : Nat → Prop} {U : State} {H : Heap} (h : ZS zz A U H) : va_Z "java/lang/String" "COMPACT_STRINGS" "Z" (.int 1) A U H := h.2.2.1
theorem ZS_form {zz : zT} {A : Nat → Prop} {U : State} {H : Heap} (h : ZS zz A U H) : va_Z "jdk/internal/util/Preconditions" "SIOOBE_FORMATTER" "Ljava/util/function/BiFunction;" zz.2.2 A U H := h.2.2.2.1
theorem ZS_fm {zz : zT} {A : Nat → Prop} {U : State} {H : Heap} (h : ZS zz A U H) : zz.2.2 = .null ∨ ∃ t, zz.2.2 = .ref t := h.2.2.2.2
theorem ZS_value {zz : zT} {A : Nat → Prop} {U : State} {H : Heap} (h : ZS zz A U H) {k : Nat} (hk : k < nJS) : va_OF "java/lang/String" "value" "[B" (.ref (zz.2.1 k)) (zz.1 k) A U H := (h.1.1 k hk).2.2.1
theorem ZS_coder {zz : zT} {A : Nat → Prop} {U : State} {H : Heap} (h : ZS zz A U H) {k : Nat} (hk : k < nJS) : va_OF "java/lang/String" "coder" "B" (.int 0) (zz.1 k) A U H := (h.1.1 k hk).2.1
theorem ZS_bytes {zz : zT} {A : Nat → Prop} {U : State} {H : Heap} (h : ZS zz A U H) {k : Nat} (hk : k < nJS) : va_T .byte (zz.2.1 k) (lenJS.getD k 0) (fun j => .int ((bytJS.getD k []).getD j 0)) A U H := (h.1.1 k hk).2.2.2
theorem ZS_recv {zz : zT} {A : Nat → Prop} {s : State} {H : Heap} {locs : List Loc} (h : ZS zz A s s.heap) {k : Nat} (hk : k < nJS) (hS : va_S A s.heap H locs) : ∃ cell : Cell, H[zz.1 k]? = some cell ∧ cell.vm.isStatics = false ∧ s.vm.findClass "java/lang/String" = some cell.cls := vk_recv h.1 hk hS

/-! BASE: the pure side's small rows, contracts in one form, calls in one row. Needs: lw_tbl (PART A), classes, ZS (strings and statics that nobody writes). -/
theorem iteP {c : Prop} {i : Decidable c} {α : Type} {a b : Option α} {r : α} (hc : c) (h : @ite _ c i a b = some r) : a = some r := by
  rw [if_pos hc] at h
  exact h
theorem iteN {c : Prop} {i : Decidable c} {α : Type} {a b : Option α} {r : α} (hc : ¬ c) (h : @ite _ c i a b = some r) : b = some r := by
  rw [if_neg hc] at h
  exact h
theorem guardN {c : Prop} {i : Decidable c} {α : Type} {a : Option α} {r : α} (h : @ite _ c i none a = some r) : ¬ c ∧ a = some r := by
  by_cases hc : c
  · rw [if_pos hc] at h
    cases h
  · rw [if_neg hc] at h
    exact ⟨hc, h⟩
theorem guard5 {a b c : Prop} {n0 n1 x y : Nat} (h : ¬ (a ∨ b ∨ c ∨ n0 < x ∨ n1 < y)) : ¬ a ∧ ¬ b ∧ ¬ c ∧ x ≤ n0 ∧ y ≤ n1 :=
  ⟨fun q => h (Or.inl q), fun q => h (Or.inr (Or.inl q)), fun q => h (Or.inr (Or.inr (Or.inl q))), Nat.not_lt.mp fun q => h (Or.inr (Or.inr (Or.inr (Or.inl q)))), Nat.not_lt.mp fun q => h (Or.inr (Or.inr (Or.inr (Or.inr q))))⟩
theorem bindS {α β : Type} {x : Option α} {f : α → Option β} {b : β} (h : x.bind f = some b) : ∃ a, x = some a ∧ f a = some b := by
  cases x with
  | none => cases h
  | some a => exact ⟨a, rfl, h⟩
theorem noneS {α : Type} {r : α} {P : Prop} (h : (none : Option α) = some r) : P := by cases h
theorem nb01 {v : Int32} (h : ¬ ¬ (v = 0 ∨ v = 1)) : narrow .boolean (.int v) = .int v := by
  rcases Classical.not_not.mp h with rfl | rfl <;> rfl
theorem sw_def {x : Int32} {lo : Int} {n : Nat} {offs : Array Int} {d : Int} (sp : List Nat) (hd : ∀ j, j < n → offs[j]? = some d ∨ j ∈ sp) (hx : ∀ j ∈ sp, ¬ x.toInt = lo + (j : Int)) (h1 : ¬ x.toInt < lo) (h2 : x.toInt < lo + n) : offs[(x.toInt - lo).toNat]? = some d := by
  have hj : (x.toInt - lo).toNat < n := by omega
  rcases hd _ hj with h | h
  · exact h
  · exact absurd (by omega) (hx _ h)
/-- what a walk knows of the machine and of the method that runs -/
def Cx (p : Program) (s : State) (m : MethodId) (args : Array Value) (meth : Method) (c : Code) (cc : ByteArray) (own : String) (nL : Nat) (rt : Option FieldType) : Prop :=
  p.tables.exec = Jvm.exec ∧ c.code = cc ∧ meth.sig.returnType = rt ∧ c.maxLocals = nL ∧ s.vm.findClass own = some m.cls ∧ (∀ w ∈ wG, w.before args s = true) ∧ meth.locks = false
/-- a contract's start: its cells, the classes, what nobody writes -/
def pW (D : va_G) (cA : ClassId) (zz : zT) (sz : Nat) (wc : va_W) : State → Prop := fun U => U.heap.size = sz ∧ va_P D classes wc U.heap ∧ va_K D classes [(cA, .int)] U ∧ va_D (fun _ => True) wc ∧ ZS zz (va_A wc sz) U U.heap
/-- and its end -/
def qB (D : va_G) (cA : ClassId) (A : Nat → Prop) (wN : va_W) : Unit → State → Prop := fun _ t => va_P D classes wN t.heap ∧ va_K D classes [(cA, .int)] t ∧ va_D A wN
abbrev qI (ty : FieldType) (D : va_G) (cA : ClassId) (A : Nat → Prop) (r : Int32) (wN : va_W) : Array Value → State → Outcome → State → Prop := va_Qi (fun r' (_ : Unit) => r' = r ∧ narrow ty (.int r') = .int r') (qB D cA A wN) A
abbrev qV (D : va_G) (cA : ClassId) (A : Nat → Prop) (wN : va_W) : Array Value → State → Outcome → State → Prop := va_Qv (fun (_ : Unit) => True) (qB D cA A wN) A
abbrev QI (ty : FieldType) (below : List Frame) (args : Array Value) (s : State) (D : va_G) (cA : ClassId) (A : Nat → Prop) (r : Int32) (wN : va_W) : State → Prop := MQ below (qI ty D cA A r wN) args s 0 0 A
abbrev QV (below : List Frame) (args : Array Value) (s : State) (D : va_G) (cA : ClassId) (A : Nat → Prop) (wN : va_W) : State → Prop := MQ below (qV D cA A wN) args s 0 0 A
/-- a contract without new cells: int-like answer; void -/
def MI (l : Launch) (D : va_G) (cA : ClassId) (zz : zT) (y : MethodName) (cc : ByteArray) (mx : Nat) (ty : FieldType) (rm : Room) (av : List Value) (wc : va_W) (r : Int32) (wN : va_W) : Prop :=
  ∀ sz : Nat, Met l y (Cond.code y cc mx (some ty) :: wG) rm (va_Pc av (pW D cA zz sz wc)) (qI ty D cA (va_A wc sz) r wN) 0 0 (va_A wc sz)
def MV (l : Launch) (D : va_G) (cA : ClassId) (zz : zT) (y : MethodName) (cc : ByteArray) (mx : Nat) (rm : Room) (av : List Value) (wc wN : va_W) : Prop :=
  ∀ sz : Nat, Met l y (Cond.code y cc mx none :: wG) rm (va_Pc av (pW D cA zz sz wc)) (qV D cA (va_A wc sz) wN) 0 0 (va_A wc sz)
section RET
variable {p : Program} {l : Launch} {e : Env} {R : Room} {s : State} {m : MethodId} {args : Array Value} {below : List Frame} {meth : Method} {c : Code} {H : Heap} {locs : List Loc} {cc : ByteArray} {pc : Nat} {ls : Array Slot} {D : va_G} {cA : ClassId} {A : Nat → Prop} {own : String} {nL : Nat}
theorem rI {ty : FieldType} {v : Int32} {wN : va_W} (C0 : Cx p s m args meth c cc own nL (some ty)) (hn : narrow ty (.int v) = .int v) (hK : va_K D classes [(cA, .int)] s) (hP : va_P D classes wN H) (hD : va_D A wN) (hS : va_S A s.heap H locs) (hdg : decode cc pc = .ok (.ireturn, 1)) :
    W p l e R s m args below meth c H locs 0 0 (QI ty below args s D cA A v wN) (F0 m pc ls [.int v]) := by
  obtain ⟨hx, hb, hr, hml, hown, hG, hlk⟩ := C0
  exact W.zret (v := v) hx hb hr hn (fun t ht hW => ⟨⟨v, (), rfl, ⟨rfl, hn⟩, by rw [ht]; exact hP, va_K.moved hW.alike hK, hD⟩, hS.F ht⟩) hS.2.2 hdg
theorem rV {wN : va_W} (C0 : Cx p s m args meth c cc own nL none) (hK : va_K D classes [(cA, .int)] s) (hP : va_P D classes wN H) (hD : va_D A wN) (hS : va_S A s.heap H locs) (hdg : decode cc pc = .ok (.return_, 1)) :
    W p l e R s m args below meth c H locs 0 0 (QV below args s D cA A wN) (F0 m pc ls []) := by
  obtain ⟨hx, hb, hr, hml, hown, hG, hlk⟩ := C0
  exact W.vret hx hb hr (fun t ht hW => ⟨⟨(), rfl, trivial, by rw [ht]; exact hP, va_K.moved hW.alike hK, hD⟩, hS.F ht⟩) hS.2.2 hdg
end RET
theorem MI_enter {l : Launch} {D : va_G} {cA : ClassId} {zz : zT} {y : MethodName} {cc : ByteArray} {mx : Nat} {ty : FieldType} {rm : Room} {av : List Value} {wc wN : va_W} {r0 : Int32} (hy : plainName y.cls = true) (hav : (lg_sl av).length ≤ mx)
    (body : ∀ (p : Program) (e : Env) (s : State) (m : MethodId) (below : List Frame) (meth : Method) (c : Code) (A : Nat → Prop) (ls : Array Slot), Cx p s m av.toArray meth c cc y.cls mx (some ty) → va_K D classes [(cA, .int)] s → (∀ q : Nat, s.heap.size ≤ q → A q) → ZS zz A s s.heap → va_P D classes wc s.heap → va_D A wc → lv_has ls mx (lv_args 0 av) →
      W p l e rm s m av.toArray below meth c s.heap [] 0 0 (QI ty below av.toArray s D cA A r0 wN) (F0 m 0 ls [])) : MI l D cA zz y cc mx ty rm av wc r0 wN := by
  intro sz
  refine Met.ofW (cc := cc) (maxL := mx) (ret := some ty) hy rfl ?_
  intro p e s m args below meth c s₁ B hml hv
  obtain ⟨rfl, hsz, hP, hK, hD0, hZ⟩ := hv
  subst hsz
  have hts := atoms_spec (ws := Cond.code y cc mx (some ty) :: wG) B.pre
  rw [lg_entry_eq]
  exact body p e s m below meth c (va_A wc s.heap.size) _ ⟨B.exec, B.bytes, B.returns, hml, findClass_of_methodNamed B.named, fun w h => hts w (List.mem_cons_of_mem _ h), B.notSynchronized⟩ hK (fun q h => Or.inr h) hZ hP hD0.self (lv_entry av hav)
theorem MV_enter {l : Launch} {D : va_G} {cA : ClassId} {zz : zT} {y : MethodName} {cc : ByteArray} {mx : Nat} {rm : Room} {av : List Value} {wc wN : va_W} (hy : plainName y.cls = true) (hav : (lg_sl av).length ≤ mx)
    (body : ∀ (p : Program) (e : Env) (s : State) (m : MethodId) (below : List Frame) (meth : Method) (c : Code) (A : Nat → Prop) (ls : Array Slot), Cx p s m av.toArray meth c cc y.cls mx none → va_K D classes [(cA, .int)] s → (∀ q : Nat, s.heap.size ≤ q → A q) → ZS zz A s s.heap → va_P D classes wc s.heap → va_D A wc → lv_has ls mx (lv_args 0 av) →
      W p l e rm s m av.toArray below meth c s.heap [] 0 0 (QV below av.toArray s D cA A wN) (F0 m 0 ls [])) : MV l D cA zz y cc mx rm av wc wN := by
  intro sz
  refine Met.ofW (cc := cc) (maxL := mx) (ret := none) hy rfl ?_
  intro p e s m args below meth c s₁ B hml hv
  obtain ⟨rfl, hsz, hP, hK, hD0, hZ⟩ := hv
  subst hsz
  have hts := atoms_spec (ws := Cond.code y cc mx none :: wG) B.pre
  rw [lg_entry_eq]
  exact body p e s m below meth c (va_A wc s.heap.size) _ ⟨B.exec, B.bytes, B.returns, hml, findClass_of_methodNamed B.named, fun w h => hts w (List.mem_cons_of_mem _ h), B.notSynchronized⟩ hK (fun q h => Or.inr h) hZ hP hD0.self (lv_entry av hav)
/-- what the tables say of a call: of an instance method, of a static one -/
def LkV (own : String) (idx : Nat) (y : MethodName) (cc : ByteArray) (mx : Nat) (rt : Option FieldType) (n : Nat) : Prop :=
  Cond.methodLink own idx y ∈ wG ∧ Cond.instanceMethod y ∈ wG ∧ Cond.selects y.cls y y ∈ wG ∧ Cond.initialized y.cls ∈ wG ∧ Cond.code y cc mx rt ∈ wG ∧ (y.cls ≠ "java/lang/invoke/MethodHandle" ∧ y.cls ≠ "java/lang/invoke/VarHandle" ∧ (parseMethodDescriptor y.desc).map (fun d => d.parameters.length) = some n)
def LkS (own : String) (idx : Nat) (y : MethodName) (cc : ByteArray) (mx : Nat) (rt : Option FieldType) (n : Nat) : Prop :=
  Cond.methodLink own idx y ∈ wG ∧ Cond.static y ∈ wG ∧ Cond.initialized y.cls ∈ wG ∧ Cond.code y cc mx rt ∈ wG ∧ (y.cls ≠ "java/lang/invoke/MethodHandle" ∧ y.cls ≠ "java/lang/invoke/VarHandle" ∧ (parseMethodDescriptor y.desc).map (fun d => d.parameters.length) = some n)
theorem gG {y : MethodName} {cc : ByteArray} {mx : Nat} {rt : Option FieldType} (h : Cond.code y cc mx rt ∈ wG) : GoodIn wG (Cond.code y cc mx rt :: wG) := by
  intro w hw
  rcases List.mem_cons.mp hw with rfl | hw
  · exact ⟨h, Or.inl rfl⟩
  · exact ⟨hw, wG_good w hw⟩
theorem pW_blind {av : List Value} {D : va_G} {cA : ClassId} {zz : zT} {sz : Nat} {wc : va_W} : FrameBlind (va_Pc av (pW D cA zz sz wc)) := by
  intro a U g mk q
  obtain ⟨q0, q1, qP, qK, qD, qZ⟩ := q
  exact ⟨q0, q1, qP, va_K.moved (u := U) (U := U.calling g mk a) (Vm.Alike.refl U.vm) qK, qD, ZS_same (u := U) (U := U.calling g mk a) rfl qZ⟩
section CALL
variable {p : Program} {l : Launch} {e : Env} {R : Room} {s : State} {m : MethodId} {args : Array Value} {below : List Frame} {meth : Method} {c : Code} {H : Heap} {locs : List Loc} {cells slots : Nat} {Q : State → Prop}
variable {cc : ByteArray} {pc nL : Nat} {ls : Array Slot} {rest As : List Value} {D : va_G} {cA : ClassId} {zz : zT} {A : Nat → Prop} {own : String} {rt : Option FieldType} {ws wc wr w1 wN : va_W}
variable {y : MethodName} {ci : ByteArray} {mx idx n b : Nat} {ty : FieldType} {rm : Room} {r : Int32} {st0 : List Value}
theorem pre_at (hK : va_K D classes [(cA, .int)] s) (hP : va_P D classes ws H) (hD : va_D A ws) (hS : va_S A s.heap H locs) (hA : ∀ q : Nat, s.heap.size ≤ q → A q) (hZ : ZS zz A s s.heap) (isC : List Nat) (hC : isC.map (fun i => ws[i]?) = wc.map some) (hCn : va_nd isC = true) {av : List Value} : ∀ U : State, U.heap = H → s.WarmedH U.vm → va_Pc av (pW D cA zz H.size wc) av.toArray U := by
  intro U hU hW
  have hPc : va_P D classes wc H := by
    intro k q hq
    have h1 : (isC.map (fun i => ws[i]?))[k]? = some (some q) := by rw [hC, List.getElem?_map, hq]; rfl
    rw [List.getElem?_map] at h1
    cases hi : isC[k]? with
    | none => rw [hi] at h1; cases h1
    | some i => rw [hi] at h1; exact hP i q (Option.some.inj h1)
  have hFc := va_free (wc := wc) hD hS hA isC hC
  refine ⟨rfl, by rw [hU], by rw [hU]; exact hPc, va_K.moved hW.alike hK, (hD.sub isC hCn hC).weaken (fun _ _ _ _ => trivial), ?_⟩
  rw [hU]
  exact ZS_warm hW (ZS_narrow (ZS_kept hZ (fun a h1 h2 => hS.2.1 a h1 h2)) hFc)
theorem call_ki (C0 : Cx p s m args meth c cc own nL rt) (hK : va_K D classes [(cA, .int)] s) (hP : va_P D classes ws H) (hD : va_D A ws) (hS : va_S A s.heap H locs) (hA : ∀ q : Nat, s.heap.size ≤ q → A q) (hZ : ZS zz A s s.heap) (hM : MI l D cA zz y ci mx ty rm (.ref b :: As) wc r w1)
    (isC isR isN : List Nat) (hC : isC.map (fun i => ws[i]?) = wc.map some) (hCn : va_nd isC = true) (hR : isR.map (fun i => ws[i]?) = wr.map some) (hRn : va_nd isR = true) (hdis : ∀ i ∈ isR, i ∉ isC) (hN : isN.map (fun i => (wr ++ w1)[i]?) = wN.map some) (hNn : va_nd isN = true)
    (hrecv : ∃ cell : Cell, H[b]? = some cell ∧ cell.vm.isStatics = false ∧ s.vm.findClass y.cls = some cell.cls) (lk : LkV own idx y ci mx (some ty) n) (hroom : rm.frames + 1 ≤ R.frames ∧ 8 + (mx + 11) + rm.locals ≤ R.locals) (hcs : rm.cells = 0 ∧ rm.slots = 0) (hn : As.length = n) (hsz : ls.size = nL) (hst : st0 = As.reverse ++ .ref b :: rest) (hrest : (rest.map fun v => v.category).sum ≤ 8) (hcl : cells ≤ R.cells ∧ slots ≤ R.slots)
    (hdg : decode cc pc = .ok (.invokevirtual idx, 3))
    (kk : narrow ty (.int r) = .int r → ∀ (H1 : Heap) (locs1 : List Loc), va_P D classes wN H1 → va_D A wN → va_S A s.heap H1 locs1 → W p l e R s m args below meth c H1 locs1 cells slots Q (F0 m (pc + 3) ls (.int r :: rest))) : W p l e R s m args below meth c H locs cells slots Q (F0 m pc ls st0) := by
  obtain ⟨hx, hb, hr, hml, hown, hG, hlk⟩ := C0
  obtain ⟨k1, k2, k3, k4, k5, k6⟩ := lk
  have hFc := va_free (wc := wc) hD hS hA isC hC
  have pre := pre_at (av := .ref b :: As) hK hP hD hS hA hZ isC hC hCn
  refine va_calli (va_runV (As := As) (rest := rest) ⟨hx, hb, hml, hown, hG⟩ (hM H.size) ⟨callB_of n hG (gG k5) rfl hcs.1 hcs.2 (hG _ k4) (hG _ k1) k6 hroom, hG _ k2, hG _ k3⟩ ⟨pW_blind, hrecv, pre⟩ rfl hn hsz hst (lv_room hrest) hdg hcl) hS (fun q _ h => hFc q h) hFc (fun r' u t H1 locs1 ht hvm hw hB hz1 hk1 hS1 => ?_)
  obtain ⟨rfl, hw2⟩ := hw
  obtain ⟨hP1, hK1, hD1⟩ := hB
  rw [ht] at hP1
  obtain ⟨hPj, hDj⟩ := va_join (wr := wr) (w1 := w1) hP hD isC isR hC hR hRn hdis hk1 hFc hP1 hD1
  refine kk hw2 H1 locs1 ?_ (hDj.sub isN hNn hN) hS1
  intro k q hq
  have h1 : (isN.map (fun i => (wr ++ w1)[i]?))[k]? = some (some q) := by rw [hN, List.getElem?_map, hq]; rfl
  rw [List.getElem?_map] at h1
  cases hi : isN[k]? with
  | none => rw [hi] at h1; cases h1
  | some i => rw [hi] at h1; exact hPj i q (Option.some.inj h1)
theorem call_vi (C0 : Cx p s m args meth c cc own nL rt) (hK : va_K D classes [(cA, .int)] s) (hP : va_P D classes ws H) (hD : va_D A ws) (hS : va_S A s.heap H locs) (hA : ∀ q : Nat, s.heap.size ≤ q → A q) (hZ : ZS zz A s s.heap) (hM : MI l D cA zz y ci mx ty rm (.ref b :: As) wc r w1)
    (isC isR isN : List Nat) (hC : isC.map (fun i => ws[i]?) = wc.map some) (hCn : va_nd isC = true) (hR : isR.map (fun i => ws[i]?) = wr.map some) (hRn : va_nd isR = true) (hdis : ∀ i ∈ isR, i ∉ isC) (hN : isN.map (fun i => (wr ++ w1)[i]?) = wN.map some) (hNn : va_nd isN = true)
    (q0 cj : Nat) {fs : List Value} {T : u_T} {NN : Nat} (he : wc[q0]? = some (b, .inr (cj, fs))) (hcj : classes[cj]? = some (y.cls, T, NN)) (lk : LkV own idx y ci mx (some ty) n) (hroom : rm.frames + 1 ≤ R.frames ∧ 8 + (mx + 11) + rm.locals ≤ R.locals) (hcs : rm.cells = 0 ∧ rm.slots = 0) (hn : As.length = n) (hsz : ls.size = nL) (hst : st0 = As.reverse ++ .ref b :: rest) (hrest : (rest.map fun v => v.category).sum ≤ 8) (hcl : cells ≤ R.cells ∧ slots ≤ R.slots)
    (hdg : decode cc pc = .ok (.invokevirtual idx, 3))
    (kk : narrow ty (.int r) = .int r → ∀ (H1 : Heap) (locs1 : List Loc), va_P D classes wN H1 → va_D A wN → va_S A s.heap H1 locs1 → W p l e R s m args below meth c H1 locs1 cells slots Q (F0 m (pc + 3) ls (.int r :: rest))) : W p l e R s m args below meth c H locs cells slots Q (F0 m pc ls st0) := by
  obtain ⟨hx, hb, hr, hml, hown, hG, hlk⟩ := C0
  obtain ⟨k1, k2, k3, k4, k5, k6⟩ := lk
  have hFc := va_free (wc := wc) hD hS hA isC hC
  have pre := pre_at (av := .ref b :: As) hK hP hD hS hA hZ isC hC hCn
  have hPc : va_P D classes wc H := by
    intro k q hq
    have h1 : (isC.map (fun i => ws[i]?))[k]? = some (some q) := by rw [hC, List.getElem?_map, hq]; rfl
    rw [List.getElem?_map] at h1
    cases hi : isC[k]? with
    | none => rw [hi] at h1; cases h1
    | some i => rw [hi] at h1; exact hP i q (Option.some.inj h1)
  refine va_calli (va_runV (As := As) (rest := rest) ⟨hx, hb, hml, hown, hG⟩ (hM H.size) ⟨callB_of n hG (gG k5) rfl hcs.1 hcs.2 (hG _ k4) (hG _ k1) k6 hroom, hG _ k2, hG _ k3⟩ ⟨pW_blind, va_recv hK hPc (ci := cj) (q0 := q0) hcj he, pre⟩ rfl hn hsz hst (lv_room hrest) hdg hcl) hS (fun q _ h => hFc q h) hFc (fun r' u t H1 locs1 ht hvm hw hB hz1 hk1 hS1 => ?_)
  obtain ⟨rfl, hw2⟩ := hw
  obtain ⟨hP1, hK1, hD1⟩ := hB
  rw [ht] at hP1
  obtain ⟨hPj, hDj⟩ := va_join (wr := wr) (w1 := w1) hP hD isC isR hC hR hRn hdis hk1 hFc hP1 hD1
  refine kk hw2 H1 locs1 ?_ (hDj.sub isN hNn hN) hS1
  intro k q hq
  have h1 : (isN.map (fun i => (wr ++ w1)[i]?))[k]? = some (some q) := by rw [hN, List.getElem?_map, hq]; rfl
  rw [List.getElem?_map] at h1
  cases hi : isN[k]? with
  | none => rw [hi] at h1; cases h1
  | some i => rw [hi] at h1; exact hPj i q (Option.some.inj h1)
theorem call_vv (C0 : Cx p s m args meth c cc own nL rt) (hK : va_K D classes [(cA, .int)] s) (hP : va_P D classes ws H) (hD : va_D A ws) (hS : va_S A s.heap H locs) (hA : ∀ q : Nat, s.heap.size ≤ q → A q) (hZ : ZS zz A s s.heap) (hM : MV l D cA zz y ci mx rm (.ref b :: As) wc w1)
    (isC isR isN : List Nat) (hC : isC.map (fun i => ws[i]?) = wc.map some) (hCn : va_nd isC = true) (hR : isR.map (fun i => ws[i]?) = wr.map some) (hRn : va_nd isR = true) (hdis : ∀ i ∈ isR, i ∉ isC) (hN : isN.map (fun i => (wr ++ w1)[i]?) = wN.map some) (hNn : va_nd isN = true)
    (q0 cj : Nat) {fs : List Value} {T : u_T} {NN : Nat} (he : wc[q0]? = some (b, .inr (cj, fs))) (hcj : classes[cj]? = some (y.cls, T, NN)) (lk : LkV own idx y ci mx none n) (hroom : rm.frames + 1 ≤ R.frames ∧ 8 + (mx + 11) + rm.locals ≤ R.locals) (hcs : rm.cells = 0 ∧ rm.slots = 0) (hn : As.length = n) (hsz : ls.size = nL) (hst : st0 = As.reverse ++ .ref b :: rest) (hrest : (rest.map fun v => v.category).sum ≤ 8) (hcl : cells ≤ R.cells ∧ slots ≤ R.slots)
    (hdg : decode cc pc = .ok (.invokevirtual idx, 3))
    (kk : ∀ (H1 : Heap) (locs1 : List Loc), va_P D classes wN H1 → va_D A wN → va_S A s.heap H1 locs1 → W p l e R s m args below meth c H1 locs1 cells slots Q (F0 m (pc + 3) ls rest)) : W p l e R s m args below meth c H locs cells slots Q (F0 m pc ls st0) := by
  obtain ⟨hx, hb, hr, hml, hown, hG, hlk⟩ := C0
  obtain ⟨k1, k2, k3, k4, k5, k6⟩ := lk
  have hFc := va_free (wc := wc) hD hS hA isC hC
  have pre := pre_at (av := .ref b :: As) hK hP hD hS hA hZ isC hC hCn
  have hPc : va_P D classes wc H := by
    intro k q hq
    have h1 : (isC.map (fun i => ws[i]?))[k]? = some (some q) := by rw [hC, List.getElem?_map, hq]; rfl
    rw [List.getElem?_map] at h1
    cases hi : isC[k]? with
    | none => rw [hi] at h1; cases h1
    | some i => rw [hi] at h1; exact hP i q (Option.some.inj h1)
  refine va_callv (va_runV (As := As) (rest := rest) ⟨hx, hb, hml, hown, hG⟩ (hM H.size) ⟨callB_of n hG (gG k5) rfl hcs.1 hcs.2 (hG _ k4) (hG _ k1) k6 hroom, hG _ k2, hG _ k3⟩ ⟨pW_blind, va_recv hK hPc (ci := cj) (q0 := q0) hcj he, pre⟩ rfl hn hsz hst (lv_room hrest) hdg hcl) hS (fun q _ h => hFc q h) hFc (fun u t H1 locs1 ht hvm hw hB hz1 hk1 hS1 => ?_)
  obtain ⟨hP1, hK1, hD1⟩ := hB
  rw [ht] at hP1
  obtain ⟨hPj, hDj⟩ := va_join (wr := wr) (w1 := w1) hP hD isC isR hC hR hRn hdis hk1 hFc hP1 hD1
  refine kk H1 locs1 ?_ (hDj.sub isN hNn hN) hS1
  intro k q hq
  have h1 : (isN.map (fun i => (wr ++ w1)[i]?))[k]? = some (some q) := by rw [hN, List.getElem?_map, hq]; rfl
  rw [List.getElem?_map] at h1
  cases hi : isN[k]? with
  | none => rw [hi] at h1; cases h1
  | some i => rw [hi] at h1; exact hPj i q (Option.some.inj h1)
theorem call_si (C0 : Cx p s m args meth c cc own nL rt) (hK : va_K D classes [(cA, .int)] s) (hP : va_P D classes ws H) (hD : va_D A ws) (hS : va_S A s.heap H locs) (hA : ∀ q : Nat, s.heap.size ≤ q → A q) (hZ : ZS zz A s s.heap) (hM : MI l D cA zz y ci mx ty rm As wc r w1)
    (isC isR isN : List Nat) (hC : isC.map (fun i => ws[i]?) = wc.map some) (hCn : va_nd isC = true) (hR : isR.map (fun i => ws[i]?) = wr.map some) (hRn : va_nd isR = true) (hdis : ∀ i ∈ isR, i ∉ isC) (hN : isN.map (fun i => (wr ++ w1)[i]?) = wN.map some) (hNn : va_nd isN = true)
    (lk : LkS own idx y ci mx (some ty) n) (hroom : rm.frames + 1 ≤ R.frames ∧ 8 + (mx + 11) + rm.locals ≤ R.locals) (hcs : rm.cells = 0 ∧ rm.slots = 0) (hn : As.length = n) (hsz : ls.size = nL) (hst : st0 = As.reverse ++ rest) (hrest : (rest.map fun v => v.category).sum ≤ 8) (hcl : cells ≤ R.cells ∧ slots ≤ R.slots)
    (hdg : decode cc pc = .ok (.invokestatic idx, 3))
    (kk : narrow ty (.int r) = .int r → ∀ (H1 : Heap) (locs1 : List Loc), va_P D classes wN H1 → va_D A wN → va_S A s.heap H1 locs1 → W p l e R s m args below meth c H1 locs1 cells slots Q (F0 m (pc + 3) ls (.int r :: rest))) : W p l e R s m args below meth c H locs cells slots Q (F0 m pc ls st0) := by
  obtain ⟨hx, hb, hr, hml, hown, hG, hlk⟩ := C0
  obtain ⟨k1, k2, k4, k5, k6⟩ := lk
  have hFc := va_free (wc := wc) hD hS hA isC hC
  have pre := pre_at (av := As) hK hP hD hS hA hZ isC hC hCn
  refine va_calli (va_runS (As := As) (rest := rest) ⟨hx, hb, hml, hown, hG⟩ (hM H.size) ⟨callB_of n hG (gG k5) rfl hcs.1 hcs.2 (hG _ k4) (hG _ k1) k6 hroom, hG _ k2⟩ ⟨pW_blind, pre⟩ rfl hn hsz hst (lv_room hrest) hdg hcl) hS (fun q _ h => hFc q h) hFc (fun r' u t H1 locs1 ht hvm hw hB hz1 hk1 hS1 => ?_)
  obtain ⟨rfl, hw2⟩ := hw
  obtain ⟨hP1, hK1, hD1⟩ := hB
  rw [ht] at hP1
  obtain ⟨hPj, hDj⟩ := va_join (wr := wr) (w1 := w1) hP hD isC isR hC hR hRn hdis hk1 hFc hP1 hD1
  refine kk hw2 H1 locs1 ?_ (hDj.sub isN hNn hN) hS1
  intro k q hq
  have h1 : (isN.map (fun i => (wr ++ w1)[i]?))[k]? = some (some q) := by rw [hN, List.getElem?_map, hq]; rfl
  rw [List.getElem?_map] at h1
  cases hi : isN[k]? with
  | none => rw [hi] at h1; cases h1
  | some i => rw [hi] at h1; exact hPj i q (Option.some.inj h1)
theorem call_sv (C0 : Cx p s m args meth c cc own nL rt) (hK : va_K D classes [(cA, .int)] s) (hP : va_P D classes ws H) (hD : va_D A ws) (hS : va_S A s.heap H locs) (hA : ∀ q : Nat, s.heap.size ≤ q → A q) (hZ : ZS zz A s s.heap) (hM : MV l D cA zz y ci mx rm As wc w1)
    (isC isR isN : List Nat) (hC : isC.map (fun i => ws[i]?) = wc.map some) (hCn : va_nd isC = true) (hR : isR.map (fun i => ws[i]?) = wr.map some) (hRn : va_nd isR = true) (hdis : ∀ i ∈ isR, i ∉ isC) (hN : isN.map (fun i => (wr ++ w1)[i]?) = wN.map some) (hNn : va_nd isN = true)
    (lk : LkS own idx y ci mx none n) (hroom : rm.frames + 1 ≤ R.frames ∧ 8 + (mx + 11) + rm.locals ≤ R.locals) (hcs : rm.cells = 0 ∧ rm.slots = 0) (hn : As.length = n) (hsz : ls.size = nL) (hst : st0 = As.reverse ++ rest) (hrest : (rest.map fun v => v.category).sum ≤ 8) (hcl : cells ≤ R.cells ∧ slots ≤ R.slots)
    (hdg : decode cc pc = .ok (.invokestatic idx, 3))
    (kk : ∀ (H1 : Heap) (locs1 : List Loc), va_P D classes wN H1 → va_D A wN → va_S A s.heap H1 locs1 → W p l e R s m args below meth c H1 locs1 cells slots Q (F0 m (pc + 3) ls rest)) : W p l e R s m args below meth c H locs cells slots Q (F0 m pc ls st0) := by
  obtain ⟨hx, hb, hr, hml, hown, hG, hlk⟩ := C0
  obtain ⟨k1, k2, k4, k5, k6⟩ := lk
  have hFc := va_free (wc := wc) hD hS hA isC hC
  have pre := pre_at (av := As) hK hP hD hS hA hZ isC hC hCn
  refine va_callv (va_runS (As := As) (rest := rest) ⟨hx, hb, hml, hown, hG⟩ (hM H.size) ⟨callB_of n hG (gG k5) rfl hcs.1 hcs.2 (hG _ k4) (hG _ k1) k6 hroom, hG _ k2⟩ ⟨pW_blind, pre⟩ rfl hn hsz hst (lv_room hrest) hdg hcl) hS (fun q _ h => hFc q h) hFc (fun u t H1 locs1 ht hvm hw hB hz1 hk1 hS1 => ?_)
  obtain ⟨hP1, hK1, hD1⟩ := hB
  rw [ht] at hP1
  obtain ⟨hPj, hDj⟩ := va_join (wr := wr) (w1 := w1) hP hD isC isR hC hR hRn hdis hk1 hFc hP1 hD1
  refine kk H1 locs1 ?_ (hDj.sub isN hNn hN) hS1
  intro k q hq
  have h1 : (isN.map (fun i => (wr ++ w1)[i]?))[k]? = some (some q) := by rw [hN, List.getElem?_map, hq]; rfl
  rw [List.getElem?_map] at h1
  cases hi : isN[k]? with
  | none => rw [hi] at h1; cases h1
  | some i => rw [hi] at h1; exact hPj i q (Option.some.inj h1)
end CALL
/-- a constructor's contract: cells come, their addresses are u -/
def MA {S : Type} (l : Launch) (D : va_G) (cA : ClassId) (zz : zT) (y : MethodName) (cc : ByteArray) (mx : Nat) (rm : Room) (av : List Value) (wc : va_W) (wN : S → va_W) (mc ms : Nat) : Prop :=
  ∀ sz : Nat, Met l y (Cond.code y cc mx none :: wG) rm (va_Pc av (pW D cA zz sz wc)) (va_Qv (fun (_ : S) => True) (fun u t => va_P D classes (wN u) t.heap ∧ va_K D classes [(cA, .int)] t ∧ va_D (va_A wc sz) (wN u)) (va_A wc sz)) mc ms (va_A wc sz)
def LkI (own : String) (idx : Nat) (y : MethodName) (cc : ByteArray) (mx : Nat) (n : Nat) : Prop :=
  Cond.methodLink own idx y ∈ wG ∧ Cond.instanceMethod y ∈ wG ∧ y.name = "<init>" ∧ Cond.initialized y.cls ∈ wG ∧ Cond.code y cc mx none ∈ wG ∧ (y.cls ≠ "java/lang/invoke/MethodHandle" ∧ y.cls ≠ "java/lang/invoke/VarHandle" ∧ (parseMethodDescriptor y.desc).map (fun d => d.parameters.length) = some n)
section CALLI
variable {p : Program} {l : Launch} {e : Env} {R : Room} {s : State} {m : MethodId} {args : Array Value} {below : List Frame} {meth : Method} {c : Code} {H : Heap} {locs : List Loc} {cells slots : Nat} {Q : State → Prop}
variable {cc : ByteArray} {pc nL : Nat} {ls : Array Slot} {rest As : List Value} {D : va_G} {cA : ClassId} {zz : zT} {A : Nat → Prop} {own : String} {rt : Option FieldType} {ws wc wr : va_W}
variable {y : MethodName} {ci : ByteArray} {mx idx n b mc ms : Nat} {rm : Room} {st0 : List Value}
theorem call_iv {S : Type} {w1 : S → va_W} (C0 : Cx p s m args meth c cc own nL rt) (hK : va_K D classes [(cA, .int)] s) (hP : va_P D classes ws H) (hD : va_D A ws) (hS : va_S A s.heap H locs) (hA : ∀ q : Nat, s.heap.size ≤ q → A q) (hZ : ZS zz A s s.heap) (hM : MA l D cA zz y ci mx rm (.ref b :: As) wc w1 mc ms)
    (isC isR : List Nat) (hC : isC.map (fun i => ws[i]?) = wc.map some) (hCn : va_nd isC = true) (hR : isR.map (fun i => ws[i]?) = wr.map some) (hRn : va_nd isR = true) (hdis : ∀ i ∈ isR, i ∉ isC)
    (lk : LkI own idx y ci mx n) (hroom : rm.frames + 1 ≤ R.frames ∧ 8 + (mx + 11) + rm.locals ≤ R.locals) (hcs : rm.cells = mc ∧ rm.slots = ms) (hn : As.length = n) (hsz : ls.size = nL) (hst : st0 = As.reverse ++ .ref b :: rest) (hrest : (rest.map fun v => v.category).sum ≤ 8) (hcl : cells + mc ≤ R.cells ∧ slots + ms ≤ R.slots)
    (hdg : decode cc pc = .ok (.invokespecial idx, 3))
    (kk : ∀ (u : S) (H1 : Heap) (locs1 : List Loc), va_P D classes (wr ++ w1 u) H1 → va_D A (wr ++ w1 u) → va_S A s.heap H1 locs1 → W p l e R s m args below meth c H1 locs1 (cells + mc) (slots + ms) Q (F0 m (pc + 3) ls rest)) : W p l e R s m args below meth c H locs cells slots Q (F0 m pc ls st0) := by
  obtain ⟨hx, hb, hr, hml, hown, hG, hlk⟩ := C0
  obtain ⟨k1, k2, k3, k4, k5, k6⟩ := lk
  have hFc := va_free (wc := wc) hD hS hA isC hC
  have pre := pre_at (av := .ref b :: As) hK hP hD hS hA hZ isC hC hCn
  refine va_callv (va_runI (As := As) (rest := rest) ⟨hx, hb, hml, hown, hG⟩ (hM H.size) ⟨callB_of n hG (gG k5) rfl hcs.1 hcs.2 (hG _ k4) (hG _ k1) k6 hroom, k3, hG _ k2⟩ ⟨pW_blind, pre⟩ rfl hn hsz hst (lv_room hrest) hdg hcl) hS (fun q _ h => hFc q h) hFc (fun u t H1 locs1 ht hvm hw hB hz1 hk1 hS1 => ?_)
  obtain ⟨hP1, hK1, hD1⟩ := hB
  rw [ht] at hP1
  obtain ⟨hPj, hDj⟩ := va_join (wr := wr) (w1 := w1 u) hP hD isC isR hC hR hRn hdis hk1 hFc hP1 hD1
  exact kk u H1 locs1 hPj hDj hS1
end CALLI
end
section
/-! THE CLAIM OUT OF ONE WALK OF THE LAW'S BODY. Your part is whole_start (and what it stands on); all else here is the same for every law, but numbers. -/
def R_law : String := "ListWordsLaw"
def lw_P (b : Addr) (xs : List Int32) (args : Array Value) (s : State) : Prop := args = #[.ref b] ∧ s.IntsAt b xs ∧ xs.length ≤ 3072 ∧ (Jvm.Cond.and given_1 narrow_1).before args s = true
def lw_Q (_ : Array Value) (s : State) (o : Outcome) (t : State) : Prop := o = .returned (some (.int 1)) ∧ Framed s o t [] 17 13442
def lw_Z (below : List Frame) (a : Array Value) (s : State) : State → Prop := fun t => ∃ o, t.status = .running ∧ Ended t below o ∧ lw_Q a s o t
/-- the law's own end, with 1 on the stack, nothing written that was there before, its room as the claim has it -/
theorem lw_ret {p : Program} {l : Launch} {e : Env} {s : State} {m : MethodId} {below : List Frame} {meth : Method} {c : Code} {b : Nat} (hx : p.tables.exec = Jvm.exec) (hb : c.code = code) (hr : meth.sig.returnType = ret) (hlocks : meth.locks = false) {pc : Nat} {H : Heap} {ls : Array Slot} (hdg : decode code pc = .ok (.ireturn, 1)) : W p l e room_1 s m #[Value.ref b] below meth c H [] 17 13442 (lw_Z below #[Value.ref b] s) (F0 m pc ls [.int 1]) := by
  intro T hT X
  obtain ⟨fs, hret, hrun, hended, hW, hframe⟩ := X.leave (v := some (.int 1)) (hlocks := hlocks) (fun h => by rw [hr] at h; cases h)
  have hmeth' : T.vm.method? m = some meth := X.method'
  refine ⟨T.setFrames fs, ?_, .returned (some (.int 1)), hrun, hended, rfl, ⟨_, rfl⟩, hW, hframe⟩
  jvm_step X.here [X.here.top, hx, hb, hdg, hmeth', hr, ret, narrow_b1]
  (try refine ⟨rfl, ?_⟩); (try refine ⟨rfl, ?_⟩)
  first | (intro acts; rw [hret _ acts rfl rfl rfl]) | rw [hret _ _ rfl rfl rfl]
  exact Steps.refl _
/-- what holds at the law's entry: the machine, the code, the tables' words (any of lw_tbl by 'hts w (by decide +kernel)'), the script of L ints xs at the cell b, what the Statement gives of the start (any of its parts by flat_of_before) -/
def lw_At (p : Program) (s : State) (m : MethodId) (meth : Method) (c : Code) (b L : Nat) (xs : Nat → Int32) : Prop :=
  p.tables.exec = Jvm.exec ∧ c.code = code ∧ meth.sig.returnType = ret ∧ c.maxLocals = 4 ∧ s.vm.findClass R_law = some m.cls ∧ (∀ w ∈ lw_tbl, w.before #[Value.ref b] s = true) ∧ va_X b L xs s s.heap ∧ b < s.heap.size ∧ meth.locks = false ∧ (Jvm.Cond.and given_1 narrow_1).before #[Value.ref b] s = true

theorem f_R_15 : Cond.fieldLink R_R 15 "ListWords$Row" "size" "I" ∈ wG := (mT1 (i := 26) rfl rfl)
theorem f_R_9 : Cond.fieldLink R_R 9 "ListWords$Row" "bytes" "[I" ∈ wG := (mT1 (i := 25) rfl rfl)
theorem f_X_19 : Cond.fieldLink R_X 19 "ListWords" "item" "LListWords$Row;" ∈ wG := (mT1 (i := 35) rfl rfl)
theorem m_X_58 : LkV R_X 58 y_R_byteAt b_R_byteAt 2 (some .int) 1 := ⟨(mT1 (i := 107) rfl rfl), (mT1 (i := 108) rfl rfl), (mT1 (i := 109) rfl rfl), (mT1 (i := 2) rfl rfl), (mT1 (i := 110) rfl rfl), ⟨by decide +kernel, by decide +kernel, by decide +kernel⟩⟩
theorem f_M_99 : Cond.fieldLink R_M 99 "ListWordsModel" "itemSize" "I" ∈ wG := (mT2 (i := 75) rfl rfl)
theorem f_M_16 : Cond.fieldLink R_M 16 "ListWordsModel" "item" "[I" ∈ wG := (mT2 (i := 74) rfl rfl)
theorem f_X_16 : Cond.fieldLink R_X 16 "ListWords" "list" "LListWords$Row;" ∈ wG := (mT1 (i := 34) rfl rfl)
theorem f_M_25 : Cond.fieldLink R_M 25 "ListWordsModel" "listSize" "I" ∈ wG := (mT2 (i := 73) rfl rfl)
theorem f_M_13 : Cond.fieldLink R_M 13 "ListWordsModel" "list" "[I" ∈ wG := (mT2 (i := 72) rfl rfl)
theorem m_R_23 : Cond.methodLink R_R 23 arraycopyName ∈ wG := (mT1 (i := 88) rfl rfl)
theorem m_R_29 : LkV R_R 29 y_R_putAll b_R_putAll 2 (some .boolean) 1 := ⟨(mT1 (i := 84) rfl rfl), (mT1 (i := 85) rfl rfl), (mT1 (i := 86) rfl rfl), (mT1 (i := 2) rfl rfl), (mT1 (i := 87) rfl rfl), ⟨by decide +kernel, by decide +kernel, by decide +kernel⟩⟩
theorem m_X_44 : LkV R_X 44 y_R_takeAll b_R_takeAll 2 (some .int) 1 := ⟨(mT1 (i := 80) rfl rfl), (mT1 (i := 81) rfl rfl), (mT1 (i := 82) rfl rfl), (mT1 (i := 2) rfl rfl), (mT1 (i := 83) rfl rfl), ⟨by decide +kernel, by decide +kernel, by decide +kernel⟩⟩
theorem m_X_113 : LkS R_X 113 y_X_isNamedSpace b_X_isNamedSpace 1 (some .boolean) 1 := ⟨(mT1 (i := 114) rfl rfl), (mT1 (i := 115) rfl rfl), (mT1 (i := 1) rfl rfl), (mT1 (i := 116) rfl rfl), ⟨by decide +kernel, by decide +kernel, by decide +kernel⟩⟩
theorem m_X_32 : LkV R_X 32 y_R_size b_R_size 1 (some .int) 0 := ⟨(mT1 (i := 56) rfl rfl), (mT1 (i := 57) rfl rfl), (mT1 (i := 58) rfl rfl), (mT1 (i := 2) rfl rfl), (mT1 (i := 59) rfl rfl), ⟨by decide +kernel, by decide +kernel, by decide +kernel⟩⟩
theorem m_X_75 : LkS R_X 75 y_X_isSpace b_X_isSpace 1 (some .boolean) 1 := ⟨(mT1 (i := 111) rfl rfl), (mT1 (i := 112) rfl rfl), (mT1 (i := 1) rfl rfl), (mT1 (i := 113) rfl rfl), ⟨by decide +kernel, by decide +kernel, by decide +kernel⟩⟩
theorem f_X_22 : Cond.fieldLink R_X 22 "ListWords" "word" "LListWords$Row;" ∈ wG := (mT1 (i := 36) rfl rfl)
theorem m_X_78 : LkV R_X 78 y_R_put b_R_put 2 (some .boolean) 1 := ⟨(mT1 (i := 121) rfl rfl), (mT1 (i := 65) rfl rfl), (mT1 (i := 66) rfl rfl), (mT1 (i := 2) rfl rfl), (mT1 (i := 67) rfl rfl), ⟨by decide +kernel, by decide +kernel, by decide +kernel⟩⟩
theorem m_X_110 : LkS R_X 110 y_X_digitOf b_X_digitOf 1 (some .int) 1 := ⟨(mT1 (i := 138) rfl rfl), (mT1 (i := 139) rfl rfl), (mT1 (i := 1) rfl rfl), (mT1 (i := 140) rfl rfl), ⟨by decide +kernel, by decide +kernel, by decide +kernel⟩⟩
theorem f_S_38 : Cond.fieldLink R_S 38 "java/lang/String" "COMPACT_STRINGS" "Z" ∈ wG := (mT1 (i := 158) rfl rfl)
theorem f_S_15 : Cond.fieldLink R_S 15 "java/lang/String" "coder" "B" ∈ wG := (mT2 (i := 225) rfl rfl)
theorem f_S_9 : Cond.fieldLink R_S 9 "java/lang/String" "value" "[B" ∈ wG := (mT2 (i := 226) rfl rfl)
theorem m_S_335 : LkV R_S 335 y_S_coder b_S_coder 1 (some .byte) 0 := ⟨(mT1 (i := 164) rfl rfl), (mT1 (i := 165) rfl rfl), (mT1 (i := 166) rfl rfl), (mT1 (i := 5) rfl rfl), (mT1 (i := 167) rfl rfl), ⟨by decide +kernel, by decide +kernel, by decide +kernel⟩⟩
theorem m_SL_88 : LkS R_SL 88 y_SL_canEncode1 b_SL_canEncode1 1 (some .boolean) 1 := ⟨(mT1 (i := 171) rfl rfl), (mT1 (i := 172) rfl rfl), (mT1 (i := 6) rfl rfl), (mT1 (i := 173) rfl rfl), ⟨by decide +kernel, by decide +kernel, by decide +kernel⟩⟩
theorem m_SL_92 : Cond.methodLink R_SL 92 Lib.Math.max.name ∈ wG := (mT1 (i := 174) rfl rfl)
theorem m_SL_38 : Cond.methodLink R_SL 38 Lib.Math.min.name ∈ wG := (mT1 (i := 177) rfl rfl)
theorem m_SL_95 : LkS R_SL 95 y_SL_indexOfChar b_SL_indexOfChar 6 (some .int) 4 := ⟨(mT1 (i := 180) rfl rfl), (mT1 (i := 181) rfl rfl), (mT1 (i := 6) rfl rfl), (mT1 (i := 182) rfl rfl), ⟨by decide +kernel, by decide +kernel, by decide +kernel⟩⟩
theorem m_S_492 : LkV R_S 492 y_S_isLatin1 b_S_isLatin1 1 (some .boolean) 0 := ⟨(mT1 (i := 154) rfl rfl), (mT1 (i := 155) rfl rfl), (mT1 (i := 156) rfl rfl), (mT1 (i := 5) rfl rfl), (mT1 (i := 157) rfl rfl), ⟨by decide +kernel, by decide +kernel, by decide +kernel⟩⟩
theorem m_S_505 : LkV R_S 505 y_S_length b_S_length 1 (some .int) 0 := ⟨(mT1 (i := 160) rfl rfl), (mT1 (i := 161) rfl rfl), (mT1 (i := 162) rfl rfl), (mT1 (i := 5) rfl rfl), (mT1 (i := 163) rfl rfl), ⟨by decide +kernel, by decide +kernel, by decide +kernel⟩⟩
theorem m_S_637 : LkS R_S 637 y_SL_indexOf0 b_SL_indexOf0 4 (some .int) 4 := ⟨(mT1 (i := 168) rfl rfl), (mT1 (i := 169) rfl rfl), (mT1 (i := 6) rfl rfl), (mT1 (i := 170) rfl rfl), ⟨by decide +kernel, by decide +kernel, by decide +kernel⟩⟩
theorem m_S_633 : LkV R_S 633 y_S_indexOf1 b_S_indexOf1 3 (some .int) 2 := ⟨(mT1 (i := 150) rfl rfl), (mT1 (i := 151) rfl rfl), (mT1 (i := 152) rfl rfl), (mT1 (i := 5) rfl rfl), (mT1 (i := 153) rfl rfl), ⟨by decide +kernel, by decide +kernel, by decide +kernel⟩⟩
theorem m_X_87 : LkV R_X 87 y_X_countDigits b_X_countDigits 5 (some .int) 3 := ⟨(mT1 (i := 134) rfl rfl), (mT1 (i := 136) rfl rfl), (mTP (i := 6) rfl rfl), (mT1 (i := 1) rfl rfl), (mT1 (i := 137) rfl rfl), ⟨by decide +kernel, by decide +kernel, by decide +kernel⟩⟩
theorem m_X_91 : LkV R_X 91 y_X_numberAt b_X_numberAt 6 (some .int) 3 := ⟨(mT1 (i := 141) rfl rfl), (mT1 (i := 143) rfl rfl), (mTP (i := 7) rfl rfl), (mT1 (i := 1) rfl rfl), (mT1 (i := 144) rfl rfl), ⟨by decide +kernel, by decide +kernel, by decide +kernel⟩⟩
theorem m_X_96 : LkV R_X 96 y_S_indexOf0 b_S_indexOf0 2 (some .int) 1 := ⟨(mT1 (i := 146) rfl rfl), (mT1 (i := 147) rfl rfl), (mT1 (i := 148) rfl rfl), (mT1 (i := 5) rfl rfl), (mT1 (i := 149) rfl rfl), ⟨by decide +kernel, by decide +kernel, by decide +kernel⟩⟩
theorem m_X_101 : LkV R_X 101 y_X_countBlanks b_X_countBlanks 3 (some .int) 1 := ⟨(mT1 (i := 236) rfl rfl), (mT1 (i := 238) rfl rfl), (mTP (i := 9) rfl rfl), (mT1 (i := 1) rfl rfl), (mT1 (i := 239) rfl rfl), ⟨by decide +kernel, by decide +kernel, by decide +kernel⟩⟩
theorem m_X_104 : Cond.methodLink R_X 104 Lib.Math.max.name ∈ wG := (mT2 (i := 0) rfl rfl)
theorem m_X_81 : LkV R_X 81 y_X_meaningOfBackslash b_X_meaningOfBackslash 5 (some .int) 1 := ⟨(mT1 (i := 130) rfl rfl), (mT1 (i := 132) rfl rfl), (mTP (i := 5) rfl rfl), (mT1 (i := 1) rfl rfl), (mT1 (i := 133) rfl rfl), ⟨by decide +kernel, by decide +kernel, by decide +kernel⟩⟩
theorem m_X_84 : LkV R_X 84 y_X_bytesBehindBackslash b_X_bytesBehindBackslash 3 (some .int) 1 := ⟨(mT1 (i := 232) rfl rfl), (mT1 (i := 234) rfl rfl), (mTP (i := 8) rfl rfl), (mT1 (i := 1) rfl rfl), (mT1 (i := 235) rfl rfl), ⟨by decide +kernel, by decide +kernel, by decide +kernel⟩⟩
theorem f_X_28 : Cond.fieldLink R_X 28 "ListWords" "place" "I" ∈ wG := (mT1 (i := 38) rfl rfl)
theorem m_X_62 : LkV R_X 62 y_X_behindSpaces b_X_behindSpaces 3 (some .int) 1 := ⟨(mT1 (i := 103) rfl rfl), (mT1 (i := 105) rfl rfl), (mTP (i := 1) rfl rfl), (mT1 (i := 1) rfl rfl), (mT1 (i := 106) rfl rfl), ⟨by decide +kernel, by decide +kernel, by decide +kernel⟩⟩
theorem m_X_40 : LkV R_X 40 y_R_cutTo b_R_cutTo 2 (some .boolean) 1 := ⟨(mT1 (i := 72) rfl rfl), (mT1 (i := 73) rfl rfl), (mT1 (i := 74) rfl rfl), (mT1 (i := 2) rfl rfl), (mT1 (i := 75) rfl rfl), ⟨by decide +kernel, by decide +kernel, by decide +kernel⟩⟩
theorem m_X_65 : LkV R_X 65 y_X_readBraced b_X_readBraced 5 (some .int) 1 := ⟨(mT1 (i := 117) rfl rfl), (mT1 (i := 119) rfl rfl), (mTP (i := 2) rfl rfl), (mT1 (i := 1) rfl rfl), (mT1 (i := 120) rfl rfl), ⟨by decide +kernel, by decide +kernel, by decide +kernel⟩⟩
theorem m_X_68 : LkV R_X 68 y_X_behindCloser b_X_behindCloser 3 (some .int) 1 := ⟨(mT1 (i := 122) rfl rfl), (mT1 (i := 124) rfl rfl), (mTP (i := 3) rfl rfl), (mT1 (i := 1) rfl rfl), (mT1 (i := 125) rfl rfl), ⟨by decide +kernel, by decide +kernel, by decide +kernel⟩⟩
theorem m_X_71 : LkV R_X 71 y_X_readUnbraced b_X_readUnbraced 5 (some .int) 2 := ⟨(mT1 (i := 126) rfl rfl), (mT1 (i := 128) rfl rfl), (mTP (i := 4) rfl rfl), (mT1 (i := 1) rfl rfl), (mT1 (i := 129) rfl rfl), ⟨by decide +kernel, by decide +kernel, by decide +kernel⟩⟩
theorem m_X_48 : LkV R_X 48 y_X_nextElement b_X_nextElement 4 (some .int) 0 := ⟨(mT1 (i := 99) rfl rfl), (mT1 (i := 101) rfl rfl), (mTP (i := 0) rfl rfl), (mT1 (i := 1) rfl rfl), (mT1 (i := 102) rfl rfl), ⟨by decide +kernel, by decide +kernel, by decide +kernel⟩⟩
theorem m_X_129 : LkS R_X 129 y_X_needsBackslash b_X_needsBackslash 3 (some .boolean) 2 := ⟨(mT2 (i := 17) rfl rfl), (mT2 (i := 18) rfl rfl), (mT1 (i := 1) rfl rfl), (mT2 (i := 19) rfl rfl), ⟨by decide +kernel, by decide +kernel, by decide +kernel⟩⟩
theorem f_S_1053 : Cond.fieldLink R_S 1053 "jdk/internal/util/Preconditions" "SIOOBE_FORMATTER" "Ljava/util/function/BiFunction;" ∈ wG := (mT1 (i := 201) rfl rfl)
theorem m_S_1059 : LkS R_S 1059 y_PC_checkIndex0 b_PC_checkIndex0 3 (some .int) 3 := ⟨(mT2 (i := 38) rfl rfl), (mT2 (i := 39) rfl rfl), (mT1 (i := 9) rfl rfl), (mT2 (i := 40) rfl rfl), ⟨by decide +kernel, by decide +kernel, by decide +kernel⟩⟩
theorem m_SL_9 : LkS R_SL 9 y_S_checkIndex b_S_checkIndex 2 none 2 := ⟨(mT2 (i := 35) rfl rfl), (mT2 (i := 36) rfl rfl), (mT1 (i := 5) rfl rfl), (mT2 (i := 37) rfl rfl), ⟨by decide +kernel, by decide +kernel, by decide +kernel⟩⟩
theorem m_S_495 : LkS R_S 495 y_SL_charAt b_SL_charAt 2 (some .char) 2 := ⟨(mT2 (i := 32) rfl rfl), (mT2 (i := 33) rfl rfl), (mT1 (i := 6) rfl rfl), (mT2 (i := 34) rfl rfl), ⟨by decide +kernel, by decide +kernel, by decide +kernel⟩⟩
theorem m_X_133 : LkV R_X 133 y_S_charAt b_S_charAt 2 (some .char) 1 := ⟨(mT2 (i := 28) rfl rfl), (mT2 (i := 29) rfl rfl), (mT2 (i := 30) rfl rfl), (mT1 (i := 5) rfl rfl), (mT2 (i := 31) rfl rfl), ⟨by decide +kernel, by decide +kernel, by decide +kernel⟩⟩
theorem m_X_116 : LkS R_X 116 y_X_canStandBare b_X_canStandBare 2 (some .boolean) 1 := ⟨(mT2 (i := 14) rfl rfl), (mT2 (i := 15) rfl rfl), (mT1 (i := 1) rfl rfl), (mT2 (i := 16) rfl rfl), ⟨by decide +kernel, by decide +kernel, by decide +kernel⟩⟩
theorem m_X_120 : LkV R_X 120 y_R_putAll b_R_putAll 2 (some .boolean) 1 := ⟨(mT2 (i := 21) rfl rfl), (mT1 (i := 85) rfl rfl), (mT1 (i := 86) rfl rfl), (mT1 (i := 2) rfl rfl), (mT1 (i := 87) rfl rfl), ⟨by decide +kernel, by decide +kernel, by decide +kernel⟩⟩
theorem m_X_123 : LkS R_X 123 y_X_canStandInBraces b_X_canStandInBraces 4 (some .boolean) 1 := ⟨(mT2 (i := 22) rfl rfl), (mT2 (i := 23) rfl rfl), (mT1 (i := 1) rfl rfl), (mT2 (i := 24) rfl rfl), ⟨by decide +kernel, by decide +kernel, by decide +kernel⟩⟩
theorem m_X_126 : LkS R_X 126 y_X_writeWithBackslashes b_X_writeWithBackslashes 4 (some .boolean) 2 := ⟨(mT2 (i := 25) rfl rfl), (mT2 (i := 26) rfl rfl), (mT1 (i := 1) rfl rfl), (mT2 (i := 27) rfl rfl), ⟨by decide +kernel, by decide +kernel, by decide +kernel⟩⟩
theorem m_X_51 : LkV R_X 51 y_X_count b_X_count 3 (some .int) 0 := ⟨(mT2 (i := 6) rfl rfl), (mT1 (i := 96) rfl rfl), (mT1 (i := 97) rfl rfl), (mT1 (i := 1) rfl rfl), (mT1 (i := 98) rfl rfl), ⟨by decide +kernel, by decide +kernel, by decide +kernel⟩⟩
theorem f_X_25 : Cond.fieldLink R_X 25 "ListWords" "written" "LListWords$Row;" ∈ wG := (mT1 (i := 37) rfl rfl)
theorem m_X_54 : LkS R_X 54 y_X_writeBehind b_X_writeBehind 2 (some .boolean) 2 := ⟨(mT2 (i := 11) rfl rfl), (mT2 (i := 12) rfl rfl), (mT1 (i := 1) rfl rfl), (mT2 (i := 13) rfl rfl), ⟨by decide +kernel, by decide +kernel, by decide +kernel⟩⟩
theorem m_M_29 : LkV R_M 29 y_M_at b_M_at 2 (some .int) 1 := ⟨(mT2 (i := 129) rfl rfl), (mT2 (i := 131) rfl rfl), (mTP (i := 12) rfl rfl), (mT1 (i := 3) rfl rfl), (mT2 (i := 132) rfl rfl), ⟨by decide +kernel, by decide +kernel, by decide +kernel⟩⟩
theorem m_M_33 : LkS R_M 33 y_M_isSpace b_M_isSpace 1 (some .boolean) 1 := ⟨(mT2 (i := 133) rfl rfl), (mT2 (i := 134) rfl rfl), (mT1 (i := 3) rfl rfl), (mT2 (i := 135) rfl rfl), ⟨by decide +kernel, by decide +kernel, by decide +kernel⟩⟩
theorem m_M_37 : LkV R_M 37 y_M_behind b_M_behind 3 (some .int) 1 := ⟨(mT2 (i := 144) rfl rfl), (mT2 (i := 146) rfl rfl), (mTP (i := 15) rfl rfl), (mT1 (i := 3) rfl rfl), (mT2 (i := 147) rfl rfl), ⟨by decide +kernel, by decide +kernel, by decide +kernel⟩⟩
theorem m_M_40 : LkV R_M 40 y_M_bare b_M_bare 3 (some .int) 1 := ⟨(mT2 (i := 140) rfl rfl), (mT2 (i := 142) rfl rfl), (mTP (i := 14) rfl rfl), (mT1 (i := 3) rfl rfl), (mT2 (i := 143) rfl rfl), ⟨by decide +kernel, by decide +kernel, by decide +kernel⟩⟩
theorem m_M_43 : LkV R_M 43 y_M_closing b_M_closing 5 (some .int) 1 := ⟨(mT2 (i := 148) rfl rfl), (mT2 (i := 150) rfl rfl), (mTP (i := 16) rfl rfl), (mT1 (i := 3) rfl rfl), (mT2 (i := 151) rfl rfl), ⟨by decide +kernel, by decide +kernel, by decide +kernel⟩⟩
theorem m_M_46 : LkV R_M 46 y_M_quote b_M_quote 3 (some .int) 1 := ⟨(mT2 (i := 152) rfl rfl), (mT2 (i := 154) rfl rfl), (mTP (i := 17) rfl rfl), (mT1 (i := 3) rfl rfl), (mT2 (i := 155) rfl rfl), ⟨by decide +kernel, by decide +kernel, by decide +kernel⟩⟩
theorem f_M_19 : Cond.fieldLink R_M 19 "ListWordsModel" "word" "[I" ∈ wG := (mT2 (i := 76) rfl rfl)
theorem f_M_49 : Cond.fieldLink R_M 49 "ListWordsModel" "wordSize" "I" ∈ wG := (mT2 (i := 77) rfl rfl)
theorem m_M_52 : LkV R_M 52 y_M_add b_M_add 2 none 1 := ⟨(mT2 (i := 164) rfl rfl), (mT2 (i := 166) rfl rfl), (mTP (i := 20) rfl rfl), (mT1 (i := 3) rfl rfl), (mT2 (i := 167) rfl rfl), ⟨by decide +kernel, by decide +kernel, by decide +kernel⟩⟩
theorem m_M_56 : LkS R_M 56 y_M_digit b_M_digit 2 (some .int) 1 := ⟨(mT2 (i := 168) rfl rfl), (mT2 (i := 169) rfl rfl), (mT1 (i := 3) rfl rfl), (mT2 (i := 170) rfl rfl), ⟨by decide +kernel, by decide +kernel, by decide +kernel⟩⟩
theorem m_M_59 : LkS R_M 59 y_M_letter b_M_letter 1 (some .int) 1 := ⟨(mT2 (i := 171) rfl rfl), (mT2 (i := 172) rfl rfl), (mT1 (i := 3) rfl rfl), (mT2 (i := 173) rfl rfl), ⟨by decide +kernel, by decide +kernel, by decide +kernel⟩⟩
theorem m_M_62 : LkV R_M 62 y_M_meaning b_M_meaning 10 (some .int) 2 := ⟨(mT2 (i := 160) rfl rfl), (mT2 (i := 162) rfl rfl), (mTP (i := 19) rfl rfl), (mT1 (i := 3) rfl rfl), (mT2 (i := 163) rfl rfl), ⟨by decide +kernel, by decide +kernel, by decide +kernel⟩⟩
theorem m_M_66 : LkV R_M 66 y_M_skip b_M_skip 3 (some .int) 1 := ⟨(mT2 (i := 125) rfl rfl), (mT2 (i := 127) rfl rfl), (mTP (i := 11) rfl rfl), (mT1 (i := 3) rfl rfl), (mT2 (i := 128) rfl rfl), ⟨by decide +kernel, by decide +kernel, by decide +kernel⟩⟩
theorem m_M_69 : LkV R_M 69 y_M_ending b_M_ending 5 (some .int) 1 := ⟨(mT2 (i := 136) rfl rfl), (mT2 (i := 138) rfl rfl), (mTP (i := 13) rfl rfl), (mT1 (i := 3) rfl rfl), (mT2 (i := 139) rfl rfl), ⟨by decide +kernel, by decide +kernel, by decide +kernel⟩⟩
theorem m_M_72 : LkV R_M 72 y_M_read b_M_read 7 none 2 := ⟨(mT2 (i := 156) rfl rfl), (mT2 (i := 158) rfl rfl), (mTP (i := 18) rfl rfl), (mT1 (i := 3) rfl rfl), (mT2 (i := 159) rfl rfl), ⟨by decide +kernel, by decide +kernel, by decide +kernel⟩⟩
theorem f_M_22 : Cond.fieldLink R_M 22 "ListWordsModel" "text" "[I" ∈ wG := (mT2 (i := 78) rfl rfl)
theorem f_M_76 : Cond.fieldLink R_M 76 "ListWordsModel" "textSize" "I" ∈ wG := (mT2 (i := 79) rfl rfl)
theorem m_M_79 : LkS R_M 79 y_M_isSpecial b_M_isSpecial 1 (some .boolean) 1 := ⟨(mT2 (i := 194) rfl rfl), (mT2 (i := 195) rfl rfl), (mT1 (i := 3) rfl rfl), (mT2 (i := 196) rfl rfl), ⟨by decide +kernel, by decide +kernel, by decide +kernel⟩⟩
theorem m_M_82 : LkV R_M 82 y_M_put b_M_put 2 none 1 := ⟨(mT2 (i := 182) rfl rfl), (mT2 (i := 184) rfl rfl), (mTP (i := 21) rfl rfl), (mT1 (i := 3) rfl rfl), (mT2 (i := 185) rfl rfl), ⟨by decide +kernel, by decide +kernel, by decide +kernel⟩⟩
theorem m_M_85 : LkV R_M 85 y_M_isPlain b_M_isPlain 3 (some .boolean) 0 := ⟨(mT2 (i := 190) rfl rfl), (mT2 (i := 192) rfl rfl), (mTP (i := 23) rfl rfl), (mT1 (i := 3) rfl rfl), (mT2 (i := 193) rfl rfl), ⟨by decide +kernel, by decide +kernel, by decide +kernel⟩⟩
theorem m_M_89 : LkV R_M 89 y_M_isBraced b_M_isBraced 4 (some .boolean) 0 := ⟨(mT2 (i := 197) rfl rfl), (mT2 (i := 199) rfl rfl), (mTP (i := 24) rfl rfl), (mT1 (i := 3) rfl rfl), (mT2 (i := 200) rfl rfl), ⟨by decide +kernel, by decide +kernel, by decide +kernel⟩⟩
theorem m_M_92 : LkV R_M 92 y_M_escape b_M_escape 3 none 2 := ⟨(mT2 (i := 201) rfl rfl), (mT2 (i := 203) rfl rfl), (mTP (i := 25) rfl rfl), (mT1 (i := 3) rfl rfl), (mT2 (i := 204) rfl rfl), ⟨by decide +kernel, by decide +kernel, by decide +kernel⟩⟩
theorem m_M_102 : LkV R_M 102 y_M_goOver b_M_goOver 5 (some .int) 1 := ⟨(mT2 (i := 121) rfl rfl), (mT2 (i := 123) rfl rfl), (mTP (i := 10) rfl rfl), (mT1 (i := 3) rfl rfl), (mT2 (i := 124) rfl rfl), ⟨by decide +kernel, by decide +kernel, by decide +kernel⟩⟩
theorem m_M_105 : LkV R_M 105 y_M_write b_M_write 4 none 0 := ⟨(mT2 (i := 186) rfl rfl), (mT2 (i := 188) rfl rfl), (mTP (i := 22) rfl rfl), (mT1 (i := 3) rfl rfl), (mT2 (i := 189) rfl rfl), ⟨by decide +kernel, by decide +kernel, by decide +kernel⟩⟩
theorem m_M_108 : LkV R_M 108 y_M_settle b_M_settle 2 (some .int) 0 := ⟨(mT2 (i := 205) rfl rfl), (mT2 (i := 207) rfl rfl), (mTP (i := 26) rfl rfl), (mT1 (i := 3) rfl rfl), (mT2 (i := 208) rfl rfl), ⟨by decide +kernel, by decide +kernel, by decide +kernel⟩⟩
theorem f_X_10 : Cond.fieldLink R_X 10 "ListWords" "tape" "LListWords$Row;" ∈ wG := (mT1 (i := 33) rfl rfl)
theorem f_M_96 : Cond.fieldLink R_M 96 "ListWordsModel" "tapeSize" "I" ∈ wG := (mT2 (i := 71) rfl rfl)
theorem f_M_7 : Cond.fieldLink R_M 7 "ListWordsModel" "tape" "[I" ∈ wG := (mT2 (i := 70) rfl rfl)
theorem m_R_19 : LkV R_R 19 y_R_put b_R_put 2 (some .boolean) 1 := ⟨(mT1 (i := 64) rfl rfl), (mT1 (i := 65) rfl rfl), (mT1 (i := 66) rfl rfl), (mT1 (i := 2) rfl rfl), (mT1 (i := 67) rfl rfl), ⟨by decide +kernel, by decide +kernel, by decide +kernel⟩⟩
theorem m_X_36 : LkV R_X 36 y_R_putNumber b_R_putNumber 2 none 1 := ⟨(mT1 (i := 60) rfl rfl), (mT1 (i := 61) rfl rfl), (mT1 (i := 62) rfl rfl), (mT1 (i := 2) rfl rfl), (mT1 (i := 63) rfl rfl), ⟨by decide +kernel, by decide +kernel, by decide +kernel⟩⟩
theorem m_R_3 : Cond.methodLink R_R 3 objectInit ∈ wG := (mT1 (i := 24) rfl rfl)
theorem m_X_1 : Cond.methodLink R_X 1 objectInit ∈ wG := (mT1 (i := 16) rfl rfl)
theorem k_X_7 : Cond.classLink R_X 7 R_R ∈ wG := (mT1 (i := 19) rfl rfl)
theorem m_X_9 : LkI R_X 9 y_R_init b_R_init 1 0 := ⟨(mT1 (i := 21) rfl rfl), (mT1 (i := 22) rfl rfl), rfl, (mT1 (i := 2) rfl rfl), (mT1 (i := 23) rfl rfl), ⟨by decide +kernel, by decide +kernel, by decide +kernel⟩⟩
theorem m_M_1 : Cond.methodLink R_M 1 objectInit ∈ wG := (mT2 (i := 69) rfl rfl)
theorem k_L_7 : Cond.classLink R_law 7 R_X ∈ wG := (mT1 (i := 11) rfl rfl)
theorem m_L_9 : LkI R_law 9 y_X_init b_X_init 1 0 := ⟨(mT1 (i := 13) rfl rfl), (mT1 (i := 14) rfl rfl), rfl, (mT1 (i := 1) rfl rfl), (mT1 (i := 15) rfl rfl), ⟨by decide +kernel, by decide +kernel, by decide +kernel⟩⟩
theorem k_L_10 : Cond.classLink R_law 10 R_M ∈ wG := (mT2 (i := 64) rfl rfl)
theorem m_L_12 : LkI R_law 12 y_M_init b_M_init 1 0 := ⟨(mT2 (i := 66) rfl rfl), (mT2 (i := 67) rfl rfl), rfl, (mT1 (i := 3) rfl rfl), (mT2 (i := 68) rfl rfl), ⟨by decide +kernel, by decide +kernel, by decide +kernel⟩⟩
theorem m_L_13 : LkV R_law 13 y_X_feed b_X_feed 6 (some .boolean) 5 := ⟨(mT1 (i := 52) rfl rfl), (mT1 (i := 53) rfl rfl), (mT1 (i := 54) rfl rfl), (mT1 (i := 1) rfl rfl), (mT1 (i := 55) rfl rfl), ⟨by decide +kernel, by decide +kernel, by decide +kernel⟩⟩
theorem m_L_17 : LkV R_law 17 y_M_feed b_M_feed 8 (some .boolean) 5 := ⟨(mT2 (i := 101) rfl rfl), (mT2 (i := 102) rfl rfl), (mT2 (i := 103) rfl rfl), (mT1 (i := 3) rfl rfl), (mT2 (i := 104) rfl rfl), ⟨by decide +kernel, by decide +kernel, by decide +kernel⟩⟩
theorem m_L_18 : LkV R_law 18 y_X_end b_X_end 2 (some .boolean) 1 := ⟨(mT1 (i := 68) rfl rfl), (mT1 (i := 69) rfl rfl), (mT1 (i := 70) rfl rfl), (mT1 (i := 1) rfl rfl), (mT1 (i := 71) rfl rfl), ⟨by decide +kernel, by decide +kernel, by decide +kernel⟩⟩
theorem m_L_22 : LkV R_law 22 y_M_end b_M_end 2 (some .boolean) 1 := ⟨(mT2 (i := 105) rfl rfl), (mT2 (i := 106) rfl rfl), (mT2 (i := 107) rfl rfl), (mT1 (i := 3) rfl rfl), (mT2 (i := 108) rfl rfl), ⟨by decide +kernel, by decide +kernel, by decide +kernel⟩⟩
theorem m_L_23 : LkV R_law 23 y_X_list b_X_list 1 (some .int) 0 := ⟨(mT1 (i := 76) rfl rfl), (mT1 (i := 77) rfl rfl), (mT1 (i := 78) rfl rfl), (mT1 (i := 1) rfl rfl), (mT1 (i := 79) rfl rfl), ⟨by decide +kernel, by decide +kernel, by decide +kernel⟩⟩
theorem m_L_27 : LkV R_law 27 y_M_list b_M_list 2 (some .int) 0 := ⟨(mT2 (i := 109) rfl rfl), (mT2 (i := 110) rfl rfl), (mT2 (i := 111) rfl rfl), (mT1 (i := 3) rfl rfl), (mT2 (i := 112) rfl rfl), ⟨by decide +kernel, by decide +kernel, by decide +kernel⟩⟩
theorem m_L_28 : LkV R_law 28 y_X_item b_X_item 1 (some .int) 0 := ⟨(mT1 (i := 91) rfl rfl), (mT1 (i := 92) rfl rfl), (mT1 (i := 93) rfl rfl), (mT1 (i := 1) rfl rfl), (mT1 (i := 94) rfl rfl), ⟨by decide +kernel, by decide +kernel, by decide +kernel⟩⟩
theorem m_L_31 : LkV R_law 31 y_M_item b_M_item 2 (some .int) 0 := ⟨(mT2 (i := 113) rfl rfl), (mT2 (i := 114) rfl rfl), (mT2 (i := 115) rfl rfl), (mT1 (i := 3) rfl rfl), (mT2 (i := 116) rfl rfl), ⟨by decide +kernel, by decide +kernel, by decide +kernel⟩⟩
theorem m_L_32 : LkV R_law 32 y_X_count b_X_count 3 (some .int) 0 := ⟨(mT1 (i := 95) rfl rfl), (mT1 (i := 96) rfl rfl), (mT1 (i := 97) rfl rfl), (mT1 (i := 1) rfl rfl), (mT1 (i := 98) rfl rfl), ⟨by decide +kernel, by decide +kernel, by decide +kernel⟩⟩
theorem m_L_35 : LkV R_law 35 y_M_count b_M_count 1 (some .int) 0 := ⟨(mT2 (i := 117) rfl rfl), (mT2 (i := 118) rfl rfl), (mT2 (i := 119) rfl rfl), (mT1 (i := 3) rfl rfl), (mT2 (i := 120) rfl rfl), ⟨by decide +kernel, by decide +kernel, by decide +kernel⟩⟩
theorem m_L_36 : LkV R_law 36 y_X_element b_X_element 4 (some .int) 1 := ⟨(mT2 (i := 2) rfl rfl), (mT2 (i := 3) rfl rfl), (mT2 (i := 4) rfl rfl), (mT1 (i := 1) rfl rfl), (mT2 (i := 5) rfl rfl), ⟨by decide +kernel, by decide +kernel, by decide +kernel⟩⟩
theorem m_L_40 : LkV R_law 40 y_M_element b_M_element 4 (some .int) 1 := ⟨(mT2 (i := 174) rfl rfl), (mT2 (i := 175) rfl rfl), (mT2 (i := 176) rfl rfl), (mT1 (i := 3) rfl rfl), (mT2 (i := 177) rfl rfl), ⟨by decide +kernel, by decide +kernel, by decide +kernel⟩⟩
theorem m_L_41 : LkV R_law 41 y_X_append b_X_append 2 (some .int) 0 := ⟨(mT2 (i := 7) rfl rfl), (mT2 (i := 8) rfl rfl), (mT2 (i := 9) rfl rfl), (mT1 (i := 1) rfl rfl), (mT2 (i := 10) rfl rfl), ⟨by decide +kernel, by decide +kernel, by decide +kernel⟩⟩
theorem m_L_44 : LkV R_law 44 y_M_append b_M_append 2 (some .int) 0 := ⟨(mT2 (i := 178) rfl rfl), (mT2 (i := 179) rfl rfl), (mT2 (i := 180) rfl rfl), (mT1 (i := 3) rfl rfl), (mT2 (i := 181) rfl rfl), ⟨by decide +kernel, by decide +kernel, by decide +kernel⟩⟩
theorem m_L_45 : LkV R_law 45 y_X_again b_X_again 3 (some .int) 0 := ⟨(mT2 (i := 48) rfl rfl), (mT2 (i := 49) rfl rfl), (mT2 (i := 50) rfl rfl), (mT1 (i := 1) rfl rfl), (mT2 (i := 51) rfl rfl), ⟨by decide +kernel, by decide +kernel, by decide +kernel⟩⟩
theorem m_L_48 : LkV R_law 48 y_M_again b_M_again 4 (some .int) 0 := ⟨(mT2 (i := 209) rfl rfl), (mT2 (i := 210) rfl rfl), (mT2 (i := 211) rfl rfl), (mT1 (i := 3) rfl rfl), (mT2 (i := 212) rfl rfl), ⟨by decide +kernel, by decide +kernel, by decide +kernel⟩⟩
theorem m_L_49 : LkV R_law 49 y_X_wrap b_X_wrap 1 (some .int) 0 := ⟨(mT2 (i := 52) rfl rfl), (mT2 (i := 53) rfl rfl), (mT2 (i := 54) rfl rfl), (mT1 (i := 1) rfl rfl), (mT2 (i := 55) rfl rfl), ⟨by decide +kernel, by decide +kernel, by decide +kernel⟩⟩
theorem m_L_52 : LkV R_law 52 y_M_wrap b_M_wrap 2 (some .int) 0 := ⟨(mT2 (i := 213) rfl rfl), (mT2 (i := 214) rfl rfl), (mT2 (i := 215) rfl rfl), (mT1 (i := 3) rfl rfl), (mT2 (i := 216) rfl rfl), ⟨by decide +kernel, by decide +kernel, by decide +kernel⟩⟩
theorem m_L_53 : LkV R_law 53 y_X_listAt b_X_listAt 2 (some .int) 1 := ⟨(mT2 (i := 56) rfl rfl), (mT2 (i := 57) rfl rfl), (mT2 (i := 58) rfl rfl), (mT1 (i := 1) rfl rfl), (mT2 (i := 59) rfl rfl), ⟨by decide +kernel, by decide +kernel, by decide +kernel⟩⟩
theorem m_L_56 : LkV R_law 56 y_M_listAt b_M_listAt 2 (some .int) 1 := ⟨(mT2 (i := 217) rfl rfl), (mT2 (i := 218) rfl rfl), (mT2 (i := 219) rfl rfl), (mT1 (i := 3) rfl rfl), (mT2 (i := 220) rfl rfl), ⟨by decide +kernel, by decide +kernel, by decide +kernel⟩⟩
theorem m_L_57 : LkV R_law 57 y_X_itemAt b_X_itemAt 2 (some .int) 1 := ⟨(mT2 (i := 60) rfl rfl), (mT2 (i := 61) rfl rfl), (mT2 (i := 62) rfl rfl), (mT1 (i := 1) rfl rfl), (mT2 (i := 63) rfl rfl), ⟨by decide +kernel, by decide +kernel, by decide +kernel⟩⟩
theorem m_L_60 : LkV R_law 60 y_M_itemAt b_M_itemAt 2 (some .int) 1 := ⟨(mT2 (i := 221) rfl rfl), (mT2 (i := 222) rfl rfl), (mT2 (i := 223) rfl rfl), (mT1 (i := 3) rfl rfl), (mT2 (i := 224) rfl rfl), ⟨by decide +kernel, by decide +kernel, by decide +kernel⟩⟩
end
section
abbrev rm_R_byteAt : Room := { frames := 0, cells := 0, slots := 0, locals := 0 }
def p_R_byteAt_0 (N : Nat) (size_this : Int32) (a_bytes : Nat → Int32) (x1 : Int32) : Option (Int32) := (if x1 < (0 : Int32) then some ((-1 : Int32)) else (if size_this ≤ x1 then some ((-1 : Int32)) else (if (x1 < 0 ∨ 1024 ≤ x1.toNatClampNeg) then none else some ((a_bytes x1.toNatClampNeg)))))
def p_R_byteAt (N : Nat) (size_this : Int32) (a_bytes : Nat → Int32) (x1 : Int32) : Option (Int32) := p_R_byteAt_0 N size_this a_bytes x1
abbrev rm_X_itemAt : Room := { frames := 1, cells := 0, slots := 0, locals := 21 }
def p_X_itemAt_0 (N : Nat) (size_item : Int32) (a_item_bytes : Nat → Int32) (x1 : Int32) : Option (Int32) := ((p_R_byteAt N size_item a_item_bytes x1).bind fun r_5 => some (r_5))
def p_X_itemAt (N : Nat) (size_item : Int32) (a_item_bytes : Nat → Int32) (x1 : Int32) : Option (Int32) := p_X_itemAt_0 N size_item a_item_bytes x1
abbrev rm_M_itemAt : Room := { frames := 0, cells := 0, slots := 0, locals := 0 }
def p_M_itemAt_0 (N : Nat) (itemSize_this : Int32) (a_item : Nat → Int32) (x1 : Int32) : Option (Int32) := (if x1 < (0 : Int32) then some ((-1 : Int32)) else (if itemSize_this ≤ x1 then some ((-1 : Int32)) else (if (x1 < 0 ∨ 1024 ≤ x1.toNatClampNeg) then none else some ((a_item x1.toNatClampNeg)))))
def p_M_itemAt (N : Nat) (itemSize_this : Int32) (a_item : Nat → Int32) (x1 : Int32) : Option (Int32) := p_M_itemAt_0 N itemSize_this a_item x1
abbrev rm_X_listAt : Room := { frames := 1, cells := 0, slots := 0, locals := 21 }
def p_X_listAt_0 (N : Nat) (size_list : Int32) (a_list_bytes : Nat → Int32) (x1 : Int32) : Option (Int32) := ((p_R_byteAt N size_list a_list_bytes x1).bind fun r_5 => some (r_5))
def p_X_listAt (N : Nat) (size_list : Int32) (a_list_bytes : Nat → Int32) (x1 : Int32) : Option (Int32) := p_X_listAt_0 N size_list a_list_bytes x1
abbrev rm_M_listAt : Room := { frames := 0, cells := 0, slots := 0, locals := 0 }
def p_M_listAt_0 (N : Nat) (listSize_this : Int32) (a_list : Nat → Int32) (x1 : Int32) : Option (Int32) := (if x1 < (0 : Int32) then some ((-1 : Int32)) else (if listSize_this ≤ x1 then some ((-1 : Int32)) else (if (x1 < 0 ∨ 1024 ≤ x1.toNatClampNeg) then none else some ((a_list x1.toNatClampNeg)))))
def p_M_listAt (N : Nat) (listSize_this : Int32) (a_list : Nat → Int32) (x1 : Int32) : Option (Int32) := p_M_listAt_0 N listSize_this a_list x1
abbrev rm_R_putAll : Room := { frames := 1, cells := 0, slots := 0, locals := 40 }
def p_R_putAll_0 (N : Nat) (size_p1 : Int32) (a_p1_bytes : Nat → Int32) (size_this : Int32) (a_bytes : Nat → Int32) : Option (Int32 × Int32 × (Nat → Int32)) := (if size_p1 ≤ ((1024 : Int32) - size_this) then (if ((0 : Int32) < 0 ∨ size_this < 0 ∨ size_p1 < 0 ∨ 1024 < (0 : Int32).toNatClampNeg + size_p1.toNatClampNeg ∨ 1024 < size_this.toNatClampNeg + size_p1.toNatClampNeg) then none else some ((1 : Int32), (size_this + size_p1), (va_cpy a_p1_bytes a_bytes (0 : Int32).toNatClampNeg size_this.toNatClampNeg size_p1.toNatClampNeg))) else some ((0 : Int32), size_this, a_bytes))
def p_R_putAll (N : Nat) (size_this : Int32) (a_bytes : Nat → Int32) (size_p1 : Int32) (a_p1_bytes : Nat → Int32) : Option (Int32 × Int32 × (Nat → Int32)) := p_R_putAll_0 N size_p1 a_p1_bytes size_this a_bytes
abbrev rm_R_takeAll : Room := { frames := 2, cells := 0, slots := 0, locals := 61 }
def p_R_takeAll_0 (N : Nat) (a_p1_bytes : Nat → Int32) (size_this : Int32) (a_bytes : Nat → Int32) (size_p1 : Int32) : Option (Int32 × Int32 × (Nat → Int32) × Int32) := ((p_R_putAll N (0 : Int32) a_bytes size_p1 a_p1_bytes).bind fun r_7 => some (r_7.2.1, r_7.2.1, r_7.2.2, (0 : Int32)))
def p_R_takeAll (N : Nat) (size_this : Int32) (a_bytes : Nat → Int32) (size_p1 : Int32) (a_p1_bytes : Nat → Int32) : Option (Int32 × Int32 × (Nat → Int32) × Int32) := p_R_takeAll_0 N a_p1_bytes size_this a_bytes size_p1
abbrev rm_X_wrap : Room := { frames := 3, cells := 0, slots := 0, locals := 82 }
def p_X_wrap_0 (N : Nat) (a_list_bytes : Nat → Int32) (size_list : Int32) (size_item : Int32) (a_item_bytes : Nat → Int32) : Option (Int32 × Int32 × Int32 × (Nat → Int32)) := ((p_R_takeAll N size_item a_item_bytes size_list a_list_bytes).bind fun r_8 => some (r_8.1, r_8.2.2.2, r_8.2.1, r_8.2.2.1))
def p_X_wrap (N : Nat) (size_list : Int32) (a_list_bytes : Nat → Int32) (size_item : Int32) (a_item_bytes : Nat → Int32) : Option (Int32 × Int32 × Int32 × (Nat → Int32)) := p_X_wrap_0 N a_list_bytes size_list size_item a_item_bytes
abbrev rm_M_wrap : Room := { frames := 0, cells := 0, slots := 0, locals := 0 }
def p_M_wrap_2 (N : Nat) (a_list : Nat → Int32) : Nat → Int32 → Int32 → (Nat → Int32) → Int32 → Option (Int32 × Int32 × Int32 × (Nat → Int32))
  | 0, _, _, _, _ => none
  | n + 1, listSize_this, itemSize_this, a_item, x1 => (if listSize_this ≤ x1 then some (listSize_this, (0 : Int32), listSize_this, a_item) else (if (x1 < 0 ∨ 1024 ≤ x1.toNatClampNeg) then none else (if (x1 < 0 ∨ 1024 ≤ x1.toNatClampNeg) then none else (p_M_wrap_2 N a_list n listSize_this itemSize_this (upd a_item x1.toNatClampNeg (a_list x1.toNatClampNeg)) (x1 + (1 : Int32))))))
def p_M_wrap_0 (N : Nat) (a_list : Nat → Int32) (listSize_this : Int32) (itemSize_this : Int32) (a_item : Nat → Int32) : Option (Int32 × Int32 × Int32 × (Nat → Int32)) := (p_M_wrap_2 N a_list N listSize_this itemSize_this a_item (0 : Int32))
def p_M_wrap (N : Nat) (listSize_this : Int32) (itemSize_this : Int32) (a_list : Nat → Int32) (a_item : Nat → Int32) : Option (Int32 × Int32 × Int32 × (Nat → Int32)) := p_M_wrap_0 N a_list listSize_this itemSize_this a_item
abbrev rm_R_size : Room := { frames := 0, cells := 0, slots := 0, locals := 0 }
def p_R_size_0 (N : Nat) (size_this : Int32) : Option (Int32) := some (size_this)
def p_R_size (N : Nat) (size_this : Int32) : Option (Int32) := p_R_size_0 N size_this
abbrev rm_X_isNamedSpace : Room := { frames := 0, cells := 0, slots := 0, locals := 0 }
def p_X_isNamedSpace_0 (N : Nat) (x0 : Int32) : Option (Int32) := (if x0 < (9 : Int32) then some ((0 : Int32)) else (if (13 : Int32) < x0 then some ((0 : Int32)) else some ((1 : Int32))))
def p_X_isNamedSpace (N : Nat) (x0 : Int32) : Option (Int32) := p_X_isNamedSpace_0 N x0
abbrev rm_X_isSpace : Room := { frames := 1, cells := 0, slots := 0, locals := 20 }
def p_X_isSpace_0 (N : Nat) (x0 : Int32) : Option (Int32) := (if x0 = (32 : Int32) then some ((1 : Int32)) else ((p_X_isNamedSpace N x0).bind fun r_7 => (if r_7 = (0 : Int32) then some ((0 : Int32)) else some ((1 : Int32)))))
def p_X_isSpace (N : Nat) (x0 : Int32) : Option (Int32) := p_X_isSpace_0 N x0
abbrev rm_X_behindSpaces : Room := { frames := 2, cells := 0, slots := 0, locals := 40 }
def p_X_behindSpaces_2 (N : Nat) (size_list : Int32) (a_list_bytes : Nat → Int32) : Nat → Int32 → Option (Int32)
  | 0, _ => none
  | n + 1, x2 => ((p_R_size N size_list).bind fun r_7 => (if r_7 ≤ x2 then some (x2) else ((p_R_byteAt N size_list a_list_bytes x2).bind fun r_18 => ((p_X_isSpace N r_18).bind fun r_21 => (if r_21 = (0 : Int32) then some (x2) else (p_X_behindSpaces_2 N size_list a_list_bytes n (x2 + (1 : Int32))))))))
def p_X_behindSpaces_0 (N : Nat) (size_list : Int32) (a_list_bytes : Nat → Int32) (x1 : Int32) : Option (Int32) := (p_X_behindSpaces_2 N size_list a_list_bytes N x1)
def p_X_behindSpaces (N : Nat) (size_list : Int32) (a_list_bytes : Nat → Int32) (x1 : Int32) : Option (Int32) := p_X_behindSpaces_0 N size_list a_list_bytes x1
abbrev rm_R_cutTo : Room := { frames := 0, cells := 0, slots := 0, locals := 0 }
def p_R_cutTo_0 (N : Nat) (size_this : Int32) (x1 : Int32) : Option (Int32 × Int32) := (if x1 < (0 : Int32) then some ((0 : Int32), size_this) else (if x1 ≤ size_this then some ((1 : Int32), x1) else some ((0 : Int32), size_this)))
def p_R_cutTo (N : Nat) (size_this : Int32) (x1 : Int32) : Option (Int32 × Int32) := p_R_cutTo_0 N size_this x1
abbrev rm_R_put : Room := { frames := 0, cells := 0, slots := 0, locals := 0 }
def p_R_put_0 (N : Nat) (size_this : Int32) (a_bytes : Nat → Int32) (x1 : Int32) : Option (Int32 × Int32 × (Nat → Int32)) := (if size_this < (1024 : Int32) then (if (size_this < 0 ∨ 1024 ≤ size_this.toNatClampNeg) then none else some ((1 : Int32), (size_this + (1 : Int32)), (upd a_bytes size_this.toNatClampNeg (x1 &&& (255 : Int32))))) else some ((0 : Int32), size_this, a_bytes))
def p_R_put (N : Nat) (size_this : Int32) (a_bytes : Nat → Int32) (x1 : Int32) : Option (Int32 × Int32 × (Nat → Int32)) := p_R_put_0 N size_this a_bytes x1
abbrev rm_X_readBraced : Room := { frames := 1, cells := 0, slots := 0, locals := 21 }
def p_X_readBraced_48 (N : Nat) (size_list : Int32) (a_list_bytes : Nat → Int32) (k_4 : Int32 → (Nat → Int32) → Int32 → Int32 → Option (Int32 × Int32 × (Nat → Int32))) (size_word : Int32) (a_word_bytes : Nat → Int32) (x2 : Int32) (x3 : Int32) (x4 : Int32) : Option (Int32 × Int32 × (Nat → Int32)) := (if x2 = (0 : Int32) then some (x3, size_word, a_word_bytes) else ((p_R_put N size_word a_word_bytes x4).bind fun r_60 => (if x4 = (92 : Int32) then ((p_R_size N size_list).bind fun r_78 => (if r_78 ≤ (x3 + (1 : Int32)) then (k_4 r_60.2.1 r_60.2.2 x2 (x3 + (1 : Int32))) else ((p_R_byteAt N size_list a_list_bytes (x3 + (1 : Int32))).bind fun r_96 => ((p_R_put N r_60.2.1 r_60.2.2 r_96).bind fun r_99 => (k_4 r_99.2.1 r_99.2.2 x2 ((x3 + (1 : Int32)) + (1 : Int32))))))) else (k_4 r_60.2.1 r_60.2.2 x2 (x3 + (1 : Int32))))))
def p_X_readBraced_4 (N : Nat) (size_list : Int32) (a_list_bytes : Nat → Int32) : Nat → Int32 → (Nat → Int32) → Int32 → Int32 → Option (Int32 × Int32 × (Nat → Int32))
  | 0, _, _, _, _ => none
  | n + 1, size_word, a_word_bytes, x2, x3 => ((p_R_size N size_list).bind fun r_9 => (if r_9 ≤ x3 then some ((-2 : Int32), size_word, a_word_bytes) else ((p_R_byteAt N size_list a_list_bytes x3).bind fun r_20 => (if r_20 = (123 : Int32) then (p_X_readBraced_48 N size_list a_list_bytes (p_X_readBraced_4 N size_list a_list_bytes n) size_word a_word_bytes (x2 + (1 : Int32)) x3 r_20) else (if r_20 = (125 : Int32) then (p_X_readBraced_48 N size_list a_list_bytes (p_X_readBraced_4 N size_list a_list_bytes n) size_word a_word_bytes (x2 + (-1 : Int32)) x3 r_20) else (p_X_readBraced_48 N size_list a_list_bytes (p_X_readBraced_4 N size_list a_list_bytes n) size_word a_word_bytes x2 x3 r_20))))))
def p_X_readBraced_0 (N : Nat) (size_list : Int32) (a_list_bytes : Nat → Int32) (size_word : Int32) (a_word_bytes : Nat → Int32) (x1 : Int32) : Option (Int32 × Int32 × (Nat → Int32)) := (p_X_readBraced_4 N size_list a_list_bytes N size_word a_word_bytes (1 : Int32) x1)
def p_X_readBraced (N : Nat) (size_list : Int32) (a_list_bytes : Nat → Int32) (size_word : Int32) (a_word_bytes : Nat → Int32) (x1 : Int32) : Option (Int32 × Int32 × (Nat → Int32)) := p_X_readBraced_0 N size_list a_list_bytes size_word a_word_bytes x1
abbrev rm_X_behindCloser : Room := { frames := 2, cells := 0, slots := 0, locals := 40 }
def p_X_behindCloser_0 (N : Nat) (size_list : Int32) (a_list_bytes : Nat → Int32) (x1 : Int32) : Option (Int32) := (if x1 = (-2 : Int32) then some ((-2 : Int32)) else ((p_R_byteAt N size_list a_list_bytes (x1 + (1 : Int32))).bind fun r_16 => (if r_16 = (-1 : Int32) then some ((x1 + (1 : Int32))) else ((p_X_isSpace N r_16).bind fun r_26 => (if r_26 = (0 : Int32) then some ((-2 : Int32)) else some ((x1 + (1 : Int32))))))))
def p_X_behindCloser (N : Nat) (size_list : Int32) (a_list_bytes : Nat → Int32) (x1 : Int32) : Option (Int32) := p_X_behindCloser_0 N size_list a_list_bytes x1
abbrev rm_X_digitOf : Room := { frames := 0, cells := 0, slots := 0, locals := 0 }
def p_X_digitOf_37 (N : Nat) (x0 : Int32) : Option (Int32) := (if x0 < (65 : Int32) then some ((16 : Int32)) else (if (70 : Int32) < x0 then some ((16 : Int32)) else some (((x0 - (65 : Int32)) + (10 : Int32)))))
def p_X_digitOf_17 (N : Nat) (x0 : Int32) : Option (Int32) := (if x0 < (97 : Int32) then (p_X_digitOf_37 N x0) else (if (102 : Int32) < x0 then (p_X_digitOf_37 N x0) else some (((x0 - (97 : Int32)) + (10 : Int32)))))
def p_X_digitOf_0 (N : Nat) (x0 : Int32) : Option (Int32) := (if x0 < (48 : Int32) then (p_X_digitOf_17 N x0) else (if (57 : Int32) < x0 then (p_X_digitOf_17 N x0) else some ((x0 - (48 : Int32)))))
def p_X_digitOf (N : Nat) (x0 : Int32) : Option (Int32) := p_X_digitOf_0 N x0
abbrev rm_X_countDigits : Room := { frames := 1, cells := 0, slots := 0, locals := 21 }
def p_X_countDigits_3 (N : Nat) (size_list : Int32) (a_list_bytes : Nat → Int32) : Nat → Int32 → Int32 → Int32 → Int32 → Option (Int32)
  | 0, _, _, _, _ => none
  | n + 1, x1, x2, x3, x4 => (if x2 ≤ x4 then some (x4) else ((p_R_byteAt N size_list a_list_bytes (x1 + x4)).bind fun r_17 => ((p_X_digitOf N r_17).bind fun r_20 => (if x3 ≤ r_20 then some (x4) else (p_X_countDigits_3 N size_list a_list_bytes n x1 x2 x3 (x4 + (1 : Int32)))))))
def p_X_countDigits_0 (N : Nat) (size_list : Int32) (a_list_bytes : Nat → Int32) (x1 : Int32) (x2 : Int32) (x3 : Int32) : Option (Int32) := (p_X_countDigits_3 N size_list a_list_bytes N x1 x2 x3 (0 : Int32))
def p_X_countDigits (N : Nat) (size_list : Int32) (a_list_bytes : Nat → Int32) (x1 : Int32) (x2 : Int32) (x3 : Int32) : Option (Int32) := p_X_countDigits_0 N size_list a_list_bytes x1 x2 x3
abbrev rm_X_numberAt : Room := { frames := 1, cells := 0, slots := 0, locals := 21 }
def p_X_numberAt_6 (N : Nat) (size_list : Int32) (a_list_bytes : Nat → Int32) : Nat → Int32 → Int32 → Int32 → Int32 → Int32 → Option (Int32)
  | 0, _, _, _, _, _ => none
  | n + 1, x1, x2, x3, x4, x5 => (if x2 ≤ x5 then some ((x4 &&& (255 : Int32))) else ((p_R_byteAt N size_list a_list_bytes (x1 + x5)).bind fun r_24 => ((p_X_digitOf N r_24).bind fun r_27 => (p_X_numberAt_6 N size_list a_list_bytes n x1 x2 x3 ((x4 * x3) + r_27) (x5 + (1 : Int32))))))
def p_X_numberAt_0 (N : Nat) (size_list : Int32) (a_list_bytes : Nat → Int32) (x1 : Int32) (x2 : Int32) (x3 : Int32) : Option (Int32) := (p_X_numberAt_6 N size_list a_list_bytes N x1 x2 x3 (0 : Int32) (0 : Int32))
def p_X_numberAt (N : Nat) (size_list : Int32) (a_list_bytes : Nat → Int32) (x1 : Int32) (x2 : Int32) (x3 : Int32) : Option (Int32) := p_X_numberAt_0 N size_list a_list_bytes x1 x2 x3
abbrev rm_S_isLatin1 : Room := { frames := 0, cells := 0, slots := 0, locals := 0 }
def p_S_isLatin1_0 (N : Nat) (k0 : Nat) : Option (Int32) := (if (1 : Int32) = (0 : Int32) then some ((0 : Int32)) else (if (0 : Int32) = (0 : Int32) then some ((1 : Int32)) else some ((0 : Int32))))
def p_S_isLatin1 (N : Nat) (k0 : Nat) : Option (Int32) := p_S_isLatin1_0 N k0
abbrev rm_S_coder : Room := { frames := 0, cells := 0, slots := 0, locals := 0 }
def p_S_coder_0 (N : Nat) (k0 : Nat) : Option (Int32) := (if (1 : Int32) = (0 : Int32) then some ((1 : Int32)) else some ((0 : Int32)))
def p_S_coder (N : Nat) (k0 : Nat) : Option (Int32) := p_S_coder_0 N k0
abbrev rm_S_length : Room := { frames := 1, cells := 0, slots := 0, locals := 20 }
def p_S_length_0 (N : Nat) (k0 : Nat) : Option (Int32) := ((p_S_coder N k0).bind fun r_6 => some (((Int32.ofNat (lenJS.getD k0 0)) >>> (r_6 &&& 31))))
def p_S_length (N : Nat) (k0 : Nat) : Option (Int32) := p_S_length_0 N k0
abbrev rm_SL_canEncode1 : Room := { frames := 0, cells := 0, slots := 0, locals := 0 }
def p_SL_canEncode1_0 (N : Nat) (x0 : Int32) : Option (Int32) := (if x0 < (0 : Int32) then some ((0 : Int32)) else (if (255 : Int32) < x0 then some ((0 : Int32)) else some ((1 : Int32))))
def p_SL_canEncode1 (N : Nat) (x0 : Int32) : Option (Int32) := p_SL_canEncode1_0 N x0
abbrev rm_SL_indexOfChar : Room := { frames := 0, cells := 0, slots := 0, locals := 0 }
def p_SL_indexOfChar_7 (N : Nat) (k0 : Nat) : Nat → Int32 → Int32 → Int32 → Option (Int32)
  | 0, _, _, _ => none
  | n + 1, x3, x4, x5 => (if x3 ≤ x5 then some ((-1 : Int32)) else (if (x5 < 0 ∨ lenJS.getD k0 0 ≤ x5.toNatClampNeg) then none else (if ((bytJS.getD k0 []).getD x5.toNatClampNeg 0) = x4 then some (x5) else (p_SL_indexOfChar_7 N k0 n x3 x4 (x5 + (1 : Int32))))))
def p_SL_indexOfChar_0 (N : Nat) (k0 : Nat) (x1 : Int32) (x2 : Int32) (x3 : Int32) : Option (Int32) := (p_SL_indexOfChar_7 N k0 N x3 x1.toInt8.toInt32 x2)
def p_SL_indexOfChar (N : Nat) (k0 : Nat) (x1 : Int32) (x2 : Int32) (x3 : Int32) : Option (Int32) := p_SL_indexOfChar_0 N k0 x1 x2 x3
abbrev rm_SL_indexOf0 : Room := { frames := 1, cells := 0, slots := 0, locals := 30 }
def p_SL_indexOf0_0 (N : Nat) (k0 : Nat) (x1 : Int32) (x2 : Int32) (x3 : Int32) : Option (Int32) := ((p_SL_canEncode1 N x1).bind fun r_1 => (if r_1 = (0 : Int32) then some ((-1 : Int32)) else (if (if x2 < (0 : Int32) then (0 : Int32) else x2) < (if (Int32.ofNat (lenJS.getD k0 0)) < x3 then (Int32.ofNat (lenJS.getD k0 0)) else x3) then ((p_SL_indexOfChar N k0 x1 (if x2 < (0 : Int32) then (0 : Int32) else x2) (if (Int32.ofNat (lenJS.getD k0 0)) < x3 then (Int32.ofNat (lenJS.getD k0 0)) else x3)).bind fun r_33 => some (r_33)) else some ((-1 : Int32)))))
def p_SL_indexOf0 (N : Nat) (k0 : Nat) (x1 : Int32) (x2 : Int32) (x3 : Int32) : Option (Int32) := p_SL_indexOf0_0 N k0 x1 x2 x3
abbrev rm_S_indexOf1 : Room := { frames := 2, cells := 0, slots := 0, locals := 53 }
def p_S_indexOf1_0 (N : Nat) (k0 : Nat) (x1 : Int32) (x2 : Int32) : Option (Int32) := ((p_S_isLatin1 N k0).bind fun r_1 => (if r_1 = (0 : Int32) then ((p_S_length N k0).bind fun r_30 => none) else ((p_S_length N k0).bind fun r_14 => ((p_SL_indexOf0 N k0 x1 x2 r_14).bind fun r_17 => some (r_17)))))
def p_S_indexOf1 (N : Nat) (k0 : Nat) (x1 : Int32) (x2 : Int32) : Option (Int32) := p_S_indexOf1_0 N k0 x1 x2
abbrev rm_S_indexOf0 : Room := { frames := 3, cells := 0, slots := 0, locals := 75 }
def p_S_indexOf0_0 (N : Nat) (k0 : Nat) (x1 : Int32) : Option (Int32) := ((p_S_indexOf1 N k0 x1 (0 : Int32)).bind fun r_3 => some (r_3))
def p_S_indexOf0 (N : Nat) (k0 : Nat) (x1 : Int32) : Option (Int32) := p_S_indexOf0_0 N k0 x1
abbrev rm_X_meaningOfBackslash : Room := { frames := 4, cells := 0, slots := 0, locals := 96 }
def p_X_meaningOfBackslash_0 (N : Nat) (size_list : Int32) (a_list_bytes : Nat → Int32) (x1 : Int32) : Option (Int32) := ((p_R_byteAt N size_list a_list_bytes (x1 + (1 : Int32))).bind fun r_7 => (if r_7 = (-1 : Int32) then some ((92 : Int32)) else (if r_7 = (10 : Int32) then some ((32 : Int32)) else (if r_7 = (120 : Int32) then ((p_X_countDigits N size_list a_list_bytes (x1 + (2 : Int32)) (2 : Int32) (16 : Int32)).bind fun r_41 => (if r_41 = (0 : Int32) then some ((120 : Int32)) else ((p_X_numberAt N size_list a_list_bytes (x1 + (2 : Int32)) r_41 (16 : Int32)).bind fun r_61 => some (r_61)))) else ((p_X_countDigits N size_list a_list_bytes (x1 + (1 : Int32)) (3 : Int32) (8 : Int32)).bind fun r_72 => (if r_72 ≤ (0 : Int32) then ((p_S_indexOf0 N 0 (r_7.toUInt32 % 65536).toInt32).bind fun r_95 => (if r_95 < (0 : Int32) then some (r_7) else some (((7 : Int32) + r_95)))) else ((p_X_numberAt N size_list a_list_bytes (x1 + (1 : Int32)) r_72 (8 : Int32)).bind fun r_87 => some (r_87))))))))
def p_X_meaningOfBackslash (N : Nat) (size_list : Int32) (a_list_bytes : Nat → Int32) (x1 : Int32) : Option (Int32) := p_X_meaningOfBackslash_0 N size_list a_list_bytes x1
abbrev rm_X_countBlanks : Room := { frames := 1, cells := 0, slots := 0, locals := 21 }
def p_X_countBlanks_2 (N : Nat) (size_list : Int32) (a_list_bytes : Nat → Int32) : Nat → Int32 → Int32 → Option (Int32)
  | 0, _, _ => none
  | n + 1, x1, x2 => ((p_R_size N size_list).bind fun r_7 => (if r_7 ≤ x2 then some ((x2 - x1)) else ((p_R_byteAt N size_list a_list_bytes x2).bind fun r_18 => (if r_18 = (32 : Int32) then (p_X_countBlanks_2 N size_list a_list_bytes n x1 (x2 + (1 : Int32))) else ((p_R_byteAt N size_list a_list_bytes x2).bind fun r_31 => (if r_31 = (9 : Int32) then (p_X_countBlanks_2 N size_list a_list_bytes n x1 (x2 + (1 : Int32))) else some ((x2 - x1))))))))
def p_X_countBlanks_0 (N : Nat) (size_list : Int32) (a_list_bytes : Nat → Int32) (x1 : Int32) : Option (Int32) := (p_X_countBlanks_2 N size_list a_list_bytes N x1 x1)
def p_X_countBlanks (N : Nat) (size_list : Int32) (a_list_bytes : Nat → Int32) (x1 : Int32) : Option (Int32) := p_X_countBlanks_0 N size_list a_list_bytes x1
abbrev rm_X_bytesBehindBackslash : Room := { frames := 2, cells := 0, slots := 0, locals := 45 }
def p_X_bytesBehindBackslash_0 (N : Nat) (size_list : Int32) (a_list_bytes : Nat → Int32) (x1 : Int32) : Option (Int32) := ((p_R_byteAt N size_list a_list_bytes (x1 + (1 : Int32))).bind fun r_7 => ((p_R_byteAt N size_list a_list_bytes x1).bind fun r_16 => (if r_16 = (92 : Int32) then (if r_7 = (-1 : Int32) then some ((0 : Int32)) else (if r_7 = (10 : Int32) then ((p_X_countBlanks N size_list a_list_bytes (x1 + (2 : Int32))).bind fun r_42 => some (((1 : Int32) + r_42))) else (if r_7 = (120 : Int32) then ((p_X_countDigits N size_list a_list_bytes (x1 + (2 : Int32)) (2 : Int32) (16 : Int32)).bind fun r_61 => some (((1 : Int32) + r_61))) else ((p_X_countDigits N size_list a_list_bytes (x1 + (1 : Int32)) (3 : Int32) (8 : Int32)).bind fun r_74 => some ((if (1 : Int32) < r_74 then r_74 else (1 : Int32))))))) else some ((0 : Int32)))))
def p_X_bytesBehindBackslash (N : Nat) (size_list : Int32) (a_list_bytes : Nat → Int32) (x1 : Int32) : Option (Int32) := p_X_bytesBehindBackslash_0 N size_list a_list_bytes x1
abbrev rm_X_readUnbraced : Room := { frames := 5, cells := 0, slots := 0, locals := 120 }
def p_X_readUnbraced_68 (N : Nat) (size_list : Int32) (a_list_bytes : Nat → Int32) (k_2 : Int32 → (Nat → Int32) → Int32 → Int32 → Option (Int32 × Int32 × (Nat → Int32))) (size_word : Int32) (a_word_bytes : Nat → Int32) (x2 : Int32) (x3 : Int32) (y0 : Int32) : Option (Int32 × Int32 × (Nat → Int32)) := ((p_R_put N size_word a_word_bytes y0).bind fun r_68 => ((p_X_bytesBehindBackslash N size_list a_list_bytes x3).bind fun r_75 => (k_2 r_68.2.1 r_68.2.2 x2 ((x3 + r_75) + (1 : Int32)))))
def p_X_readUnbraced_47 (N : Nat) (size_list : Int32) (a_list_bytes : Nat → Int32) (k_2 : Int32 → (Nat → Int32) → Int32 → Int32 → Option (Int32 × Int32 × (Nat → Int32))) (size_word : Int32) (a_word_bytes : Nat → Int32) (x2 : Int32) (x3 : Int32) (x4 : Int32) : Option (Int32 × Int32 × (Nat → Int32)) := (if x4 = (92 : Int32) then ((p_X_meaningOfBackslash N size_list a_list_bytes x3).bind fun r_60 => (p_X_readUnbraced_68 N size_list a_list_bytes k_2 size_word a_word_bytes x2 x3 r_60)) else (p_X_readUnbraced_68 N size_list a_list_bytes k_2 size_word a_word_bytes x2 x3 x4))
def p_X_readUnbraced_2 (N : Nat) (size_list : Int32) (a_list_bytes : Nat → Int32) : Nat → Int32 → (Nat → Int32) → Int32 → Int32 → Option (Int32 × Int32 × (Nat → Int32))
  | 0, _, _, _, _ => none
  | n + 1, size_word, a_word_bytes, x2, x3 => ((p_R_size N size_list).bind fun r_7 => (if r_7 ≤ x3 then (if x2 = (0 : Int32) then ((p_R_size N size_list).bind fun r_99 => some (r_99, size_word, a_word_bytes)) else some ((-2 : Int32), size_word, a_word_bytes)) else ((p_R_byteAt N size_list a_list_bytes x3).bind fun r_18 => (if x2 = (0 : Int32) then ((p_X_isSpace N r_18).bind fun r_39 => (if r_39 = (0 : Int32) then (p_X_readUnbraced_47 N size_list a_list_bytes (p_X_readUnbraced_2 N size_list a_list_bytes n) size_word a_word_bytes x2 x3 r_18) else some (x3, size_word, a_word_bytes))) else (if r_18 = (34 : Int32) then some (x3, size_word, a_word_bytes) else (p_X_readUnbraced_47 N size_list a_list_bytes (p_X_readUnbraced_2 N size_list a_list_bytes n) size_word a_word_bytes x2 x3 r_18))))))
def p_X_readUnbraced_0 (N : Nat) (size_list : Int32) (a_list_bytes : Nat → Int32) (size_word : Int32) (a_word_bytes : Nat → Int32) (x1 : Int32) (x2 : Int32) : Option (Int32 × Int32 × (Nat → Int32)) := (p_X_readUnbraced_2 N size_list a_list_bytes N size_word a_word_bytes x2 x1)
def p_X_readUnbraced (N : Nat) (size_list : Int32) (a_list_bytes : Nat → Int32) (size_word : Int32) (a_word_bytes : Nat → Int32) (x1 : Int32) (x2 : Int32) : Option (Int32 × Int32 × (Nat → Int32)) := p_X_readUnbraced_0 N size_list a_list_bytes size_word a_word_bytes x1 x2
abbrev rm_X_nextElement : Room := { frames := 6, cells := 0, slots := 0, locals := 144 }
def p_X_nextElement_84 (N : Nat) (size_list : Int32) (a_list_bytes : Nat → Int32) (place_this : Int32) (size_word : Int32) (a_word_bytes : Nat → Int32) (x3 : Int32) : Option (Int32 × Int32 × Int32 × (Nat → Int32)) := (if x3 = (-2 : Int32) then some ((-2 : Int32), place_this, size_word, a_word_bytes) else ((p_R_size N size_word).bind fun r_102 => some (r_102, x3, size_word, a_word_bytes)))
def p_X_nextElement_0 (N : Nat) (size_list : Int32) (a_list_bytes : Nat → Int32) (place_this : Int32) (size_word : Int32) (a_word_bytes : Nat → Int32) : Option (Int32 × Int32 × Int32 × (Nat → Int32)) := ((p_X_behindSpaces N size_list a_list_bytes place_this).bind fun r_5 => ((p_R_byteAt N size_list a_list_bytes r_5).bind fun r_14 => (if r_14 = (-1 : Int32) then some ((-1 : Int32), place_this, size_word, a_word_bytes) else ((p_R_cutTo N size_word (0 : Int32)).bind fun r_30 => (if r_14 = (123 : Int32) then ((p_X_readBraced N size_list a_list_bytes r_30.2 a_word_bytes (r_5 + (1 : Int32))).bind fun r_45 => ((p_X_behindCloser N size_list a_list_bytes r_45.1).bind fun r_48 => (p_X_nextElement_84 N size_list a_list_bytes place_this r_45.2.1 r_45.2.2 r_48))) else (if r_14 = (34 : Int32) then ((p_X_readUnbraced N size_list a_list_bytes r_30.2 a_word_bytes (r_5 + (1 : Int32)) (1 : Int32)).bind fun r_67 => ((p_X_behindCloser N size_list a_list_bytes r_67.1).bind fun r_70 => (p_X_nextElement_84 N size_list a_list_bytes place_this r_67.2.1 r_67.2.2 r_70))) else ((p_X_readUnbraced N size_list a_list_bytes r_30.2 a_word_bytes r_5 (0 : Int32)).bind fun r_80 => (p_X_nextElement_84 N size_list a_list_bytes place_this r_80.2.1 r_80.2.2 r_80.1))))))))
def p_X_nextElement (N : Nat) (place_this : Int32) (size_list : Int32) (a_list_bytes : Nat → Int32) (size_word : Int32) (a_word_bytes : Nat → Int32) : Option (Int32 × Int32 × Int32 × (Nat → Int32)) := p_X_nextElement_0 N size_list a_list_bytes place_this size_word a_word_bytes
abbrev rm_X_count : Room := { frames := 7, cells := 0, slots := 0, locals := 167 }
def p_X_count_12 (N : Nat) (size_list : Int32) (a_list_bytes : Nat → Int32) : Nat → Int32 → Int32 → (Nat → Int32) → Int32 → Int32 → Option (Int32 × Int32 × Int32 × (Nat → Int32))
  | 0, _, _, _, _, _ => none
  | n + 1, place_this, size_word, a_word_bytes, x1, x2 => (if x2 < (0 : Int32) then (if x2 = (-2 : Int32) then some ((-2 : Int32), place_this, size_word, a_word_bytes) else some (x1, place_this, size_word, a_word_bytes)) else (if (1024 : Int32) ≤ x1 then (if x2 = (-2 : Int32) then some ((-2 : Int32), place_this, size_word, a_word_bytes) else some (x1, place_this, size_word, a_word_bytes)) else ((p_X_nextElement N place_this size_list a_list_bytes size_word a_word_bytes).bind fun r_27 => (p_X_count_12 N size_list a_list_bytes n r_27.2.1 r_27.2.2.1 r_27.2.2.2 (x1 + (1 : Int32)) r_27.1))))
def p_X_count_0 (N : Nat) (size_list : Int32) (a_list_bytes : Nat → Int32) (place_this : Int32) (size_word : Int32) (a_word_bytes : Nat → Int32) : Option (Int32 × Int32 × Int32 × (Nat → Int32)) := ((p_X_nextElement N (0 : Int32) size_list a_list_bytes size_word a_word_bytes).bind fun r_8 => (p_X_count_12 N size_list a_list_bytes N r_8.2.1 r_8.2.2.1 r_8.2.2.2 (0 : Int32) r_8.1))
def p_X_count (N : Nat) (place_this : Int32) (size_list : Int32) (a_list_bytes : Nat → Int32) (size_word : Int32) (a_word_bytes : Nat → Int32) : Option (Int32 × Int32 × Int32 × (Nat → Int32)) := p_X_count_0 N size_list a_list_bytes place_this size_word a_word_bytes
abbrev rm_X_needsBackslash : Room := { frames := 4, cells := 0, slots := 0, locals := 96 }
def p_X_needsBackslash_0 (N : Nat) (size_p0 : Int32) (a_p0_bytes : Nat → Int32) (x1 : Int32) : Option (Int32) := ((p_R_byteAt N size_p0 a_p0_bytes x1).bind fun r_2 => ((p_X_isSpace N r_2).bind fun r_7 => (if r_7 = (0 : Int32) then ((p_S_indexOf0 N 1 (r_2.toUInt32 % 65536).toInt32).bind fun r_17 => (if (0 : Int32) ≤ r_17 then some ((1 : Int32)) else (if r_2 = (35 : Int32) then (if x1 = (0 : Int32) then some ((1 : Int32)) else some ((0 : Int32))) else some ((0 : Int32))))) else some ((1 : Int32)))))
def p_X_needsBackslash (N : Nat) (size_p0 : Int32) (a_p0_bytes : Nat → Int32) (x1 : Int32) : Option (Int32) := p_X_needsBackslash_0 N size_p0 a_p0_bytes x1
abbrev rm_X_canStandBare : Room := { frames := 5, cells := 0, slots := 0, locals := 118 }
def p_X_canStandBare_2 (N : Nat) (size_p0 : Int32) (a_p0_bytes : Nat → Int32) : Nat → Int32 → Option (Int32)
  | 0, _ => none
  | n + 1, x1 => ((p_R_size N size_p0).bind fun r_4 => (if r_4 ≤ x1 then ((p_R_size N size_p0).bind fun r_27 => (if r_27 ≤ (0 : Int32) then some ((0 : Int32)) else some ((1 : Int32)))) else ((p_X_needsBackslash N size_p0 a_p0_bytes x1).bind fun r_12 => (if r_12 = (0 : Int32) then (p_X_canStandBare_2 N size_p0 a_p0_bytes n (x1 + (1 : Int32))) else some ((0 : Int32))))))
def p_X_canStandBare_0 (N : Nat) (size_p0 : Int32) (a_p0_bytes : Nat → Int32) : Option (Int32) := (p_X_canStandBare_2 N size_p0 a_p0_bytes N (0 : Int32))
def p_X_canStandBare (N : Nat) (size_p0 : Int32) (a_p0_bytes : Nat → Int32) : Option (Int32) := p_X_canStandBare_0 N size_p0 a_p0_bytes
abbrev rm_X_canStandInBraces : Room := { frames := 1, cells := 0, slots := 0, locals := 21 }
def p_X_canStandInBraces_39 (N : Nat) (size_p0 : Int32) (a_p0_bytes : Nat → Int32) (k_4 : Int32 → Int32 → Option (Int32)) (x1 : Int32) (x2 : Int32) (x3 : Int32) : Option (Int32) := (if x3 = (92 : Int32) then some ((0 : Int32)) else (if (0 : Int32) ≤ x1 then (k_4 x1 (x2 + (1 : Int32))) else some ((0 : Int32))))
def p_X_canStandInBraces_4 (N : Nat) (size_p0 : Int32) (a_p0_bytes : Nat → Int32) : Nat → Int32 → Int32 → Option (Int32)
  | 0, _, _ => none
  | n + 1, x1, x2 => ((p_R_size N size_p0).bind fun r_6 => (if r_6 ≤ x2 then (if x1 = (0 : Int32) then some ((1 : Int32)) else some ((0 : Int32))) else ((p_R_byteAt N size_p0 a_p0_bytes x2).bind fun r_14 => (if r_14 = (123 : Int32) then (p_X_canStandInBraces_39 N size_p0 a_p0_bytes (p_X_canStandInBraces_4 N size_p0 a_p0_bytes n) (x1 + (1 : Int32)) x2 r_14) else (if r_14 = (125 : Int32) then (p_X_canStandInBraces_39 N size_p0 a_p0_bytes (p_X_canStandInBraces_4 N size_p0 a_p0_bytes n) (x1 + (-1 : Int32)) x2 r_14) else (p_X_canStandInBraces_39 N size_p0 a_p0_bytes (p_X_canStandInBraces_4 N size_p0 a_p0_bytes n) x1 x2 r_14))))))
def p_X_canStandInBraces_0 (N : Nat) (size_p0 : Int32) (a_p0_bytes : Nat → Int32) : Option (Int32) := (p_X_canStandInBraces_4 N size_p0 a_p0_bytes N (0 : Int32) (0 : Int32))
def p_X_canStandInBraces (N : Nat) (size_p0 : Int32) (a_p0_bytes : Nat → Int32) : Option (Int32) := p_X_canStandInBraces_0 N size_p0 a_p0_bytes
abbrev rm_PC_checkIndex0 : Room := { frames := 0, cells := 0, slots := 0, locals := 0 }
def p_PC_checkIndex0_9 (N : Nat) (x0 : Int32) (x1 : Int32) : Option (Int32) := none
def p_PC_checkIndex0_0 (N : Nat) (x0 : Int32) (x1 : Int32) : Option (Int32) := (if x0 < (0 : Int32) then (p_PC_checkIndex0_9 N x0 x1) else (if x0 < x1 then some (x0) else (p_PC_checkIndex0_9 N x0 x1)))
def p_PC_checkIndex0 (N : Nat) (x0 : Int32) (x1 : Int32) : Option (Int32) := p_PC_checkIndex0_0 N x0 x1
abbrev rm_S_checkIndex : Room := { frames := 1, cells := 0, slots := 0, locals := 22 }
def p_S_checkIndex_0 (N : Nat) (x0 : Int32) (x1 : Int32) : Option (Unit) := ((p_PC_checkIndex0 N x0 x1).bind fun r_5 => some ())
def p_S_checkIndex (N : Nat) (x0 : Int32) (x1 : Int32) : Option (Unit) := p_S_checkIndex_0 N x0 x1
abbrev rm_SL_charAt : Room := { frames := 2, cells := 0, slots := 0, locals := 43 }
def p_SL_charAt_0 (N : Nat) (k0 : Nat) (x1 : Int32) : Option (Int32) := ((p_S_checkIndex N x1 (Int32.ofNat (lenJS.getD k0 0))).bind fun r_3 => (if (x1 < 0 ∨ lenJS.getD k0 0 ≤ x1.toNatClampNeg) then none else some (((((bytJS.getD k0 []).getD x1.toNatClampNeg 0) &&& (255 : Int32)).toUInt32 % 65536).toInt32)))
def p_SL_charAt (N : Nat) (k0 : Nat) (x1 : Int32) : Option (Int32) := p_SL_charAt_0 N k0 x1
abbrev rm_S_charAt : Room := { frames := 3, cells := 0, slots := 0, locals := 64 }
def p_S_charAt_0 (N : Nat) (k0 : Nat) (x1 : Int32) : Option (Int32) := ((p_S_isLatin1 N k0).bind fun r_1 => (if r_1 = (0 : Int32) then none else ((p_SL_charAt N k0 x1).bind fun r_12 => some (r_12))))
def p_S_charAt (N : Nat) (k0 : Nat) (x1 : Int32) : Option (Int32) := p_S_charAt_0 N k0 x1
abbrev rm_X_writeWithBackslashes : Room := { frames := 5, cells := 0, slots := 0, locals := 118 }
def p_X_writeWithBackslashes_56 (N : Nat) (size_p1 : Int32) (a_p1_bytes : Nat → Int32) (k_2 : Int32 → (Nat → Int32) → Int32 → Option (Int32 × Int32 × (Nat → Int32))) (size_p0 : Int32) (a_p0_bytes : Nat → Int32) (x2 : Int32) (y0 : Int32) : Option (Int32 × Int32 × (Nat → Int32)) := ((p_R_put N size_p0 a_p0_bytes y0).bind fun r_56 => (if r_56.1 = (0 : Int32) then some ((0 : Int32), r_56.2.1, r_56.2.2) else (k_2 r_56.2.1 r_56.2.2 (x2 + (1 : Int32)))))
def p_X_writeWithBackslashes_35 (N : Nat) (size_p1 : Int32) (a_p1_bytes : Nat → Int32) (k_2 : Int32 → (Nat → Int32) → Int32 → Option (Int32 × Int32 × (Nat → Int32))) (size_p0 : Int32) (a_p0_bytes : Nat → Int32) (x2 : Int32) (x3 : Int32) : Option (Int32 × Int32 × (Nat → Int32)) := ((p_X_isNamedSpace N x3).bind fun r_37 => (if r_37 = (0 : Int32) then (p_X_writeWithBackslashes_56 N size_p1 a_p1_bytes k_2 size_p0 a_p0_bytes x2 x3) else ((p_S_charAt N 0 (x3 - (7 : Int32))).bind fun r_49 => (p_X_writeWithBackslashes_56 N size_p1 a_p1_bytes k_2 size_p0 a_p0_bytes x2 r_49))))
def p_X_writeWithBackslashes_2 (N : Nat) (size_p1 : Int32) (a_p1_bytes : Nat → Int32) : Nat → Int32 → (Nat → Int32) → Int32 → Option (Int32 × Int32 × (Nat → Int32))
  | 0, _, _, _ => none
  | n + 1, size_p0, a_p0_bytes, x2 => ((p_R_size N size_p1).bind fun r_4 => (if r_4 ≤ x2 then some ((1 : Int32), size_p0, a_p0_bytes) else ((p_R_byteAt N size_p1 a_p1_bytes x2).bind fun r_12 => ((p_X_needsBackslash N size_p1 a_p1_bytes x2).bind fun r_18 => (if r_18 = (0 : Int32) then (p_X_writeWithBackslashes_35 N size_p1 a_p1_bytes (p_X_writeWithBackslashes_2 N size_p1 a_p1_bytes n) size_p0 a_p0_bytes x2 r_12) else ((p_R_put N size_p0 a_p0_bytes (92 : Int32)).bind fun r_27 => (if r_27.1 = (0 : Int32) then some ((0 : Int32), r_27.2.1, r_27.2.2) else (p_X_writeWithBackslashes_35 N size_p1 a_p1_bytes (p_X_writeWithBackslashes_2 N size_p1 a_p1_bytes n) r_27.2.1 r_27.2.2 x2 r_12))))))))
def p_X_writeWithBackslashes_0 (N : Nat) (size_p1 : Int32) (a_p1_bytes : Nat → Int32) (size_p0 : Int32) (a_p0_bytes : Nat → Int32) : Option (Int32 × Int32 × (Nat → Int32)) := (p_X_writeWithBackslashes_2 N size_p1 a_p1_bytes N size_p0 a_p0_bytes (0 : Int32))
def p_X_writeWithBackslashes (N : Nat) (size_p0 : Int32) (a_p0_bytes : Nat → Int32) (size_p1 : Int32) (a_p1_bytes : Nat → Int32) : Option (Int32 × Int32 × (Nat → Int32)) := p_X_writeWithBackslashes_0 N size_p1 a_p1_bytes size_p0 a_p0_bytes
abbrev rm_X_writeBehind : Room := { frames := 6, cells := 0, slots := 0, locals := 141 }
def p_X_writeBehind_18 (N : Nat) (size_p1 : Int32) (a_p1_bytes : Nat → Int32) (size_p0 : Int32) (a_p0_bytes : Nat → Int32) : Option (Int32 × Int32 × (Nat → Int32)) := ((p_X_canStandBare N size_p1 a_p1_bytes).bind fun r_19 => (if r_19 = (0 : Int32) then ((p_X_canStandInBraces N size_p1 a_p1_bytes).bind fun r_32 => (if r_32 = (0 : Int32) then ((p_X_writeWithBackslashes N size_p0 a_p0_bytes size_p1 a_p1_bytes).bind fun r_72 => some (r_72.1, r_72.2.1, r_72.2.2)) else ((p_R_put N size_p0 a_p0_bytes (123 : Int32)).bind fun r_41 => (if r_41.1 = (0 : Int32) then some ((0 : Int32), r_41.2.1, r_41.2.2) else ((p_R_putAll N r_41.2.1 r_41.2.2 size_p1 a_p1_bytes).bind fun r_49 => (if r_49.1 = (0 : Int32) then some ((0 : Int32), r_49.2.1, r_49.2.2) else ((p_R_put N r_49.2.1 r_49.2.2 (125 : Int32)).bind fun r_58 => (if r_58.1 = (0 : Int32) then some ((0 : Int32), r_58.2.1, r_58.2.2) else some ((1 : Int32), r_58.2.1, r_58.2.2))))))))) else ((p_R_putAll N size_p0 a_p0_bytes size_p1 a_p1_bytes).bind fun r_27 => some (r_27.1, r_27.2.1, r_27.2.2))))
def p_X_writeBehind_0 (N : Nat) (size_p1 : Int32) (a_p1_bytes : Nat → Int32) (size_p0 : Int32) (a_p0_bytes : Nat → Int32) : Option (Int32 × Int32 × (Nat → Int32)) := ((p_R_size N size_p0).bind fun r_1 => (if r_1 ≤ (0 : Int32) then (p_X_writeBehind_18 N size_p1 a_p1_bytes size_p0 a_p0_bytes) else ((p_R_put N size_p0 a_p0_bytes (32 : Int32)).bind fun r_10 => (if r_10.1 = (0 : Int32) then some ((0 : Int32), r_10.2.1, r_10.2.2) else (p_X_writeBehind_18 N size_p1 a_p1_bytes r_10.2.1 r_10.2.2)))))
def p_X_writeBehind (N : Nat) (size_p0 : Int32) (a_p0_bytes : Nat → Int32) (size_p1 : Int32) (a_p1_bytes : Nat → Int32) : Option (Int32 × Int32 × (Nat → Int32)) := p_X_writeBehind_0 N size_p1 a_p1_bytes size_p0 a_p0_bytes
abbrev rm_X_again : Room := { frames := 8, cells := 0, slots := 0, locals := 189 }
def p_X_again_30 (N : Nat) : Nat → Int32 → Int32 → (Nat → Int32) → Int32 → (Nat → Int32) → Int32 → (Nat → Int32) → Int32 → Int32 → Option (Int32 × Int32 × Int32 × (Nat → Int32) × Int32 × (Nat → Int32) × Int32 × (Nat → Int32))
  | 0, _, _, _, _, _, _, _, _, _ => none
  | n + 1, place_this, size_list, a_list_bytes, size_word, a_word_bytes, size_written, a_written_bytes, x1, x2 => (if x1 ≤ x2 then ((p_R_takeAll N size_list a_list_bytes size_written a_written_bytes).bind fun r_71 => some (r_71.1, place_this, r_71.2.1, r_71.2.2.1, size_word, a_word_bytes, r_71.2.2.2, a_written_bytes)) else ((p_X_nextElement N place_this size_list a_list_bytes size_word a_word_bytes).bind fun r_36 => ((p_X_writeBehind N size_written a_written_bytes r_36.2.2.1 r_36.2.2.2).bind fun r_48 => (if r_48.1 = (0 : Int32) then some ((-3 : Int32), r_36.2.1, size_list, a_list_bytes, r_36.2.2.1, r_36.2.2.2, r_48.2.1, r_48.2.2) else (p_X_again_30 N n r_36.2.1 size_list a_list_bytes r_36.2.2.1 r_36.2.2.2 r_48.2.1 r_48.2.2 x1 (x2 + (1 : Int32)))))))
def p_X_again_0 (N : Nat) (place_this : Int32) (size_list : Int32) (a_list_bytes : Nat → Int32) (size_word : Int32) (a_word_bytes : Nat → Int32) (size_written : Int32) (a_written_bytes : Nat → Int32) : Option (Int32 × Int32 × Int32 × (Nat → Int32) × Int32 × (Nat → Int32) × Int32 × (Nat → Int32)) := ((p_X_count N place_this size_list a_list_bytes size_word a_word_bytes).bind fun r_1 => (if r_1.1 = (-2 : Int32) then some ((-2 : Int32), r_1.2.1, size_list, a_list_bytes, r_1.2.2.1, r_1.2.2.2, size_written, a_written_bytes) else ((p_R_cutTo N size_written (0 : Int32)).bind fun r_19 => (p_X_again_30 N N (0 : Int32) size_list a_list_bytes r_1.2.2.1 r_1.2.2.2 r_19.2 a_written_bytes r_1.1 (0 : Int32)))))
def p_X_again (N : Nat) (place_this : Int32) (size_list : Int32) (a_list_bytes : Nat → Int32) (size_word : Int32) (a_word_bytes : Nat → Int32) (size_written : Int32) (a_written_bytes : Nat → Int32) : Option (Int32 × Int32 × Int32 × (Nat → Int32) × Int32 × (Nat → Int32) × Int32 × (Nat → Int32)) := p_X_again_0 N place_this size_list a_list_bytes size_word a_word_bytes size_written a_written_bytes
abbrev rm_M_at : Room := { frames := 0, cells := 0, slots := 0, locals := 0 }
def p_M_at_0 (N : Nat) (listSize_this : Int32) (a_list : Nat → Int32) (x1 : Int32) : Option (Int32) := (if listSize_this ≤ x1 then some ((-1 : Int32)) else (if (x1 < 0 ∨ 1024 ≤ x1.toNatClampNeg) then none else some ((a_list x1.toNatClampNeg))))
def p_M_at (N : Nat) (listSize_this : Int32) (a_list : Nat → Int32) (x1 : Int32) : Option (Int32) := p_M_at_0 N listSize_this a_list x1
abbrev rm_M_isSpace : Room := { frames := 0, cells := 0, slots := 0, locals := 0 }
def p_M_isSpace_0 (N : Nat) (x0 : Int32) : Option (Int32) := (if x0 = (32 : Int32) then some ((1 : Int32)) else (if x0 ≤ (8 : Int32) then some ((0 : Int32)) else (if (14 : Int32) ≤ x0 then some ((0 : Int32)) else some ((1 : Int32)))))
def p_M_isSpace (N : Nat) (x0 : Int32) : Option (Int32) := p_M_isSpace_0 N x0
abbrev rm_M_skip : Room := { frames := 1, cells := 0, slots := 0, locals := 21 }
def p_M_skip_2 (N : Nat) (listSize_this : Int32) (a_list : Nat → Int32) : Nat → Int32 → Option (Int32)
  | 0, _ => none
  | n + 1, x2 => (if listSize_this ≤ x2 then some (x2) else ((p_M_at N listSize_this a_list x2).bind fun r_12 => ((p_M_isSpace N r_12).bind fun r_15 => (if r_15 = (0 : Int32) then some (x2) else (p_M_skip_2 N listSize_this a_list n (x2 + (1 : Int32)))))))
def p_M_skip_0 (N : Nat) (listSize_this : Int32) (a_list : Nat → Int32) (x1 : Int32) : Option (Int32) := (p_M_skip_2 N listSize_this a_list N x1)
def p_M_skip (N : Nat) (listSize_this : Int32) (a_list : Nat → Int32) (x1 : Int32) : Option (Int32) := p_M_skip_0 N listSize_this a_list x1
abbrev rm_M_behind : Room := { frames := 1, cells := 0, slots := 0, locals := 21 }
def p_M_behind_42 (N : Nat) (listSize_this : Int32) (a_list : Nat → Int32) (x2 : Int32) : Option (Int32) := (if listSize_this ≤ x2 then some (listSize_this) else some (x2))
def p_M_behind_16 (N : Nat) (listSize_this : Int32) (a_list : Nat → Int32) : Nat → Int32 → Option (Int32)
  | 0, _ => none
  | n + 1, x2 => ((p_M_at N listSize_this a_list x2).bind fun r_18 => (if r_18 = (32 : Int32) then (p_M_behind_16 N listSize_this a_list n (x2 + (1 : Int32))) else ((p_M_at N listSize_this a_list x2).bind fun r_28 => (if r_28 = (9 : Int32) then (p_M_behind_16 N listSize_this a_list n (x2 + (1 : Int32))) else (p_M_behind_42 N listSize_this a_list x2)))))
def p_M_behind_0 (N : Nat) (listSize_this : Int32) (a_list : Nat → Int32) (x1 : Int32) : Option (Int32) := ((p_M_at N listSize_this a_list (x1 + (1 : Int32))).bind fun r_8 => (if r_8 = (10 : Int32) then (p_M_behind_16 N listSize_this a_list N (x1 + (2 : Int32))) else (p_M_behind_42 N listSize_this a_list (x1 + (2 : Int32)))))
def p_M_behind (N : Nat) (listSize_this : Int32) (a_list : Nat → Int32) (x1 : Int32) : Option (Int32) := p_M_behind_0 N listSize_this a_list x1
abbrev rm_M_bare : Room := { frames := 2, cells := 0, slots := 0, locals := 43 }
def p_M_bare_2 (N : Nat) (listSize_this : Int32) (a_list : Nat → Int32) : Nat → Int32 → Option (Int32)
  | 0, _ => none
  | n + 1, x2 => (if listSize_this ≤ x2 then some (x2) else ((p_M_at N listSize_this a_list x2).bind fun r_12 => ((p_M_isSpace N r_12).bind fun r_15 => (if r_15 = (0 : Int32) then ((p_M_at N listSize_this a_list x2).bind fun r_23 => (if r_23 = (92 : Int32) then ((p_M_behind N listSize_this a_list x2).bind fun r_33 => (p_M_bare_2 N listSize_this a_list n r_33)) else (p_M_bare_2 N listSize_this a_list n (x2 + (1 : Int32))))) else some (x2)))))
def p_M_bare_0 (N : Nat) (listSize_this : Int32) (a_list : Nat → Int32) (x1 : Int32) : Option (Int32) := (p_M_bare_2 N listSize_this a_list N x1)
def p_M_bare (N : Nat) (listSize_this : Int32) (a_list : Nat → Int32) (x1 : Int32) : Option (Int32) := p_M_bare_0 N listSize_this a_list x1
abbrev rm_M_closing : Room := { frames := 1, cells := 0, slots := 0, locals := 21 }
def p_M_closing_45 (N : Nat) (listSize_this : Int32) (a_list : Nat → Int32) (k_6 : Int32 → Int32 → Option (Int32)) (x3 : Int32) (x4 : Int32) (y0 : Int32) (y1 : Int32) : Option (Int32) := (if (y1 + y0) = (0 : Int32) then some (x3) else (if x4 = (92 : Int32) then (k_6 (y1 + y0) (x3 + (2 : Int32))) else (k_6 (y1 + y0) (x3 + (1 : Int32)))))
def p_M_closing_6 (N : Nat) (listSize_this : Int32) (a_list : Nat → Int32) : Nat → Int32 → Int32 → Option (Int32)
  | 0, _, _ => none
  | n + 1, x2, x3 => (if listSize_this ≤ x3 then some (listSize_this) else ((p_M_at N listSize_this a_list x3).bind fun r_16 => (if r_16 = (123 : Int32) then (p_M_closing_45 N listSize_this a_list (p_M_closing_6 N listSize_this a_list n) x3 r_16 (1 : Int32) x2) else (if r_16 = (125 : Int32) then (p_M_closing_45 N listSize_this a_list (p_M_closing_6 N listSize_this a_list n) x3 r_16 (-1 : Int32) x2) else (p_M_closing_45 N listSize_this a_list (p_M_closing_6 N listSize_this a_list n) x3 r_16 (0 : Int32) x2)))))
def p_M_closing_0 (N : Nat) (listSize_this : Int32) (a_list : Nat → Int32) (x1 : Int32) : Option (Int32) := (p_M_closing_6 N listSize_this a_list N (1 : Int32) (x1 + (1 : Int32)))
def p_M_closing (N : Nat) (listSize_this : Int32) (a_list : Nat → Int32) (x1 : Int32) : Option (Int32) := p_M_closing_0 N listSize_this a_list x1
abbrev rm_M_quote : Room := { frames := 1, cells := 0, slots := 0, locals := 21 }
def p_M_quote_43 (N : Nat) (listSize_this : Int32) (a_list : Nat → Int32) (x2 : Int32) : Option (Int32) := (if listSize_this ≤ x2 then some (listSize_this) else some (x2))
def p_M_quote_4 (N : Nat) (listSize_this : Int32) (a_list : Nat → Int32) : Nat → Int32 → Option (Int32)
  | 0, _ => none
  | n + 1, x2 => (if listSize_this ≤ x2 then (p_M_quote_43 N listSize_this a_list x2) else ((p_M_at N listSize_this a_list x2).bind fun r_14 => (if r_14 = (34 : Int32) then (p_M_quote_43 N listSize_this a_list x2) else ((p_M_at N listSize_this a_list x2).bind fun r_25 => (if r_25 = (92 : Int32) then (p_M_quote_4 N listSize_this a_list n (x2 + (2 : Int32))) else (p_M_quote_4 N listSize_this a_list n (x2 + (1 : Int32))))))))
def p_M_quote_0 (N : Nat) (listSize_this : Int32) (a_list : Nat → Int32) (x1 : Int32) : Option (Int32) := (p_M_quote_4 N listSize_this a_list N (x1 + (1 : Int32)))
def p_M_quote (N : Nat) (listSize_this : Int32) (a_list : Nat → Int32) (x1 : Int32) : Option (Int32) := p_M_quote_0 N listSize_this a_list x1
abbrev rm_M_ending : Room := { frames := 3, cells := 0, slots := 0, locals := 65 }
def p_M_ending_80 (N : Nat) (listSize_this : Int32) (a_list : Nat → Int32) (x3 : Int32) (y0 : Int32) : Option (Int32) := (if y0 = (0 : Int32) then some ((-2 : Int32)) else some ((x3 + (1 : Int32))))
def p_M_ending_79 (N : Nat) (listSize_this : Int32) (a_list : Nat → Int32) (x3 : Int32) : Option (Int32) := (p_M_ending_80 N listSize_this a_list x3 (0 : Int32))
def p_M_ending_75 (N : Nat) (listSize_this : Int32) (a_list : Nat → Int32) (x3 : Int32) : Option (Int32) := (p_M_ending_80 N listSize_this a_list x3 (1 : Int32))
def p_M_ending_43 (N : Nat) (listSize_this : Int32) (a_list : Nat → Int32) (y0 : Int32) : Option (Int32) := (if listSize_this ≤ y0 then (p_M_ending_79 N listSize_this a_list y0) else (if (y0 + (1 : Int32)) = listSize_this then (p_M_ending_75 N listSize_this a_list y0) else ((p_M_at N listSize_this a_list (y0 + (1 : Int32))).bind fun r_66 => ((p_M_isSpace N r_66).bind fun r_69 => (if r_69 = (0 : Int32) then (p_M_ending_79 N listSize_this a_list y0) else (p_M_ending_75 N listSize_this a_list y0))))))
def p_M_ending_24 (N : Nat) (listSize_this : Int32) (a_list : Nat → Int32) (x1 : Int32) (x2 : Int32) : Option (Int32) := (if x2 = (123 : Int32) then ((p_M_closing N listSize_this a_list x1).bind fun r_32 => (p_M_ending_43 N listSize_this a_list r_32)) else ((p_M_quote N listSize_this a_list x1).bind fun r_40 => (p_M_ending_43 N listSize_this a_list r_40)))
def p_M_ending_0 (N : Nat) (listSize_this : Int32) (a_list : Nat → Int32) (x1 : Int32) : Option (Int32) := ((p_M_at N listSize_this a_list x1).bind fun r_2 => (if r_2 = (123 : Int32) then (p_M_ending_24 N listSize_this a_list x1 r_2) else (if r_2 = (34 : Int32) then (p_M_ending_24 N listSize_this a_list x1 r_2) else ((p_M_bare N listSize_this a_list x1).bind fun r_20 => some (r_20)))))
def p_M_ending (N : Nat) (listSize_this : Int32) (a_list : Nat → Int32) (x1 : Int32) : Option (Int32) := p_M_ending_0 N listSize_this a_list x1
abbrev rm_M_add : Room := { frames := 0, cells := 0, slots := 0, locals := 0 }
def p_M_add_0 (N : Nat) (wordSize_this : Int32) (a_word : Nat → Int32) (x1 : Int32) : Option (Int32 × (Nat → Int32)) := (if (wordSize_this < 0 ∨ 1024 ≤ wordSize_this.toNatClampNeg) then none else some ((wordSize_this + (1 : Int32)), (upd a_word wordSize_this.toNatClampNeg x1)))
def p_M_add (N : Nat) (wordSize_this : Int32) (a_word : Nat → Int32) (x1 : Int32) : Option (Int32 × (Nat → Int32)) := p_M_add_0 N wordSize_this a_word x1
abbrev rm_M_digit : Room := { frames := 0, cells := 0, slots := 0, locals := 0 }
def p_M_digit_41 (N : Nat) (x0 : Int32) : Option (Int32) := (if x0 < (65 : Int32) then some ((99 : Int32)) else (if (70 : Int32) < x0 then some ((99 : Int32)) else some (((x0 - (65 : Int32)) + (10 : Int32)))))
def p_M_digit_19 (N : Nat) (x0 : Int32) : Option (Int32) := (if x0 < (97 : Int32) then (p_M_digit_41 N x0) else (if (102 : Int32) < x0 then (p_M_digit_41 N x0) else some (((x0 - (97 : Int32)) + (10 : Int32)))))
def p_M_digit_0 (N : Nat) (x0 : Int32) : Option (Int32) := (if x0 < (48 : Int32) then (p_M_digit_19 N x0) else (if (57 : Int32) < x0 then (p_M_digit_19 N x0) else some ((x0 - (48 : Int32)))))
def p_M_digit (N : Nat) (x0 : Int32) : Option (Int32) := p_M_digit_0 N x0
abbrev rm_M_letter : Room := { frames := 0, cells := 0, slots := 0, locals := 0 }
def p_M_letter_0 (N : Nat) (x0 : Int32) : Option (Int32) := (if x0 = (97 : Int32) then some ((7 : Int32)) else (if x0 = (98 : Int32) then some ((8 : Int32)) else (if x0 = (102 : Int32) then some ((12 : Int32)) else (if x0 = (110 : Int32) then some ((10 : Int32)) else (if x0 = (114 : Int32) then some ((13 : Int32)) else (if x0 = (116 : Int32) then some ((9 : Int32)) else (if x0 = (118 : Int32) then some ((11 : Int32)) else some (x0))))))))
def p_M_letter (N : Nat) (x0 : Int32) : Option (Int32) := p_M_letter_0 N x0
abbrev rm_M_meaning : Room := { frames := 2, cells := 0, slots := 0, locals := 43 }
def p_M_meaning_157 (N : Nat) (listSize_this : Int32) (a_list : Nat → Int32) (wordSize_this : Int32) (a_word : Nat → Int32) (x1 : Int32) (x3 : Int32) (x6 : Int32) (x8 : Int32) (x9 : Int32) : Option (Int32 × Int32 × (Nat → Int32)) := (if x9 ≤ (0 : Int32) then ((p_M_letter N x3).bind fun r_177 => ((p_M_add N wordSize_this a_word r_177).bind fun r_180 => some ((x1 + (2 : Int32)), r_180.1, r_180.2))) else ((p_M_add N wordSize_this a_word (x8 &&& (255 : Int32))).bind fun r_169 => some (x6, r_169.1, r_169.2)))
def p_M_meaning_104 (N : Nat) (listSize_this : Int32) (a_list : Nat → Int32) : Nat → Int32 → (Nat → Int32) → Int32 → Int32 → Int32 → Int32 → Int32 → Int32 → Int32 → Int32 → Option (Int32 × Int32 × (Nat → Int32))
  | 0, _, _, _, _, _, _, _, _, _, _ => none
  | n + 1, wordSize_this, a_word, x1, x2, x3, x5, x6, x7, x8, x9 => (if x7 ≤ x9 then (p_M_meaning_157 N listSize_this a_list wordSize_this a_word x1 x3 x6 x8 x9) else (if x2 ≤ x6 then (p_M_meaning_157 N listSize_this a_list wordSize_this a_word x1 x3 x6 x8 x9) else ((p_M_at N listSize_this a_list x6).bind fun r_120 => ((p_M_digit N r_120).bind fun r_123 => (if x5 ≤ r_123 then (p_M_meaning_157 N listSize_this a_list wordSize_this a_word x1 x3 x6 x8 x9) else ((p_M_at N listSize_this a_list x6).bind fun r_139 => ((p_M_digit N r_139).bind fun r_142 => (p_M_meaning_104 N listSize_this a_list n wordSize_this a_word x1 x2 x3 x5 (x6 + (1 : Int32)) x7 ((x5 * x8) + r_142) (x9 + (1 : Int32))))))))))
def p_M_meaning_84 (N : Nat) (listSize_this : Int32) (a_list : Nat → Int32) (wordSize_this : Int32) (a_word : Nat → Int32) (x1 : Int32) (x2 : Int32) (x3 : Int32) (x4 : Int32) (x5 : Int32) (y0 : Int32) : Option (Int32 × Int32 × (Nat → Int32)) := (if x4 = (0 : Int32) then (p_M_meaning_104 N listSize_this a_list N wordSize_this a_word x1 x2 x3 x5 y0 (3 : Int32) (0 : Int32) (0 : Int32)) else (p_M_meaning_104 N listSize_this a_list N wordSize_this a_word x1 x2 x3 x5 y0 (2 : Int32) (0 : Int32) (0 : Int32)))
def p_M_meaning_68 (N : Nat) (listSize_this : Int32) (a_list : Nat → Int32) (wordSize_this : Int32) (a_word : Nat → Int32) (x1 : Int32) (x2 : Int32) (x3 : Int32) (x4 : Int32) (y0 : Int32) : Option (Int32 × Int32 × (Nat → Int32)) := (if x4 = (0 : Int32) then (p_M_meaning_84 N listSize_this a_list wordSize_this a_word x1 x2 x3 x4 y0 (x1 + (1 : Int32))) else (p_M_meaning_84 N listSize_this a_list wordSize_this a_word x1 x2 x3 x4 y0 (x1 + (2 : Int32))))
def p_M_meaning_54 (N : Nat) (listSize_this : Int32) (a_list : Nat → Int32) (wordSize_this : Int32) (a_word : Nat → Int32) (x1 : Int32) (x2 : Int32) (x3 : Int32) (y0 : Int32) : Option (Int32 × Int32 × (Nat → Int32)) := (if y0 = (0 : Int32) then (p_M_meaning_68 N listSize_this a_list wordSize_this a_word x1 x2 x3 y0 (8 : Int32)) else (p_M_meaning_68 N listSize_this a_list wordSize_this a_word x1 x2 x3 y0 (16 : Int32)))
def p_M_meaning_0 (N : Nat) (listSize_this : Int32) (a_list : Nat → Int32) (wordSize_this : Int32) (a_word : Nat → Int32) (x1 : Int32) (x2 : Int32) : Option (Int32 × Int32 × (Nat → Int32)) := (if (x1 + (1 : Int32)) < x2 then ((p_M_at N listSize_this a_list (x1 + (1 : Int32))).bind fun r_21 => (if r_21 = (10 : Int32) then ((p_M_add N wordSize_this a_word (32 : Int32)).bind fun r_34 => ((p_M_behind N listSize_this a_list x1).bind fun r_39 => some (r_39, r_34.1, r_34.2))) else (if r_21 = (120 : Int32) then (p_M_meaning_54 N listSize_this a_list wordSize_this a_word x1 x2 r_21 (1 : Int32)) else (p_M_meaning_54 N listSize_this a_list wordSize_this a_word x1 x2 r_21 (0 : Int32))))) else ((p_M_add N wordSize_this a_word (92 : Int32)).bind fun r_10 => some ((x1 + (1 : Int32)), r_10.1, r_10.2)))
def p_M_meaning (N : Nat) (listSize_this : Int32) (wordSize_this : Int32) (a_list : Nat → Int32) (a_word : Nat → Int32) (x1 : Int32) (x2 : Int32) : Option (Int32 × Int32 × (Nat → Int32)) := p_M_meaning_0 N listSize_this a_list wordSize_this a_word x1 x2
abbrev rm_M_read : Room := { frames := 3, cells := 0, slots := 0, locals := 72 }
def p_M_read_94 (N : Nat) (listSize_this : Int32) (a_list : Nat → Int32) (k_57 : Int32 → (Nat → Int32) → Int32 → Int32 → Int32 → Option (Int32 × (Nat → Int32))) (wordSize_this : Int32) (a_word : Nat → Int32) (x3 : Int32) (x5 : Int32) (x6 : Int32) : Option (Int32 × (Nat → Int32)) := ((p_M_at N listSize_this a_list x6).bind fun r_98 => ((p_M_add N wordSize_this a_word r_98).bind fun r_101 => (k_57 r_101.1 r_101.2 x3 x5 (x6 + (1 : Int32)))))
def p_M_read_57 (N : Nat) (listSize_this : Int32) (a_list : Nat → Int32) : Nat → Int32 → (Nat → Int32) → Int32 → Int32 → Int32 → Option (Int32 × (Nat → Int32))
  | 0, _, _, _, _, _ => none
  | n + 1, wordSize_this, a_word, x3, x5, x6 => (if x5 ≤ x6 then some (wordSize_this, a_word) else (if x3 = (123 : Int32) then (p_M_read_94 N listSize_this a_list (p_M_read_57 N listSize_this a_list n) wordSize_this a_word x3 x5 x6) else ((p_M_at N listSize_this a_list x6).bind fun r_73 => (if r_73 = (92 : Int32) then ((p_M_meaning N listSize_this wordSize_this a_list a_word x6 x5).bind fun r_86 => (p_M_read_57 N listSize_this a_list n r_86.2.1 r_86.2.2 x3 x5 r_86.1)) else (p_M_read_94 N listSize_this a_list (p_M_read_57 N listSize_this a_list n) wordSize_this a_word x3 x5 x6)))))
def p_M_read_39 (N : Nat) (listSize_this : Int32) (a_list : Nat → Int32) (wordSize_this : Int32) (a_word : Nat → Int32) (x2 : Int32) (x3 : Int32) (x4 : Int32) : Option (Int32 × (Nat → Int32)) := (p_M_read_57 N listSize_this a_list N (0 : Int32) a_word x3 (x2 - (1 : Int32)) x4)
def p_M_read_25 (N : Nat) (listSize_this : Int32) (a_list : Nat → Int32) (wordSize_this : Int32) (a_word : Nat → Int32) (x2 : Int32) (x3 : Int32) (y0 : Int32) : Option (Int32 × (Nat → Int32)) := (if x3 = (123 : Int32) then (p_M_read_39 N listSize_this a_list wordSize_this a_word x2 x3 y0) else (if x3 = (34 : Int32) then (p_M_read_39 N listSize_this a_list wordSize_this a_word x2 x3 y0) else (p_M_read_57 N listSize_this a_list N (0 : Int32) a_word x3 x2 y0)))
def p_M_read_18 (N : Nat) (listSize_this : Int32) (a_list : Nat → Int32) (wordSize_this : Int32) (a_word : Nat → Int32) (x1 : Int32) (x2 : Int32) (x3 : Int32) : Option (Int32 × (Nat → Int32)) := (p_M_read_25 N listSize_this a_list wordSize_this a_word x2 x3 (x1 + (1 : Int32)))
def p_M_read_0 (N : Nat) (listSize_this : Int32) (a_list : Nat → Int32) (wordSize_this : Int32) (a_word : Nat → Int32) (x1 : Int32) (x2 : Int32) : Option (Int32 × (Nat → Int32)) := ((p_M_at N listSize_this a_list x1).bind fun r_2 => (if r_2 = (123 : Int32) then (p_M_read_18 N listSize_this a_list wordSize_this a_word x1 x2 r_2) else (if r_2 = (34 : Int32) then (p_M_read_18 N listSize_this a_list wordSize_this a_word x1 x2 r_2) else (p_M_read_25 N listSize_this a_list wordSize_this a_word x2 r_2 x1))))
def p_M_read (N : Nat) (listSize_this : Int32) (wordSize_this : Int32) (a_list : Nat → Int32) (a_word : Nat → Int32) (x1 : Int32) (x2 : Int32) : Option (Int32 × (Nat → Int32)) := p_M_read_0 N listSize_this a_list wordSize_this a_word x1 x2
abbrev rm_M_goOver : Room := { frames := 4, cells := 0, slots := 0, locals := 98 }
def p_M_goOver_50 (N : Nat) (listSize_this : Int32) (a_list : Nat → Int32) (k_8 : Int32 → (Nat → Int32) → Int32 → Int32 → Int32 → Option (Int32 × Int32 × (Nat → Int32))) (wordSize_this : Int32) (a_word : Nat → Int32) (x1 : Int32) (x2 : Int32) (x4 : Int32) : Option (Int32 × Int32 × (Nat → Int32)) := ((p_M_skip N listSize_this a_list x4).bind fun r_56 => (k_8 wordSize_this a_word x1 (x2 + (1 : Int32)) r_56))
def p_M_goOver_8 (N : Nat) (listSize_this : Int32) (a_list : Nat → Int32) : Nat → Int32 → (Nat → Int32) → Int32 → Int32 → Int32 → Option (Int32 × Int32 × (Nat → Int32))
  | 0, _, _, _, _, _ => none
  | n + 1, wordSize_this, a_word, x1, x2, x3 => (if listSize_this ≤ x3 then some (x2, wordSize_this, a_word) else (if x1 < x2 then some (x2, wordSize_this, a_word) else ((p_M_ending N listSize_this a_list x3).bind fun r_23 => (if r_23 = (-2 : Int32) then some ((-2 : Int32), wordSize_this, a_word) else (if x2 = x1 then ((p_M_read N listSize_this wordSize_this a_list a_word x3 r_23).bind fun r_47 => (p_M_goOver_50 N listSize_this a_list (p_M_goOver_8 N listSize_this a_list n) r_47.1 r_47.2 x1 x2 r_23)) else (p_M_goOver_50 N listSize_this a_list (p_M_goOver_8 N listSize_this a_list n) wordSize_this a_word x1 x2 r_23))))))
def p_M_goOver_0 (N : Nat) (listSize_this : Int32) (a_list : Nat → Int32) (wordSize_this : Int32) (a_word : Nat → Int32) (x1 : Int32) : Option (Int32 × Int32 × (Nat → Int32)) := ((p_M_skip N listSize_this a_list (0 : Int32)).bind fun r_4 => (p_M_goOver_8 N listSize_this a_list N wordSize_this a_word x1 (0 : Int32) r_4))
def p_M_goOver (N : Nat) (listSize_this : Int32) (wordSize_this : Int32) (a_list : Nat → Int32) (a_word : Nat → Int32) (x1 : Int32) : Option (Int32 × Int32 × (Nat → Int32)) := p_M_goOver_0 N listSize_this a_list wordSize_this a_word x1
abbrev rm_M_put : Room := { frames := 0, cells := 0, slots := 0, locals := 0 }
def p_M_put_0 (N : Nat) (textSize_this : Int32) (a_text : Nat → Int32) (x1 : Int32) : Option (Int32 × (Nat → Int32)) := (if (textSize_this < 0 ∨ 4200 ≤ textSize_this.toNatClampNeg) then none else some ((textSize_this + (1 : Int32)), (upd a_text textSize_this.toNatClampNeg x1)))
def p_M_put (N : Nat) (textSize_this : Int32) (a_text : Nat → Int32) (x1 : Int32) : Option (Int32 × (Nat → Int32)) := p_M_put_0 N textSize_this a_text x1
abbrev rm_M_isSpecial : Room := { frames := 1, cells := 0, slots := 0, locals := 20 }
def p_M_isSpecial_0 (N : Nat) (x0 : Int32) : Option (Int32) := ((p_M_isSpace N x0).bind fun r_1 => (if r_1 = (0 : Int32) then (if x0 = (34 : Int32) then some ((1 : Int32)) else (if x0 = (36 : Int32) then some ((1 : Int32)) else (if x0 = (59 : Int32) then some ((1 : Int32)) else (if x0 = (91 : Int32) then some ((1 : Int32)) else (if x0 = (92 : Int32) then some ((1 : Int32)) else (if x0 = (93 : Int32) then some ((1 : Int32)) else (if x0 = (123 : Int32) then some ((1 : Int32)) else (if x0 = (125 : Int32) then some ((1 : Int32)) else some ((0 : Int32)))))))))) else some ((1 : Int32))))
def p_M_isSpecial (N : Nat) (x0 : Int32) : Option (Int32) := p_M_isSpecial_0 N x0
abbrev rm_M_isPlain : Room := { frames := 2, cells := 0, slots := 0, locals := 40 }
def p_M_isPlain_26 (N : Nat) (wordSize_this : Int32) (a_word : Nat → Int32) : Nat → Int32 → Int32 → Option (Int32)
  | 0, _, _ => none
  | n + 1, x1, x2 => (if wordSize_this ≤ x2 then (if ¬ (x1 = 0 ∨ x1 = 1) then none else some (x1)) else (if x1 = (0 : Int32) then (p_M_isPlain_26 N wordSize_this a_word n (0 : Int32) (x2 + (1 : Int32))) else (if (x2 < 0 ∨ 1024 ≤ x2.toNatClampNeg) then none else ((p_M_isSpecial N (a_word x2.toNatClampNeg)).bind fun r_44 => (if r_44 = (0 : Int32) then (p_M_isPlain_26 N wordSize_this a_word n (1 : Int32) (x2 + (1 : Int32))) else (p_M_isPlain_26 N wordSize_this a_word n (0 : Int32) (x2 + (1 : Int32))))))))
def p_M_isPlain_0 (N : Nat) (wordSize_this : Int32) (a_word : Nat → Int32) : Option (Int32) := (if wordSize_this ≤ (0 : Int32) then (p_M_isPlain_26 N wordSize_this a_word N (0 : Int32) (0 : Int32)) else (if ((0 : Int32) < 0 ∨ 1024 ≤ (0 : Int32).toNatClampNeg) then none else (if (a_word (0 : Int32).toNatClampNeg) = (35 : Int32) then (p_M_isPlain_26 N wordSize_this a_word N (0 : Int32) (0 : Int32)) else (p_M_isPlain_26 N wordSize_this a_word N (1 : Int32) (0 : Int32)))))
def p_M_isPlain (N : Nat) (wordSize_this : Int32) (a_word : Nat → Int32) : Option (Int32) := p_M_isPlain_0 N wordSize_this a_word
abbrev rm_M_isBraced : Room := { frames := 0, cells := 0, slots := 0, locals := 0 }
def p_M_isBraced_46 (N : Nat) (wordSize_this : Int32) (a_word : Nat → Int32) (k_6 : Int32 → Int32 → Int32 → Option (Int32)) (x1 : Int32) (x3 : Int32) (y0 : Int32) (y1 : Int32) : Option (Int32) := (if x1 = (0 : Int32) then (k_6 (0 : Int32) (y1 + y0) (x3 + (1 : Int32))) else (if (y1 + y0) < (0 : Int32) then (k_6 (0 : Int32) (y1 + y0) (x3 + (1 : Int32))) else (if (x3 < 0 ∨ 1024 ≤ x3.toNatClampNeg) then none else (if (a_word x3.toNatClampNeg) = (92 : Int32) then (k_6 (0 : Int32) (y1 + y0) (x3 + (1 : Int32))) else (k_6 (1 : Int32) (y1 + y0) (x3 + (1 : Int32)))))))
def p_M_isBraced_6 (N : Nat) (wordSize_this : Int32) (a_word : Nat → Int32) : Nat → Int32 → Int32 → Int32 → Option (Int32)
  | 0, _, _, _ => none
  | n + 1, x1, x2, x3 => (if wordSize_this ≤ x3 then (if x1 = (0 : Int32) then some ((0 : Int32)) else (if x2 = (0 : Int32) then some ((1 : Int32)) else some ((0 : Int32)))) else (if (x3 < 0 ∨ 1024 ≤ x3.toNatClampNeg) then none else (if (a_word x3.toNatClampNeg) = (123 : Int32) then (p_M_isBraced_46 N wordSize_this a_word (p_M_isBraced_6 N wordSize_this a_word n) x1 x3 (1 : Int32) x2) else (if (x3 < 0 ∨ 1024 ≤ x3.toNatClampNeg) then none else (if (a_word x3.toNatClampNeg) = (125 : Int32) then (p_M_isBraced_46 N wordSize_this a_word (p_M_isBraced_6 N wordSize_this a_word n) x1 x3 (-1 : Int32) x2) else (p_M_isBraced_46 N wordSize_this a_word (p_M_isBraced_6 N wordSize_this a_word n) x1 x3 (0 : Int32) x2))))))
def p_M_isBraced_0 (N : Nat) (wordSize_this : Int32) (a_word : Nat → Int32) : Option (Int32) := (p_M_isBraced_6 N wordSize_this a_word N (1 : Int32) (0 : Int32) (0 : Int32))
def p_M_isBraced (N : Nat) (wordSize_this : Int32) (a_word : Nat → Int32) : Option (Int32) := p_M_isBraced_0 N wordSize_this a_word
abbrev rm_M_escape : Room := { frames := 2, cells := 0, slots := 0, locals := 40 }
def p_M_escape_80 (N : Nat) (textSize_this : Int32) (a_text : Nat → Int32) (y0 : Int32) : Option (Int32 × (Nat → Int32)) := ((p_M_put N textSize_this a_text y0).bind fun r_80 => some (r_80.1, r_80.2))
def p_M_escape_23 (N : Nat) (textSize_this : Int32) (a_text : Nat → Int32) (x1 : Int32) : Option (Int32 × (Nat → Int32)) := (if x1 = (9 : Int32) then (p_M_escape_80 N textSize_this a_text (116 : Int32)) else (if x1 = (10 : Int32) then (p_M_escape_80 N textSize_this a_text (110 : Int32)) else (if x1 = (11 : Int32) then (p_M_escape_80 N textSize_this a_text (118 : Int32)) else (if x1 = (12 : Int32) then (p_M_escape_80 N textSize_this a_text (102 : Int32)) else (if x1 = (13 : Int32) then (p_M_escape_80 N textSize_this a_text (114 : Int32)) else (p_M_escape_80 N textSize_this a_text x1))))))
def p_M_escape_17 (N : Nat) (textSize_this : Int32) (a_text : Nat → Int32) (x1 : Int32) : Option (Int32 × (Nat → Int32)) := ((p_M_put N textSize_this a_text (92 : Int32)).bind fun r_20 => (p_M_escape_23 N r_20.1 r_20.2 x1))
def p_M_escape_0 (N : Nat) (textSize_this : Int32) (a_text : Nat → Int32) (x1 : Int32) (x2 : Int32) : Option (Int32 × (Nat → Int32)) := ((p_M_isSpecial N x1).bind fun r_1 => (if r_1 = (0 : Int32) then (if x2 = (0 : Int32) then (p_M_escape_23 N textSize_this a_text x1) else (if x1 = (35 : Int32) then (p_M_escape_17 N textSize_this a_text x1) else (p_M_escape_23 N textSize_this a_text x1))) else (p_M_escape_17 N textSize_this a_text x1)))
def p_M_escape (N : Nat) (textSize_this : Int32) (a_text : Nat → Int32) (x1 : Int32) (x2 : Int32) : Option (Int32 × (Nat → Int32)) := p_M_escape_0 N textSize_this a_text x1 x2
abbrev rm_M_write : Room := { frames := 3, cells := 0, slots := 0, locals := 62 }
def p_M_write_103 (N : Nat) (wordSize_this : Int32) (a_word : Nat → Int32) (k_62 : Int32 → (Nat → Int32) → Int32 → Int32 → Int32 → Option (Int32 × (Nat → Int32))) (textSize_this : Int32) (a_text : Nat → Int32) (x1 : Int32) (x2 : Int32) (x3 : Int32) (y0 : Int32) (y1 : Int32) : Option (Int32 × (Nat → Int32)) := ((p_M_escape N textSize_this a_text y1 y0).bind fun r_103 => (k_62 r_103.1 r_103.2 x1 x2 (x3 + (1 : Int32))))
def p_M_write_62 (N : Nat) (wordSize_this : Int32) (a_word : Nat → Int32) : Nat → Int32 → (Nat → Int32) → Int32 → Int32 → Int32 → Option (Int32 × (Nat → Int32))
  | 0, _, _, _, _, _ => none
  | n + 1, textSize_this, a_text, x1, x2, x3 => (if wordSize_this ≤ x3 then (if x1 = (0 : Int32) then some (textSize_this, a_text) else ((p_M_put N textSize_this a_text (125 : Int32)).bind fun r_119 => some (r_119.1, r_119.2))) else (if x2 = (0 : Int32) then (if (x3 < 0 ∨ 1024 ≤ x3.toNatClampNeg) then none else (if x3 = (0 : Int32) then (p_M_write_103 N wordSize_this a_word (p_M_write_62 N wordSize_this a_word n) textSize_this a_text x1 x2 x3 (1 : Int32) (a_word x3.toNatClampNeg)) else (p_M_write_103 N wordSize_this a_word (p_M_write_62 N wordSize_this a_word n) textSize_this a_text x1 x2 x3 (0 : Int32) (a_word x3.toNatClampNeg)))) else (if (x3 < 0 ∨ 1024 ≤ x3.toNatClampNeg) then none else ((p_M_put N textSize_this a_text (a_word x3.toNatClampNeg)).bind fun r_81 => (p_M_write_62 N wordSize_this a_word n r_81.1 r_81.2 x1 x2 (x3 + (1 : Int32)))))))
def p_M_write_49 (N : Nat) (wordSize_this : Int32) (a_word : Nat → Int32) (textSize_this : Int32) (a_text : Nat → Int32) (x1 : Int32) (y0 : Int32) : Option (Int32 × (Nat → Int32)) := (if x1 = (0 : Int32) then (p_M_write_62 N wordSize_this a_word N textSize_this a_text x1 y0 (0 : Int32)) else ((p_M_put N textSize_this a_text (123 : Int32)).bind fun r_57 => (p_M_write_62 N wordSize_this a_word N r_57.1 r_57.2 x1 y0 (0 : Int32))))
def p_M_write_44 (N : Nat) (wordSize_this : Int32) (a_word : Nat → Int32) (textSize_this : Int32) (a_text : Nat → Int32) (x1 : Int32) : Option (Int32 × (Nat → Int32)) := (p_M_write_49 N wordSize_this a_word textSize_this a_text x1 (1 : Int32))
def p_M_write_32 (N : Nat) (wordSize_this : Int32) (a_word : Nat → Int32) (textSize_this : Int32) (a_text : Nat → Int32) (y0 : Int32) : Option (Int32 × (Nat → Int32)) := ((p_M_isPlain N wordSize_this a_word).bind fun r_34 => (if r_34 = (0 : Int32) then (if y0 = (0 : Int32) then (p_M_write_49 N wordSize_this a_word textSize_this a_text y0 (0 : Int32)) else (p_M_write_44 N wordSize_this a_word textSize_this a_text y0)) else (p_M_write_44 N wordSize_this a_word textSize_this a_text y0)))
def p_M_write_31 (N : Nat) (wordSize_this : Int32) (a_word : Nat → Int32) (textSize_this : Int32) (a_text : Nat → Int32) : Option (Int32 × (Nat → Int32)) := (p_M_write_32 N wordSize_this a_word textSize_this a_text (0 : Int32))
def p_M_write_13 (N : Nat) (wordSize_this : Int32) (a_word : Nat → Int32) (textSize_this : Int32) (a_text : Nat → Int32) : Option (Int32 × (Nat → Int32)) := ((p_M_isPlain N wordSize_this a_word).bind fun r_14 => (if r_14 = (0 : Int32) then ((p_M_isBraced N wordSize_this a_word).bind fun r_21 => (if r_21 = (0 : Int32) then (p_M_write_31 N wordSize_this a_word textSize_this a_text) else (p_M_write_32 N wordSize_this a_word textSize_this a_text (1 : Int32)))) else (p_M_write_31 N wordSize_this a_word textSize_this a_text)))
def p_M_write_0 (N : Nat) (wordSize_this : Int32) (a_word : Nat → Int32) (textSize_this : Int32) (a_text : Nat → Int32) : Option (Int32 × (Nat → Int32)) := (if textSize_this ≤ (0 : Int32) then (p_M_write_13 N wordSize_this a_word textSize_this a_text) else ((p_M_put N textSize_this a_text (32 : Int32)).bind fun r_10 => (p_M_write_13 N wordSize_this a_word r_10.1 r_10.2)))
def p_M_write (N : Nat) (wordSize_this : Int32) (textSize_this : Int32) (a_word : Nat → Int32) (a_text : Nat → Int32) : Option (Int32 × (Nat → Int32)) := p_M_write_0 N wordSize_this a_word textSize_this a_text
abbrev rm_M_settle : Room := { frames := 0, cells := 0, slots := 0, locals := 0 }
def p_M_settle_15 (N : Nat) (textSize_this : Int32) (a_text : Nat → Int32) : Nat → Int32 → (Nat → Int32) → Int32 → Option (Int32 × Int32 × (Nat → Int32))
  | 0, _, _, _ => none
  | n + 1, listSize_this, a_list, x1 => (if textSize_this ≤ x1 then some (textSize_this, textSize_this, a_list) else (if (x1 < 0 ∨ 4200 ≤ x1.toNatClampNeg) then none else (if (x1 < 0 ∨ 1024 ≤ x1.toNatClampNeg) then none else (p_M_settle_15 N textSize_this a_text n listSize_this (upd a_list x1.toNatClampNeg (a_text x1.toNatClampNeg)) (x1 + (1 : Int32))))))
def p_M_settle_0 (N : Nat) (textSize_this : Int32) (a_text : Nat → Int32) (listSize_this : Int32) (a_list : Nat → Int32) : Option (Int32 × Int32 × (Nat → Int32)) := (if textSize_this ≤ (1024 : Int32) then (p_M_settle_15 N textSize_this a_text N listSize_this a_list (0 : Int32)) else some ((-3 : Int32), listSize_this, a_list))
def p_M_settle (N : Nat) (listSize_this : Int32) (textSize_this : Int32) (a_list : Nat → Int32) (a_text : Nat → Int32) : Option (Int32 × Int32 × (Nat → Int32)) := p_M_settle_0 N textSize_this a_text listSize_this a_list
abbrev rm_M_again : Room := { frames := 5, cells := 0, slots := 0, locals := 122 }
def p_M_again_55 (N : Nat) (listSize_this : Int32) (wordSize_this : Int32) (textSize_this : Int32) (a_list : Nat → Int32) (a_word : Nat → Int32) (a_text : Nat → Int32) : Option (Int32 × Int32 × Int32 × Int32 × (Nat → Int32) × (Nat → Int32) × (Nat → Int32)) := ((p_M_settle N listSize_this textSize_this a_list a_text).bind fun r_56 => some (r_56.1, r_56.2.1, wordSize_this, textSize_this, r_56.2.2, a_word, a_text))
def p_M_again_24 (N : Nat) : Nat → Int32 → Int32 → Int32 → (Nat → Int32) → (Nat → Int32) → (Nat → Int32) → Int32 → Int32 → Option (Int32 × Int32 × Int32 × Int32 × (Nat → Int32) × (Nat → Int32) × (Nat → Int32))
  | 0, _, _, _, _, _, _, _, _ => none
  | n + 1, listSize_this, wordSize_this, textSize_this, a_list, a_word, a_text, x1, x2 => (if x1 ≤ x2 then (p_M_again_55 N listSize_this wordSize_this textSize_this a_list a_word a_text) else (if (1024 : Int32) < textSize_this then (p_M_again_55 N listSize_this wordSize_this textSize_this a_list a_word a_text) else ((p_M_goOver N listSize_this wordSize_this a_list a_word x2).bind fun r_41 => ((p_M_write N r_41.2.1 textSize_this r_41.2.2 a_text).bind fun r_46 => (p_M_again_24 N n listSize_this r_41.2.1 r_46.1 a_list r_41.2.2 r_46.2 x1 (x2 + (1 : Int32)))))))
def p_M_again_0 (N : Nat) (listSize_this : Int32) (wordSize_this : Int32) (textSize_this : Int32) (a_list : Nat → Int32) (a_word : Nat → Int32) (a_text : Nat → Int32) : Option (Int32 × Int32 × Int32 × Int32 × (Nat → Int32) × (Nat → Int32) × (Nat → Int32)) := ((p_M_goOver N listSize_this wordSize_this a_list a_word (1024 : Int32)).bind fun r_4 => (if r_4.1 = (-2 : Int32) then some ((-2 : Int32), listSize_this, r_4.2.1, textSize_this, a_list, r_4.2.2, a_text) else (p_M_again_24 N N listSize_this r_4.2.1 (0 : Int32) a_list r_4.2.2 a_text r_4.1 (0 : Int32))))
def p_M_again (N : Nat) (listSize_this : Int32) (wordSize_this : Int32) (textSize_this : Int32) (a_list : Nat → Int32) (a_word : Nat → Int32) (a_text : Nat → Int32) : Option (Int32 × Int32 × Int32 × Int32 × (Nat → Int32) × (Nat → Int32) × (Nat → Int32)) := p_M_again_0 N listSize_this wordSize_this textSize_this a_list a_word a_text
abbrev rm_X_append : Room := { frames := 7, cells := 0, slots := 0, locals := 162 }
def p_X_append_0 (N : Nat) (size_item : Int32) (a_item_bytes : Nat → Int32) (size_list : Int32) (a_list_bytes : Nat → Int32) : Option (Int32 × Int32 × (Nat → Int32)) := ((p_R_size N size_list).bind fun r_4 => ((p_X_writeBehind N size_list a_list_bytes size_item a_item_bytes).bind fun r_16 => (if r_16.1 = (0 : Int32) then ((p_R_cutTo N r_16.2.1 r_4).bind fun r_35 => some ((-3 : Int32), r_35.2, r_16.2.2)) else ((p_R_size N r_16.2.1).bind fun r_26 => some (r_26, r_16.2.1, r_16.2.2)))))
def p_X_append (N : Nat) (size_list : Int32) (a_list_bytes : Nat → Int32) (size_item : Int32) (a_item_bytes : Nat → Int32) : Option (Int32 × Int32 × (Nat → Int32)) := p_X_append_0 N size_item a_item_bytes size_list a_list_bytes
abbrev rm_M_append : Room := { frames := 4, cells := 0, slots := 0, locals := 85 }
def p_M_append_33 (N : Nat) (itemSize_this : Int32) (a_item : Nat → Int32) : Nat → Int32 → Int32 → Int32 → (Nat → Int32) → (Nat → Int32) → (Nat → Int32) → Int32 → Option (Int32 × Int32 × Int32 × Int32 × (Nat → Int32) × (Nat → Int32) × (Nat → Int32))
  | 0, _, _, _, _, _, _, _ => none
  | n + 1, listSize_this, wordSize_this, textSize_this, a_list, a_word, a_text, x1 => (if itemSize_this ≤ x1 then ((p_M_write N itemSize_this textSize_this a_word a_text).bind fun r_68 => ((p_M_settle N listSize_this r_68.1 a_list r_68.2).bind fun r_72 => some (r_72.1, r_72.2.1, itemSize_this, r_68.1, r_72.2.2, a_word, r_68.2))) else (if (x1 < 0 ∨ 1024 ≤ x1.toNatClampNeg) then none else (if (x1 < 0 ∨ 1024 ≤ x1.toNatClampNeg) then none else (p_M_append_33 N itemSize_this a_item n listSize_this wordSize_this textSize_this a_list (upd a_word x1.toNatClampNeg (a_item x1.toNatClampNeg)) a_text (x1 + (1 : Int32))))))
def p_M_append_7 (N : Nat) (itemSize_this : Int32) (a_item : Nat → Int32) : Nat → Int32 → Int32 → Int32 → (Nat → Int32) → (Nat → Int32) → (Nat → Int32) → Int32 → Option (Int32 × Int32 × Int32 × Int32 × (Nat → Int32) × (Nat → Int32) × (Nat → Int32))
  | 0, _, _, _, _, _, _, _ => none
  | n + 1, listSize_this, wordSize_this, textSize_this, a_list, a_word, a_text, x1 => (if listSize_this ≤ x1 then (p_M_append_33 N itemSize_this a_item N listSize_this wordSize_this textSize_this a_list a_word a_text (0 : Int32)) else (if (x1 < 0 ∨ 1024 ≤ x1.toNatClampNeg) then none else ((p_M_put N textSize_this a_text (a_list x1.toNatClampNeg)).bind fun r_22 => (p_M_append_7 N itemSize_this a_item n listSize_this wordSize_this r_22.1 a_list a_word r_22.2 (x1 + (1 : Int32))))))
def p_M_append_0 (N : Nat) (itemSize_this : Int32) (a_item : Nat → Int32) (listSize_this : Int32) (wordSize_this : Int32) (textSize_this : Int32) (a_list : Nat → Int32) (a_word : Nat → Int32) (a_text : Nat → Int32) : Option (Int32 × Int32 × Int32 × Int32 × (Nat → Int32) × (Nat → Int32) × (Nat → Int32)) := (p_M_append_7 N itemSize_this a_item N listSize_this wordSize_this (0 : Int32) a_list a_word a_text (0 : Int32))
def p_M_append (N : Nat) (listSize_this : Int32) (itemSize_this : Int32) (wordSize_this : Int32) (textSize_this : Int32) (a_list : Nat → Int32) (a_item : Nat → Int32) (a_word : Nat → Int32) (a_text : Nat → Int32) : Option (Int32 × Int32 × Int32 × Int32 × (Nat → Int32) × (Nat → Int32) × (Nat → Int32)) := p_M_append_0 N itemSize_this a_item listSize_this wordSize_this textSize_this a_list a_word a_text
abbrev rm_X_element : Room := { frames := 8, cells := 0, slots := 0, locals := 189 }
def p_X_element_32 (N : Nat) (size_list : Int32) (a_list_bytes : Nat → Int32) : Nat → Int32 → Int32 → (Nat → Int32) → Int32 → (Nat → Int32) → Int32 → Int32 → Option (Int32 × Int32 × Int32 × (Nat → Int32) × Int32 × (Nat → Int32))
  | 0, _, _, _, _, _, _, _ => none
  | n + 1, place_this, size_item, a_item_bytes, size_word, a_word_bytes, x1, x3 => (if x1 < x3 then ((p_R_takeAll N size_item a_item_bytes size_word a_word_bytes).bind fun r_56 => some (r_56.1, place_this, r_56.2.1, r_56.2.2.1, r_56.2.2.2, a_word_bytes)) else ((p_X_nextElement N place_this size_list a_list_bytes size_word a_word_bytes).bind fun r_38 => (p_X_element_32 N size_list a_list_bytes n r_38.2.1 size_item a_item_bytes r_38.2.2.1 r_38.2.2.2 x1 (x3 + (1 : Int32)))))
def p_X_element_0 (N : Nat) (size_list : Int32) (a_list_bytes : Nat → Int32) (place_this : Int32) (size_item : Int32) (a_item_bytes : Nat → Int32) (size_word : Int32) (a_word_bytes : Nat → Int32) (x1 : Int32) : Option (Int32 × Int32 × Int32 × (Nat → Int32) × Int32 × (Nat → Int32)) := ((p_X_count N place_this size_list a_list_bytes size_word a_word_bytes).bind fun r_1 => (if r_1.1 = (-2 : Int32) then some ((-2 : Int32), r_1.2.1, size_item, a_item_bytes, r_1.2.2.1, r_1.2.2.2) else (if x1 < (0 : Int32) then some ((-1 : Int32), r_1.2.1, size_item, a_item_bytes, r_1.2.2.1, r_1.2.2.2) else (if x1 < r_1.1 then (p_X_element_32 N size_list a_list_bytes N (0 : Int32) size_item a_item_bytes r_1.2.2.1 r_1.2.2.2 x1 (0 : Int32)) else some ((-1 : Int32), r_1.2.1, size_item, a_item_bytes, r_1.2.2.1, r_1.2.2.2)))))
def p_X_element (N : Nat) (place_this : Int32) (size_list : Int32) (a_list_bytes : Nat → Int32) (size_item : Int32) (a_item_bytes : Nat → Int32) (size_word : Int32) (a_word_bytes : Nat → Int32) (x1 : Int32) : Option (Int32 × Int32 × Int32 × (Nat → Int32) × Int32 × (Nat → Int32)) := p_X_element_0 N size_list a_list_bytes place_this size_item a_item_bytes size_word a_word_bytes x1
abbrev rm_M_element : Room := { frames := 5, cells := 0, slots := 0, locals := 122 }
def p_M_element_36 (N : Nat) (listSize_this : Int32) (a_list : Nat → Int32) : Nat → Int32 → Int32 → (Nat → Int32) → (Nat → Int32) → Int32 → Option (Int32 × Int32 × Int32 × (Nat → Int32) × (Nat → Int32))
  | 0, _, _, _, _, _ => none
  | n + 1, itemSize_this, wordSize_this, a_item, a_word, x3 => (if wordSize_this ≤ x3 then some (wordSize_this, wordSize_this, wordSize_this, a_item, a_word) else (if (x3 < 0 ∨ 1024 ≤ x3.toNatClampNeg) then none else (if (x3 < 0 ∨ 1024 ≤ x3.toNatClampNeg) then none else (p_M_element_36 N listSize_this a_list n itemSize_this wordSize_this (upd a_item x3.toNatClampNeg (a_word x3.toNatClampNeg)) a_word (x3 + (1 : Int32))))))
def p_M_element_0 (N : Nat) (listSize_this : Int32) (a_list : Nat → Int32) (itemSize_this : Int32) (wordSize_this : Int32) (a_item : Nat → Int32) (a_word : Nat → Int32) (x1 : Int32) : Option (Int32 × Int32 × Int32 × (Nat → Int32) × (Nat → Int32)) := ((p_M_goOver N listSize_this wordSize_this a_list a_word (1024 : Int32)).bind fun r_4 => (if r_4.1 = (-2 : Int32) then some ((-2 : Int32), itemSize_this, r_4.2.1, a_item, r_4.2.2) else (if x1 < (0 : Int32) then some ((-1 : Int32), itemSize_this, r_4.2.1, a_item, r_4.2.2) else (if x1 < r_4.1 then ((p_M_goOver N listSize_this r_4.2.1 a_list r_4.2.2 x1).bind fun r_30 => (p_M_element_36 N listSize_this a_list N itemSize_this r_30.2.1 a_item r_30.2.2 (0 : Int32))) else some ((-1 : Int32), itemSize_this, r_4.2.1, a_item, r_4.2.2)))))
def p_M_element (N : Nat) (listSize_this : Int32) (itemSize_this : Int32) (wordSize_this : Int32) (a_list : Nat → Int32) (a_item : Nat → Int32) (a_word : Nat → Int32) (x1 : Int32) : Option (Int32 × Int32 × Int32 × (Nat → Int32) × (Nat → Int32)) := p_M_element_0 N listSize_this a_list itemSize_this wordSize_this a_item a_word x1
abbrev rm_M_count : Room := { frames := 5, cells := 0, slots := 0, locals := 122 }
def p_M_count_0 (N : Nat) (listSize_this : Int32) (a_list : Nat → Int32) (wordSize_this : Int32) (a_word : Nat → Int32) : Option (Int32 × Int32 × (Nat → Int32)) := ((p_M_goOver N listSize_this wordSize_this a_list a_word (1024 : Int32)).bind fun r_4 => some (r_4.1, r_4.2.1, r_4.2.2))
def p_M_count (N : Nat) (listSize_this : Int32) (wordSize_this : Int32) (a_list : Nat → Int32) (a_word : Nat → Int32) : Option (Int32 × Int32 × (Nat → Int32)) := p_M_count_0 N listSize_this a_list wordSize_this a_word
abbrev rm_X_item : Room := { frames := 3, cells := 0, slots := 0, locals := 82 }
def p_X_item_0 (N : Nat) (a_tape_bytes : Nat → Int32) (size_tape : Int32) (size_item : Int32) (a_item_bytes : Nat → Int32) : Option (Int32 × Int32 × Int32 × (Nat → Int32)) := ((p_R_takeAll N size_item a_item_bytes size_tape a_tape_bytes).bind fun r_8 => some (r_8.1, r_8.2.2.2, r_8.2.1, r_8.2.2.1))
def p_X_item (N : Nat) (size_tape : Int32) (a_tape_bytes : Nat → Int32) (size_item : Int32) (a_item_bytes : Nat → Int32) : Option (Int32 × Int32 × Int32 × (Nat → Int32)) := p_X_item_0 N a_tape_bytes size_tape size_item a_item_bytes
abbrev rm_M_item : Room := { frames := 0, cells := 0, slots := 0, locals := 0 }
def p_M_item_2 (N : Nat) (a_tape : Nat → Int32) : Nat → Int32 → Int32 → (Nat → Int32) → Int32 → Option (Int32 × Int32 × Int32 × (Nat → Int32))
  | 0, _, _, _, _ => none
  | n + 1, tapeSize_this, itemSize_this, a_item, x1 => (if tapeSize_this ≤ x1 then some (tapeSize_this, (0 : Int32), tapeSize_this, a_item) else (if (x1 < 0 ∨ 1024 ≤ x1.toNatClampNeg) then none else (if (x1 < 0 ∨ 1024 ≤ x1.toNatClampNeg) then none else (p_M_item_2 N a_tape n tapeSize_this itemSize_this (upd a_item x1.toNatClampNeg (a_tape x1.toNatClampNeg)) (x1 + (1 : Int32))))))
def p_M_item_0 (N : Nat) (a_tape : Nat → Int32) (tapeSize_this : Int32) (itemSize_this : Int32) (a_item : Nat → Int32) : Option (Int32 × Int32 × Int32 × (Nat → Int32)) := (p_M_item_2 N a_tape N tapeSize_this itemSize_this a_item (0 : Int32))
def p_M_item (N : Nat) (tapeSize_this : Int32) (itemSize_this : Int32) (a_tape : Nat → Int32) (a_item : Nat → Int32) : Option (Int32 × Int32 × Int32 × (Nat → Int32)) := p_M_item_0 N a_tape tapeSize_this itemSize_this a_item
abbrev rm_X_list : Room := { frames := 3, cells := 0, slots := 0, locals := 82 }
def p_X_list_0 (N : Nat) (a_tape_bytes : Nat → Int32) (size_tape : Int32) (size_list : Int32) (a_list_bytes : Nat → Int32) : Option (Int32 × Int32 × Int32 × (Nat → Int32)) := ((p_R_takeAll N size_list a_list_bytes size_tape a_tape_bytes).bind fun r_8 => some (r_8.1, r_8.2.2.2, r_8.2.1, r_8.2.2.1))
def p_X_list (N : Nat) (size_tape : Int32) (a_tape_bytes : Nat → Int32) (size_list : Int32) (a_list_bytes : Nat → Int32) : Option (Int32 × Int32 × Int32 × (Nat → Int32)) := p_X_list_0 N a_tape_bytes size_tape size_list a_list_bytes
abbrev rm_M_list : Room := { frames := 0, cells := 0, slots := 0, locals := 0 }
def p_M_list_2 (N : Nat) (a_tape : Nat → Int32) : Nat → Int32 → Int32 → (Nat → Int32) → Int32 → Option (Int32 × Int32 × Int32 × (Nat → Int32))
  | 0, _, _, _, _ => none
  | n + 1, tapeSize_this, listSize_this, a_list, x1 => (if tapeSize_this ≤ x1 then some (tapeSize_this, (0 : Int32), tapeSize_this, a_list) else (if (x1 < 0 ∨ 1024 ≤ x1.toNatClampNeg) then none else (if (x1 < 0 ∨ 1024 ≤ x1.toNatClampNeg) then none else (p_M_list_2 N a_tape n tapeSize_this listSize_this (upd a_list x1.toNatClampNeg (a_tape x1.toNatClampNeg)) (x1 + (1 : Int32))))))
def p_M_list_0 (N : Nat) (a_tape : Nat → Int32) (tapeSize_this : Int32) (listSize_this : Int32) (a_list : Nat → Int32) : Option (Int32 × Int32 × Int32 × (Nat → Int32)) := (p_M_list_2 N a_tape N tapeSize_this listSize_this a_list (0 : Int32))
def p_M_list (N : Nat) (tapeSize_this : Int32) (listSize_this : Int32) (a_tape : Nat → Int32) (a_list : Nat → Int32) : Option (Int32 × Int32 × Int32 × (Nat → Int32)) := p_M_list_0 N a_tape tapeSize_this listSize_this a_list
abbrev rm_X_end : Room := { frames := 1, cells := 0, slots := 0, locals := 21 }
def p_X_end_0 (N : Nat) (size_tape : Int32) (x1 : Int32) : Option (Int32 × Int32) := ((p_R_cutTo N size_tape x1).bind fun r_5 => some (r_5.1, r_5.2))
def p_X_end (N : Nat) (size_tape : Int32) (x1 : Int32) : Option (Int32 × Int32) := p_X_end_0 N size_tape x1
abbrev rm_M_end : Room := { frames := 0, cells := 0, slots := 0, locals := 0 }
def p_M_end_0 (N : Nat) (tapeSize_this : Int32) (x1 : Int32) : Option (Int32 × Int32) := (if x1 < (0 : Int32) then some ((0 : Int32), tapeSize_this) else (if x1 ≤ tapeSize_this then some ((1 : Int32), x1) else some ((0 : Int32), tapeSize_this)))
def p_M_end (N : Nat) (tapeSize_this : Int32) (x1 : Int32) : Option (Int32 × Int32) := p_M_end_0 N tapeSize_this x1
abbrev rm_R_putNumber : Room := { frames := 1, cells := 0, slots := 0, locals := 21 }
def p_R_putNumber_0 (N : Nat) (size_this : Int32) (a_bytes : Nat → Int32) (x1 : Int32) : Option (Int32 × (Nat → Int32)) := ((p_R_put N size_this a_bytes (x1.toUInt32 >>> ((24 : Int32).toUInt32 &&& Int32.toUInt32 31)).toInt32).bind fun r_5 => ((p_R_put N r_5.2.1 r_5.2.2 (x1.toUInt32 >>> ((16 : Int32).toUInt32 &&& Int32.toUInt32 31)).toInt32).bind fun r_14 => ((p_R_put N r_14.2.1 r_14.2.2 (x1.toUInt32 >>> ((8 : Int32).toUInt32 &&& Int32.toUInt32 31)).toInt32).bind fun r_23 => ((p_R_put N r_23.2.1 r_23.2.2 x1).bind fun r_29 => some (r_29.2.1, r_29.2.2)))))
def p_R_putNumber (N : Nat) (size_this : Int32) (a_bytes : Nat → Int32) (x1 : Int32) : Option (Int32 × (Nat → Int32)) := p_R_putNumber_0 N size_this a_bytes x1
abbrev rm_X_feed : Room := { frames := 2, cells := 0, slots := 0, locals := 42 }
def p_X_feed_0 (N : Nat) (size_tape : Int32) (a_tape_bytes : Nat → Int32) (x1 : Int32) (x2 : Int32) (x3 : Int32) (x4 : Int32) (x5 : Int32) : Option (Int32 × Int32 × (Nat → Int32)) := ((p_R_size N size_tape).bind fun r_4 => (if r_4 ≤ (1004 : Int32) then ((p_R_putNumber N size_tape a_tape_bytes x1).bind fun r_20 => ((p_R_putNumber N r_20.1 r_20.2 x2).bind fun r_28 => ((p_R_putNumber N r_28.1 r_28.2 x3).bind fun r_36 => ((p_R_putNumber N r_36.1 r_36.2 x4).bind fun r_45 => ((p_R_putNumber N r_45.1 r_45.2 x5).bind fun r_54 => some ((1 : Int32), r_54.1, r_54.2)))))) else some ((0 : Int32), size_tape, a_tape_bytes)))
def p_X_feed (N : Nat) (size_tape : Int32) (a_tape_bytes : Nat → Int32) (x1 : Int32) (x2 : Int32) (x3 : Int32) (x4 : Int32) (x5 : Int32) : Option (Int32 × Int32 × (Nat → Int32)) := p_X_feed_0 N size_tape a_tape_bytes x1 x2 x3 x4 x5
abbrev rm_M_feed : Room := { frames := 0, cells := 0, slots := 0, locals := 0 }
def p_M_feed_71 (N : Nat) (k_18 : Int32 → (Nat → Int32) → Int32 → Int32 → Int32 → Int32 → Int32 → Int32 → Option (Int32 × Int32 × (Nat → Int32))) (tapeSize_this : Int32) (a_tape : Nat → Int32) (x1 : Int32) (x2 : Int32) (x3 : Int32) (x4 : Int32) (x5 : Int32) (x6 : Int32) (y0 : Int32) : Option (Int32 × Int32 × (Nat → Int32)) := (if (tapeSize_this < 0 ∨ 1024 ≤ tapeSize_this.toNatClampNeg) then none else (k_18 (tapeSize_this + (1 : Int32)) (upd a_tape tapeSize_this.toNatClampNeg ((y0 >>> (((24 : Int32) - ((8 : Int32) * (x6 - x6 / (4 : Int32) * (4 : Int32)))) &&& 31)) &&& (255 : Int32))) x1 x2 x3 x4 x5 (x6 + (1 : Int32))))
def p_M_feed_18 (N : Nat) : Nat → Int32 → (Nat → Int32) → Int32 → Int32 → Int32 → Int32 → Int32 → Int32 → Option (Int32 × Int32 × (Nat → Int32))
  | 0, _, _, _, _, _, _, _, _ => none
  | n + 1, tapeSize_this, a_tape, x1, x2, x3, x4, x5, x6 => (if (20 : Int32) ≤ x6 then some ((1 : Int32), tapeSize_this, a_tape) else (if (4 : Int32) ≤ x6 then (if (8 : Int32) ≤ x6 then (if (12 : Int32) ≤ x6 then (if (16 : Int32) ≤ x6 then (p_M_feed_71 N (p_M_feed_18 N n) tapeSize_this a_tape x1 x2 x3 x4 x5 x6 x5) else (p_M_feed_71 N (p_M_feed_18 N n) tapeSize_this a_tape x1 x2 x3 x4 x5 x6 x4)) else (p_M_feed_71 N (p_M_feed_18 N n) tapeSize_this a_tape x1 x2 x3 x4 x5 x6 x3)) else (p_M_feed_71 N (p_M_feed_18 N n) tapeSize_this a_tape x1 x2 x3 x4 x5 x6 x2)) else (p_M_feed_71 N (p_M_feed_18 N n) tapeSize_this a_tape x1 x2 x3 x4 x5 x6 x1)))
def p_M_feed_0 (N : Nat) (tapeSize_this : Int32) (a_tape : Nat → Int32) (x1 : Int32) (x2 : Int32) (x3 : Int32) (x4 : Int32) (x5 : Int32) : Option (Int32 × Int32 × (Nat → Int32)) := (if (tapeSize_this + (20 : Int32)) ≤ (1024 : Int32) then (p_M_feed_18 N N tapeSize_this a_tape x1 x2 x3 x4 x5 (0 : Int32)) else some ((0 : Int32), tapeSize_this, a_tape))
def p_M_feed (N : Nat) (tapeSize_this : Int32) (a_tape : Nat → Int32) (x1 : Int32) (x2 : Int32) (x3 : Int32) (x4 : Int32) (x5 : Int32) : Option (Int32 × Int32 × (Nat → Int32)) := p_M_feed_0 N tapeSize_this a_tape x1 x2 x3 x4 x5
def p_L_law_18 (N : Nat) (L : Nat) (xs : Nat → Int32) : Nat → Int32 → Int32 → (Nat → Int32) → Int32 → (Nat → Int32) → Int32 → (Nat → Int32) → Int32 → (Nat → Int32) → Int32 → (Nat → Int32) → Int32 → Int32 → Int32 → Int32 → Int32 → (Nat → Int32) → (Nat → Int32) → (Nat → Int32) → (Nat → Int32) → (Nat → Int32) → Int32 → Option (Int32)
  | 0, _, _, _, _, _, _, _, _, _, _, _, _, _, _, _, _, _, _, _, _, _, _ => none
  | n + 1, place_x, size_x_tape, a_x_tape_bytes, size_x_list, a_x_list_bytes, size_x_item, a_x_item_bytes, size_x_word, a_x_word_bytes, size_x_written, a_x_written_bytes, tapeSize_m, listSize_m, itemSize_m, wordSize_m, textSize_m, a_m_tape, a_m_list, a_m_item, a_m_word, a_m_text, x3 => (if ((Int32.ofNat L) - (6 : Int32)) < x3 then some (1 : Int32) else (if (x3 < 0 ∨ L ≤ x3.toNatClampNeg) then none else (if ((xs x3.toNatClampNeg) &&& (15 : Int32)) = (0 : Int32) then (if ((x3 + (1 : Int32)) < 0 ∨ L ≤ (x3 + (1 : Int32)).toNatClampNeg) then none else (if ((x3 + (2 : Int32)) < 0 ∨ L ≤ (x3 + (2 : Int32)).toNatClampNeg) then none else (if ((x3 + (3 : Int32)) < 0 ∨ L ≤ (x3 + (3 : Int32)).toNatClampNeg) then none else (if ((x3 + (4 : Int32)) < 0 ∨ L ≤ (x3 + (4 : Int32)).toNatClampNeg) then none else (if ((x3 + (5 : Int32)) < 0 ∨ L ≤ (x3 + (5 : Int32)).toNatClampNeg) then none else ((p_X_feed N size_x_tape a_x_tape_bytes (xs (x3 + (1 : Int32)).toNatClampNeg) (xs (x3 + (2 : Int32)).toNatClampNeg) (xs (x3 + (3 : Int32)).toNatClampNeg) (xs (x3 + (4 : Int32)).toNatClampNeg) (xs (x3 + (5 : Int32)).toNatClampNeg)).bind fun r_118 => (if ((x3 + (1 : Int32)) < 0 ∨ L ≤ (x3 + (1 : Int32)).toNatClampNeg) then none else (if ((x3 + (2 : Int32)) < 0 ∨ L ≤ (x3 + (2 : Int32)).toNatClampNeg) then none else (if ((x3 + (3 : Int32)) < 0 ∨ L ≤ (x3 + (3 : Int32)).toNatClampNeg) then none else (if ((x3 + (4 : Int32)) < 0 ∨ L ≤ (x3 + (4 : Int32)).toNatClampNeg) then none else (if ((x3 + (5 : Int32)) < 0 ∨ L ≤ (x3 + (5 : Int32)).toNatClampNeg) then none else ((p_M_feed N tapeSize_m a_m_tape (xs (x3 + (1 : Int32)).toNatClampNeg) (xs (x3 + (2 : Int32)).toNatClampNeg) (xs (x3 + (3 : Int32)).toNatClampNeg) (xs (x3 + (4 : Int32)).toNatClampNeg) (xs (x3 + (5 : Int32)).toNatClampNeg)).bind fun r_147 => (if r_118.1 = r_147.1 then (p_L_law_18 N L xs n place_x r_118.2.1 r_118.2.2 size_x_list a_x_list_bytes size_x_item a_x_item_bytes size_x_word a_x_word_bytes size_x_written a_x_written_bytes r_147.2.1 listSize_m itemSize_m wordSize_m textSize_m r_147.2.2 a_m_list a_m_item a_m_word a_m_text (x3 + (6 : Int32))) else some (0 : Int32)))))))))))))) else (if ((xs x3.toNatClampNeg) &&& (15 : Int32)) = (1 : Int32) then (if ((x3 + (1 : Int32)) < 0 ∨ L ≤ (x3 + (1 : Int32)).toNatClampNeg) then none else ((p_X_end N size_x_tape (xs (x3 + (1 : Int32)).toNatClampNeg)).bind fun r_161 => (if ((x3 + (1 : Int32)) < 0 ∨ L ≤ (x3 + (1 : Int32)).toNatClampNeg) then none else ((p_M_end N tapeSize_m (xs (x3 + (1 : Int32)).toNatClampNeg)).bind fun r_170 => (if r_161.1 = r_170.1 then (p_L_law_18 N L xs n place_x r_161.2 a_x_tape_bytes size_x_list a_x_list_bytes size_x_item a_x_item_bytes size_x_word a_x_word_bytes size_x_written a_x_written_bytes r_170.2 listSize_m itemSize_m wordSize_m textSize_m a_m_tape a_m_list a_m_item a_m_word a_m_text (x3 + (6 : Int32))) else some (0 : Int32)))))) else (if ((xs x3.toNatClampNeg) &&& (15 : Int32)) = (2 : Int32) then ((p_X_list N size_x_tape a_x_tape_bytes size_x_list a_x_list_bytes).bind fun r_179 => ((p_M_list N tapeSize_m listSize_m a_m_tape a_m_list).bind fun r_183 => (if r_179.1 = r_183.1 then (p_L_law_18 N L xs n place_x r_179.2.1 a_x_tape_bytes r_179.2.2.1 r_179.2.2.2 size_x_item a_x_item_bytes size_x_word a_x_word_bytes size_x_written a_x_written_bytes r_183.2.1 r_183.2.2.1 itemSize_m wordSize_m textSize_m a_m_tape r_183.2.2.2 a_m_item a_m_word a_m_text (x3 + (6 : Int32))) else some (0 : Int32)))) else (if ((xs x3.toNatClampNeg) &&& (15 : Int32)) = (3 : Int32) then ((p_X_item N size_x_tape a_x_tape_bytes size_x_item a_x_item_bytes).bind fun r_192 => ((p_M_item N tapeSize_m itemSize_m a_m_tape a_m_item).bind fun r_196 => (if r_192.1 = r_196.1 then (p_L_law_18 N L xs n place_x r_192.2.1 a_x_tape_bytes size_x_list a_x_list_bytes r_192.2.2.1 r_192.2.2.2 size_x_word a_x_word_bytes size_x_written a_x_written_bytes r_196.2.1 listSize_m r_196.2.2.1 wordSize_m textSize_m a_m_tape a_m_list r_196.2.2.2 a_m_word a_m_text (x3 + (6 : Int32))) else some (0 : Int32)))) else (if ((xs x3.toNatClampNeg) &&& (15 : Int32)) = (4 : Int32) then ((p_X_count N place_x size_x_list a_x_list_bytes size_x_word a_x_word_bytes).bind fun r_205 => ((p_M_count N listSize_m wordSize_m a_m_list a_m_word).bind fun r_209 => (if r_205.1 = r_209.1 then (p_L_law_18 N L xs n r_205.2.1 size_x_tape a_x_tape_bytes size_x_list a_x_list_bytes size_x_item a_x_item_bytes r_205.2.2.1 r_205.2.2.2 size_x_written a_x_written_bytes tapeSize_m listSize_m itemSize_m r_209.2.1 textSize_m a_m_tape a_m_list a_m_item r_209.2.2 a_m_text (x3 + (6 : Int32))) else some (0 : Int32)))) else (if ((xs x3.toNatClampNeg) &&& (15 : Int32)) = (5 : Int32) then (if ((x3 + (1 : Int32)) < 0 ∨ L ≤ (x3 + (1 : Int32)).toNatClampNeg) then none else ((p_X_element N place_x size_x_list a_x_list_bytes size_x_item a_x_item_bytes size_x_word a_x_word_bytes (xs (x3 + (1 : Int32)).toNatClampNeg)).bind fun r_223 => (if ((x3 + (1 : Int32)) < 0 ∨ L ≤ (x3 + (1 : Int32)).toNatClampNeg) then none else ((p_M_element N listSize_m itemSize_m wordSize_m a_m_list a_m_item a_m_word (xs (x3 + (1 : Int32)).toNatClampNeg)).bind fun r_232 => (if r_223.1 = r_232.1 then (p_L_law_18 N L xs n r_223.2.1 size_x_tape a_x_tape_bytes size_x_list a_x_list_bytes r_223.2.2.1 r_223.2.2.2.1 r_223.2.2.2.2.1 r_223.2.2.2.2.2 size_x_written a_x_written_bytes tapeSize_m listSize_m r_232.2.1 r_232.2.2.1 textSize_m a_m_tape a_m_list r_232.2.2.2.1 r_232.2.2.2.2 a_m_text (x3 + (6 : Int32))) else some (0 : Int32)))))) else (if ((xs x3.toNatClampNeg) &&& (15 : Int32)) = (6 : Int32) then ((p_X_append N size_x_list a_x_list_bytes size_x_item a_x_item_bytes).bind fun r_241 => ((p_M_append N listSize_m itemSize_m wordSize_m textSize_m a_m_list a_m_item a_m_word a_m_text).bind fun r_245 => (if r_241.1 = r_245.1 then (p_L_law_18 N L xs n place_x size_x_tape a_x_tape_bytes r_241.2.1 r_241.2.2 size_x_item a_x_item_bytes size_x_word a_x_word_bytes size_x_written a_x_written_bytes tapeSize_m r_245.2.1 itemSize_m r_245.2.2.1 r_245.2.2.2.1 a_m_tape r_245.2.2.2.2.1 a_m_item r_245.2.2.2.2.2.1 r_245.2.2.2.2.2.2 (x3 + (6 : Int32))) else some (0 : Int32)))) else (if ((xs x3.toNatClampNeg) &&& (15 : Int32)) = (7 : Int32) then ((p_X_again N place_x size_x_list a_x_list_bytes size_x_word a_x_word_bytes size_x_written a_x_written_bytes).bind fun r_254 => ((p_M_again N listSize_m wordSize_m textSize_m a_m_list a_m_word a_m_text).bind fun r_258 => (if r_254.1 = r_258.1 then (p_L_law_18 N L xs n r_254.2.1 size_x_tape a_x_tape_bytes r_254.2.2.1 r_254.2.2.2.1 size_x_item a_x_item_bytes r_254.2.2.2.2.1 r_254.2.2.2.2.2.1 r_254.2.2.2.2.2.2.1 r_254.2.2.2.2.2.2.2 tapeSize_m r_258.2.1 itemSize_m r_258.2.2.1 r_258.2.2.2.1 a_m_tape r_258.2.2.2.2.1 a_m_item r_258.2.2.2.2.2.1 r_258.2.2.2.2.2.2 (x3 + (6 : Int32))) else some (0 : Int32)))) else (if ((xs x3.toNatClampNeg) &&& (15 : Int32)) = (8 : Int32) then ((p_X_wrap N size_x_list a_x_list_bytes size_x_item a_x_item_bytes).bind fun r_267 => ((p_M_wrap N listSize_m itemSize_m a_m_list a_m_item).bind fun r_271 => (if r_267.1 = r_271.1 then (p_L_law_18 N L xs n place_x size_x_tape a_x_tape_bytes r_267.2.1 a_x_list_bytes r_267.2.2.1 r_267.2.2.2 size_x_word a_x_word_bytes size_x_written a_x_written_bytes tapeSize_m r_271.2.1 r_271.2.2.1 wordSize_m textSize_m a_m_tape a_m_list r_271.2.2.2 a_m_word a_m_text (x3 + (6 : Int32))) else some (0 : Int32)))) else (if ((xs x3.toNatClampNeg) &&& (15 : Int32)) = (9 : Int32) then (if ((x3 + (1 : Int32)) < 0 ∨ L ≤ (x3 + (1 : Int32)).toNatClampNeg) then none else ((p_X_listAt N size_x_list a_x_list_bytes (xs (x3 + (1 : Int32)).toNatClampNeg)).bind fun r_285 => (if ((x3 + (1 : Int32)) < 0 ∨ L ≤ (x3 + (1 : Int32)).toNatClampNeg) then none else ((p_M_listAt N listSize_m a_m_list (xs (x3 + (1 : Int32)).toNatClampNeg)).bind fun r_294 => (if r_285 = r_294 then (p_L_law_18 N L xs n place_x size_x_tape a_x_tape_bytes size_x_list a_x_list_bytes size_x_item a_x_item_bytes size_x_word a_x_word_bytes size_x_written a_x_written_bytes tapeSize_m listSize_m itemSize_m wordSize_m textSize_m a_m_tape a_m_list a_m_item a_m_word a_m_text (x3 + (6 : Int32))) else some (0 : Int32)))))) else (if ((xs x3.toNatClampNeg) &&& (15 : Int32)) = (10 : Int32) then (if ((x3 + (1 : Int32)) < 0 ∨ L ≤ (x3 + (1 : Int32)).toNatClampNeg) then none else ((p_X_itemAt N size_x_item a_x_item_bytes (xs (x3 + (1 : Int32)).toNatClampNeg)).bind fun r_308 => (if ((x3 + (1 : Int32)) < 0 ∨ L ≤ (x3 + (1 : Int32)).toNatClampNeg) then none else ((p_M_itemAt N itemSize_m a_m_item (xs (x3 + (1 : Int32)).toNatClampNeg)).bind fun r_317 => (if r_308 = r_317 then (p_L_law_18 N L xs n place_x size_x_tape a_x_tape_bytes size_x_list a_x_list_bytes size_x_item a_x_item_bytes size_x_word a_x_word_bytes size_x_written a_x_written_bytes tapeSize_m listSize_m itemSize_m wordSize_m textSize_m a_m_tape a_m_list a_m_item a_m_word a_m_text (x3 + (6 : Int32))) else some (0 : Int32)))))) else (p_L_law_18 N L xs n place_x size_x_tape a_x_tape_bytes size_x_list a_x_list_bytes size_x_item a_x_item_bytes size_x_word a_x_word_bytes size_x_written a_x_written_bytes tapeSize_m listSize_m itemSize_m wordSize_m textSize_m a_m_tape a_m_list a_m_item a_m_word a_m_text (x3 + (6 : Int32))))))))))))))))
end
