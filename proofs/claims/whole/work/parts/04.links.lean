/-! THE CLAIM OUT OF ONE WALK OF THE LAW'S BODY. Your part is whole_start (and what it stands on); all else here is the same for every law, but numbers. -/
def R_law : String := "ListWordsLaw"
def lw_P (b : Addr) (xs : List Int32) (args : Array Value) (s : State) : Prop := args = #[.ref b] ∧ s.IntsAt b xs ∧ xs.length ≤ 3072 ∧ (Jvm.Cond.and given_1 narrow_1).before args s = true
def lw_Q (_ : Array Value) (s : State) (o : Outcome) (t : State) : Prop := o = .returned (some (.int 1)) ∧ Framed s o t [] 17 13442
def lw_Z (below : List Frame) (a : Array Value) (s : State) : State → Prop := fun t => ∃ o, t.status = .running ∧ Ended t below o ∧ lw_Q a s o t
/-- the law's own end, with 1 on the stack, nothing written that was there before, its room as the claim has it -/
theorem lw_ret {p : Program} {l : Launch} {e : Env} {s : State} {m : MethodId} {below : List Frame} {meth : Method} {c : Code} {b : Nat} (hx : p.tables.exec = Jvm.exec) (hb : c.code = code) (hr : meth.sig.returnType = ret) (hlocks : meth.locks = false) {pc : Nat} {H : Heap} {ls : Array Slot} (hdg : decode code pc = .ok (.ireturn, 1)) : W p l e room_1 s m #[Value.ref b] below meth c H [] 17 13442 (lw_Z below #[Value.ref b] s) (F0 m pc ls [.int 1]) := by
  intro T hT X
  obtain ⟨fs, hret, hrun, hended, hW, hframe⟩ := X.leave (v := some (.int 1)) (hlocks := hlocks) (fun h => by rw [hr] at h; cases h)
  have hmeth' : T.vm.method? m = some meth := X.method'
  refine ⟨T.setFrames fs, ?_, .returned (some (.int 1)), hrun, hended, rfl, ⟨_, rfl⟩, hW, hframe⟩
  jvm_step X.here [X.here.top, hx, hb, hdg, hmeth', hr, ret, narrow_b1]
  (try refine ⟨rfl, ?_⟩); (try refine ⟨rfl, ?_⟩)
  first | (intro acts; rw [hret _ acts rfl rfl rfl]) | rw [hret _ _ rfl rfl rfl]
  exact Steps.refl _
/-- what holds at the law's entry: the machine, the code, the tables' words (any of lw_tbl by 'hts w (by decide +kernel)'), the script of L ints xs at the cell b, what the Statement gives of the start (any of its parts by flat_of_before) -/
def lw_At (p : Program) (s : State) (m : MethodId) (meth : Method) (c : Code) (b L : Nat) (xs : Nat → Int32) : Prop :=
  p.tables.exec = Jvm.exec ∧ c.code = code ∧ meth.sig.returnType = ret ∧ c.maxLocals = 4 ∧ s.vm.findClass R_law = some m.cls ∧ (∀ w ∈ lw_tbl, w.before #[Value.ref b] s = true) ∧ va_X b L xs s s.heap ∧ b < s.heap.size ∧ meth.locks = false ∧ (Jvm.Cond.and given_1 narrow_1).before #[Value.ref b] s = true

theorem f_R_15 : Cond.fieldLink R_R 15 "ListWords$Row" "size" "I" ∈ wG := (mT1 (i := 26) rfl rfl)
theorem f_R_9 : Cond.fieldLink R_R 9 "ListWords$Row" "bytes" "[I" ∈ wG := (mT1 (i := 25) rfl rfl)
theorem f_X_19 : Cond.fieldLink R_X 19 "ListWords" "item" "LListWords$Row;" ∈ wG := (mT1 (i := 35) rfl rfl)
theorem m_X_58 : LkV R_X 58 y_R_byteAt b_R_byteAt 2 (some .int) 1 := ⟨(mT1 (i := 107) rfl rfl), (mT1 (i := 108) rfl rfl), (mT1 (i := 109) rfl rfl), (mT1 (i := 2) rfl rfl), (mT1 (i := 110) rfl rfl), ⟨by decide +kernel, by decide +kernel, by decide +kernel⟩⟩
theorem f_M_99 : Cond.fieldLink R_M 99 "ListWordsModel" "itemSize" "I" ∈ wG := (mT2 (i := 75) rfl rfl)
theorem f_M_16 : Cond.fieldLink R_M 16 "ListWordsModel" "item" "[I" ∈ wG := (mT2 (i := 74) rfl rfl)
theorem f_X_16 : Cond.fieldLink R_X 16 "ListWords" "list" "LListWords$Row;" ∈ wG := (mT1 (i := 34) rfl rfl)
theorem f_M_25 : Cond.fieldLink R_M 25 "ListWordsModel" "listSize" "I" ∈ wG := (mT2 (i := 73) rfl rfl)
theorem f_M_13 : Cond.fieldLink R_M 13 "ListWordsModel" "list" "[I" ∈ wG := (mT2 (i := 72) rfl rfl)
theorem m_R_23 : Cond.methodLink R_R 23 arraycopyName ∈ wG := (mT1 (i := 88) rfl rfl)
theorem m_R_29 : LkV R_R 29 y_R_putAll b_R_putAll 2 (some .boolean) 1 := ⟨(mT1 (i := 84) rfl rfl), (mT1 (i := 85) rfl rfl), (mT1 (i := 86) rfl rfl), (mT1 (i := 2) rfl rfl), (mT1 (i := 87) rfl rfl), ⟨by decide +kernel, by decide +kernel, by decide +kernel⟩⟩
theorem m_X_44 : LkV R_X 44 y_R_takeAll b_R_takeAll 2 (some .int) 1 := ⟨(mT1 (i := 80) rfl rfl), (mT1 (i := 81) rfl rfl), (mT1 (i := 82) rfl rfl), (mT1 (i := 2) rfl rfl), (mT1 (i := 83) rfl rfl), ⟨by decide +kernel, by decide +kernel, by decide +kernel⟩⟩
theorem m_X_113 : LkS R_X 113 y_X_isNamedSpace b_X_isNamedSpace 1 (some .boolean) 1 := ⟨(mT1 (i := 114) rfl rfl), (mT1 (i := 115) rfl rfl), (mT1 (i := 1) rfl rfl), (mT1 (i := 116) rfl rfl), ⟨by decide +kernel, by decide +kernel, by decide +kernel⟩⟩
theorem m_X_32 : LkV R_X 32 y_R_size b_R_size 1 (some .int) 0 := ⟨(mT1 (i := 56) rfl rfl), (mT1 (i := 57) rfl rfl), (mT1 (i := 58) rfl rfl), (mT1 (i := 2) rfl rfl), (mT1 (i := 59) rfl rfl), ⟨by decide +kernel, by decide +kernel, by decide +kernel⟩⟩
theorem m_X_75 : LkS R_X 75 y_X_isSpace b_X_isSpace 1 (some .boolean) 1 := ⟨(mT1 (i := 111) rfl rfl), (mT1 (i := 112) rfl rfl), (mT1 (i := 1) rfl rfl), (mT1 (i := 113) rfl rfl), ⟨by decide +kernel, by decide +kernel, by decide +kernel⟩⟩
theorem f_X_22 : Cond.fieldLink R_X 22 "ListWords" "word" "LListWords$Row;" ∈ wG := (mT1 (i := 36) rfl rfl)
theorem m_X_78 : LkV R_X 78 y_R_put b_R_put 2 (some .boolean) 1 := ⟨(mT1 (i := 121) rfl rfl), (mT1 (i := 65) rfl rfl), (mT1 (i := 66) rfl rfl), (mT1 (i := 2) rfl rfl), (mT1 (i := 67) rfl rfl), ⟨by decide +kernel, by decide +kernel, by decide +kernel⟩⟩
theorem m_X_110 : LkS R_X 110 y_X_digitOf b_X_digitOf 1 (some .int) 1 := ⟨(mT1 (i := 138) rfl rfl), (mT1 (i := 139) rfl rfl), (mT1 (i := 1) rfl rfl), (mT1 (i := 140) rfl rfl), ⟨by decide +kernel, by decide +kernel, by decide +kernel⟩⟩
theorem f_S_38 : Cond.fieldLink R_S 38 "java/lang/String" "COMPACT_STRINGS" "Z" ∈ wG := (mT1 (i := 158) rfl rfl)
theorem f_S_15 : Cond.fieldLink R_S 15 "java/lang/String" "coder" "B" ∈ wG := (mT2 (i := 225) rfl rfl)
theorem f_S_9 : Cond.fieldLink R_S 9 "java/lang/String" "value" "[B" ∈ wG := (mT2 (i := 226) rfl rfl)
theorem m_S_335 : LkV R_S 335 y_S_coder b_S_coder 1 (some .byte) 0 := ⟨(mT1 (i := 164) rfl rfl), (mT1 (i := 165) rfl rfl), (mT1 (i := 166) rfl rfl), (mT1 (i := 5) rfl rfl), (mT1 (i := 167) rfl rfl), ⟨by decide +kernel, by decide +kernel, by decide +kernel⟩⟩
theorem m_SL_88 : LkS R_SL 88 y_SL_canEncode1 b_SL_canEncode1 1 (some .boolean) 1 := ⟨(mT1 (i := 171) rfl rfl), (mT1 (i := 172) rfl rfl), (mT1 (i := 6) rfl rfl), (mT1 (i := 173) rfl rfl), ⟨by decide +kernel, by decide +kernel, by decide +kernel⟩⟩
theorem m_SL_92 : Cond.methodLink R_SL 92 Lib.Math.max.name ∈ wG := (mT1 (i := 174) rfl rfl)
theorem m_SL_38 : Cond.methodLink R_SL 38 Lib.Math.min.name ∈ wG := (mT1 (i := 177) rfl rfl)
theorem m_SL_95 : LkS R_SL 95 y_SL_indexOfChar b_SL_indexOfChar 6 (some .int) 4 := ⟨(mT1 (i := 180) rfl rfl), (mT1 (i := 181) rfl rfl), (mT1 (i := 6) rfl rfl), (mT1 (i := 182) rfl rfl), ⟨by decide +kernel, by decide +kernel, by decide +kernel⟩⟩
theorem m_S_492 : LkV R_S 492 y_S_isLatin1 b_S_isLatin1 1 (some .boolean) 0 := ⟨(mT1 (i := 154) rfl rfl), (mT1 (i := 155) rfl rfl), (mT1 (i := 156) rfl rfl), (mT1 (i := 5) rfl rfl), (mT1 (i := 157) rfl rfl), ⟨by decide +kernel, by decide +kernel, by decide +kernel⟩⟩
theorem m_S_505 : LkV R_S 505 y_S_length b_S_length 1 (some .int) 0 := ⟨(mT1 (i := 160) rfl rfl), (mT1 (i := 161) rfl rfl), (mT1 (i := 162) rfl rfl), (mT1 (i := 5) rfl rfl), (mT1 (i := 163) rfl rfl), ⟨by decide +kernel, by decide +kernel, by decide +kernel⟩⟩
theorem m_S_637 : LkS R_S 637 y_SL_indexOf0 b_SL_indexOf0 4 (some .int) 4 := ⟨(mT1 (i := 168) rfl rfl), (mT1 (i := 169) rfl rfl), (mT1 (i := 6) rfl rfl), (mT1 (i := 170) rfl rfl), ⟨by decide +kernel, by decide +kernel, by decide +kernel⟩⟩
theorem m_S_633 : LkV R_S 633 y_S_indexOf1 b_S_indexOf1 3 (some .int) 2 := ⟨(mT1 (i := 150) rfl rfl), (mT1 (i := 151) rfl rfl), (mT1 (i := 152) rfl rfl), (mT1 (i := 5) rfl rfl), (mT1 (i := 153) rfl rfl), ⟨by decide +kernel, by decide +kernel, by decide +kernel⟩⟩
theorem m_X_87 : LkV R_X 87 y_X_countDigits b_X_countDigits 5 (some .int) 3 := ⟨(mT1 (i := 134) rfl rfl), (mT1 (i := 136) rfl rfl), (mTP (i := 6) rfl rfl), (mT1 (i := 1) rfl rfl), (mT1 (i := 137) rfl rfl), ⟨by decide +kernel, by decide +kernel, by decide +kernel⟩⟩
theorem m_X_91 : LkV R_X 91 y_X_numberAt b_X_numberAt 6 (some .int) 3 := ⟨(mT1 (i := 141) rfl rfl), (mT1 (i := 143) rfl rfl), (mTP (i := 7) rfl rfl), (mT1 (i := 1) rfl rfl), (mT1 (i := 144) rfl rfl), ⟨by decide +kernel, by decide +kernel, by decide +kernel⟩⟩
theorem m_X_96 : LkV R_X 96 y_S_indexOf0 b_S_indexOf0 2 (some .int) 1 := ⟨(mT1 (i := 146) rfl rfl), (mT1 (i := 147) rfl rfl), (mT1 (i := 148) rfl rfl), (mT1 (i := 5) rfl rfl), (mT1 (i := 149) rfl rfl), ⟨by decide +kernel, by decide +kernel, by decide +kernel⟩⟩
theorem m_X_101 : LkV R_X 101 y_X_countBlanks b_X_countBlanks 3 (some .int) 1 := ⟨(mT1 (i := 236) rfl rfl), (mT1 (i := 238) rfl rfl), (mTP (i := 9) rfl rfl), (mT1 (i := 1) rfl rfl), (mT1 (i := 239) rfl rfl), ⟨by decide +kernel, by decide +kernel, by decide +kernel⟩⟩
theorem m_X_104 : Cond.methodLink R_X 104 Lib.Math.max.name ∈ wG := (mT2 (i := 0) rfl rfl)
theorem m_X_81 : LkV R_X 81 y_X_meaningOfBackslash b_X_meaningOfBackslash 5 (some .int) 1 := ⟨(mT1 (i := 130) rfl rfl), (mT1 (i := 132) rfl rfl), (mTP (i := 5) rfl rfl), (mT1 (i := 1) rfl rfl), (mT1 (i := 133) rfl rfl), ⟨by decide +kernel, by decide +kernel, by decide +kernel⟩⟩
theorem m_X_84 : LkV R_X 84 y_X_bytesBehindBackslash b_X_bytesBehindBackslash 3 (some .int) 1 := ⟨(mT1 (i := 232) rfl rfl), (mT1 (i := 234) rfl rfl), (mTP (i := 8) rfl rfl), (mT1 (i := 1) rfl rfl), (mT1 (i := 235) rfl rfl), ⟨by decide +kernel, by decide +kernel, by decide +kernel⟩⟩
theorem f_X_28 : Cond.fieldLink R_X 28 "ListWords" "place" "I" ∈ wG := (mT1 (i := 38) rfl rfl)
theorem m_X_62 : LkV R_X 62 y_X_behindSpaces b_X_behindSpaces 3 (some .int) 1 := ⟨(mT1 (i := 103) rfl rfl), (mT1 (i := 105) rfl rfl), (mTP (i := 1) rfl rfl), (mT1 (i := 1) rfl rfl), (mT1 (i := 106) rfl rfl), ⟨by decide +kernel, by decide +kernel, by decide +kernel⟩⟩
theorem m_X_40 : LkV R_X 40 y_R_cutTo b_R_cutTo 2 (some .boolean) 1 := ⟨(mT1 (i := 72) rfl rfl), (mT1 (i := 73) rfl rfl), (mT1 (i := 74) rfl rfl), (mT1 (i := 2) rfl rfl), (mT1 (i := 75) rfl rfl), ⟨by decide +kernel, by decide +kernel, by decide +kernel⟩⟩
theorem m_X_65 : LkV R_X 65 y_X_readBraced b_X_readBraced 5 (some .int) 1 := ⟨(mT1 (i := 117) rfl rfl), (mT1 (i := 119) rfl rfl), (mTP (i := 2) rfl rfl), (mT1 (i := 1) rfl rfl), (mT1 (i := 120) rfl rfl), ⟨by decide +kernel, by decide +kernel, by decide +kernel⟩⟩
theorem m_X_68 : LkV R_X 68 y_X_behindCloser b_X_behindCloser 3 (some .int) 1 := ⟨(mT1 (i := 122) rfl rfl), (mT1 (i := 124) rfl rfl), (mTP (i := 3) rfl rfl), (mT1 (i := 1) rfl rfl), (mT1 (i := 125) rfl rfl), ⟨by decide +kernel, by decide +kernel, by decide +kernel⟩⟩
theorem m_X_71 : LkV R_X 71 y_X_readUnbraced b_X_readUnbraced 5 (some .int) 2 := ⟨(mT1 (i := 126) rfl rfl), (mT1 (i := 128) rfl rfl), (mTP (i := 4) rfl rfl), (mT1 (i := 1) rfl rfl), (mT1 (i := 129) rfl rfl), ⟨by decide +kernel, by decide +kernel, by decide +kernel⟩⟩
theorem m_X_48 : LkV R_X 48 y_X_nextElement b_X_nextElement 4 (some .int) 0 := ⟨(mT1 (i := 99) rfl rfl), (mT1 (i := 101) rfl rfl), (mTP (i := 0) rfl rfl), (mT1 (i := 1) rfl rfl), (mT1 (i := 102) rfl rfl), ⟨by decide +kernel, by decide +kernel, by decide +kernel⟩⟩
theorem m_X_129 : LkS R_X 129 y_X_needsBackslash b_X_needsBackslash 3 (some .boolean) 2 := ⟨(mT2 (i := 17) rfl rfl), (mT2 (i := 18) rfl rfl), (mT1 (i := 1) rfl rfl), (mT2 (i := 19) rfl rfl), ⟨by decide +kernel, by decide +kernel, by decide +kernel⟩⟩
theorem f_S_1053 : Cond.fieldLink R_S 1053 "jdk/internal/util/Preconditions" "SIOOBE_FORMATTER" "Ljava/util/function/BiFunction;" ∈ wG := (mT1 (i := 201) rfl rfl)
theorem m_S_1059 : LkS R_S 1059 y_PC_checkIndex0 b_PC_checkIndex0 3 (some .int) 3 := ⟨(mT2 (i := 38) rfl rfl), (mT2 (i := 39) rfl rfl), (mT1 (i := 9) rfl rfl), (mT2 (i := 40) rfl rfl), ⟨by decide +kernel, by decide +kernel, by decide +kernel⟩⟩
theorem m_SL_9 : LkS R_SL 9 y_S_checkIndex b_S_checkIndex 2 none 2 := ⟨(mT2 (i := 35) rfl rfl), (mT2 (i := 36) rfl rfl), (mT1 (i := 5) rfl rfl), (mT2 (i := 37) rfl rfl), ⟨by decide +kernel, by decide +kernel, by decide +kernel⟩⟩
theorem m_S_495 : LkS R_S 495 y_SL_charAt b_SL_charAt 2 (some .char) 2 := ⟨(mT2 (i := 32) rfl rfl), (mT2 (i := 33) rfl rfl), (mT1 (i := 6) rfl rfl), (mT2 (i := 34) rfl rfl), ⟨by decide +kernel, by decide +kernel, by decide +kernel⟩⟩
theorem m_X_133 : LkV R_X 133 y_S_charAt b_S_charAt 2 (some .char) 1 := ⟨(mT2 (i := 28) rfl rfl), (mT2 (i := 29) rfl rfl), (mT2 (i := 30) rfl rfl), (mT1 (i := 5) rfl rfl), (mT2 (i := 31) rfl rfl), ⟨by decide +kernel, by decide +kernel, by decide +kernel⟩⟩
theorem m_X_116 : LkS R_X 116 y_X_canStandBare b_X_canStandBare 2 (some .boolean) 1 := ⟨(mT2 (i := 14) rfl rfl), (mT2 (i := 15) rfl rfl), (mT1 (i := 1) rfl rfl), (mT2 (i := 16) rfl rfl), ⟨by decide +kernel, by decide +kernel, by decide +kernel⟩⟩
theorem m_X_120 : LkV R_X 120 y_R_putAll b_R_putAll 2 (some .boolean) 1 := ⟨(mT2 (i := 21) rfl rfl), (mT1 (i := 85) rfl rfl), (mT1 (i := 86) rfl rfl), (mT1 (i := 2) rfl rfl), (mT1 (i := 87) rfl rfl), ⟨by decide +kernel, by decide +kernel, by decide +kernel⟩⟩
theorem m_X_123 : LkS R_X 123 y_X_canStandInBraces b_X_canStandInBraces 4 (some .boolean) 1 := ⟨(mT2 (i := 22) rfl rfl), (mT2 (i := 23) rfl rfl), (mT1 (i := 1) rfl rfl), (mT2 (i := 24) rfl rfl), ⟨by decide +kernel, by decide +kernel, by decide +kernel⟩⟩
theorem m_X_126 : LkS R_X 126 y_X_writeWithBackslashes b_X_writeWithBackslashes 4 (some .boolean) 2 := ⟨(mT2 (i := 25) rfl rfl), (mT2 (i := 26) rfl rfl), (mT1 (i := 1) rfl rfl), (mT2 (i := 27) rfl rfl), ⟨by decide +kernel, by decide +kernel, by decide +kernel⟩⟩
theorem m_X_51 : LkV R_X 51 y_X_count b_X_count 3 (some .int) 0 := ⟨(mT2 (i := 6) rfl rfl), (mT1 (i := 96) rfl rfl), (mT1 (i := 97) rfl rfl), (mT1 (i := 1) rfl rfl), (mT1 (i := 98) rfl rfl), ⟨by decide +kernel, by decide +kernel, by decide +kernel⟩⟩
theorem f_X_25 : Cond.fieldLink R_X 25 "ListWords" "written" "LListWords$Row;" ∈ wG := (mT1 (i := 37) rfl rfl)
theorem m_X_54 : LkS R_X 54 y_X_writeBehind b_X_writeBehind 2 (some .boolean) 2 := ⟨(mT2 (i := 11) rfl rfl), (mT2 (i := 12) rfl rfl), (mT1 (i := 1) rfl rfl), (mT2 (i := 13) rfl rfl), ⟨by decide +kernel, by decide +kernel, by decide +kernel⟩⟩
theorem m_M_29 : LkV R_M 29 y_M_at b_M_at 2 (some .int) 1 := ⟨(mT2 (i := 129) rfl rfl), (mT2 (i := 131) rfl rfl), (mTP (i := 12) rfl rfl), (mT1 (i := 3) rfl rfl), (mT2 (i := 132) rfl rfl), ⟨by decide +kernel, by decide +kernel, by decide +kernel⟩⟩
theorem m_M_33 : LkS R_M 33 y_M_isSpace b_M_isSpace 1 (some .boolean) 1 := ⟨(mT2 (i := 133) rfl rfl), (mT2 (i := 134) rfl rfl), (mT1 (i := 3) rfl rfl), (mT2 (i := 135) rfl rfl), ⟨by decide +kernel, by decide +kernel, by decide +kernel⟩⟩
theorem m_M_37 : LkV R_M 37 y_M_behind b_M_behind 3 (some .int) 1 := ⟨(mT2 (i := 144) rfl rfl), (mT2 (i := 146) rfl rfl), (mTP (i := 15) rfl rfl), (mT1 (i := 3) rfl rfl), (mT2 (i := 147) rfl rfl), ⟨by decide +kernel, by decide +kernel, by decide +kernel⟩⟩
theorem m_M_40 : LkV R_M 40 y_M_bare b_M_bare 3 (some .int) 1 := ⟨(mT2 (i := 140) rfl rfl), (mT2 (i := 142) rfl rfl), (mTP (i := 14) rfl rfl), (mT1 (i := 3) rfl rfl), (mT2 (i := 143) rfl rfl), ⟨by decide +kernel, by decide +kernel, by decide +kernel⟩⟩
theorem m_M_43 : LkV R_M 43 y_M_closing b_M_closing 5 (some .int) 1 := ⟨(mT2 (i := 148) rfl rfl), (mT2 (i := 150) rfl rfl), (mTP (i := 16) rfl rfl), (mT1 (i := 3) rfl rfl), (mT2 (i := 151) rfl rfl), ⟨by decide +kernel, by decide +kernel, by decide +kernel⟩⟩
theorem m_M_46 : LkV R_M 46 y_M_quote b_M_quote 3 (some .int) 1 := ⟨(mT2 (i := 152) rfl rfl), (mT2 (i := 154) rfl rfl), (mTP (i := 17) rfl rfl), (mT1 (i := 3) rfl rfl), (mT2 (i := 155) rfl rfl), ⟨by decide +kernel, by decide +kernel, by decide +kernel⟩⟩
theorem f_M_19 : Cond.fieldLink R_M 19 "ListWordsModel" "word" "[I" ∈ wG := (mT2 (i := 76) rfl rfl)
theorem f_M_49 : Cond.fieldLink R_M 49 "ListWordsModel" "wordSize" "I" ∈ wG := (mT2 (i := 77) rfl rfl)
theorem m_M_52 : LkV R_M 52 y_M_add b_M_add 2 none 1 := ⟨(mT2 (i := 164) rfl rfl), (mT2 (i := 166) rfl rfl), (mTP (i := 20) rfl rfl), (mT1 (i := 3) rfl rfl), (mT2 (i := 167) rfl rfl), ⟨by decide +kernel, by decide +kernel, by decide +kernel⟩⟩
theorem m_M_56 : LkS R_M 56 y_M_digit b_M_digit 2 (some .int) 1 := ⟨(mT2 (i := 168) rfl rfl), (mT2 (i := 169) rfl rfl), (mT1 (i := 3) rfl rfl), (mT2 (i := 170) rfl rfl), ⟨by decide +kernel, by decide +kernel, by decide +kernel⟩⟩
theorem m_M_59 : LkS R_M 59 y_M_letter b_M_letter 1 (some .int) 1 := ⟨(mT2 (i := 171) rfl rfl), (mT2 (i := 172) rfl rfl), (mT1 (i := 3) rfl rfl), (mT2 (i := 173) rfl rfl), ⟨by decide +kernel, by decide +kernel, by decide +kernel⟩⟩
theorem m_M_62 : LkV R_M 62 y_M_meaning b_M_meaning 10 (some .int) 2 := ⟨(mT2 (i := 160) rfl rfl), (mT2 (i := 162) rfl rfl), (mTP (i := 19) rfl rfl), (mT1 (i := 3) rfl rfl), (mT2 (i := 163) rfl rfl), ⟨by decide +kernel, by decide +kernel, by decide +kernel⟩⟩
theorem m_M_66 : LkV R_M 66 y_M_skip b_M_skip 3 (some .int) 1 := ⟨(mT2 (i := 125) rfl rfl), (mT2 (i := 127) rfl rfl), (mTP (i := 11) rfl rfl), (mT1 (i := 3) rfl rfl), (mT2 (i := 128) rfl rfl), ⟨by decide +kernel, by decide +kernel, by decide +kernel⟩⟩
theorem m_M_69 : LkV R_M 69 y_M_ending b_M_ending 5 (some .int) 1 := ⟨(mT2 (i := 136) rfl rfl), (mT2 (i := 138) rfl rfl), (mTP (i := 13) rfl rfl), (mT1 (i := 3) rfl rfl), (mT2 (i := 139) rfl rfl), ⟨by decide +kernel, by decide +kernel, by decide +kernel⟩⟩
theorem m_M_72 : LkV R_M 72 y_M_read b_M_read 7 none 2 := ⟨(mT2 (i := 156) rfl rfl), (mT2 (i := 158) rfl rfl), (mTP (i := 18) rfl rfl), (mT1 (i := 3) rfl rfl), (mT2 (i := 159) rfl rfl), ⟨by decide +kernel, by decide +kernel, by decide +kernel⟩⟩
theorem f_M_22 : Cond.fieldLink R_M 22 "ListWordsModel" "text" "[I" ∈ wG := (mT2 (i := 78) rfl rfl)
theorem f_M_76 : Cond.fieldLink R_M 76 "ListWordsModel" "textSize" "I" ∈ wG := (mT2 (i := 79) rfl rfl)
theorem m_M_79 : LkS R_M 79 y_M_isSpecial b_M_isSpecial 1 (some .boolean) 1 := ⟨(mT2 (i := 194) rfl rfl), (mT2 (i := 195) rfl rfl), (mT1 (i := 3) rfl rfl), (mT2 (i := 196) rfl rfl), ⟨by decide +kernel, by decide +kernel, by decide +kernel⟩⟩
theorem m_M_82 : LkV R_M 82 y_M_put b_M_put 2 none 1 := ⟨(mT2 (i := 182) rfl rfl), (mT2 (i := 184) rfl rfl), (mTP (i := 21) rfl rfl), (mT1 (i := 3) rfl rfl), (mT2 (i := 185) rfl rfl), ⟨by decide +kernel, by decide +kernel, by decide +kernel⟩⟩
theorem m_M_85 : LkV R_M 85 y_M_isPlain b_M_isPlain 3 (some .boolean) 0 := ⟨(mT2 (i := 190) rfl rfl), (mT2 (i := 192) rfl rfl), (mTP (i := 23) rfl rfl), (mT1 (i := 3) rfl rfl), (mT2 (i := 193) rfl rfl), ⟨by decide +kernel, by decide +kernel, by decide +kernel⟩⟩
theorem m_M_89 : LkV R_M 89 y_M_isBraced b_M_isBraced 4 (some .boolean) 0 := ⟨(mT2 (i := 197) rfl rfl), (mT2 (i := 199) rfl rfl), (mTP (i := 24) rfl rfl), (mT1 (i := 3) rfl rfl), (mT2 (i := 200) rfl rfl), ⟨by decide +kernel, by decide +kernel, by decide +kernel⟩⟩
theorem m_M_92 : LkV R_M 92 y_M_escape b_M_escape 3 none 2 := ⟨(mT2 (i := 201) rfl rfl), (mT2 (i := 203) rfl rfl), (mTP (i := 25) rfl rfl), (mT1 (i := 3) rfl rfl), (mT2 (i := 204) rfl rfl), ⟨by decide +kernel, by decide +kernel, by decide +kernel⟩⟩
theorem m_M_102 : LkV R_M 102 y_M_goOver b_M_goOver 5 (some .int) 1 := ⟨(mT2 (i := 121) rfl rfl), (mT2 (i := 123) rfl rfl), (mTP (i := 10) rfl rfl), (mT1 (i := 3) rfl rfl), (mT2 (i := 124) rfl rfl), ⟨by decide +kernel, by decide +kernel, by decide +kernel⟩⟩
theorem m_M_105 : LkV R_M 105 y_M_write b_M_write 4 none 0 := ⟨(mT2 (i := 186) rfl rfl), (mT2 (i := 188) rfl rfl), (mTP (i := 22) rfl rfl), (mT1 (i := 3) rfl rfl), (mT2 (i := 189) rfl rfl), ⟨by decide +kernel, by decide +kernel, by decide +kernel⟩⟩
theorem m_M_108 : LkV R_M 108 y_M_settle b_M_settle 2 (some .int) 0 := ⟨(mT2 (i := 205) rfl rfl), (mT2 (i := 207) rfl rfl), (mTP (i := 26) rfl rfl), (mT1 (i := 3) rfl rfl), (mT2 (i := 208) rfl rfl), ⟨by decide +kernel, by decide +kernel, by decide +kernel⟩⟩
theorem f_X_10 : Cond.fieldLink R_X 10 "ListWords" "tape" "LListWords$Row;" ∈ wG := (mT1 (i := 33) rfl rfl)
theorem f_M_96 : Cond.fieldLink R_M 96 "ListWordsModel" "tapeSize" "I" ∈ wG := (mT2 (i := 71) rfl rfl)
theorem f_M_7 : Cond.fieldLink R_M 7 "ListWordsModel" "tape" "[I" ∈ wG := (mT2 (i := 70) rfl rfl)
theorem m_R_19 : LkV R_R 19 y_R_put b_R_put 2 (some .boolean) 1 := ⟨(mT1 (i := 64) rfl rfl), (mT1 (i := 65) rfl rfl), (mT1 (i := 66) rfl rfl), (mT1 (i := 2) rfl rfl), (mT1 (i := 67) rfl rfl), ⟨by decide +kernel, by decide +kernel, by decide +kernel⟩⟩
theorem m_X_36 : LkV R_X 36 y_R_putNumber b_R_putNumber 2 none 1 := ⟨(mT1 (i := 60) rfl rfl), (mT1 (i := 61) rfl rfl), (mT1 (i := 62) rfl rfl), (mT1 (i := 2) rfl rfl), (mT1 (i := 63) rfl rfl), ⟨by decide +kernel, by decide +kernel, by decide +kernel⟩⟩
theorem m_R_3 : Cond.methodLink R_R 3 objectInit ∈ wG := (mT1 (i := 24) rfl rfl)
theorem m_X_1 : Cond.methodLink R_X 1 objectInit ∈ wG := (mT1 (i := 16) rfl rfl)
theorem k_X_7 : Cond.classLink R_X 7 R_R ∈ wG := (mT1 (i := 19) rfl rfl)
theorem m_X_9 : LkI R_X 9 y_R_init b_R_init 1 0 := ⟨(mT1 (i := 21) rfl rfl), (mT1 (i := 22) rfl rfl), rfl, (mT1 (i := 2) rfl rfl), (mT1 (i := 23) rfl rfl), ⟨by decide +kernel, by decide +kernel, by decide +kernel⟩⟩
theorem m_M_1 : Cond.methodLink R_M 1 objectInit ∈ wG := (mT2 (i := 69) rfl rfl)
theorem k_L_7 : Cond.classLink R_law 7 R_X ∈ wG := (mT1 (i := 11) rfl rfl)
theorem m_L_9 : LkI R_law 9 y_X_init b_X_init 1 0 := ⟨(mT1 (i := 13) rfl rfl), (mT1 (i := 14) rfl rfl), rfl, (mT1 (i := 1) rfl rfl), (mT1 (i := 15) rfl rfl), ⟨by decide +kernel, by decide +kernel, by decide +kernel⟩⟩
theorem k_L_10 : Cond.classLink R_law 10 R_M ∈ wG := (mT2 (i := 64) rfl rfl)
theorem m_L_12 : LkI R_law 12 y_M_init b_M_init 1 0 := ⟨(mT2 (i := 66) rfl rfl), (mT2 (i := 67) rfl rfl), rfl, (mT1 (i := 3) rfl rfl), (mT2 (i := 68) rfl rfl), ⟨by decide +kernel, by decide +kernel, by decide +kernel⟩⟩
theorem m_L_13 : LkV R_law 13 y_X_feed b_X_feed 6 (some .boolean) 5 := ⟨(mT1 (i := 52) rfl rfl), (mT1 (i := 53) rfl rfl), (mT1 (i := 54) rfl rfl), (mT1 (i := 1) rfl rfl), (mT1 (i := 55) rfl rfl), ⟨by decide +kernel, by decide +kernel, by decide +kernel⟩⟩
theorem m_L_17 : LkV R_law 17 y_M_feed b_M_feed 8 (some .boolean) 5 := ⟨(mT2 (i := 101) rfl rfl), (mT2 (i := 102) rfl rfl), (mT2 (i := 103) rfl rfl), (mT1 (i := 3) rfl rfl), (mT2 (i := 104) rfl rfl), ⟨by decide +kernel, by decide +kernel, by decide +kernel⟩⟩
theorem m_L_18 : LkV R_law 18 y_X_end b_X_end 2 (some .boolean) 1 := ⟨(mT1 (i := 68) rfl rfl), (mT1 (i := 69) rfl rfl), (mT1 (i := 70) rfl rfl), (mT1 (i := 1) rfl rfl), (mT1 (i := 71) rfl rfl), ⟨by decide +kernel, by decide +kernel, by decide +kernel⟩⟩
theorem m_L_22 : LkV R_law 22 y_M_end b_M_end 2 (some .boolean) 1 := ⟨(mT2 (i := 105) rfl rfl), (mT2 (i := 106) rfl rfl), (mT2 (i := 107) rfl rfl), (mT1 (i := 3) rfl rfl), (mT2 (i := 108) rfl rfl), ⟨by decide +kernel, by decide +kernel, by decide +kernel⟩⟩
theorem m_L_23 : LkV R_law 23 y_X_list b_X_list 1 (some .int) 0 := ⟨(mT1 (i := 76) rfl rfl), (mT1 (i := 77) rfl rfl), (mT1 (i := 78) rfl rfl), (mT1 (i := 1) rfl rfl), (mT1 (i := 79) rfl rfl), ⟨by decide +kernel, by decide +kernel, by decide +kernel⟩⟩
theorem m_L_27 : LkV R_law 27 y_M_list b_M_list 2 (some .int) 0 := ⟨(mT2 (i := 109) rfl rfl), (mT2 (i := 110) rfl rfl), (mT2 (i := 111) rfl rfl), (mT1 (i := 3) rfl rfl), (mT2 (i := 112) rfl rfl), ⟨by decide +kernel, by decide +kernel, by decide +kernel⟩⟩
theorem m_L_28 : LkV R_law 28 y_X_item b_X_item 1 (some .int) 0 := ⟨(mT1 (i := 91) rfl rfl), (mT1 (i := 92) rfl rfl), (mT1 (i := 93) rfl rfl), (mT1 (i := 1) rfl rfl), (mT1 (i := 94) rfl rfl), ⟨by decide +kernel, by decide +kernel, by decide +kernel⟩⟩
theorem m_L_31 : LkV R_law 31 y_M_item b_M_item 2 (some .int) 0 := ⟨(mT2 (i := 113) rfl rfl), (mT2 (i := 114) rfl rfl), (mT2 (i := 115) rfl rfl), (mT1 (i := 3) rfl rfl), (mT2 (i := 116) rfl rfl), ⟨by decide +kernel, by decide +kernel, by decide +kernel⟩⟩
theorem m_L_32 : LkV R_law 32 y_X_count b_X_count 3 (some .int) 0 := ⟨(mT1 (i := 95) rfl rfl), (mT1 (i := 96) rfl rfl), (mT1 (i := 97) rfl rfl), (mT1 (i := 1) rfl rfl), (mT1 (i := 98) rfl rfl), ⟨by decide +kernel, by decide +kernel, by decide +kernel⟩⟩
theorem m_L_35 : LkV R_law 35 y_M_count b_M_count 1 (some .int) 0 := ⟨(mT2 (i := 117) rfl rfl), (mT2 (i := 118) rfl rfl), (mT2 (i := 119) rfl rfl), (mT1 (i := 3) rfl rfl), (mT2 (i := 120) rfl rfl), ⟨by decide +kernel, by decide +kernel, by decide +kernel⟩⟩
theorem m_L_36 : LkV R_law 36 y_X_element b_X_element 4 (some .int) 1 := ⟨(mT2 (i := 2) rfl rfl), (mT2 (i := 3) rfl rfl), (mT2 (i := 4) rfl rfl), (mT1 (i := 1) rfl rfl), (mT2 (i := 5) rfl rfl), ⟨by decide +kernel, by decide +kernel, by decide +kernel⟩⟩
theorem m_L_40 : LkV R_law 40 y_M_element b_M_element 4 (some .int) 1 := ⟨(mT2 (i := 174) rfl rfl), (mT2 (i := 175) rfl rfl), (mT2 (i := 176) rfl rfl), (mT1 (i := 3) rfl rfl), (mT2 (i := 177) rfl rfl), ⟨by decide +kernel, by decide +kernel, by decide +kernel⟩⟩
theorem m_L_41 : LkV R_law 41 y_X_append b_X_append 2 (some .int) 0 := ⟨(mT2 (i := 7) rfl rfl), (mT2 (i := 8) rfl rfl), (mT2 (i := 9) rfl rfl), (mT1 (i := 1) rfl rfl), (mT2 (i := 10) rfl rfl), ⟨by decide +kernel, by decide +kernel, by decide +kernel⟩⟩
theorem m_L_44 : LkV R_law 44 y_M_append b_M_append 2 (some .int) 0 := ⟨(mT2 (i := 178) rfl rfl), (mT2 (i := 179) rfl rfl), (mT2 (i := 180) rfl rfl), (mT1 (i := 3) rfl rfl), (mT2 (i := 181) rfl rfl), ⟨by decide +kernel, by decide +kernel, by decide +kernel⟩⟩
theorem m_L_45 : LkV R_law 45 y_X_again b_X_again 3 (some .int) 0 := ⟨(mT2 (i := 48) rfl rfl), (mT2 (i := 49) rfl rfl), (mT2 (i := 50) rfl rfl), (mT1 (i := 1) rfl rfl), (mT2 (i := 51) rfl rfl), ⟨by decide +kernel, by decide +kernel, by decide +kernel⟩⟩
theorem m_L_48 : LkV R_law 48 y_M_again b_M_again 4 (some .int) 0 := ⟨(mT2 (i := 209) rfl rfl), (mT2 (i := 210) rfl rfl), (mT2 (i := 211) rfl rfl), (mT1 (i := 3) rfl rfl), (mT2 (i := 212) rfl rfl), ⟨by decide +kernel, by decide +kernel, by decide +kernel⟩⟩
theorem m_L_49 : LkV R_law 49 y_X_wrap b_X_wrap 1 (some .int) 0 := ⟨(mT2 (i := 52) rfl rfl), (mT2 (i := 53) rfl rfl), (mT2 (i := 54) rfl rfl), (mT1 (i := 1) rfl rfl), (mT2 (i := 55) rfl rfl), ⟨by decide +kernel, by decide +kernel, by decide +kernel⟩⟩
theorem m_L_52 : LkV R_law 52 y_M_wrap b_M_wrap 2 (some .int) 0 := ⟨(mT2 (i := 213) rfl rfl), (mT2 (i := 214) rfl rfl), (mT2 (i := 215) rfl rfl), (mT1 (i := 3) rfl rfl), (mT2 (i := 216) rfl rfl), ⟨by decide +kernel, by decide +kernel, by decide +kernel⟩⟩
theorem m_L_53 : LkV R_law 53 y_X_listAt b_X_listAt 2 (some .int) 1 := ⟨(mT2 (i := 56) rfl rfl), (mT2 (i := 57) rfl rfl), (mT2 (i := 58) rfl rfl), (mT1 (i := 1) rfl rfl), (mT2 (i := 59) rfl rfl), ⟨by decide +kernel, by decide +kernel, by decide +kernel⟩⟩
theorem m_L_56 : LkV R_law 56 y_M_listAt b_M_listAt 2 (some .int) 1 := ⟨(mT2 (i := 217) rfl rfl), (mT2 (i := 218) rfl rfl), (mT2 (i := 219) rfl rfl), (mT1 (i := 3) rfl rfl), (mT2 (i := 220) rfl rfl), ⟨by decide +kernel, by decide +kernel, by decide +kernel⟩⟩
theorem m_L_57 : LkV R_law 57 y_X_itemAt b_X_itemAt 2 (some .int) 1 := ⟨(mT2 (i := 60) rfl rfl), (mT2 (i := 61) rfl rfl), (mT2 (i := 62) rfl rfl), (mT1 (i := 1) rfl rfl), (mT2 (i := 63) rfl rfl), ⟨by decide +kernel, by decide +kernel, by decide +kernel⟩⟩
theorem m_L_60 : LkV R_law 60 y_M_itemAt b_M_itemAt 2 (some .int) 1 := ⟨(mT2 (i := 221) rfl rfl), (mT2 (i := 222) rfl rfl), (mT2 (i := 223) rfl rfl), (mT1 (i := 3) rfl rfl), (mT2 (i := 224) rfl rfl), ⟨by decide +kernel, by decide +kernel, by decide +kernel⟩⟩
