/-! PURE, the class's reading: backslashes -/
theorem esc_cons (b : Nat) (l : List Nat) : esc (b :: l) = if b = 10 then (32, 1 + (l.takeWhile isBl).length)
    else if b = 120 then (if digs 16 2 l = 0 then (120, 1) else (numOf 16 (l.take (digs 16 2 l)) % 256, 1 + digs 16 2 l))
    else if digs 8 3 (b :: l) = 0 then (lett b, 1) else (numOf 8 ((b :: l).take (digs 8 3 (b :: l))) % 256, digs 8 3 (b :: l)) := rfl
theorem esc_le (l : List Nat) : (esc l).2 ≤ l.length := by
  cases l with
  | nil => simp [esc]
  | cons b l =>
    have h1 := digs_le 16 2 l
    have h2 := digs_le 8 3 (b :: l)
    have h3 : (l.takeWhile isBl).length ≤ l.length := (List.takeWhile_prefix isBl).length_le
    rw [esc_cons]
    split
    · simp only [List.length_cons]; omega
    · split
      · split
        · simp
        · simp only [List.length_cons]; omega
      · split
        · simp
        · exact h2.2
theorem lett_lt {b : Nat} (hb : b < 256) : lett b < 256 := by
  unfold lett
  repeat' split
  all_goals omega
theorem esc_lt {l : List Nat} (h : ∀ b ∈ l, b < 256) : (esc l).1 < 256 := by
  cases l with
  | nil => simp [esc]
  | cons b l =>
    have hb := h b List.mem_cons_self
    rw [esc_cons]
    split
    · simp
    · split
      · split
        · simp
        · exact Nat.mod_lt _ (by omega)
      · split
        · exact lett_lt hb
        · exact Nat.mod_lt _ (by omega)
theorem X_bb {N : Nat} {f : Nat → Int32} {n : Int32} {t : List Nat} (hr : Rep f n t) (hN : 1100 ≤ N) {i : Nat} (hi : i < t.length) (h92 : t.getD i 0 = 92) : p_X_bytesBehindBackslash N n f (nI i) = some (nI (esc (t.drop (i + 1))).2) := by
  have hL := hr.2.1
  unfold p_X_bytesBehindBackslash p_X_bytesBehindBackslash_0
  rw [nI_1, R_byteAt hr (by omega), bS, R_byteAt hr (by omega), bS, gb_lt hi, h92, if_pos (show nI 92 = 92 from rfl)]
  by_cases h1 : i + 1 < t.length
  · have hb := Rep_byte hr h1
    rw [gb_lt h1, if_neg (nI_neN (by omega)), dropC h1, show i + 1 + 1 = i + 2 from rfl]
    rw [show (10 : Int32) = nI 10 from rfl, show (120 : Int32) = nI 120 from rfl, show (2 : Int32) = nI 2 from rfl, show (16 : Int32) = nI 16 from rfl, show (3 : Int32) = nI 3 from rfl, show (8 : Int32) = nI 8 from rfl, iteEq (by omega) (by omega), iteEq (by omega) (by omega), nI_add]
    rw [X_countBlanks hr hN (by omega), X_countDigits hr hN (by omega) (by omega) (by omega), X_countDigits hr hN (by omega) (by omega) (by omega), bS, bS, bS, dropC h1, show i + 1 + 1 = i + 2 from rfl]
    generalize t.getD (i + 1) 0 = b
    rw [esc_cons]
    by_cases h10 : b = 10
    · rw [if_pos h10, if_pos h10, show (1 : Int32) = nI 1 from rfl, nI_add]
    · rw [if_neg h10, if_neg h10]
      by_cases h120 : b = 120
      · rw [if_pos h120, if_pos h120, show (1 : Int32) = nI 1 from rfl, nI_add]
        by_cases h0 : digs 16 2 (t.drop (i + 2)) = 0
        · rw [if_pos h0, h0]
        · rw [if_neg h0]
      · rw [if_neg h120, if_neg h120, show (1 : Int32) = nI 1 from rfl]
        have hd := digs_le 8 3 (b :: t.drop (i + 2))
        rw [iteLt (by omega) (by omega)]
        by_cases h0 : digs 8 3 (b :: t.drop (i + 2)) = 0
        · rw [if_pos h0, h0, if_neg (by omega)]
        · rw [if_neg h0]
          by_cases h2 : 1 < digs 8 3 (b :: t.drop (i + 2))
          · rw [if_pos h2]
          · rw [if_neg h2]
            congr 2
            show 1 = digs 8 3 (b :: t.drop (i + 2))
            omega
  · rw [gb_ge (by omega), if_pos rfl, dropN (by omega)]
    rfl
theorem X_bb0 {N : Nat} {f : Nat → Int32} {n : Int32} {t : List Nat} (hr : Rep f n t) {i : Nat} (hi : i < t.length) (h92 : ¬ t.getD i 0 = 92) : p_X_bytesBehindBackslash N n f (nI i) = some 0 := by
  have hL := hr.2.1
  have hb := Rep_byte hr hi
  unfold p_X_bytesBehindBackslash p_X_bytesBehindBackslash_0
  rw [nI_1, R_byteAt hr (by omega), bS, R_byteAt hr (by omega), bS, gb_lt hi, show (92 : Int32) = nI 92 from rfl, iteEq (by omega) (by omega), if_neg h92]
