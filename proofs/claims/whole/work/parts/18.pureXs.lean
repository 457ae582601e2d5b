/-! PURE, the class's two String constants; what a backslash means; which bytes need one -/
theorem SL_mono {N N' k : Nat} : ∀ (m m' : Nat) (a b c r : Int32), m ≤ m' → p_SL_indexOfChar_7 N k m a b c = some r → p_SL_indexOfChar_7 N' k m' a b c = some r := by
  intro m
  induction m with
  | zero => intro m' a b c r hm h; rw [p_SL_indexOfChar_7] at h; cases h
  | succ m ih =>
    intro m' a b c r hm h
    obtain ⟨m2, rfl⟩ : ∃ m2, m' = m2 + 1 := ⟨m' - 1, by omega⟩
    rw [p_SL_indexOfChar_7] at h ⊢
    by_cases h1 : a ≤ c
    · rw [if_pos h1] at h ⊢
      exact h
    · rw [if_neg h1] at h ⊢
      obtain ⟨h2, h⟩ := guardN h
      rw [if_neg h2]
      by_cases h3 : (bytJS.getD k []).getD c.toNatClampNeg 0 = b
      · rw [if_pos h3] at h ⊢
        exact h
      · rw [if_neg h3] at h ⊢
        exact ih m2 a b _ r (by omega) h
theorem SL_up {N k : Nat} {x y z r : Int32} (hN : 20 ≤ N) (h : p_SL_indexOf0 20 k x y z = some r) : p_SL_indexOf0 N k x y z = some r := by
  unfold p_SL_indexOf0 p_SL_indexOf0_0 at h ⊢
  obtain ⟨r1, h1, h⟩ := bindS h
  rw [show p_SL_canEncode1 N x = p_SL_canEncode1 20 x from rfl, h1, show (some r1).bind = (fun f => f r1 : (Int32 → Option Int32) → Option Int32) from rfl]
  dsimp only
  by_cases c1 : r1 = 0
  · rw [if_pos c1] at h ⊢
    exact h
  · rw [if_neg c1] at h ⊢
    by_cases c2 : (if y < (0 : Int32) then (0 : Int32) else y) < (if (Int32.ofNat (lenJS.getD k 0)) < z then (Int32.ofNat (lenJS.getD k 0)) else z)
    · rw [if_pos c2] at h ⊢
      obtain ⟨r2, h2, h⟩ := bindS h
      have e := SL_mono (N := 20) (N' := N) 20 N _ _ _ _ hN h2
      rw [show p_SL_indexOfChar N k x (if y < (0 : Int32) then (0 : Int32) else y) (if (Int32.ofNat (lenJS.getD k 0)) < z then (Int32.ofNat (lenJS.getD k 0)) else z) = some r2 from e]
      exact h
    · rw [if_neg c2] at h ⊢
      exact h
theorem S_ix_up {N k : Nat} {x r : Int32} (hN : 20 ≤ N) (h : p_S_indexOf0 20 k x = some r) : p_S_indexOf0 N k x = some r := by
  unfold p_S_indexOf0 p_S_indexOf0_0 p_S_indexOf1 p_S_indexOf1_0 at h ⊢
  obtain ⟨r1, h1, h⟩ := bindS h
  obtain ⟨r2, h2, h1⟩ := bindS h1
  have e2 : p_S_isLatin1 N k = some r2 := h2
  rw [e2, bS]
  by_cases c : r2 = 0
  · have h1 := iteP c h1
    obtain ⟨r3, h3, h1⟩ := bindS h1
    cases h1
  · have h1 := iteN c h1
    rw [if_neg c]
    obtain ⟨r3, h3, h1⟩ := bindS h1
    have e3 : p_S_length N k = some r3 := h3
    obtain ⟨r4, h4, h1⟩ := bindS h1
    rw [e3, bS, SL_up hN h4, bS, bS]
    obtain rfl := Option.some.inj h1
    exact h
def lix0 (b : Nat) : Int32 := if b = 97 then 0 else if b = 98 then 1 else if b = 116 then 2 else if b = 110 then 3 else if b = 118 then 4 else if b = 102 then 5 else if b = 114 then 6 else -1
def lix1 (b : Nat) : Int32 := if b = 34 then 0 else if b = 36 then 1 else if b = 59 then 2 else if b = 91 then 3 else if b = 92 then 4 else if b = 93 then 5 else if b = 123 then 6 else if b = 125 then 7 else -1
theorem S_ix0_t : ∀ b, b < 256 → p_S_indexOf0 20 0 ((nI b).toUInt32 % 65536).toInt32 = some (lix0 b) := by decide +kernel
theorem S_ix1_t : ∀ b, b < 256 → p_S_indexOf0 20 1 ((nI b).toUInt32 % 65536).toInt32 = some (lix1 b) := by decide +kernel
theorem lix0_t : ∀ b, b < 256 → (if lix0 b < (0 : Int32) then some (nI b) else some ((7 : Int32) + lix0 b)) = some (nI (lett b)) := by decide +kernel
theorem lix1_t : ∀ b, b < 256 → (if (0 : Int32) ≤ lix1 b then true else false) = (b == 34 || b == 36 || b == 59 || b == 91 || b == 92 || b == 93 || b == 123 || b == 125) := by decide +kernel
theorem X_meaning {N : Nat} {f : Nat → Int32} {n : Int32} {t : List Nat} (hr : Rep f n t) (hN : 1100 ≤ N) {i : Nat} (hi : i < t.length) : p_X_meaningOfBackslash N n f (nI i) = some (nI (esc (t.drop (i + 1))).1) := by
  have hL := hr.2.1
  unfold p_X_meaningOfBackslash p_X_meaningOfBackslash_0
  rw [nI_1, R_byteAt hr (by omega), bS]
  by_cases h1 : i + 1 < t.length
  · have hb := Rep_byte hr h1
    rw [gb_lt h1, if_neg (nI_neN (by omega)), dropC h1, show i + 1 + 1 = i + 2 from rfl]
    rw [show (10 : Int32) = nI 10 from rfl, show (120 : Int32) = nI 120 from rfl, show (2 : Int32) = nI 2 from rfl, show (16 : Int32) = nI 16 from rfl, show (3 : Int32) = nI 3 from rfl, show (8 : Int32) = nI 8 from rfl, iteEq (by omega) (by omega), iteEq (by omega) (by omega), nI_add]
    have d1 := digs_le 16 2 (t.drop (i + 2))
    have d2 := digs_le 8 3 (t.drop (i + 1))
    rw [List.length_drop] at d1 d2
    rw [X_countDigits hr hN (by omega) (by omega) (by omega), X_countDigits hr hN (by omega) (by omega) (by omega), bS, bS]
    rw [X_numberAt hr hN (by omega), X_numberAt hr hN (by omega), bS, bS, dropC h1, show i + 1 + 1 = i + 2 from rfl] 
    rw [dropC h1, show i + 1 + 1 = i + 2 from rfl] at d2
    generalize t.getD (i + 1) 0 = b at hb d2 ⊢
    rw [S_ix_up (by omega) (S_ix0_t b hb), bS, lix0_t b hb, esc_cons, show (0 : Int32) = nI 0 from rfl, iteEq (by omega) (by omega), iteLe (by omega) (by omega)]
    by_cases h10 : b = 10
    · rw [if_pos h10, if_pos h10]
      rfl
    · rw [if_neg h10, if_neg h10]
      by_cases h120 : b = 120
      · rw [if_pos h120, if_pos h120]
        by_cases h0 : digs 16 2 (t.drop (i + 2)) = 0
        · rw [if_pos h0, if_pos h0]
        · rw [if_neg h0, if_neg h0]
      · rw [if_neg h120, if_neg h120]
        by_cases h0 : digs 8 3 (b :: t.drop (i + 2)) = 0
        · rw [if_pos h0, if_pos (by omega)]
        · rw [if_neg h0, if_neg (by omega)]
  · rw [gb_ge (by omega), if_pos rfl, dropN (by omega)]
    rfl
theorem needs_t : ∀ b, b < 256 → ∀ i, i < 2 → needs i b = (isSp b || (b == 34 || b == 36 || b == 59 || b == 91 || b == 92 || b == 93 || b == 123 || b == 125) || (b == 35 && i == 0)) := by decide +kernel
theorem needs_S (b i : Nat) : needs (i + 1) b = needs 1 b := by simp [needs]
theorem X_needs {N : Nat} {f : Nat → Int32} {n : Int32} {t : List Nat} (hr : Rep f n t) (hN : 1100 ≤ N) {i : Nat} (hi : i < t.length) : p_X_needsBackslash N n f (nI i) = some (if needs i (t.getD i 0) then 1 else 0) := by
  have hL := hr.2.1
  have hb := Rep_byte hr hi
  unfold p_X_needsBackslash p_X_needsBackslash_0
  rw [R_byteAt hr (by omega), bS, gb_lt hi, X_isSpace hb, bS]
  generalize t.getD i 0 = b at hb ⊢
  rw [S_ix_up (by omega) (S_ix1_t b hb), bS]
  have e1 := lix1_t b hb
  have e2 : needs i b = (isSp b || (b == 34 || b == 36 || b == 59 || b == 91 || b == 92 || b == 93 || b == 123 || b == 125) || (b == 35 && i == 0)) := by
    cases i with
    | zero => exact needs_t b hb 0 (by omega)
    | succ i => rw [needs_S, needs_t b hb 1 (by omega)]; rfl
  rw [e2]
  cases hs : isSp b with
  | true => rfl
  | false =>
    rw [if_pos (show (if false = true then (1 : Int32) else 0) = 0 from rfl), Bool.false_or]
    by_cases hm : (0 : Int32) ≤ lix1 b
    · rw [if_pos hm] at e1 ⊢
      rw [← e1]
      rfl
    · rw [if_neg hm] at e1 ⊢
      rw [← e1, Bool.false_or, show (35 : Int32) = nI 35 from rfl]
      by_cases h35 : b = 35
      · subst h35
        rw [if_pos rfl]
        by_cases h0 : i = 0
        · subst h0
          rfl
        · rw [if_neg (show ¬ nI i = (0 : Int32) from fun q => h0 ((nI_eq (by omega) (by omega)).mp q))]
          simp [h0]
      · rw [if_neg (fun q => h35 ((nI_eq (by omega) (by omega)).mp q))]
        simp [h35]
theorem S_char_t : ∀ b, b < 14 → 9 ≤ b → p_S_charAt 0 0 (nI b - 7) = some (nI (if b = 9 then 116 else if b = 10 then 110 else if b = 11 then 118 else if b = 12 then 102 else 114)) := by decide +kernel
