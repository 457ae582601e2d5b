/-! PURE, the reference: where an element ends -/
theorem M_at {N : Nat} {f : Nat → Int32} {n : Int32} {t : List Nat} (h : Rep f n t) {i : Nat} (hi : i < 2 ^ 31) : p_M_at N n f (nI i) = some (gb t i) := by
  obtain ⟨rfl, hl, hf, hb⟩ := h
  unfold p_M_at p_M_at_0 gb
  rw [iteLe (by omega) hi]
  by_cases hlt : i < t.length
  · rw [if_neg (show ¬ t.length ≤ i by omega), if_neg (by rw [nI_clamp hi]; intro q; rcases q with q | q; exact nI_pos hi q; omega), nI_clamp hi, hf i hlt, if_pos hlt]
  · rw [if_pos (show t.length ≤ i by omega), if_neg hlt]
theorem M_isSpace_t : ∀ b, b < 256 → p_M_isSpace 0 (nI b) = some (if isSp b then 1 else 0) := by decide +kernel
theorem M_isSpace {N b : Nat} (h : b < 256) : p_M_isSpace N (nI b) = some (if isSp b then 1 else 0) := M_isSpace_t b h
theorem M_skip_loop {N : Nat} {f : Nat → Int32} {n : Int32} {t : List Nat} (hr : Rep f n t) : ∀ (k i : Nat), i ≤ t.length → t.length - i < k → p_M_skip_2 N n f k (nI i) = some (nI (i + ((t.drop i).takeWhile isSp).length)) := by
  have hL := hr.2.1
  intro k
  induction k with
  | zero => intro i h1 h2; omega
  | succ k ih =>
    intro i h1 h2
    rw [p_M_skip_2, hr.1, iteLe (by omega) (by omega), ← hr.1]
    by_cases hi : i < t.length
    · rw [if_neg (show ¬ t.length ≤ i by omega), M_at hr (by omega), bS, gb_lt hi, M_isSpace (Rep_byte hr hi), bS, dropC hi, List.takeWhile_cons]
      cases hs : isSp (t.getD i 0) with
      | false => simp
      | true =>
        rw [if_neg (by decide), nI_1, ih (i + 1) (by omega) (by omega)]
        simp only [if_true, List.length_cons]
        congr 2
        omega
    · rw [if_pos (show t.length ≤ i by omega), dropN (by omega)]
      simp
theorem M_skip {N : Nat} {f : Nat → Int32} {n : Int32} {t : List Nat} (hr : Rep f n t) (hN : 1100 ≤ N) {i : Nat} (hi : i ≤ t.length) : p_M_skip N n f (nI i) = some (nI (i + ((t.drop i).takeWhile isSp).length)) := by
  have hL := hr.2.1
  exact M_skip_loop hr N i hi (by omega)
/-- how many bytes behind a backslash 'behind' passes over -/
def beh : List Nat → Nat
  | [] => 0
  | c :: l => if c = 10 then 1 + (l.takeWhile isBl).length else 1
theorem beh_le (l : List Nat) : beh l ≤ l.length := by
  cases l with
  | nil => simp [beh]
  | cons c l =>
    have := takeW_le isBl l
    show (if c = 10 then 1 + (l.takeWhile isBl).length else 1) ≤ _
    split
    · simp only [List.length_cons]; omega
    · simp
theorem M_42 {N : Nat} {f : Nat → Int32} {n : Int32} {t : List Nat} (hr : Rep f n t) {i : Nat} (hi : i < 2 ^ 31) : p_M_behind_42 N n f (nI i) = some (nI (if i < t.length then i else t.length)) := by
  have hL := hr.2.1
  unfold p_M_behind_42
  rw [hr.1, iteLe (by omega) hi]
  by_cases h : i < t.length
  · rw [if_neg (show ¬ t.length ≤ i by omega), if_pos h]
  · rw [if_pos (show t.length ≤ i by omega), if_neg h]
theorem M_bl_loop {N : Nat} {f : Nat → Int32} {n : Int32} {t : List Nat} (hr : Rep f n t) : ∀ (k i : Nat), i ≤ t.length → t.length - i < k → p_M_behind_16 N n f k (nI i) = some (nI (i + ((t.drop i).takeWhile isBl).length)) := by
  have hL := hr.2.1
  intro k
  induction k with
  | zero => intro i h1 h2; omega
  | succ k ih =>
    intro i h1 h2
    rw [p_M_behind_16, M_at hr (by omega), bS, bS]
    by_cases hi : i < t.length
    · have hb := Rep_byte hr hi
      rw [gb_lt hi, dropC hi, List.takeWhile_cons, M_42 hr (by omega), if_pos hi, nI_1]
      generalize t.getD i 0 = b at hb ⊢
      rw [show (32 : Int32) = nI 32 from rfl, show (9 : Int32) = nI 9 from rfl, iteEq (by omega) (by omega), iteEq (by omega) (by omega)]
      by_cases h32 : b = 32
      · rw [if_pos h32, ih (i + 1) (by omega) (by omega), h32]
        simp only [isBl, beq_self_eq_true, Bool.true_or, if_true, List.length_cons]
        congr 2
        omega
      · rw [if_neg h32]
        by_cases h9 : b = 9
        · rw [if_pos h9, ih (i + 1) (by omega) (by omega), h9]
          simp only [isBl, beq_self_eq_true, Bool.or_true, if_true, List.length_cons]
          congr 2
          omega
        · rw [if_neg h9]
          simp [isBl, h32, h9]
    · rw [gb_ge (by omega), if_neg (by decide), if_neg (by decide), M_42 hr (by omega), if_neg hi, dropN (by omega)]
      simp only [List.takeWhile_nil, List.length_nil]
      congr 2
      omega
theorem M_behind {N : Nat} {f : Nat → Int32} {n : Int32} {t : List Nat} (hr : Rep f n t) (hN : 1100 ≤ N) {i : Nat} (hi : i < t.length) : p_M_behind N n f (nI i) = some (nI (i + 1 + beh (t.drop (i + 1)))) := by
  have hL := hr.2.1
  unfold p_M_behind p_M_behind_0
  rw [nI_1, M_at hr (by omega), bS, show (2 : Int32) = nI 2 from rfl, nI_add, M_42 hr (by omega)]
  by_cases h1 : i + 1 < t.length
  · have hb := Rep_byte hr h1
    rw [gb_lt h1, dropC h1, show (10 : Int32) = nI 10 from rfl, iteEq (by omega) (by omega), beh, M_bl_loop hr N (i + 2) (by omega) (by omega), show i + 1 + 1 = i + 2 from rfl]
    by_cases h10 : t.getD (i + 1) 0 = 10
    · rw [if_pos h10, if_pos h10]
      congr 2
      omega
    · rw [if_neg h10, if_neg h10]
      by_cases h2 : i + 2 < t.length
      · rw [if_pos h2]
      · rw [if_neg h2]
        congr 2
        omega
  · rw [gb_ge (by omega), if_neg (by decide), dropN (by omega), if_neg (by omega), beh]
    congr 2
    omega
/-- from the space on that ends a bare word -/
def bsn (l : List Nat) : List Nat :=
  match l with
  | [] => []
  | b :: l => if isSp b then b :: l else if b = 92 then bsn (l.drop (beh l)) else bsn l
termination_by l.length
decreasing_by all_goals (simp_wf; try omega)
theorem bsn_nil : bsn [] = [] := by rw [bsn.eq_def]
theorem bsn_cons (b : Nat) (l : List Nat) : bsn (b :: l) = if isSp b then b :: l else if b = 92 then bsn (l.drop (beh l)) else bsn l := by rw [bsn.eq_def]
theorem M_bare_loop {N : Nat} {f : Nat → Int32} {n : Int32} {t : List Nat} (hr : Rep f n t) (hN : 1100 ≤ N) : ∀ (k i : Nat), i ≤ t.length → t.length - i < k → p_M_bare_2 N n f k (nI i) = some (nI (t.length - (bsn (t.drop i)).length)) := by
  have hL := hr.2.1
  intro k
  induction k with
  | zero => intro i h1 h2; omega
  | succ k ih =>
    intro i h1 h2
    rw [p_M_bare_2, hr.1, iteLe (by omega) (by omega), ← hr.1]
    by_cases hi : i < t.length
    · have hb := Rep_byte hr hi
      rw [if_neg (show ¬ t.length ≤ i by omega), M_at hr (by omega), bS, bS, gb_lt hi, M_isSpace hb, bS, dropC hi, bsn_cons, M_behind hr hN hi, bS, nI_1, show (92 : Int32) = nI 92 from rfl, iteEq (by omega) (by omega)]
      cases hs : isSp (t.getD i 0) with
      | true =>
        rw [if_neg (by decide), if_pos rfl]
        congr 2
        rw [List.length_cons, List.length_drop]
        omega
      | false =>
        rw [if_pos (by decide), if_neg (show ¬ false = true by decide)]
        by_cases h92 : t.getD i 0 = 92
        · have := beh_le (t.drop (i + 1))
          rw [List.length_drop] at this
          rw [if_pos h92, if_pos h92, ih _ (by omega) (by omega), List.drop_drop]
        · rw [if_neg h92, if_neg h92, ih (i + 1) (by omega) (by omega)]
    · rw [if_pos (show t.length ≤ i by omega), dropN (by omega), bsn_nil]
      congr 2
      simp only [List.length_nil]
      omega
/-- from the quote on that ends a quoted word; [] if there is none -/
def qs (l : List Nat) : List Nat :=
  match l with
  | [] => []
  | b :: l => if b = 34 then b :: l else if b = 92 then qs (l.drop 1) else qs l
termination_by l.length
decreasing_by all_goals (simp_wf; try omega)
theorem qs_nil : qs [] = [] := by rw [qs.eq_def]
theorem qs_cons (b : Nat) (l : List Nat) : qs (b :: l) = if b = 34 then b :: l else if b = 92 then qs (l.drop 1) else qs l := by rw [qs.eq_def]
theorem M_43 {N : Nat} {f : Nat → Int32} {n : Int32} {t : List Nat} (hr : Rep f n t) {i : Nat} (hi : i < 2 ^ 31) : p_M_quote_43 N n f (nI i) = some (nI (if i < t.length then i else t.length)) := by
  have hL := hr.2.1
  unfold p_M_quote_43
  rw [hr.1, iteLe (by omega) hi]
  by_cases h : i < t.length
  · rw [if_neg (show ¬ t.length ≤ i by omega), if_pos h]
  · rw [if_pos (show t.length ≤ i by omega), if_neg h]
theorem M_quote_loop {N : Nat} {f : Nat → Int32} {n : Int32} {t : List Nat} (hr : Rep f n t) : ∀ (k i : Nat), i ≤ t.length + 1 → t.length + 1 - i < k → p_M_quote_4 N n f k (nI i) = some (nI (t.length - (qs (t.drop i)).length)) := by
  have hL := hr.2.1
  intro k
  induction k with
  | zero => intro i h1 h2; omega
  | succ k ih =>
    intro i h1 h2
    rw [p_M_quote_4, M_43 hr (by omega)]
    by_cases hi : i < t.length
    · have hb := Rep_byte hr hi
      rw [if_neg (show ¬ n ≤ nI i by rw [hr.1, nI_lev (by omega) (by omega)]; omega), M_at hr (by omega), bS, bS, gb_lt hi, dropC hi, qs_cons, nI_1, show (92 : Int32) = nI 92 from rfl, show (34 : Int32) = nI 34 from rfl, iteEq (by omega) (by omega), iteEq (by omega) (by omega), show (2 : Int32) = nI 2 from rfl, nI_add, if_pos hi]
      by_cases h34 : t.getD i 0 = 34
      · rw [if_pos h34, if_pos h34]
        congr 2
        rw [List.length_cons, List.length_drop]
        omega
      · rw [if_neg h34, if_neg h34]
        by_cases h92 : t.getD i 0 = 92
        · rw [if_pos h92, if_pos h92, ih _ (by omega) (by omega), List.drop_drop]
        · rw [if_neg h92, if_neg h92, ih (i + 1) (by omega) (by omega)]
    · rw [if_pos (show n ≤ nI i by rw [hr.1, nI_lev (by omega) (by omega)]; omega), dropN (by omega), qs_nil, if_neg hi]
      rfl
/-- where the closing brace stands; the end if there is none -/
def posB (t : List Nat) (y : Option (List Nat × List Nat)) : Nat := match y with
  | none => t.length
  | some x => t.length - x.2.length - 1
theorem M_cl_loop {N : Nat} {f : Nat → Int32} {n : Int32} {t : List Nat} (hr : Rep f n t) : ∀ (k i o : Nat) (w : List Nat), i ≤ t.length + 1 → t.length + 1 - i < k → 1 ≤ o → o ≤ i + 1 → p_M_closing_6 N n f k (nI o) (nI i) = some (nI (posB t (rdB o w (t.drop i)))) := by
  have hL := hr.2.1
  intro k
  induction k with
  | zero => intro i o w h1 h2; omega
  | succ k ih =>
    intro i o w h1 h2 ho ho2
    rw [p_M_closing_6]
    by_cases hi : i < t.length
    · have hb := Rep_byte hr hi
      rw [if_neg (show ¬ n ≤ nI i by rw [hr.1, nI_lev (by omega) (by omega)]; omega), M_at hr (by omega), bS, gb_lt hi, dropC hi, rdB_cons]
      have e0 : t.drop (i + 1) = t.drop (i + 1) := rfl
      generalize t.getD i 0 = b at hb ⊢
      rw [show (123 : Int32) = nI 123 from rfl, show (125 : Int32) = nI 125 from rfl, iteEq (by omega) (by omega), iteEq (by omega) (by omega)]
      have go : ∀ (o2 : Nat) (w2 : List Nat), ¬ b = 92 → 1 ≤ o2 → o2 ≤ i + 2 → ∀ z : Int32, nI o + z = nI o2 → p_M_closing_45 N n f (p_M_closing_6 N n f k) (nI i) (nI b) z (nI o) = some (nI (posB t (rdB o2 w2 (t.drop (i + 1))))) := by
        intro o2 w2 h92 h1 h2 z hz
        unfold p_M_closing_45
        rw [hz, if_neg (nI_ne0 (by omega) (by omega)), show (92 : Int32) = nI 92 from rfl, iteEq (by omega) (by omega), if_neg h92, nI_1]
        exact ih (i + 1) o2 w2 (by omega) (by omega) h1 (by omega)
      by_cases h123 : b = 123
      · rw [if_pos h123, if_pos h123]
        exact go (o + 1) _ (by omega) (by omega) (by omega) 1 (nI_1 o)
      · rw [if_neg h123, if_neg h123]
        by_cases h125 : b = 125
        · rw [if_pos h125, if_pos h125]
          by_cases h1o : o = 1
          · subst h1o
            rw [if_pos rfl]
            unfold p_M_closing_45
            rw [if_pos (show nI 1 + -1 = 0 by decide)]
            congr 2
            show i = t.length - (t.drop (i + 1)).length - 1
            rw [List.length_drop]
            omega
          · rw [if_neg h1o]
            exact go (o - 1) _ (by omega) (by omega) (by omega) (-1) (sb_m1 (by omega))
        · rw [if_neg h125, if_neg h125]
          by_cases h92 : b = 92
          · rw [if_pos h92]
            unfold p_M_closing_45
            rw [Int32.add_zero, if_neg (nI_ne0 (by omega) (by omega)), show (92 : Int32) = nI 92 from rfl, iteEq (by omega) (by omega), if_pos h92, show (2 : Int32) = nI 2 from rfl, nI_add]
            by_cases hi2 : i + 1 < t.length
            · rw [dropC hi2]
              exact ih (i + 2) o _ (by omega) (by omega) ho (by omega)
            · rw [dropN (show t.length ≤ i + 1 by omega), ih (i + 2) o w (by omega) (by omega) ho (by omega), dropN (show t.length ≤ i + 2 by omega), rdB_nil]
          · rw [if_neg h92]
            exact go o _ h92 ho (by omega) 0 (Int32.add_zero _)
    · rw [if_pos (show n ≤ nI i by rw [hr.1, nI_lev (by omega) (by omega)]; omega), dropN (by omega), rdB_nil, hr.1]
      rfl
