/-! PURE, the class's writing -/
theorem X_bare_loop {N : Nat} {f : Nat → Int32} {n : Int32} {t : List Nat} (hr : Rep f n t) (hN : 1100 ≤ N) : ∀ (k i : Nat), i ≤ t.length → t.length - i < k → p_X_canStandBare_2 N n f k (nI i) = some (if anyN i (t.drop i) then 0 else if t = [] then 0 else 1) := by
  have hL := hr.2.1
  intro k
  induction k with
  | zero => intro i h1 h2; omega
  | succ k ih =>
    intro i h1 h2
    rw [p_X_canStandBare_2, R_size, bS, bS, hr.1, iteLe (by omega) (by omega), ← hr.1]
    by_cases hi : i < t.length
    · rw [if_neg (show ¬ t.length ≤ i by omega), X_needs hr hN hi, bS, dropC hi, anyN, nI_1]
      cases hs : needs i (t.getD i 0) with
      | true => rfl
      | false =>
        rw [if_pos (show (if false = true then (1 : Int32) else 0) = 0 from rfl), ih (i + 1) (by omega) (by omega), Bool.false_or]
    · rw [if_pos (show t.length ≤ i by omega), dropN (by omega), anyN, if_neg (show ¬ false = true by decide), show (0 : Int32) = nI 0 from rfl, hr.1, iteLe (by omega) (by omega)]
      by_cases h0 : t = []
      · rw [if_pos h0, if_pos (by rw [h0]; exact Nat.le_refl _)]
      · rw [if_neg h0, if_neg (fun z => h0 (List.length_eq_zero_iff.mp (by omega)))]
theorem X_bare {N : Nat} {f : Nat → Int32} {n : Int32} {t : List Nat} (hr : Rep f n t) (hN : 1100 ≤ N) : p_X_canStandBare N n f = some (if t ≠ [] ∧ anyN 0 t = false then 1 else 0) := by
  have hL := hr.2.1
  have e := X_bare_loop (N := N) hr hN N 0 (Nat.zero_le _) (by omega)
  rw [List.drop_zero] at e
  refine Eq.trans e ?_
  by_cases h0 : t = []
  · subst h0
    rfl
  · cases ha : anyN 0 t with
    | true => simp [h0]
    | false => simp [h0]
theorem X_brace_loop {N : Nat} {f : Nat → Int32} {n : Int32} {t : List Nat} (hr : Rep f n t) : ∀ (k i o : Nat), i ≤ t.length → t.length - i < k → o ≤ i → p_X_canStandInBraces_4 N n f k (nI o) (nI i) = some (if bal o (t.drop i) then 1 else 0) := by
  have hL := hr.2.1
  intro k
  induction k with
  | zero => intro i o h1 h2; omega
  | succ k ih =>
    intro i o h1 h2 h3
    rw [p_X_canStandInBraces_4, R_size, bS, hr.1, iteLe (by omega) (by omega), ← hr.1]
    by_cases hi : i < t.length
    · have hb := Rep_byte hr hi
      rw [if_neg (show ¬ t.length ≤ i by omega), R_byteAt hr (by omega), bS, gb_lt hi, dropC hi, bal]
      generalize t.getD i 0 = b at hb ⊢
      rw [show (123 : Int32) = nI 123 from rfl, show (125 : Int32) = nI 125 from rfl, iteEq (by omega) (by omega), iteEq (by omega) (by omega)]
      by_cases h123 : b = 123
      · rw [if_pos h123, if_pos h123, nI_1]
        unfold p_X_canStandInBraces_39
        rw [if_neg (show ¬ nI b = (92 : Int32) from fun z => absurd ((nI_eq (b := 92) (by omega) (by omega)).mp z) (by omega)), if_pos (nI_pos' (by omega)), nI_1, ih (i + 1) (o + 1) (by omega) (by omega) (by omega)]
      · rw [if_neg h123, if_neg h123]
        by_cases h125 : b = 125
        · rw [if_pos h125, if_pos h125]
          unfold p_X_canStandInBraces_39
          rw [if_neg (show ¬ nI b = (92 : Int32) from fun z => absurd ((nI_eq (b := 92) (by omega) (by omega)).mp z) (by omega))]
          cases o with
          | zero =>
            rw [if_neg (show ¬ (0 : Int32) ≤ nI 0 + -1 by decide)]
            rfl
          | succ o =>
            rw [pk_m1, if_pos (nI_pos' (by omega)), nI_1, ih (i + 1) o (by omega) (by omega) (by omega)]
            rfl
        · rw [if_neg h125, if_neg h125]
          unfold p_X_canStandInBraces_39
          rw [show (92 : Int32) = nI 92 from rfl, iteEq (by omega) (by omega)]
          by_cases h92 : b = 92
          · rw [if_pos h92, h92]
            rfl
          · rw [if_neg h92, if_pos (nI_pos' (by omega)), nI_1, ih (i + 1) o (by omega) (by omega) (by omega)]
            have : (b != 92) = true := by simpa using h92
            rw [this, Bool.true_and]
    · rw [if_pos (show t.length ≤ i by omega), dropN (by omega), bal, show (0 : Int32) = nI 0 from rfl, iteEq (by omega) (by omega)]
      by_cases h0 : o = 0
      · subst h0
        rfl
      · rw [if_neg h0]
        have : (o == 0) = false := by simpa using h0
        rw [this]
        rfl
theorem X_brace {N : Nat} {f : Nat → Int32} {n : Int32} {t : List Nat} (hr : Rep f n t) (hN : 1100 ≤ N) : p_X_canStandInBraces N n f = some (if bal 0 t then 1 else 0) := by
  have hL := hr.2.1
  have e := X_brace_loop (N := N) hr N 0 0 (Nat.zero_le _) (by omega) (by omega)
  rw [List.drop_zero] at e
  exact e
/-- 'out' written behind t, or only a part of it -/
def RW (t out : List Nat) (val : Option (Int32 × Int32 × (Nat → Int32))) : Prop :=
  if (t ++ out).length ≤ 1024 then ∃ f', val = some (1, nI (t ++ out).length, f') ∧ Rep f' (nI (t ++ out).length) (t ++ out)
  else ∃ (n' : Int32) (f' : Nat → Int32) (u : List Nat), val = some (0, n', f') ∧ Rep f' n' (t ++ u)
theorem RW_more {t a out : List Nat} {val : Option (Int32 × Int32 × (Nat → Int32))} (h : RW (t ++ a) out val) : RW t (a ++ out) val := by
  unfold RW at h ⊢
  rw [List.append_assoc] at h
  by_cases hl : (t ++ (a ++ out)).length ≤ 1024
  · rw [if_pos hl] at h ⊢
    exact h
  · rw [if_neg hl] at h ⊢
    obtain ⟨n', f', u, e, hr⟩ := h
    exact ⟨n', f', a ++ u, e, by rw [← List.append_assoc]; exact hr⟩
theorem RW_put {N : Nat} {f : Nat → Int32} {t out : List Nat} {b : Nat} {x : Int32} {kk : Int32 → (Nat → Int32) → Option (Int32 × Int32 × (Nat → Int32))} (hr : Rep f (nI t.length) t) (hx : x &&& 255 = nI b) (hb : b < 256) (hk : ∀ f', Rep f' (nI (t ++ [b]).length) (t ++ [b]) → RW (t ++ [b]) out (kk (nI (t ++ [b]).length) f')) : RW t (b :: out) ((p_R_put N (nI t.length) f x).bind fun r => if r.1 = (0 : Int32) then some ((0 : Int32), r.2.1, r.2.2) else kk r.2.1 r.2.2) := by
  have hL := hr.2.1
  by_cases hlt : t.length < 1024
  · obtain ⟨f', e, hr'⟩ := R_put (N := N) hr hlt x hx hb
    rw [e, bS]
    dsimp only
    rw [if_neg (show ¬ (1 : Int32) = 0 by decide)]
    exact RW_more (a := [b]) (hk f' hr')
  · rw [R_put_full hr (by omega), bS]
    dsimp only
    rw [if_pos rfl]
    unfold RW
    rw [if_neg (by rw [List.length_append, List.length_cons]; omega)]
    exact ⟨_, f, [], rfl, by rw [List.append_nil]; exact hr⟩
theorem X_wb_35 {N : Nat} {f ef : Nat → Int32} {en : Int32} {t out : List Nat} {kk : Int32 → (Nat → Int32) → Int32 → Option (Int32 × Int32 × (Nat → Int32))} {i b : Nat} (hr : Rep f (nI t.length) t) (hb : b < 256)
    (hk : ∀ (c : Nat) (f' : Nat → Int32), c = (if b = 9 then 116 else if b = 10 then 110 else if b = 11 then 118 else if b = 12 then 102 else if b = 13 then 114 else b) → Rep f' (nI (t ++ [c]).length) (t ++ [c]) → RW (t ++ [c]) out (kk (nI (t ++ [c]).length) f' (nI (i + 1)))) :
    RW t ((if b = 9 then 116 else if b = 10 then 110 else if b = 11 then 118 else if b = 12 then 102 else if b = 13 then 114 else b) :: out) (p_X_writeWithBackslashes_35 N en ef kk (nI t.length) f (nI i) (nI b)) := by
  unfold p_X_writeWithBackslashes_35
  rw [X_isNamed hb, bS]
  by_cases h9 : 9 ≤ b ∧ b ≤ 13
  · rw [show (decide (9 ≤ b) && decide (b ≤ 13)) = true by simp [h9.1, h9.2], if_neg (show ¬ (if true = true then (1 : Int32) else 0) = 0 by decide)]
    have e : p_S_charAt N 0 (nI b - 7) = some (nI (if b = 9 then 116 else if b = 10 then 110 else if b = 11 then 118 else if b = 12 then 102 else 114)) := S_char_t b (by omega) h9.1
    have e2 : (if b = 9 then 116 else if b = 10 then 110 else if b = 11 then 118 else if b = 12 then 102 else 114) = (if b = 9 then 116 else if b = 10 then 110 else if b = 11 then 118 else if b = 12 then 102 else if b = 13 then 114 else b) := by
      rcases (show b = 9 ∨ b = 10 ∨ b = 11 ∨ b = 12 ∨ b = 13 by omega) with rfl | rfl | rfl | rfl | rfl <;> rfl
    rw [e, bS, e2]
    unfold p_X_writeWithBackslashes_56
    have hc : (if b = 9 then 116 else if b = 10 then 110 else if b = 11 then 118 else if b = 12 then 102 else if b = 13 then 114 else b) < 256 := by
      rcases (show b = 9 ∨ b = 10 ∨ b = 11 ∨ b = 12 ∨ b = 13 by omega) with rfl | rfl | rfl | rfl | rfl <;> decide
    exact RW_put (kk := fun a f' => kk a f' (nI i + 1)) hr (and255 hc) hc (fun f' hr' => by rw [nI_1]; exact hk _ f' rfl hr')
  · rw [show (decide (9 ≤ b) && decide (b ≤ 13)) = false by simp; omega, if_pos (show (if false = true then (1 : Int32) else 0) = 0 by decide)]
    unfold p_X_writeWithBackslashes_56
    have e2 : (if b = 9 then 116 else if b = 10 then 110 else if b = 11 then 118 else if b = 12 then 102 else if b = 13 then 114 else b) = b := by
      rw [if_neg (by omega), if_neg (by omega), if_neg (by omega), if_neg (by omega), if_neg (by omega)]
    rw [e2]
    exact RW_put (kk := fun a f' => kk a f' (nI i + 1)) hr (and255 hb) hb (fun f' hr' => by rw [nI_1]; exact hk _ f' e2.symm hr')
theorem X_wb_loop {N : Nat} {ef : Nat → Int32} {en : Int32} {e : List Nat} (he : Rep ef en e) (hN : 1100 ≤ N) : ∀ (k i : Nat) (t : List Nat) (f : Nat → Int32), i ≤ e.length → e.length - i < k → Rep f (nI t.length) t → RW t (escW i (e.drop i)) (p_X_writeWithBackslashes_2 N en ef k (nI t.length) f (nI i)) := by
  have hL := he.2.1
  intro k
  induction k with
  | zero => intro i t f h1 h2; omega
  | succ k ih =>
    intro i t f h1 h2 hr
    rw [p_X_writeWithBackslashes_2, R_size, bS, he.1, iteLe (by omega) (by omega), ← he.1]
    by_cases hi : i < e.length
    · have hb := Rep_byte he hi
      rw [if_neg (show ¬ e.length ≤ i by omega), R_byteAt he (by omega), bS, gb_lt hi, X_needs he hN hi, bS, dropC hi, escW, escB]
      have step : ∀ (t : List Nat) (f : Nat → Int32), Rep f (nI t.length) t → RW t ((if e.getD i 0 = 9 then 116 else if e.getD i 0 = 10 then 110 else if e.getD i 0 = 11 then 118 else if e.getD i 0 = 12 then 102 else if e.getD i 0 = 13 then 114 else e.getD i 0) :: escW (i + 1) (e.drop (i + 1))) (p_X_writeWithBackslashes_35 N en ef (p_X_writeWithBackslashes_2 N en ef k) (nI t.length) f (nI i) (nI (e.getD i 0))) :=
        fun t f hr => X_wb_35 hr hb (fun c f' _ hr' => ih (i + 1) (t ++ [c]) f' (by omega) (by omega) hr')
      cases hs : needs i (e.getD i 0) with
      | true =>
        rw [if_neg (show ¬ (if true = true then (1 : Int32) else 0) = 0 by decide)]
        exact RW_put (b := 92) (kk := fun a f' => p_X_writeWithBackslashes_35 N en ef (p_X_writeWithBackslashes_2 N en ef k) a f' (nI i) (nI (e.getD i 0))) hr (by decide) (by omega) (fun f' hr' => step _ f' hr')
      | false =>
        rw [if_pos (show (if false = true then (1 : Int32) else 0) = 0 by decide)]
        exact step t f hr
    · rw [if_pos (show e.length ≤ i by omega), dropN (by omega), escW]
      unfold RW
      rw [List.append_nil, if_pos hr.2.1]
      exact ⟨f, rfl, hr⟩
theorem X_wbs {N : Nat} {f ef : Nat → Int32} {en : Int32} {t e : List Nat} (he : Rep ef en e) (hN : 1100 ≤ N) (hr : Rep f (nI t.length) t) : RW t (escW 0 e) (p_X_writeWithBackslashes N (nI t.length) f en ef) := by
  have hL := he.2.1
  have q := X_wb_loop (N := N) he hN N 0 t f (Nat.zero_le _) (by omega) hr
  rw [List.drop_zero] at q
  exact q
theorem X_wr {N : Nat} {f ef : Nat → Int32} {en : Int32} {t e : List Nat} (he : Rep ef en e) (hN : 1100 ≤ N) (hr : Rep f (nI t.length) t) : RW t (wr e) (p_X_writeBehind_18 N en ef (nI t.length) f) := by
  unfold p_X_writeBehind_18 wr
  rw [X_bare he hN, bS]
  by_cases hb : e ≠ [] ∧ anyN 0 e = false
  · rw [if_pos hb, if_pos hb, if_neg (show ¬ (1 : Int32) = 0 by decide)]
    unfold RW
    rw [List.length_append]
    by_cases hl : t.length + e.length ≤ 1024
    · obtain ⟨f', e1, hr'⟩ := R_putAll (N := N) hr he hl
      rw [if_pos hl, e1, bS]
      rw [List.length_append] at hr' ⊢
      exact ⟨f', rfl, hr'⟩
    · rw [if_neg hl, R_putAll_no hr he (by omega), bS]
      exact ⟨_, f, [], rfl, by rw [List.append_nil]; exact hr⟩
  · rw [if_neg hb, if_neg hb, if_pos rfl, X_brace he hN, bS]
    cases hbal : bal 0 e with
    | true =>
      rw [if_neg (show ¬ (if true = true then (1 : Int32) else 0) = 0 by decide), if_pos rfl, List.append_assoc]
      refine RW_put (b := 123) (x := 123) (kk := fun a f' => (p_R_putAll N a f' en ef).bind fun r_49 => (if r_49.1 = (0 : Int32) then some ((0 : Int32), r_49.2.1, r_49.2.2) else ((p_R_put N r_49.2.1 r_49.2.2 (125 : Int32)).bind fun r_58 => (if r_58.1 = (0 : Int32) then some ((0 : Int32), r_58.2.1, r_58.2.2) else some ((1 : Int32), r_58.2.1, r_58.2.2))))) hr (by decide) (by omega) (fun f' hr' => ?_)
      by_cases hl : (t ++ [123]).length + e.length ≤ 1024
      · obtain ⟨f2, e2, hr2⟩ := R_putAll (N := N) hr' he hl
        rw [e2, bS]
        dsimp only
        rw [if_neg (show ¬ (1 : Int32) = 0 by decide)]
        refine RW_more (a := e) (RW_put (b := 125) (x := 125) (kk := fun a f' => some ((1 : Int32), a, f')) hr2 (by decide) (by omega) (fun f3 hr3 => ?_))
        unfold RW
        rw [List.append_nil, if_pos hr3.2.1]
        exact ⟨f3, rfl, hr3⟩
      · rw [R_putAll_no hr' he (by omega), bS]
        dsimp only
        rw [if_pos rfl]
        unfold RW
        rw [if_neg (by simp [List.length_append] at hl ⊢; omega)]
        exact ⟨_, f', [], rfl, by rw [List.append_nil]; exact hr'⟩
    | false =>
      rw [if_pos (show (if false = true then (1 : Int32) else 0) = 0 by decide), if_neg (show ¬ false = true by decide)]
      have q := X_wbs (N := N) he hN hr
      unfold RW at q ⊢
      split
      · rename_i hl
        rw [if_pos hl] at q
        obtain ⟨f', e1, hr'⟩ := q
        rw [e1]
        exact ⟨f', rfl, hr'⟩
      · rename_i hl
        rw [if_neg hl] at q
        obtain ⟨n', f', u, e1, hr'⟩ := q
        rw [e1]
        exact ⟨n', f', u, rfl, hr'⟩
theorem X_writeBehind {N : Nat} {f ef : Nat → Int32} {tn en : Int32} {t e : List Nat} (hr : Rep f tn t) (he : Rep ef en e) (hN : 1100 ≤ N) : RW t ((if t = [] then [] else [32]) ++ wr e) (p_X_writeBehind N tn f en ef) := by
  have hL := hr.2.1
  unfold p_X_writeBehind p_X_writeBehind_0
  obtain rfl := hr.1
  rw [R_size, bS, show (0 : Int32) = nI 0 from rfl, iteLe (by omega) (by omega)]
  by_cases h0 : t = []
  · rw [if_pos h0, if_pos (by rw [h0]; exact Nat.le_refl _), List.nil_append]
    exact X_wr he hN hr
  · rw [if_neg h0, if_neg (fun z => h0 (List.length_eq_zero_iff.mp (by omega)))]
    exact RW_put (b := 32) (x := 32) (kk := fun a f' => p_X_writeBehind_18 N en ef a f') hr (by decide) (by omega) (fun f' hr' => X_wr he hN hr')
