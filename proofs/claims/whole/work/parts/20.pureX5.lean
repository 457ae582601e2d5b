/-! PURE, the class's reading: the next element -/
theorem dropW (p : Nat → Bool) : ∀ l : List Nat, l.dropWhile p = l.drop (l.takeWhile p).length := by
  intro l
  induction l with
  | nil => rfl
  | cons b l ih =>
    rw [List.dropWhile_cons, List.takeWhile_cons]
    cases hp : p b with
    | true => simp only [if_true, List.length_cons, List.drop_succ_cons]; exact ih
    | false => simp
theorem takeW_le (p : Nat → Bool) (l : List Nat) : (l.takeWhile p).length ≤ l.length := (List.takeWhile_prefix p).length_le
/-- what is left is no longer than what was there -/
theorem rdB_len : ∀ (m o : Nat) (w l : List Nat) (x : List Nat × List Nat), l.length ≤ m → rdB o w l = some x → x.2.length < l.length := by
  intro m
  induction m with
  | zero =>
    intro o w l x hm h
    rw [List.length_eq_zero_iff.mp (by omega : l.length = 0), rdB_nil] at h
    cases h
  | succ m ih =>
    intro o w l x hm h
    cases l with
    | nil => rw [rdB_nil] at h; cases h
    | cons b l =>
      rw [rdB_cons] at h
      simp only [List.length_cons] at hm ⊢
      split at h
      · have := ih _ _ _ _ (by omega) h; omega
      · split at h
        · split at h
          · cases h; simp
          · have := ih _ _ _ _ (by omega) h; omega
        · split at h
          · cases l with
            | nil => cases h
            | cons c l =>
              simp only [List.length_cons] at hm ⊢
              have := ih _ _ _ _ (by omega) h
              omega
          · have := ih _ _ _ _ (by omega) h; omega
theorem rdU_len (q : Bool) : ∀ (m : Nat) (w l : List Nat) (x : List Nat × List Nat), l.length ≤ m → rdU q w l = some x → x.2.length ≤ l.length ∧ (q = true → ∃ r, x.2 = 34 :: r) := by
  intro m
  induction m with
  | zero =>
    intro w l x hm h
    rw [List.length_eq_zero_iff.mp (by omega : l.length = 0), rdU_nil] at h
    cases q with
    | true => cases h
    | false => cases h; exact ⟨by simp, fun h => by cases h⟩
  | succ m ih =>
    intro w l x hm h
    cases l with
    | nil =>
      rw [rdU_nil] at h
      cases q with
      | true => cases h
      | false => cases h; exact ⟨by simp, fun h => by cases h⟩
    | cons b l =>
      rw [rdU_cons] at h
      simp only [List.length_cons] at hm ⊢
      by_cases hc : (if q then b == 34 else isSp b) = true
      · rw [if_pos hc] at h
        cases h
        refine ⟨by simp, fun hq => ?_⟩
        subst hq
        rw [if_pos rfl] at hc
        exact ⟨l, by rw [eq_of_beq hc]⟩
      · rw [if_neg hc] at h
        by_cases h9 : b = 92
        · rw [if_pos h9] at h
          have h2 := ih _ _ _ (by rw [List.length_drop]; omega) h
          rw [List.length_drop] at h2
          exact ⟨by omega, h2.2⟩
        · rw [if_neg h9] at h
          have h2 := ih _ _ _ (by omega) h
          exact ⟨by omega, h2.2⟩
theorem rdU_bare {b : Nat} {w l : List Nat} {x : List Nat × List Nat} (hb : isSp b = false) (h : rdU false w (b :: l) = some x) : x.2.length < (b :: l).length := by
  rw [rdU_cons] at h
  simp only [Bool.false_eq_true, if_false, hb] at h
  split at h
  · have h2 := rdU_len false _ _ _ _ (Nat.le_refl _) h
    rw [List.length_drop] at h2
    simp only [List.length_cons]
    omega
  · have h2 := rdU_len false _ _ _ _ (Nat.le_refl _) h
    simp only [List.length_cons]
    omega
theorem clo_some {y : Option (List Nat × List Nat)} {x : List Nat × List Nat} (h : clo y = some x) : y = some x := by
  unfold clo at h
  split at h
  · cases h
  · exact h
  · split at h
    · exact h
    · cases h
theorem dropWhile_head {p : Nat → Bool} : ∀ {l : List Nat} {b : Nat} {r : List Nat}, l.dropWhile p = b :: r → p b = false := by
  intro l
  induction l with
  | nil => intro b r h; cases h
  | cons c l ih =>
    intro b r h
    rw [List.dropWhile_cons] at h
    cases hp : p c with
    | true => rw [hp] at h; exact ih h
    | false => rw [hp] at h; cases h; exact hp
theorem nxt_len {l : List Nat} {x : List Nat × List Nat} (h : nxt l = some (some x)) : x.2.length < l.length := by
  unfold nxt at h
  have hl : (l.dropWhile isSp).length ≤ l.length := (List.dropWhile_suffix isSp).length_le
  split at h
  · cases h
  · rename_i b r e
    rw [e] at hl
    simp only [List.length_cons] at hl
    have h := Option.some.inj h
    split at h
    · have := rdB_len _ _ _ _ _ (Nat.le_refl _) (clo_some h); omega
    · split at h
      · have h2 := clo_some h
        obtain ⟨y, hy, h3⟩ := Option.map_eq_some_iff.mp h2
        have h4 := rdU_len true _ _ _ _ (Nat.le_refl _) hy
        obtain ⟨z, hz⟩ := h4.2 rfl
        rw [← h3]
        simp only [List.length_drop]
        omega
      · have := rdU_bare (dropWhile_head e) h
        simp only [List.length_cons] at this
        omega
theorem X_closer {N : Nat} {f : Nat → Int32} {n : Int32} {t : List Nat} (hr : Rep f n t) {j : Nat} (hj : j < t.length) : p_X_behindCloser N n f (nI j) = some (match t.drop (j + 1) with | [] => nI (j + 1) | b :: _ => if isSp b then nI (j + 1) else -2) := by
  have hL := hr.2.1
  unfold p_X_behindCloser p_X_behindCloser_0
  rw [if_neg (nI_neB (by omega)), nI_1, R_byteAt hr (by omega), bS]
  by_cases h1 : j + 1 < t.length
  · have hb := Rep_byte hr h1
    rw [gb_lt h1, if_neg (nI_neN (by omega)), X_isSpace hb, bS, dropC h1]
    dsimp only
    cases hs : isSp (t.getD (j + 1) 0) with
    | true => rfl
    | false => rfl
  · rw [gb_ge (by omega), if_pos rfl, dropN (by omega)]
theorem X_closer_bad {N : Nat} {f : Nat → Int32} {n : Int32} : p_X_behindCloser N n f (-2) = some (-2) := by
  unfold p_X_behindCloser p_X_behindCloser_0
  rw [if_pos rfl]
/-- what nextElement comes to -/
def RN (t : List Nat) (i : Nat) (res : Option (Option (List Nat × List Nat))) (val : Option (Int32 × Int32 × Int32 × (Nat → Int32))) : Prop :=
  match res with
  | none => ∃ (wn : Int32) (wf : Nat → Int32) (w : List Nat), val = some (-1, nI i, wn, wf) ∧ Rep wf wn w
  | some none => ∃ (wn : Int32) (wf : Nat → Int32) (w : List Nat), val = some (-2, nI i, wn, wf) ∧ Rep wf wn w
  | some (some x) => ∃ (j : Nat) (wf : Nat → Int32), val = some (nI x.1.length, nI j, nI x.1.length, wf) ∧ Rep wf (nI x.1.length) x.1 ∧ j ≤ t.length ∧ t.drop j = x.2
theorem X_84 {N : Nat} {f wf : Nat → Int32} {n pl wn : Int32} {j : Nat} (hj : j < 2 ^ 31) : p_X_nextElement_84 N n f pl wn wf (nI j) = some (wn, nI j, wn, wf) := by
  unfold p_X_nextElement_84
  rw [if_neg (nI_neB hj), R_size, bS]
theorem X_84b {N : Nat} {f wf : Nat → Int32} {n pl wn : Int32} : p_X_nextElement_84 N n f pl wn wf (-2) = some (-2, pl, wn, wf) := by
  unfold p_X_nextElement_84
  rw [if_pos rfl]
theorem X_closed {N : Nat} {f wf : Nat → Int32} {n wn : Int32} {t w : List Nat} (hr : Rep f n t) {i j : Nat} (hj : j < t.length) (hw : Rep wf wn w) (hwn : wn = nI w.length) : RN t i (some (clo (some (w, t.drop (j + 1))))) ((p_X_behindCloser N n f (nI j)).bind fun r => p_X_nextElement_84 N n f (nI i) wn wf r) := by
  have hL := hr.2.1
  rw [X_closer hr hj, bS]
  unfold clo
  by_cases h1 : j + 1 < t.length
  · rw [dropC h1]
    dsimp only
    cases hs : isSp (t.getD (j + 1) 0) with
    | true =>
      simp only [if_true]
      rw [X_84 (by omega), hwn]
      exact ⟨j + 1, wf, rfl, hwn ▸ hw, by omega, dropC h1⟩
    | false =>
      simp only [Bool.false_eq_true, if_false]
      rw [X_84b]
      exact ⟨wn, wf, w, rfl, hw⟩
  · rw [dropN (by omega)]
    dsimp only
    rw [X_84 (by omega), hwn]
    exact ⟨j + 1, wf, rfl, hwn ▸ hw, by omega, dropN (by omega)⟩
theorem X_next {N : Nat} {f wf : Nat → Int32} {n wn : Int32} {t w : List Nat} (hr : Rep f n t) (hN : 1100 ≤ N) (hw : Rep wf wn w) {i : Nat} (hi : i ≤ t.length) : RN t i (nxt (t.drop i)) (p_X_nextElement N (nI i) n f wn wf) := by
  have hL := hr.2.1
  unfold p_X_nextElement p_X_nextElement_0
  rw [X_behindSpaces hr hN hi, bS]
  have hle := takeW_le isSp (t.drop i)
  rw [List.length_drop] at hle
  unfold nxt
  rw [dropW, List.drop_drop]
  generalize hj : i + ((t.drop i).takeWhile isSp).length = j
  have hjl : j ≤ t.length := by omega
  rw [R_byteAt hr (by omega), bS]
  by_cases h1 : j < t.length
  · have hb := Rep_byte hr h1
    have hcut : p_R_cutTo N wn (0 : Int32) = some (1, 0) := R_cutTo (k := 0) hw (Nat.zero_le _)
    rw [gb_lt h1, if_neg (nI_neN (by omega)), hcut, bS, dropC h1]
    dsimp only
    have hw0 : Rep wf (nI ([] : List Nat).length) [] := Rep_nil wf
    by_cases h123 : t.getD j 0 = 123
    · rw [if_pos (show nI (t.getD j 0) = (123 : Int32) by rw [h123]; rfl), if_pos h123, nI_1]
      have q : RB t (rdB 1 [] (t.drop (j + 1))) (p_X_readBraced N n f 0 wf (nI (j + 1))) := X_rb_loop (N := N) hr N (j + 1) 1 [] wf (by omega) (by omega) (by omega) (by omega) (by simp) hw0
      generalize rdB 1 [] (t.drop (j + 1)) = y at q ⊢
      cases y with
      | none =>
        obtain ⟨wn', wf', w', e, hw'⟩ := q
        rw [e, bS]
        dsimp only
        rw [X_closer_bad, bS, X_84b]
        exact ⟨wn', wf', w', rfl, hw'⟩
      | some x =>
        obtain ⟨j', wf', e, hw', hj', e2⟩ := q
        rw [e, bS]
        dsimp only
        have := X_closed (N := N) (i := i) hr hj' hw' rfl
        rw [e2] at this
        exact this
    · rw [if_neg (show ¬ nI (t.getD j 0) = (123 : Int32) from fun z => h123 ((nI_eq (b := 123) (by omega) (by omega)).mp z)), if_neg h123]
      by_cases h34 : t.getD j 0 = 34
      · rw [if_pos (show nI (t.getD j 0) = (34 : Int32) by rw [h34]; rfl), if_pos h34, nI_1]
        have q : RU t (rdU true [] (t.drop (j + 1))) (p_X_readUnbraced N n f 0 wf (nI (j + 1)) 1) := X_ru_loop (N := N) hr hN true N (j + 1) [] wf (by omega) (by omega) (by simp) hw0
        have ql := fun x => rdU_len true _ [] (t.drop (j + 1)) x (Nat.le_refl _)
        generalize rdU true [] (t.drop (j + 1)) = y at q ql ⊢
        cases y with
        | none =>
          obtain ⟨wn', wf', w', e, hw'⟩ := q
          rw [e, bS]
          dsimp only
          rw [X_closer_bad, bS, X_84b]
          exact ⟨wn', wf', w', rfl, hw'⟩
        | some x =>
          obtain ⟨j', wf', e, hw', hj', e2⟩ := q
          obtain ⟨r, hr2⟩ := (ql x rfl).2 rfl
          have hj2 : j' < t.length := by
            rcases Nat.lt_or_ge j' t.length with z | z
            · exact z
            · rw [dropN z, hr2] at e2; cases e2
          rw [e, bS]
          dsimp only
          have := X_closed (N := N) (i := i) hr hj2 hw' rfl
          rw [show t.drop (j' + 1) = x.2.drop 1 by rw [← e2, List.drop_drop]] at this
          exact this
      · rw [if_neg (show ¬ nI (t.getD j 0) = (34 : Int32) from fun z => h34 ((nI_eq (b := 34) (by omega) (by omega)).mp z)), if_neg h34, ← dropC h1]
        have q : RU t (rdU false [] (t.drop j)) (p_X_readUnbraced N n f 0 wf (nI j) 0) := X_ru_loop (N := N) hr hN false N j [] wf (by omega) (by omega) (by simp) hw0
        generalize rdU false [] (t.drop j) = y at q ⊢
        cases y with
        | none =>
          obtain ⟨wn', wf', w', e, hw'⟩ := q
          rw [e, bS]
          dsimp only
          rw [X_84b]
          exact ⟨wn', wf', w', rfl, hw'⟩
        | some x =>
          obtain ⟨j', wf', e, hw', hj', e2⟩ := q
          rw [e, bS]
          dsimp only
          rw [X_84 (by omega)]
          exact ⟨j', wf', rfl, hw', hj', e2⟩
  · rw [gb_ge (by omega), if_pos rfl, dropN (by omega)]
    exact ⟨wn, wf, w, rfl, hw⟩
