/-! PURE, the class: count, element -/
theorem elems_none {l : List Nat} (h : nxt l = none) : elems l = some [] := by rw [elems.eq_def, h]
theorem elems_bad {l : List Nat} (h : nxt l = some none) : elems l = none := by rw [elems.eq_def, h]
theorem elems_some {l : List Nat} {x : List Nat × List Nat} (h : nxt l = some (some x)) : elems l = (elems x.2).map (x.1 :: ·) := by
  rw [elems.eq_def, h]
  dsimp only
  rw [if_pos (nxt_len h)]
theorem elems_cons {l e : List Nat} {es : List (List Nat)} (h : elems l = some (e :: es)) : ∃ r, nxt l = some (some (e, r)) ∧ elems r = some es := by
  cases hn : nxt l with
  | none => rw [elems_none hn] at h; cases h
  | some y =>
    cases y with
    | none => rw [elems_bad hn] at h; cases h
    | some x =>
      rw [elems_some hn] at h
      obtain ⟨es2, h1, h2⟩ := Option.map_eq_some_iff.mp h
      cases h2
      exact ⟨x.2, rfl, h1⟩
def cntR (c : Nat) (y : Option (List (List Nat))) : Int32 := match y with
  | none => -2
  | some es => nI (c + es.length)
theorem X_cnt_m1 {N : Nat} {f wf : Nat → Int32} {n pl wn : Int32} {k c : Nat} : p_X_count_12 N n f (k + 1) pl wn wf (nI c) (-1) = some (nI c, pl, wn, wf) := by
  rw [p_X_count_12, if_pos (show (-1 : Int32) < 0 by decide), if_neg (show ¬ (-1 : Int32) = -2 by decide)]
theorem X_cnt_m2 {N : Nat} {f wf : Nat → Int32} {n pl wn : Int32} {k : Nat} {c : Int32} : p_X_count_12 N n f (k + 1) pl wn wf c (-2) = some (-2, pl, wn, wf) := by
  rw [p_X_count_12, if_pos (show (-2 : Int32) < 0 by decide), if_pos rfl]
theorem X_count_loop {N : Nat} {f : Nat → Int32} {n : Int32} {t : List Nat} (hr : Rep f n t) (hN : 1100 ≤ N) : ∀ (k i c len : Nat) (wn : Int32) (wf : Nat → Int32) (w : List Nat), Rep wf wn w → len < 2 ^ 31 → c + 1 ≤ i → i ≤ t.length → t.length - i + 2 ≤ k → ∃ (pl wn' : Int32) (wf' : Nat → Int32) (w' : List Nat), p_X_count_12 N n f k (nI i) wn wf (nI c) (nI len) = some (cntR (c + 1) (elems (t.drop i)), pl, wn', wf') ∧ Rep wf' wn' w' := by
  have hL := hr.2.1
  intro k
  induction k with
  | zero => intro i c len wn wf w hw h0 h1 h2 h3; omega
  | succ k ih =>
    intro i c len wn wf w hw h0 h1 h2 h3
    rw [p_X_count_12, if_neg (nI_pos h0), if_neg (show ¬ (1024 : Int32) ≤ nI c from fun z => absurd ((nI_leI (a := 1024) (by omega) (by omega)).mp z) (by omega))]
    have q := X_next (N := N) hr hN hw h2
    cases hn : nxt (t.drop i) with
    | none =>
      rw [hn] at q
      obtain ⟨wn', wf', w', e, hw'⟩ := q
      obtain ⟨k2, rfl⟩ : ∃ k2, k = k2 + 1 := ⟨k - 1, by omega⟩
      rw [e, bS, nI_1, elems_none hn]
      dsimp only
      rw [X_cnt_m1]
      exact ⟨_, _, _, w', rfl, hw'⟩
    | some y =>
      rw [hn] at q
      cases y with
      | none =>
        obtain ⟨wn', wf', w', e, hw'⟩ := q
        obtain ⟨k2, rfl⟩ : ∃ k2, k = k2 + 1 := ⟨k - 1, by omega⟩
        rw [e, bS, nI_1, elems_bad hn]
        dsimp only
        rw [X_cnt_m2]
        exact ⟨_, _, _, w', rfl, hw'⟩
      | some x =>
        obtain ⟨j, wf', e, hw', hj, e2⟩ := q
        have hl := nxt_len hn
        rw [← e2, List.length_drop, List.length_drop] at hl
        rw [e, bS, nI_1, elems_some hn, ← e2]
        dsimp only
        have hxl := hw'.2.1
        obtain ⟨pl, wn2, wf2, w2, e3, hw2⟩ := ih j (c + 1) x.1.length _ wf' x.1 hw' (by omega) (by omega) hj (by omega)
        refine ⟨pl, wn2, wf2, w2, ?_, hw2⟩
        rw [e3]
        cases elems (t.drop j) with
        | none => rfl
        | some es =>
          show some (nI (c + 1 + 1 + es.length), _, _, _) = some (nI (c + 1 + (x.1 :: es).length), _, _, _)
          rw [show c + 1 + 1 + es.length = c + 1 + (x.1 :: es).length by rw [List.length_cons]; omega]
theorem X_count {N : Nat} {f wf : Nat → Int32} {n pl0 wn : Int32} {t w : List Nat} (hr : Rep f n t) (hN : 1100 ≤ N) (hw : Rep wf wn w) : ∃ (pl wn' : Int32) (wf' : Nat → Int32) (w' : List Nat), p_X_count N pl0 n f wn wf = some (cntR 0 (elems t), pl, wn', wf') ∧ Rep wf' wn' w' := by
  have hL := hr.2.1
  unfold p_X_count p_X_count_0
  have q : RN t 0 (nxt t) (p_X_nextElement N 0 n f wn wf) := X_next (N := N) (i := 0) hr hN hw (Nat.zero_le _)
  obtain ⟨k2, hk⟩ : ∃ k2, N = k2 + 1 := ⟨N - 1, by omega⟩
  cases hn : nxt t with
  | none =>
    rw [hn] at q
    obtain ⟨wn', wf', w', e, hw'⟩ := q
    rw [e, bS, elems_none hn]
    dsimp only
    have := X_cnt_m1 (N := N) (f := f) (wf := wf') (n := n) (pl := nI 0) (wn := wn') (k := k2) (c := 0)
    rw [← hk] at this
    exact ⟨_, _, _, w', this, hw'⟩
  | some y =>
    rw [hn] at q
    cases y with
    | none =>
      obtain ⟨wn', wf', w', e, hw'⟩ := q
      rw [e, bS, elems_bad hn]
      dsimp only
      have := X_cnt_m2 (N := N) (f := f) (wf := wf') (n := n) (pl := nI 0) (wn := wn') (k := k2) (c := 0)
      rw [← hk] at this
      exact ⟨_, _, _, w', this, hw'⟩
    | some x =>
      obtain ⟨j, wf', e, hw', hj, e2⟩ := q
      have hl := nxt_len hn
      rw [← e2, List.length_drop] at hl
      rw [e, bS, elems_some hn, ← e2]
      dsimp only
      have hxl := hw'.2.1
      obtain ⟨pl, wn2, wf2, w2, e3, hw2⟩ := X_count_loop (N := N) hr hN N j 0 x.1.length _ wf' x.1 hw' (by omega) (by omega) hj (by omega)
      refine ⟨pl, wn2, wf2, w2, ?_, hw2⟩
      rw [show (0 : Int32) = nI 0 from rfl, e3]
      cases elems (t.drop j) with
      | none => rfl
      | some es =>
        show some (nI (0 + 1 + es.length), _, _, _) = some (nI (0 + (x.1 :: es).length), _, _, _)
        rw [show 0 + 1 + es.length = 0 + (x.1 :: es).length by rw [List.length_cons]; omega]
theorem elems_length : ∀ (m : Nat) (l : List Nat) (es : List (List Nat)), l.length ≤ m → elems l = some es → es.length ≤ l.length := by
  intro m
  induction m with
  | zero =>
    intro l es hm h
    cases es with
    | nil => simp
    | cons e es =>
      obtain ⟨r, h1, h2⟩ := elems_cons h
      have := nxt_len h1
      omega
  | succ m ih =>
    intro l es hm h
    cases es with
    | nil => simp
    | cons e es =>
      obtain ⟨r, h1, h2⟩ := elems_cons h
      have hl : r.length < l.length := nxt_len h1
      have := ih r es (by omega) h2
      rw [List.length_cons]
      omega
theorem X_el_loop {N : Nat} {f : Nat → Int32} {n itn : Int32} {itf : Nat → Int32} {t : List Nat} (hr : Rep f n t) (hN : 1100 ≤ N) {kk : Nat} (hkk : kk < 2000) : ∀ (k m i : Nat) (es : List (List Nat)) (wn : Int32) (wf : Nat → Int32) (w : List Nat), Rep wf wn w → elems (t.drop i) = some es → i ≤ t.length → m ≤ kk + 1 → (m ≤ kk → kk - m < es.length) → kk + 2 ≤ m + k →
    ∃ (e : List Nat) (pl wn' : Int32) (wf' itf' : Nat → Int32) (w' : List Nat), (e = if m ≤ kk then es.getD (kk - m) [] else w) ∧ p_X_element_32 N n f k (nI i) itn itf wn wf (nI kk) (nI m) = some (nI e.length, pl, nI e.length, itf', wn', wf') ∧ Rep itf' (nI e.length) e ∧ Rep wf' wn' w' := by
  have hL := hr.2.1
  intro k
  induction k with
  | zero => intro m i es wn wf w hw he hi h1 h2 h3; omega
  | succ k ih =>
    intro m i es wn wf w hw he hi h1 h2 h3
    rw [p_X_element_32, iteLt (by omega) (by omega)]
    by_cases hm : m ≤ kk
    · rw [if_neg (show ¬ kk < m by omega), if_pos hm]
      cases es with
      | nil => have := h2 hm; simp at this
      | cons e es =>
        obtain ⟨r, hn, he2⟩ := elems_cons he
        have q := X_next (N := N) hr hN hw hi
        rw [hn] at q
        obtain ⟨j, wf', e1, hw', hj, e2⟩ := q
        dsimp only at e1 hw' e2
        rw [e1, bS, nI_1]
        dsimp only
        obtain ⟨e', pl, wn2, wf2, itf2, w2, e3, e4, h5, h6⟩ := ih (m + 1) j es _ wf' e hw' (by rw [e2]; exact he2) hj (by omega) (fun z => by have := h2 hm; simp only [List.length_cons] at this; omega) (by omega)
        refine ⟨e', pl, wn2, wf2, itf2, w2, ?_, e4, h5, h6⟩
        rw [e3]
        by_cases hm2 : m + 1 ≤ kk
        · rw [if_pos hm2, show kk - m = (kk - (m + 1)) + 1 by omega, List.getD_cons_succ]
        · rw [if_neg hm2, show kk - m = 0 by omega, List.getD_cons_zero]
    · rw [if_pos (show kk < m by omega)]
      obtain ⟨f', e1, hr'⟩ := R_takeAll (N := N) (f := itf) (n := itn) hw
      rw [e1, bS]
      dsimp only
      exact ⟨w, nI i, 0, wf, f', [], by rw [if_neg hm], rfl, hr', Rep_nil wf⟩
/-- element(x): the answer, and what the ITEM is then -/
def elA (t it : List Nat) (x : Int32) : Int32 × List Nat := match elems t with
  | none => (-2, it)
  | some es => if x < 0 ∨ nI es.length ≤ x then (-1, it) else (nI (es.getD x.toNatClampNeg []).length, es.getD x.toNatClampNeg [])
theorem X_element {N : Nat} {f wf itf : Nat → Int32} {n pl0 wn itn : Int32} {t w it : List Nat} (hr : Rep f n t) (hN : 1100 ≤ N) (hw : Rep wf wn w) (hit : Rep itf itn it) (x : Int32) : ∃ (pl itn' wn' : Int32) (itf' wf' : Nat → Int32) (w' : List Nat), p_X_element N pl0 n f itn itf wn wf x = some ((elA t it x).1, pl, itn', itf', wn', wf') ∧ Rep itf' itn' (elA t it x).2 ∧ Rep wf' wn' w' := by
  have hL := hr.2.1
  obtain ⟨pl, wn1, wf1, w1, e1, hw1⟩ := X_count (N := N) (pl0 := pl0) hr hN hw
  unfold p_X_element p_X_element_0 elA
  rw [e1, bS]
  dsimp only
  cases he : elems t with
  | none =>
    rw [if_pos (show cntR 0 none = -2 from rfl)]
    exact ⟨_, _, _, _, _, w1, rfl, hit, hw1⟩
  | some es =>
    have hes := elems_length _ t es (Nat.le_refl _) he
    dsimp only
    rw [show cntR 0 (some es) = nI es.length by show nI (0 + es.length) = _; rw [Nat.zero_add], if_neg (nI_neB (by omega))]
    rcases pk_ix x (n := es.length) (by omega) with h | h | ⟨j, hj, rfl⟩
    · rw [if_pos h, if_pos (Or.inl h)]
      exact ⟨_, _, _, _, _, w1, rfl, hit, hw1⟩
    · rw [if_pos (show x < 0 ∨ nI es.length ≤ x from Or.inr h)]
      by_cases h0 : x < 0
      · rw [if_pos h0]
        exact ⟨_, _, _, _, _, w1, rfl, hit, hw1⟩
      · rw [if_neg h0, if_neg (Int32.not_lt.mpr h)]
        exact ⟨_, _, _, _, _, w1, rfl, hit, hw1⟩
    · rw [if_neg (nI_pos (by omega)), if_pos ((nI_ltI (by omega) (by omega)).mpr hj), if_neg (show ¬ (nI j < 0 ∨ nI es.length ≤ nI j) from fun z => z.elim (nI_pos (by omega)) (fun z => absurd ((nI_leI (by omega) (by omega)).mp z) (by omega))), nI_clamp (by omega)]
      obtain ⟨e, pl2, wn2, wf2, itf2, w2, e3, e4, h5, h6⟩ := X_el_loop (N := N) (itn := itn) (itf := itf) hr hN (kk := j) (by omega) N 0 0 es wn1 wf1 w1 hw1 he (Nat.zero_le _) (by omega) (fun _ => by omega) (by omega)
      rw [if_pos (Nat.zero_le _), Nat.sub_zero] at e3
      subst e3
      exact ⟨pl2, _, wn2, itf2, wf2, w2, e4, h5, h6⟩
