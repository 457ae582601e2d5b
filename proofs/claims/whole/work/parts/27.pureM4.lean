/-! PURE, the reference: goOver, count, element -/
theorem elems_skip (l : List Nat) : elems (l.dropWhile isSp) = elems l := by
  have h0 : (l.dropWhile isSp).dropWhile isSp = l.dropWhile isSp := by
    cases h : l.dropWhile isSp with
    | nil => rfl
    | cons b r => rw [List.dropWhile_cons, dropWhile_head h]; rfl
  have h1 : nxt (l.dropWhile isSp) = nxt l := by rw [nxt_one, nxt_one, h0]
  cases hn : nxt l with
  | none => rw [elems_none hn, elems_none (h1.trans hn)]
  | some y =>
    cases y with
    | none => rw [elems_bad hn, elems_bad (h1.trans hn)]
    | some x => rw [elems_some hn, elems_some (h1.trans hn)]
/-- at or behind the spaces -/
def atS (t : List Nat) (i : Nat) : Prop := i ≤ t.length ∧ (t.drop i).dropWhile isSp = t.drop i
theorem atS_of {t : List Nat} {i : Nat} (hi : i ≤ t.length) : atS t (i + ((t.drop i).takeWhile isSp).length) ∧ elems (t.drop (i + ((t.drop i).takeWhile isSp).length)) = elems (t.drop i) := by
  have hle := takeW_le isSp (t.drop i)
  rw [List.length_drop] at hle
  have e : t.drop (i + ((t.drop i).takeWhile isSp).length) = (t.drop i).dropWhile isSp := by rw [dropW, List.drop_drop]
  refine ⟨⟨by omega, ?_⟩, by rw [e, elems_skip]⟩
  rw [e]
  cases h : (t.drop i).dropWhile isSp with
  | nil => rfl
  | cons b r => rw [List.dropWhile_cons, dropWhile_head h]; rfl
theorem nxt_atS {t : List Nat} {i : Nat} (h : atS t i) (hi : i < t.length) : nxt (t.drop i) = some (one (t.drop i)) := by
  rw [nxt_one, h.2, dropC hi]
theorem M_50 {N : Nat} {f wf : Nat → Int32} {n wn x1 : Int32} {t : List Nat} (hr : Rep f n t) (hN : 1100 ≤ N) {kk : Int32 → (Nat → Int32) → Int32 → Int32 → Int32 → Option (Int32 × Int32 × (Nat → Int32))} {c e : Nat} (he : e ≤ t.length) : p_M_goOver_50 N n f kk wn wf x1 (nI c) (nI e) = kk wn wf x1 (nI (c + 1)) (nI (e + ((t.drop e).takeWhile isSp).length)) := by
  unfold p_M_goOver_50
  rw [M_skip hr hN he, bS, nI_1]
theorem M_go_cnt {N : Nat} {f wf : Nat → Int32} {n wn : Int32} {t : List Nat} (hr : Rep f n t) (hN : 1100 ≤ N) : ∀ (k i c : Nat), atS t i → c ≤ i → t.length - i < k → p_M_goOver_8 N n f k wn wf 1024 (nI c) (nI i) = some (cntR c (elems (t.drop i)), wn, wf) := by
  have hL := hr.2.1
  intro k
  induction k with
  | zero => intro i c ha hc h2; omega
  | succ k ih =>
    intro i c ha hc h2
    rw [p_M_goOver_8]
    have hile := ha.1
    by_cases hi : i < t.length
    · rw [if_neg (show ¬ n ≤ nI i by rw [hr.1, nI_lev (by omega) (by omega)]; omega), if_neg (show ¬ (1024 : Int32) < nI c from fun z => absurd ((nI_ltI (a := 1024) (by omega) (by omega)).mp z) (by omega)), M_ending hr hN hi, bS]
      have hn := nxt_atS ha hi
      cases ho : one (t.drop i) with
      | none =>
        rw [ho] at hn
        rw [elems_bad hn]
        rfl
      | some x =>
        rw [ho] at hn
        have hl := nxt_len hn
        rw [List.length_drop] at hl
        rw [elems_some hn]
        have ex : x.2 <:+ t := by
          have q : x.2 <:+ t.drop i := by
            rw [dropC hi] at ho ⊢
            unfold one at ho
            dsimp only at ho
            by_cases h123 : t.getD i 0 = 123
            · rw [if_pos h123] at ho
              exact (rdB_suf _ _ _ _ _ (Nat.le_refl _) (clo_some ho)).trans (List.suffix_cons _ _)
            · rw [if_neg h123] at ho
              by_cases h34 : t.getD i 0 = 34
              · rw [if_pos h34] at ho
                obtain ⟨y, hy, e⟩ := Option.map_eq_some_iff.mp (clo_some ho)
                have hq := rdU_qs _ [] (t.drop (i + 1)) (Nat.le_refl _)
                rw [hy] at hq
                dsimp only at hq
                have hs := qs_suf _ (t.drop (i + 1)) (Nat.le_refl _)
                rw [hq] at hs
                rw [← e]
                exact ((List.drop_suffix 1 y.2).trans hs).trans (List.suffix_cons _ _)
              · rw [if_neg h34] at ho
                obtain ⟨v, hv⟩ := rdU_bsn _ [] (t.getD i 0 :: t.drop (i + 1)) (Nat.le_refl _)
                rw [hv] at ho
                cases ho
                exact bsn_suf _ _ (Nat.le_refl _)
          exact q.trans (List.drop_suffix _ _)
        have hd := suf_drop ex
        have hxl := ex.length_le
        show (if nI (t.length - x.2.length) = (-2 : Int32) then _ else _) = _
        rw [if_neg (nI_neB (by omega)), if_neg (show ¬ nI c = (1024 : Int32) from fun z => absurd ((nI_eq (b := 1024) (by omega) (by omega)).mp z) (by omega))]
        show p_M_goOver_50 N n f (p_M_goOver_8 N n f k) wn wf 1024 (nI c) (nI (t.length - x.2.length)) = _
        rw [M_50 hr hN (by omega)]
        obtain ⟨a1, a2⟩ := atS_of (t := t) (i := t.length - x.2.length) (by omega)
        rw [ih _ (c + 1) a1 (by omega) (by omega), a2, hd]
        cases elems x.2 with
        | none => rfl
        | some es =>
          show some (nI (c + 1 + es.length), _, _) = some (nI (c + (x.1 :: es).length), _, _)
          rw [show c + 1 + es.length = c + (x.1 :: es).length by rw [List.length_cons]; omega]
    · rw [if_pos (show n ≤ nI i by rw [hr.1, nI_lev (by omega) (by omega)]; omega), dropN (by omega)]
      have : elems [] = some [] := elems_none (by rfl)
      rw [this]
      rfl
theorem M_goOver_cnt {N : Nat} {f wf : Nat → Int32} {n wn : Int32} {t : List Nat} (hr : Rep f n t) (hN : 1100 ≤ N) : p_M_goOver N n wn f wf 1024 = some (cntR 0 (elems t), wn, wf) := by
  have hL := hr.2.1
  unfold p_M_goOver p_M_goOver_0
  have e : p_M_skip N n f 0 = some (nI (0 + ((t.drop 0).takeWhile isSp).length)) := M_skip (i := 0) hr hN (Nat.zero_le _)
  obtain ⟨a1, a2⟩ := atS_of (t := t) (i := 0) (Nat.zero_le _)
  rw [e, bS]
  have q := M_go_cnt (N := N) (wf := wf) (wn := wn) hr hN N _ 0 a1 (Nat.zero_le _) (by have := a1.1; omega)
  rw [a2] at q
  exact q
theorem M_count {N : Nat} {f wf : Nat → Int32} {n wn : Int32} {t : List Nat} (hr : Rep f n t) (hN : 1100 ≤ N) : p_M_count N n wn f wf = some (cntR 0 (elems t), wn, wf) := by
  unfold p_M_count p_M_count_0
  rw [M_goOver_cnt hr hN, bS]
/-- reading element kk -/
theorem M_go_rd {N : Nat} {f : Nat → Int32} {n : Int32} {t : List Nat} (hr : Rep f n t) (hN : 1100 ≤ N) {kk : Nat} (hkk : kk < 2000) : ∀ (k i c : Nat) (es : List (List Nat)) (wn : Int32) (wf : Nat → Int32) (w : List Nat), Rep wf wn w → atS t i → elems (t.drop i) = some es → c ≤ kk + 1 → (c ≤ kk → kk - c < es.length) → t.length - i + 1 < k →
    ∃ (e : List Nat) (wf' : Nat → Int32), (e = if c ≤ kk then es.getD (kk - c) [] else w) ∧ p_M_goOver_8 N n f k wn wf (nI kk) (nI c) (nI i) = some (nI (kk + 1), nI e.length, wf') ∧ Rep wf' (nI e.length) e := by
  have hL := hr.2.1
  intro k
  induction k with
  | zero => intro i c es wn wf w hw ha he h1 h2 h3; omega
  | succ k ih =>
    intro i c es wn wf w hw ha he h1 h2 h3
    rw [p_M_goOver_8]
    have hile := ha.1
    by_cases hc : c ≤ kk
    · cases es with
      | nil => have := h2 hc; simp at this
      | cons e es =>
        obtain ⟨r, hn, he2⟩ := elems_cons he
        have hi : i < t.length := by
          rcases Nat.lt_or_ge i t.length with z | z
          · exact z
          · rw [dropN z] at hn; cases hn
        rw [nxt_atS ha hi] at hn
        have ho := Option.some.inj hn
        have hn := nxt_atS ha hi
        rw [ho] at hn
        have hl := nxt_len hn
        rw [List.length_drop] at hl
        dsimp only at hl
        have ex : r <:+ t := by
          have q : r <:+ t.drop i := by
            rw [dropC hi] at ho ⊢
            unfold one at ho
            dsimp only at ho
            by_cases h123 : t.getD i 0 = 123
            · rw [if_pos h123] at ho
              exact (rdB_suf _ _ _ _ _ (Nat.le_refl _) (clo_some ho)).trans (List.suffix_cons _ _)
            · rw [if_neg h123] at ho
              by_cases h34 : t.getD i 0 = 34
              · rw [if_pos h34] at ho
                obtain ⟨y, hy, e⟩ := Option.map_eq_some_iff.mp (clo_some ho)
                have hq := rdU_qs _ [] (t.drop (i + 1)) (Nat.le_refl _)
                rw [hy] at hq
                dsimp only at hq
                have hs := qs_suf _ (t.drop (i + 1)) (Nat.le_refl _)
                rw [hq] at hs
                have e3 : r = y.2.drop 1 := (congrArg Prod.snd e).symm
                rw [e3]
                exact ((List.drop_suffix 1 y.2).trans hs).trans (List.suffix_cons _ _)
              · rw [if_neg h34] at ho
                obtain ⟨v, hv⟩ := rdU_bsn _ [] (t.getD i 0 :: t.drop (i + 1)) (Nat.le_refl _)
                rw [hv] at ho
                cases ho
                exact bsn_suf _ _ (Nat.le_refl _)
          exact q.trans (List.drop_suffix _ _)
        have hd := suf_drop ex
        have hxl := ex.length_le
        rw [if_neg (show ¬ n ≤ nI i by rw [hr.1, nI_lev (by omega) (by omega)]; omega), iteLt (by omega) (by omega), if_neg (show ¬ kk < c by omega), M_ending hr hN hi, bS, ho]
        show ∃ (e_1 : List Nat) (wf' : Nat → Int32), _ ∧ (if nI (t.length - r.length) = (-2 : Int32) then _ else _) = _ ∧ _
        rw [if_neg (nI_neB (by omega)), iteEq (by omega) (by omega)]
        obtain ⟨a1, a2⟩ := atS_of (t := t) (i := t.length - r.length) (by omega)
        rw [if_pos hc]
        show ∃ (e_1 : List Nat) (wf' : Nat → Int32), _ ∧ (if c = kk then (p_M_read N n wn f wf (nI i) (nI (t.length - r.length))).bind fun r_47 => p_M_goOver_50 N n f (p_M_goOver_8 N n f k) r_47.1 r_47.2 (nI kk) (nI c) (nI (t.length - r.length)) else p_M_goOver_50 N n f (p_M_goOver_8 N n f k) wn wf (nI kk) (nI c) (nI (t.length - r.length))) = _ ∧ _
        by_cases hck : c = kk
        · obtain ⟨wf1, e1, hw1⟩ := M_read (N := N) (wf := wf) (wn := wn) hr hN hi ho
          dsimp only at e1 hw1
          rw [if_pos hck, e1, bS]
          dsimp only
          rw [M_50 hr hN (by omega)]
          obtain ⟨e2, wf2, q1, q2, q3⟩ := ih _ (c + 1) es _ wf1 e hw1 a1 (by rw [a2, hd]; exact he2) (by omega) (fun z => by omega) (by omega)
          rw [if_neg (show ¬ c + 1 ≤ kk by omega)] at q1
          refine ⟨e2, wf2, ?_, q2, q3⟩
          rw [q1, show kk - c = 0 by omega, List.getD_cons_zero]
        · rw [if_neg hck, M_50 hr hN (by omega)]
          obtain ⟨e2, wf2, q1, q2, q3⟩ := ih _ (c + 1) es _ wf w hw a1 (by rw [a2, hd]; exact he2) (by omega) (fun z => by have := h2 hc; simp only [List.length_cons] at this; omega) (by omega)
          rw [if_pos (show c + 1 ≤ kk by omega)] at q1
          refine ⟨e2, wf2, ?_, q2, q3⟩
          rw [q1, show kk - c = (kk - (c + 1)) + 1 by omega, List.getD_cons_succ]
    · have e0 : c = kk + 1 := by omega
      subst e0
      refine ⟨w, wf, by rw [if_neg hc], ?_, hw.1 ▸ hw⟩
      have fin : (some (nI (kk + 1), wn, wf) : Option (Int32 × Int32 × (Nat → Int32))) = some (nI (kk + 1), nI w.length, wf) := by rw [hw.1]
      by_cases hi : i < t.length
      · rw [if_neg (show ¬ n ≤ nI i by rw [hr.1, nI_lev (by omega) (by omega)]; omega), if_pos ((nI_ltI (by omega) (by omega)).mpr (by omega))]
        exact fin
      · rw [if_pos (show n ≤ nI i by rw [hr.1, nI_lev (by omega) (by omega)]; omega)]
        exact fin
theorem M_goOver_rd {N : Nat} {f wf : Nat → Int32} {n wn : Int32} {t w : List Nat} (hr : Rep f n t) (hN : 1100 ≤ N) (hw : Rep wf wn w) {es : List (List Nat)} (he : elems t = some es) {kk : Nat} (hkk : kk < es.length) : ∃ wf', p_M_goOver N n wn f wf (nI kk) = some (nI (kk + 1), nI (es.getD kk []).length, wf') ∧ Rep wf' (nI (es.getD kk []).length) (es.getD kk []) := by
  have hL := hr.2.1
  have hes := elems_length _ t es (Nat.le_refl _) he
  unfold p_M_goOver p_M_goOver_0
  have e : p_M_skip N n f 0 = some (nI (0 + ((t.drop 0).takeWhile isSp).length)) := M_skip (i := 0) hr hN (Nat.zero_le _)
  obtain ⟨a1, a2⟩ := atS_of (t := t) (i := 0) (Nat.zero_le _)
  rw [e, bS]
  obtain ⟨e2, wf2, q1, q2, q3⟩ := M_go_rd (N := N) hr hN (kk := kk) (by omega) N _ 0 es wn wf w hw a1 (by rw [a2]; exact he) (by omega) (fun _ => by omega) (by have := a1.1; omega)
  rw [if_pos (Nat.zero_le _), Nat.sub_zero] at q1
  subst q1
  exact ⟨wf2, q2, q3⟩
