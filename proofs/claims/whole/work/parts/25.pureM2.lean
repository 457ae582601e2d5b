/-! PURE, the reference: its ends are the specification's -/
theorem rdB_suf : ∀ (m o : Nat) (w l : List Nat) (x : List Nat × List Nat), l.length ≤ m → rdB o w l = some x → x.2 <:+ l := by
  intro m
  induction m with
  | zero =>
    intro o w l x hm h
    rw [List.length_eq_zero_iff.mp (by omega : l.length = 0), rdB_nil] at h
    cases h
  | succ m ih =>
    intro o w l x hm h
    cases l with
    | nil => rw [rdB_nil] at h; cases h
    | cons b l =>
      rw [rdB_cons] at h
      simp only [List.length_cons] at hm
      have up : ∀ {a : List Nat}, a <:+ l → a <:+ b :: l := fun q => q.trans (List.suffix_cons b l)
      split at h
      · exact up (ih _ _ _ _ (by omega) h)
      · split at h
        · split at h
          · cases h; exact up (List.suffix_refl l)
          · exact up (ih _ _ _ _ (by omega) h)
        · split at h
          · cases l with
            | nil => cases h
            | cons c l =>
              simp only [List.length_cons] at hm
              exact up ((ih _ _ _ _ (by omega) h).trans (List.suffix_cons c l))
          · exact up (ih _ _ _ _ (by omega) h)
theorem qs_suf : ∀ (m : Nat) (l : List Nat), l.length ≤ m → qs l <:+ l := by
  intro m
  induction m with
  | zero => intro l hm; rw [List.length_eq_zero_iff.mp (by omega : l.length = 0), qs_nil]; exact List.suffix_refl _
  | succ m ih =>
    intro l hm
    cases l with
    | nil => rw [qs_nil]; exact List.suffix_refl _
    | cons b l =>
      rw [qs_cons]
      simp only [List.length_cons] at hm
      split
      · exact List.suffix_refl _
      · split
        · exact ((ih _ (by rw [List.length_drop]; omega)).trans (List.drop_suffix 1 l)).trans (List.suffix_cons b l)
        · exact (ih _ (by omega)).trans (List.suffix_cons b l)
theorem bsn_suf : ∀ (m : Nat) (l : List Nat), l.length ≤ m → bsn l <:+ l := by
  intro m
  induction m with
  | zero => intro l hm; rw [List.length_eq_zero_iff.mp (by omega : l.length = 0), bsn_nil]; exact List.suffix_refl _
  | succ m ih =>
    intro l hm
    cases l with
    | nil => rw [bsn_nil]; exact List.suffix_refl _
    | cons b l =>
      rw [bsn_cons]
      simp only [List.length_cons] at hm
      split
      · exact List.suffix_refl _
      · split
        · exact ((ih _ (by rw [List.length_drop]; omega)).trans (List.drop_suffix _ l)).trans (List.suffix_cons b l)
        · exact (ih _ (by omega)).trans (List.suffix_cons b l)
theorem suf_drop {a l : List Nat} (h : a <:+ l) : l.drop (l.length - a.length) = a := (List.suffix_iff_eq_drop.mp h).symm
theorem digs_all (base : Nat) : ∀ (m : Nat) (l : List Nat), ∀ b ∈ l.take (digs base m l), dg b < base := by
  intro m
  induction m with
  | zero => intro l b hb; simp [digs] at hb
  | succ m ih =>
    intro l b hb
    cases l with
    | nil => simp at hb
    | cons c l =>
      rw [digs] at hb
      by_cases hc : dg c < base
      · rw [if_pos hc, List.take_succ_cons] at hb
        rcases List.mem_cons.mp hb with rfl | hb
        · exact hc
        · exact ih l b hb
      · rw [if_neg hc] at hb
        simp at hb
theorem takeW_all (p : Nat → Bool) : ∀ (l : List Nat), ∀ b ∈ l.take (l.takeWhile p).length, p b = true := by
  intro l
  induction l with
  | nil => intro b hb; simp at hb
  | cons c l ih =>
    intro b hb
    rw [List.takeWhile_cons] at hb
    cases hp : p c with
    | true =>
      rw [hp] at hb
      simp only [if_true, List.length_cons, List.take_succ_cons] at hb
      rcases List.mem_cons.mp hb with rfl | hb
      · exact hp
      · exact ih b hb
    | false =>
      rw [hp] at hb
      simp at hb
/-- what an escape takes beyond its first byte: blanks behind a newline, else digits -/
theorem esc_tail (c : Nat) (l : List Nat) : ∃ p : List Nat, l = p ++ (c :: l).drop (esc (c :: l)).2 ∧ (c = 10 → p.length = (l.takeWhile isBl).length ∧ ∀ b ∈ p, isBl b = true) ∧ (¬ c = 10 → ∀ b ∈ p, dg b < 16) := by
  by_cases h10 : c = 10
  · refine ⟨l.take (l.takeWhile isBl).length, ?_, fun _ => ⟨?_, takeW_all isBl l⟩, fun h => absurd h10 h⟩
    · rw [esc_cons, if_pos h10]
      show l = _ ++ (c :: l).drop (1 + _)
      rw [Nat.add_comm, List.drop_succ_cons, List.take_append_drop]
    · rw [List.length_take]
      have := takeW_le isBl l
      omega
  · have key : ∃ k, (esc (c :: l)).2 = k + 1 ∧ ∀ b ∈ l.take k, dg b < 16 := by
      rw [esc_cons, if_neg h10]
      by_cases h120 : c = 120
      · rw [if_pos h120]
        by_cases h0 : digs 16 2 l = 0
        · rw [if_pos h0]; exact ⟨0, rfl, fun b hb => by simp at hb⟩
        · rw [if_neg h0]; exact ⟨digs 16 2 l, Nat.add_comm _ _, digs_all 16 2 l⟩
      · rw [if_neg h120]
        by_cases h0 : digs 8 3 (c :: l) = 0
        · rw [if_pos h0]; exact ⟨0, rfl, fun b hb => by simp at hb⟩
        · rw [if_neg h0]
          refine ⟨digs 8 3 (c :: l) - 1, by show digs 8 3 (c :: l) = _; omega, fun b hb => ?_⟩
          have := digs_all 8 3 (c :: l) b (by
            rw [show digs 8 3 (c :: l) = (digs 8 3 (c :: l) - 1) + 1 by omega, List.take_succ_cons]
            exact List.mem_cons_of_mem _ hb)
          omega
    obtain ⟨k, hk, hb⟩ := key
    refine ⟨l.take k, ?_, fun h => absurd h h10, fun _ => hb⟩
    rw [hk, List.drop_succ_cons, List.take_append_drop]
theorem dg_sp {b : Nat} (h : dg b < 16) : isSp b = false ∧ ¬ b = 34 ∧ ¬ b = 92 := by
  unfold dg at h
  refine ⟨?_, fun e => by subst e; simp at h, fun e => by subst e; simp at h⟩
  cases hs : isSp b with
  | false => rfl
  | true =>
    unfold isSp at hs
    simp at hs
    exfalso
    split at h
    · omega
    · split at h
      · omega
      · split at h <;> omega
theorem qs_skip : ∀ (p l : List Nat), (∀ b ∈ p, ¬ b = 34 ∧ ¬ b = 92) → qs (p ++ l) = qs l := by
  intro p
  induction p with
  | nil => intro l _; rfl
  | cons b p ih =>
    intro l h
    have hb := h b List.mem_cons_self
    rw [List.cons_append, qs_cons, if_neg hb.1, if_neg hb.2]
    exact ih l (fun c hc => h c (List.mem_cons_of_mem _ hc))
theorem bsn_skip : ∀ (p l : List Nat), (∀ b ∈ p, isSp b = false ∧ ¬ b = 92) → bsn (p ++ l) = bsn l := by
  intro p
  induction p with
  | nil => intro l _; rfl
  | cons b p ih =>
    intro l h
    have hb := h b List.mem_cons_self
    rw [List.cons_append, bsn_cons, hb.1, if_neg (by decide), if_neg hb.2]
    exact ih l (fun c hc => h c (List.mem_cons_of_mem _ hc))
theorem rdU_qs : ∀ (m : Nat) (w l : List Nat), l.length ≤ m → (match rdU true w l with | none => qs l = [] | some x => qs l = x.2) := by
  intro m
  induction m with
  | zero => intro w l hm; rw [List.length_eq_zero_iff.mp (by omega : l.length = 0), rdU_nil, qs_nil]; rfl
  | succ m ih =>
    intro w l hm
    cases l with
    | nil => rw [rdU_nil, qs_nil]; rfl
    | cons b l =>
      simp only [List.length_cons] at hm
      rw [rdU_cons, qs_cons, if_pos (rfl : true = true)]
      by_cases h34 : b = 34
      · rw [if_pos (by rw [h34]; rfl), if_pos h34]
      · rw [if_neg (by simpa using h34), if_neg h34]
        by_cases h92 : b = 92
        · rw [if_pos h92, if_pos h92]
          have e : qs (l.drop 1) = qs (l.drop (esc l).2) := by
            cases l with
            | nil => rfl
            | cons c l =>
              obtain ⟨p, hp, h1, h2⟩ := esc_tail c l
              show qs l = _
              conv => lhs; rw [hp]
              refine qs_skip _ _ (fun z hz => ?_)
              by_cases h10 : c = 10
              · have := (h1 h10).2 z hz
                unfold isBl at this
                simp at this
                omega
              · exact (dg_sp (h2 h10 z hz)).2
          rw [e]
          exact ih _ _ (by rw [List.length_drop]; omega)
        · rw [if_neg h92, if_neg h92]
          exact ih _ _ (by omega)
theorem rdU_bsn : ∀ (m : Nat) (w l : List Nat), l.length ≤ m → ∃ v, rdU false w l = some (v, bsn l) := by
  intro m
  induction m with
  | zero => intro w l hm; rw [List.length_eq_zero_iff.mp (by omega : l.length = 0), rdU_nil, bsn_nil]; exact ⟨w, rfl⟩
  | succ m ih =>
    intro w l hm
    cases l with
    | nil => rw [rdU_nil, bsn_nil]; exact ⟨w, rfl⟩
    | cons b l =>
      simp only [List.length_cons] at hm
      rw [rdU_cons, bsn_cons, if_neg (show ¬ false = true by decide)]
      cases hs : isSp b with
      | true => exact ⟨w, rfl⟩
      | false =>
        rw [if_neg (show ¬ false = true by decide), if_neg (show ¬ false = true by decide)]
        by_cases h92 : b = 92
        · rw [if_pos h92, if_pos h92]
          have e : bsn (l.drop (beh l)) = bsn (l.drop (esc l).2) := by
            cases l with
            | nil => rfl
            | cons c l =>
              obtain ⟨p, hp, h1, h2⟩ := esc_tail c l
              by_cases h10 : c = 10
              · congr 1
                congr 1
                rw [esc_cons, if_pos h10]
                show (if c = 10 then 1 + (l.takeWhile isBl).length else 1) = _
                rw [if_pos h10]
              · show bsn ((c :: l).drop (if c = 10 then 1 + (l.takeWhile isBl).length else 1)) = _
                rw [if_neg h10]
                show bsn l = _
                conv => lhs; rw [hp]
                refine bsn_skip _ _ (fun z hz => ?_)
                have := dg_sp (h2 h10 z hz)
                exact ⟨this.1, this.2.2⟩
          rw [e]
          exact ih _ _ (by rw [List.length_drop]; omega)
        · rw [if_neg h92, if_neg h92]
          exact ih _ _ (by omega)
/-- one element, l beginning with it -/
def one (l : List Nat) : Option (List Nat × List Nat) :=
  match l with
  | [] => none
  | b :: l => if b = 123 then clo (rdB 1 [] l) else if b = 34 then clo ((rdU true [] l).map fun x => (x.1, x.2.drop 1)) else rdU false [] (b :: l)
theorem nxt_one {l : List Nat} : nxt l = (match l.dropWhile isSp with | [] => none | b :: r => some (one (b :: r))) := by
  unfold nxt
  cases l.dropWhile isSp <;> rfl
theorem M_end43 {N : Nat} {f : Nat → Int32} {n : Int32} {t : List Nat} (hr : Rep f n t) {e : Nat} (he : e ≤ t.length) : p_M_ending_43 N n f (nI e) = some (if e < t.length then (match t.drop (e + 1) with | [] => nI (e + 1) | b :: _ => if isSp b then nI (e + 1) else -2) else -2) := by
  have hL := hr.2.1
  unfold p_M_ending_43 p_M_ending_79 p_M_ending_75 p_M_ending_80
  rw [if_pos rfl, if_neg (show ¬ (1 : Int32) = 0 by decide), nI_1]
  by_cases h : e < t.length
  · rw [if_neg (show ¬ n ≤ nI e by rw [hr.1, nI_lev (by omega) (by omega)]; omega), if_pos h]
    by_cases h1 : e + 1 = t.length
    · rw [if_pos (show nI (e + 1) = n by rw [hr.1, h1]), dropN (by omega)]
    · have h2 : e + 1 < t.length := by omega
      rw [if_neg (show ¬ nI (e + 1) = n by rw [hr.1, nI_eqv (by omega) (by omega)]; exact h1), M_at hr (by omega), bS, gb_lt h2, M_isSpace (Rep_byte hr h2), bS, dropC h2]
      dsimp only
      cases isSp (t.getD (e + 1) 0) <;> rfl
  · rw [if_pos (show n ≤ nI e by rw [hr.1, nI_lev (by omega) (by omega)]; omega), if_neg h]
/-- what 'ending' answers -/
def endA (t : List Nat) (y : Option (List Nat × List Nat)) : Int32 := match y with
  | none => -2
  | some x => nI (t.length - x.2.length)
theorem M_clo {t w r : List Nat} {e : Nat} (he : e < t.length) (hr : t.drop (e + 1) = r) : (match t.drop (e + 1) with | [] => nI (e + 1) | b :: _ => if isSp b then nI (e + 1) else -2) = endA t (clo (some (w, r))) := by
  rw [hr]
  have hl : r.length = t.length - (e + 1) := by rw [← hr, List.length_drop]
  unfold clo
  cases r with
  | nil =>
    show nI (e + 1) = nI (t.length - 0)
    simp at hl
    congr 1
    omega
  | cons b r =>
    dsimp only
    cases isSp b with
    | true =>
      show nI (e + 1) = nI (t.length - (b :: r).length)
      congr 1
      omega
    | false => rfl
theorem M_ending {N : Nat} {f : Nat → Int32} {n : Int32} {t : List Nat} (hr : Rep f n t) (hN : 1100 ≤ N) {i : Nat} (hi : i < t.length) : p_M_ending N n f (nI i) = some (endA t (one (t.drop i))) := by
  have hL := hr.2.1
  have hb := Rep_byte hr hi
  unfold p_M_ending p_M_ending_0 p_M_ending_24
  rw [M_at hr (by omega), bS, gb_lt hi, dropC hi]
  unfold one
  dsimp only
  have hlen : (t.drop (i + 1)).length = t.length - (i + 1) := List.length_drop
  by_cases h123 : t.getD i 0 = 123
  · rw [if_pos (show nI (t.getD i 0) = 123 by rw [h123]; rfl), if_pos h123]
    have e : p_M_closing N n f (nI i) = some (nI (posB t (rdB 1 [] (t.drop (i + 1))))) := by
      unfold p_M_closing p_M_closing_0
      rw [nI_1]
      exact M_cl_loop hr N (i + 1) 1 [] (by omega) (by omega) (by omega) (by omega)
    rw [if_pos (show nI (t.getD i 0) = 123 by rw [h123]; rfl), e, bS]
    cases hy : rdB 1 [] (t.drop (i + 1)) with
    | none =>
      show p_M_ending_43 N n f (nI t.length) = _
      rw [M_end43 hr (Nat.le_refl _), if_neg (by omega)]
      rfl
    | some x =>
      have h1 := rdB_len _ _ _ _ _ (Nat.le_refl _) hy
      have h2 := rdB_suf _ _ _ _ _ (Nat.le_refl _) hy
      have h3 : x.2 <:+ t := h2.trans (List.drop_suffix _ _)
      show p_M_ending_43 N n f (nI (t.length - x.2.length - 1)) = _
      have h4 : t.drop (t.length - x.2.length - 1 + 1) = x.2 := by
        rw [show t.length - x.2.length - 1 + 1 = t.length - x.2.length by omega]
        exact suf_drop h3
      rw [M_end43 hr (by omega), if_pos (by omega), M_clo (w := x.1) (by omega) h4]
  · rw [if_neg (show ¬ nI (t.getD i 0) = 123 from fun z => h123 ((nI_eq (b := 123) (by omega) (by omega)).mp z)), if_neg h123]
    by_cases h34 : t.getD i 0 = 34
    · rw [if_pos (show nI (t.getD i 0) = 34 by rw [h34]; rfl), if_pos h34, if_neg (show ¬ nI (t.getD i 0) = 123 from fun z => h123 ((nI_eq (b := 123) (by omega) (by omega)).mp z))]
      have e : p_M_quote N n f (nI i) = some (nI (t.length - (qs (t.drop (i + 1))).length)) := by
        unfold p_M_quote p_M_quote_0
        rw [nI_1]
        exact M_quote_loop hr N (i + 1) (by omega) (by omega)
      rw [e, bS]
      have hq := rdU_qs _ [] (t.drop (i + 1)) (Nat.le_refl _)
      have hs := qs_suf _ (t.drop (i + 1)) (Nat.le_refl _)
      have hql := fun x => rdU_len true _ [] (t.drop (i + 1)) x (Nat.le_refl _)
      cases hy : rdU true [] (t.drop (i + 1)) with
      | none =>
        rw [hy] at hq
        rw [hq, M_end43 hr (by omega), if_neg (by simp)]
        rfl
      | some x =>
        rw [hy] at hq
        dsimp only at hq
        rw [hq] at hs ⊢
        obtain ⟨hl, hz⟩ := hql x hy
        obtain ⟨z, hz⟩ := hz rfl
        have h3 : x.2 <:+ t := hs.trans (List.drop_suffix _ _)
        have hle := h3.length_le
        have hpos : 0 < x.2.length := by rw [hz]; simp
        have h4 : t.drop (t.length - x.2.length + 1) = x.2.drop 1 := by
          rw [← List.drop_drop, suf_drop h3]
        rw [M_end43 hr (by omega), if_pos (by omega), M_clo (w := x.1) (by omega) h4]
        rfl
    · rw [if_neg (show ¬ nI (t.getD i 0) = 34 from fun z => h34 ((nI_eq (b := 34) (by omega) (by omega)).mp z)), if_neg h34, ← dropC hi]
      obtain ⟨v, hv⟩ := rdU_bsn _ [] (t.drop i) (Nat.le_refl _)
      have e : p_M_bare N n f (nI i) = some (nI (t.length - (bsn (t.drop i)).length)) := M_bare_loop hr hN N i (by omega) (by omega)
      rw [hv, e, bS]
      rfl
