/-! PURE, the reference: reading a word -/
theorem M_add {N : Nat} {f : Nat → Int32} {t : List Nat} (h : Rep f (nI t.length) t) (hlt : t.length < 1024) {b : Nat} (hb : b < 256) : ∃ f', p_M_add N (nI t.length) f (nI b) = some (nI (t ++ [b]).length, f') ∧ Rep f' (nI (t ++ [b]).length) (t ++ [b]) := by
  obtain ⟨f', e, hr⟩ := R_putB (N := N) h hlt hb
  refine ⟨upd f t.length (nI b), ?_, ?_⟩
  · unfold p_M_add p_M_add_0
    rw [if_neg (by rw [nI_clamp (by omega)]; intro q; rcases q with q | q; exact nI_pos (by omega) q; omega), nI_clamp (by omega), nI_1, List.length_append]
    rfl
  · unfold p_R_put p_R_put_0 at e
    rw [if_pos (show nI t.length < (1024 : Int32) from (nI_ltI (a := t.length) (b := 1024) (by omega) (by omega)).mpr hlt), if_neg (by rw [nI_clamp (by omega)]; intro q; rcases q with q | q; exact nI_pos (by omega) q; omega), nI_clamp (by omega), and255 hb] at e
    have e2 := congrArg (fun z => z.2.2) (Option.some.inj e)
    dsimp only at e2
    rw [e2]
    exact hr
theorem M_digit_t : ∀ b, b < 256 → p_M_digit 0 (nI b) = some (nI (if dg b < 16 then dg b else 99)) := by decide +kernel
theorem M_digit {N b : Nat} (h : b < 256) : p_M_digit N (nI b) = some (nI (if dg b < 16 then dg b else 99)) := M_digit_t b h
theorem M_letter_t : ∀ b, b < 256 → p_M_letter 0 (nI b) = some (nI (lett b)) := by decide +kernel
theorem M_letter {N b : Nat} (h : b < 256) : p_M_letter N (nI b) = some (nI (lett b)) := M_letter_t b h
theorem M_mg_loop {N : Nat} {f wf : Nat → Int32} {n wn x1 x3 : Int32} {t : List Nat} (hr : Rep f n t) {st last most base D : Nat} (hbase : base ≤ 16) (hmost : most ≤ 3) (hlast : last ≤ t.length) (hD : st + D ≤ last) : ∀ (k d v : Nat), d ≤ D → most - d < k → digs base (most - d) (t.drop (st + d)) = D - d →
    p_M_meaning_104 N n f k wn wf x1 (nI last) x3 (nI base) (nI (st + d)) (nI most) (nI v) (nI d) = p_M_meaning_157 N n f wn wf x1 x3 (nI (st + D)) (nI (((t.drop (st + d)).take (D - d)).foldl (fun a b => a * base + dg b) v)) (nI D) := by
  have hL := hr.2.1
  intro k
  induction k with
  | zero => intro d v h1 h2; omega
  | succ k ih =>
    intro d v h1 h2 h3
    have fin : D = d → p_M_meaning_157 N n f wn wf x1 x3 (nI (st + d)) (nI v) (nI d) = p_M_meaning_157 N n f wn wf x1 x3 (nI (st + D)) (nI (((t.drop (st + d)).take (D - d)).foldl (fun a b => a * base + dg b) v)) (nI D) := by
      intro e
      subst e
      rw [Nat.sub_self, List.take_zero, List.foldl_nil]
    rw [p_M_meaning_104, iteLe (by omega) (by omega), iteLe (by omega) (by omega)]
    by_cases hm : most ≤ d
    · rw [if_pos hm]
      rw [show most - d = 0 by omega, digs] at h3
      exact fin (by omega)
    · rw [if_neg hm]
      by_cases hl : last ≤ st + d
      · rw [if_pos hl]
        exact fin (by omega)
      · have hlt : st + d < t.length := by omega
        have hb := Rep_byte hr hlt
        rw [if_neg hl, M_at hr (by omega), bS, bS, gb_lt hlt, M_digit hb, bS, bS]
        rw [dropC hlt, show most - d = (most - (d + 1)) + 1 by omega, digs] at h3
        rw [dropC hlt, show st + d + 1 = st + (d + 1) from rfl] 
        rw [show st + d + 1 = st + (d + 1) from rfl] at h3
        generalize t.getD (st + d) 0 = b at hb h3 ⊢
        by_cases hg : dg b < base
        · rw [if_pos hg] at h3
          rw [if_pos (show dg b < 16 by omega), iteLe (by omega) (by omega), if_neg (by omega), nI_1, pk_mul, nI_add, nI_1, show st + d + 1 = st + (d + 1) from rfl, ih (d + 1) _ (by omega) (by omega) (by omega), show D - d = (D - (d + 1)) + 1 by omega, List.take_succ_cons, List.foldl_cons, Nat.mul_comm base v]
        · rw [if_neg hg] at h3
          have hle : base ≤ (if dg b < 16 then dg b else 99) := by split <;> omega
          have hlt2 : (if dg b < 16 then dg b else 99) < 2 ^ 31 := by split <;> omega
          rw [iteLe (by omega) hlt2, if_pos hle]
          have e : D = d := by omega
          subst e
          rw [Nat.sub_self, List.take_zero, List.foldl_nil]
theorem esc_pos (c : Nat) (l : List Nat) : 1 ≤ (esc (c :: l)).2 := by
  rw [esc_cons]
  split
  · show 1 ≤ 1 + _; omega
  · split
    · split
      · exact Nat.le_refl _
      · show 1 ≤ 1 + _; omega
    · split
      · exact Nat.le_refl _
      · rename_i h
        show 1 ≤ digs 8 3 (c :: l)
        omega
theorem M_157 {N : Nat} {f wf : Nat → Int32} {n : Int32} {w : List Nat} {i c st D V base : Nat} (hw : Rep wf (nI w.length) w) (hwl : w.length < 1024) (hc : c < 256) (hD : D < 2000) : ∃ wf', p_M_meaning_157 N n f (nI w.length) wf (nI i) (nI c) (nI (st + D)) (nI V) (nI D) = some (nI (if D = 0 then i + 2 else st + D), nI (w ++ [if D = 0 then lett c else V % 256]).length, wf') ∧ Rep wf' (nI (w ++ [if D = 0 then lett c else V % 256]).length) (w ++ [if D = 0 then lett c else V % 256]) := by
  unfold p_M_meaning_157
  rw [show (0 : Int32) = nI 0 from rfl, iteLe (by omega) (by omega)]
  by_cases h0 : D = 0
  · obtain ⟨f', e, hr'⟩ := M_add (N := N) hw hwl (lett_lt hc)
    rw [if_pos (show D ≤ 0 by omega), M_letter hc, bS, e, bS, show (2 : Int32) = nI 2 from rfl, nI_add]
    simp only [if_pos h0]
    exact ⟨f', rfl, hr'⟩
  · obtain ⟨f', e, hr'⟩ := M_add (N := N) hw hwl (b := V % 256) (Nat.mod_lt _ (by omega))
    rw [if_neg (show ¬ D ≤ 0 by omega), and255g, e, bS]
    simp only [if_neg h0]
    exact ⟨f', rfl, hr'⟩
theorem M_meaning {N : Nat} {f wf : Nat → Int32} {n : Int32} {t w : List Nat} (hr : Rep f n t) (hN : 1100 ≤ N) {i last : Nat} (hlast : last ≤ t.length) (hi : i < last) (he : i + 1 + (esc (t.drop (i + 1))).2 ≤ last) (hw : Rep wf (nI w.length) w) (hwl : w.length < 1024) : ∃ wf', p_M_meaning N n (nI w.length) f wf (nI i) (nI last) = some (nI (i + 1 + (esc (t.drop (i + 1))).2), nI (w ++ [(esc (t.drop (i + 1))).1]).length, wf') ∧ Rep wf' (nI (w ++ [(esc (t.drop (i + 1))).1]).length) (w ++ [(esc (t.drop (i + 1))).1]) := by
  have hL := hr.2.1
  unfold p_M_meaning p_M_meaning_0
  rw [nI_1, iteLt (by omega) (by omega)]
  by_cases h1 : i + 1 < last
  · have h2 : i + 1 < t.length := by omega
    have hb := Rep_byte hr h2
    rw [if_pos h1, M_at hr (by omega), bS, gb_lt h2]
    have d1 := digs_le 16 2 (t.drop (i + 2))
    have d2 := digs_le 8 3 (t.drop (i + 1))
    have eD : digs 8 3 (t.drop (i + 1)) = digs 8 3 (t.getD (i + 1) 0 :: t.drop (i + 2)) := by rw [dropC h2]
    have eT : t.drop (i + 1) = t.getD (i + 1) 0 :: t.drop (i + 2) := dropC h2
    have mb := M_behind (N := N) hr hN (show i < t.length by omega)
    rw [eT] at mb
    rw [eT] at he ⊢
    rw [esc_cons] at he ⊢
    rw [show (10 : Int32) = nI 10 from rfl, show (120 : Int32) = nI 120 from rfl, iteEq (by omega) (by omega), iteEq (by omega) (by omega)]
    by_cases h10 : t.getD (i + 1) 0 = 10
    · simp only [if_pos h10] at he ⊢
      obtain ⟨f', e, hr'⟩ := M_add (N := N) hw hwl (b := 32) (by omega)
      rw [show (32 : Int32) = nI 32 from rfl, e, bS, mb, bS]
      refine ⟨f', ?_, hr'⟩
      show some (nI (i + 1 + (if t.getD (i + 1) 0 = 10 then 1 + ((t.drop (i + 2)).takeWhile isBl).length else 1)), _, _) = _
      rw [if_pos h10]
    · simp only [if_neg h10] at he ⊢
      by_cases h120 : t.getD (i + 1) 0 = 120
      · simp only [if_pos h120] at he ⊢
        unfold p_M_meaning_54 p_M_meaning_68 p_M_meaning_84
        rw [if_neg (show ¬ (1 : Int32) = 0 by decide), if_neg (show ¬ (1 : Int32) = 0 by decide), if_neg (show ¬ (1 : Int32) = 0 by decide), show (2 : Int32) = nI 2 from rfl, nI_add, show (16 : Int32) = nI 16 from rfl, show (0 : Int32) = nI 0 from rfl]
        have hd : i + 2 + digs 16 2 (t.drop (i + 2)) ≤ last := by
          by_cases h0 : digs 16 2 (t.drop (i + 2)) = 0
          · omega
          · rw [if_neg h0] at he
            dsimp only at he
            omega
        have q := M_mg_loop (N := N) (wf := wf) (wn := nI w.length) (x1 := nI i) (x3 := nI (t.getD (i + 1) 0)) hr (st := i + 2) (last := last) (most := 2) (base := 16) (D := digs 16 2 (t.drop (i + 2))) (by omega) (by omega) hlast hd N 0 0 (Nat.zero_le _) (by omega) rfl
        rw [Nat.add_zero, Nat.sub_zero] at q
        rw [q]
        obtain ⟨f', e, hr'⟩ := M_157 (N := N) (f := f) (n := n) (i := i) (c := t.getD (i + 1) 0) (st := i + 2) (D := digs 16 2 (t.drop (i + 2))) (V := ((t.drop (i + 2)).take (digs 16 2 (t.drop (i + 2)))).foldl (fun a b => a * 16 + dg b) 0) (base := 16) hw hwl hb (by omega)
        rw [e]
        by_cases h0 : digs 16 2 (t.drop (i + 2)) = 0
        · simp only [if_pos h0] at hr' ⊢
          rw [h120] at hr' ⊢
          exact ⟨f', rfl, hr'⟩
        · simp only [if_neg h0] at hr' ⊢
          refine ⟨f', ?_, hr'⟩
          rw [show i + 2 + digs 16 2 (t.drop (i + 2)) = i + 1 + (1 + digs 16 2 (t.drop (i + 2))) by omega]
          rfl
      · simp only [if_neg h120] at he ⊢
        unfold p_M_meaning_54 p_M_meaning_68 p_M_meaning_84
        rw [if_pos (show (0 : Int32) = 0 from rfl), if_pos (show (0 : Int32) = 0 from rfl), if_pos (show (0 : Int32) = 0 from rfl), nI_1, show (3 : Int32) = nI 3 from rfl, show (8 : Int32) = nI 8 from rfl, show (0 : Int32) = nI 0 from rfl]
        have hd : i + 1 + digs 8 3 (t.drop (i + 1)) ≤ last := by
          rw [eD]
          by_cases h0 : digs 8 3 (t.getD (i + 1) 0 :: t.drop (i + 2)) = 0
          · omega
          · rw [if_neg h0] at he
            dsimp only at he
            omega
        have q := M_mg_loop (N := N) (wf := wf) (wn := nI w.length) (x1 := nI i) (x3 := nI (t.getD (i + 1) 0)) hr (st := i + 1) (last := last) (most := 3) (base := 8) (D := digs 8 3 (t.drop (i + 1))) (by omega) (by omega) hlast hd N 0 0 (Nat.zero_le _) (by omega) rfl
        rw [Nat.add_zero, Nat.sub_zero] at q
        rw [q]
        obtain ⟨f', e, hr'⟩ := M_157 (N := N) (f := f) (n := n) (i := i) (c := t.getD (i + 1) 0) (st := i + 1) (D := digs 8 3 (t.drop (i + 1))) (V := ((t.drop (i + 1)).take (digs 8 3 (t.drop (i + 1)))).foldl (fun a b => a * 8 + dg b) 0) (base := 8) hw hwl hb (by omega)
        rw [e]
        rw [eT] at hr' ⊢
        by_cases h0 : digs 8 3 (t.getD (i + 1) 0 :: t.drop (i + 2)) = 0
        · simp only [if_pos h0] at hr' ⊢
          exact ⟨f', rfl, hr'⟩
        · simp only [if_neg h0] at hr' ⊢
          exact ⟨f', rfl, hr'⟩
  · have e0 : t.drop (i + 1) = [] := by
      cases hd : t.drop (i + 1) with
      | nil => rfl
      | cons c l =>
        rw [hd] at he
        have := esc_pos c l
        omega
    rw [if_neg h1, e0]
    obtain ⟨f', e, hr'⟩ := M_add (N := N) hw hwl (b := 92) (by omega)
    rw [show (92 : Int32) = nI 92 from rfl, e, bS]
    exact ⟨f', rfl, hr'⟩
theorem rdU_stop {q : Bool} {w l : List Nat} {x : List Nat × List Nat} (h : rdU q w l = some x) (hx : x.2.length = l.length) : x.1 = w := by
  cases l with
  | nil =>
    rw [rdU_nil] at h
    cases q with
    | true => cases h
    | false => cases h; rfl
  | cons b l =>
    rw [rdU_cons] at h
    by_cases hc : (if q then b == 34 else isSp b) = true
    · rw [if_pos hc] at h
      cases h
      rfl
    · rw [if_neg hc] at h
      by_cases h9 : b = 92
      · rw [if_pos h9] at h
        have := rdU_len q _ _ _ _ (Nat.le_refl _) h
        rw [List.length_drop] at this
        simp only [List.length_cons] at hx
        omega
      · rw [if_neg h9] at h
        have := rdU_len q _ _ _ _ (Nat.le_refl _) h
        simp only [List.length_cons] at hx
        omega
theorem M_read94 {N : Nat} {f wf : Nat → Int32} {n x3 x5 : Int32} {t w : List Nat} {kk : Int32 → (Nat → Int32) → Int32 → Int32 → Int32 → Option (Int32 × (Nat → Int32))} (hr : Rep f n t) {i : Nat} (hi : i < t.length) (hw : Rep wf (nI w.length) w) (hwl : w.length ≤ i) : ∃ wf', p_M_read_94 N n f kk (nI w.length) wf x3 x5 (nI i) = kk (nI (w ++ [t.getD i 0]).length) wf' x3 x5 (nI (i + 1)) ∧ Rep wf' (nI (w ++ [t.getD i 0]).length) (w ++ [t.getD i 0]) := by
  have hL := hr.2.1
  obtain ⟨f', e, hr'⟩ := M_add (N := N) hw (by omega) (Rep_byte hr hi)
  unfold p_M_read_94
  rw [M_at hr (by omega), bS, gb_lt hi, e, bS, nI_1]
  exact ⟨f', rfl, hr'⟩
theorem M_rd_loop {N : Nat} {f : Nat → Int32} {n x3 : Int32} {t : List Nat} (hr : Rep f n t) (hN : 1100 ≤ N) (hx3 : ¬ x3 = 123) {q : Bool} {last : Nat} (hlast : last ≤ t.length) {x : List Nat × List Nat} (hx : t.drop last = x.2) : ∀ (k i : Nat) (w : List Nat) (wf : Nat → Int32), rdU q w (t.drop i) = some x → i ≤ last → last - i < k → w.length ≤ i → Rep wf (nI w.length) w → ∃ wf', p_M_read_57 N n f k (nI w.length) wf x3 (nI last) (nI i) = some (nI x.1.length, wf') ∧ Rep wf' (nI x.1.length) x.1 := by
  have hL := hr.2.1
  have hxl : x.2.length = t.length - last := by rw [← hx, List.length_drop]
  intro k
  induction k with
  | zero => intro i w wf h h1 h2; omega
  | succ k ih =>
    intro i w wf h h1 h2 hwl hw
    rw [p_M_read_57, iteLe (by omega) (by omega)]
    by_cases hi : i < last
    · have hit : i < t.length := by omega
      have hb := Rep_byte hr hit
      rw [if_neg (show ¬ last ≤ i by omega), if_neg hx3, M_at hr (by omega), bS, gb_lt hit]
      rw [dropC hit, rdU_cons] at h
      have hc : ¬ (if q then t.getD i 0 == 34 else isSp (t.getD i 0)) = true := by
        intro z
        rw [if_pos z] at h
        have := congrArg (fun y => y.2.length) (Option.some.inj h)
        dsimp only at this
        rw [List.length_cons, List.length_drop] at this
        omega
      rw [if_neg hc] at h
      by_cases h92 : t.getD i 0 = 92
      · rw [if_pos h92] at h
        have h3 := (rdU_len q _ _ _ _ (Nat.le_refl _) h).1
        have h4 := esc_le (t.drop (i + 1))
        rw [List.length_drop, List.length_drop] at h3
        rw [List.length_drop] at h4
        obtain ⟨wf', e, hw'⟩ := M_meaning (N := N) hr hN hlast hi (by omega) hw (by omega)
        rw [if_pos (show nI (t.getD i 0) = 92 by rw [h92]; rfl), e, bS]
        dsimp only
        rw [List.drop_drop] at h
        exact ih (i + 1 + (esc (t.drop (i + 1))).2) _ wf' h (by omega) (by omega) (by rw [lenA1]; omega) hw'
      · rw [if_neg h92] at h
        obtain ⟨wf', e, hw'⟩ := M_read94 (N := N) (x3 := x3) (x5 := nI last) (kk := p_M_read_57 N n f k) hr hit hw hwl
        rw [if_neg (show ¬ nI (t.getD i 0) = 92 from fun z => h92 ((nI_eq (b := 92) (by omega) (by omega)).mp z)), e]
        exact ih (i + 1) _ wf' h (by omega) (by omega) (by rw [lenA1]; omega) hw'
    · rw [if_pos (show last ≤ i by omega)]
      have e : x.1 = w := rdU_stop h (by rw [hxl, List.length_drop]; omega)
      rw [e]
      exact ⟨wf, rfl, hw⟩
theorem M_rb_loop {N : Nat} {f : Nat → Int32} {n : Int32} {t : List Nat} (hr : Rep f n t) {last : Nat} (hlast : last ≤ t.length) : ∀ (k i : Nat) (w : List Nat) (wf : Nat → Int32), i ≤ last → last - i < k → w.length ≤ i → Rep wf (nI w.length) w → ∃ wf', p_M_read_57 N n f k (nI w.length) wf 123 (nI last) (nI i) = some (nI (w ++ (t.drop i).take (last - i)).length, wf') ∧ Rep wf' (nI (w ++ (t.drop i).take (last - i)).length) (w ++ (t.drop i).take (last - i)) := by
  have hL := hr.2.1
  intro k
  induction k with
  | zero => intro i w wf h1 h2; omega
  | succ k ih =>
    intro i w wf h1 h2 hwl hw
    rw [p_M_read_57, iteLe (by omega) (by omega)]
    by_cases hi : i < last
    · have hit : i < t.length := by omega
      obtain ⟨wf', e, hw'⟩ := M_read94 (N := N) (x3 := 123) (x5 := nI last) (kk := p_M_read_57 N n f k) hr hit hw hwl
      rw [if_neg (show ¬ last ≤ i by omega), if_pos rfl, e, dropC hit, show last - i = (last - (i + 1)) + 1 by omega, List.take_succ_cons]
      have q := ih (i + 1) _ wf' (by omega) (by omega) (by rw [lenA1]; omega) hw'
      rw [List.append_assoc] at q
      exact q
    · rw [if_pos (show last ≤ i by omega), show last - i = 0 by omega, List.take_zero, List.append_nil]
      exact ⟨wf, rfl, hw⟩
theorem rdB_word : ∀ (m o : Nat) (w l : List Nat) (x : List Nat × List Nat), l.length ≤ m → rdB o w l = some x → x.1 = w ++ l.take (l.length - x.2.length - 1) := by
  intro m
  induction m with
  | zero =>
    intro o w l x hm h
    rw [List.length_eq_zero_iff.mp (by omega : l.length = 0), rdB_nil] at h
    cases h
  | succ m ih =>
    intro o w l x hm h
    cases l with
    | nil => rw [rdB_nil] at h; cases h
    | cons b l =>
      rw [rdB_cons] at h
      simp only [List.length_cons] at hm ⊢
      have one : ∀ (o : Nat), rdB o (w ++ [b]) l = some x → x.1 = w ++ (b :: l).take (l.length + 1 - x.2.length - 1) := by
        intro o h
        have h1 := rdB_len _ _ _ _ _ (Nat.le_refl _) h
        rw [ih o _ _ _ (by omega) h, show l.length + 1 - x.2.length - 1 = (l.length - x.2.length - 1) + 1 by omega, List.take_succ_cons, List.append_assoc]
        rfl
      split at h
      · exact one _ h
      · split at h
        · split at h
          · cases h
            rw [show l.length + 1 - l.length - 1 = 0 by omega, List.take_zero, List.append_nil]
          · exact one _ h
        · split at h
          · cases l with
            | nil => cases h
            | cons c l =>
              simp only [List.length_cons] at hm ⊢
              have h1 := rdB_len _ _ _ _ _ (Nat.le_refl _) h
              rw [ih o _ _ _ (by omega) h, show l.length + 1 + 1 - x.2.length - 1 = (l.length - x.2.length - 1) + 1 + 1 by omega, List.take_succ_cons, List.take_succ_cons, List.append_assoc]
              rfl
          · exact one _ h
theorem M_read {N : Nat} {f wf : Nat → Int32} {n wn : Int32} {t : List Nat} (hr : Rep f n t) (hN : 1100 ≤ N) {i : Nat} (hi : i < t.length) {x : List Nat × List Nat} (hx : one (t.drop i) = some x) : ∃ wf', p_M_read N n wn f wf (nI i) (nI (t.length - x.2.length)) = some (nI x.1.length, wf') ∧ Rep wf' (nI x.1.length) x.1 := by
  have hL := hr.2.1
  have hb := Rep_byte hr hi
  have hw0 : Rep wf (nI ([] : List Nat).length) [] := Rep_nil wf
  unfold p_M_read p_M_read_0 p_M_read_18 p_M_read_25 p_M_read_39
  rw [M_at hr (by omega), bS, gb_lt hi, nI_1]
  rw [dropC hi] at hx
  unfold one at hx
  dsimp only at hx
  have hlen : (t.drop (i + 1)).length = t.length - (i + 1) := List.length_drop
  by_cases h123 : t.getD i 0 = 123
  · rw [if_pos h123] at hx
    have hy := clo_some hx
    have h1 := rdB_len _ _ _ _ _ (Nat.le_refl _) hy
    have h2 := rdB_word _ _ _ _ _ (Nat.le_refl _) hy
    rw [if_pos (show nI (t.getD i 0) = 123 by rw [h123]; rfl), if_pos (show nI (t.getD i 0) = 123 by rw [h123]; rfl), show nI (t.getD i 0) = 123 by rw [h123]; rfl, show (1 : Int32) = nI 1 from rfl, pk_sub (by omega)]
    have q := M_rb_loop (N := N) hr (last := t.length - x.2.length - 1) (by omega) N (i + 1) [] wf (by omega) (by omega) (by simp) hw0
    rw [List.nil_append] at q h2
    rw [show t.length - x.2.length - 1 - (i + 1) = (t.drop (i + 1)).length - x.2.length - 1 by omega, ← h2] at q
    exact q
  · rw [if_neg h123] at hx
    rw [if_neg (show ¬ nI (t.getD i 0) = 123 from fun z => h123 ((nI_eq (b := 123) (by omega) (by omega)).mp z)), if_neg (show ¬ nI (t.getD i 0) = 123 from fun z => h123 ((nI_eq (b := 123) (by omega) (by omega)).mp z))]
    by_cases h34 : t.getD i 0 = 34
    · rw [if_pos h34] at hx
      obtain ⟨y, hy, e⟩ := Option.map_eq_some_iff.mp (clo_some hx)
      obtain ⟨hl, hz⟩ := rdU_len true _ _ _ _ (Nat.le_refl _) hy
      obtain ⟨z, hz⟩ := hz rfl
      have hq := rdU_qs _ [] (t.drop (i + 1)) (Nat.le_refl _)
      rw [hy] at hq
      dsimp only at hq
      have hs := qs_suf _ (t.drop (i + 1)) (Nat.le_refl _)
      rw [hq] at hs
      have h3 : y.2 <:+ t := hs.trans (List.drop_suffix _ _)
      have hpos : 0 < y.2.length := by rw [hz]; simp
      have e1 : x.1 = y.1 := by rw [← e]
      have e2 : x.2.length = y.2.length - 1 := by rw [← e]; simp
      rw [if_pos (show nI (t.getD i 0) = 34 by rw [h34]; rfl), if_pos (show nI (t.getD i 0) = 34 by rw [h34]; rfl), show (1 : Int32) = nI 1 from rfl, pk_sub (by omega), show t.length - x.2.length - 1 = t.length - y.2.length by omega, e1]
      exact M_rd_loop (N := N) hr hN (by rw [h34]; decide) (q := true) (last := t.length - y.2.length) (by omega) (x := y) (suf_drop h3) N (i + 1) [] wf hy (by omega) (by omega) (by simp) hw0
    · rw [if_neg h34, ← dropC hi] at hx
      rw [if_neg (show ¬ nI (t.getD i 0) = 34 from fun z => h34 ((nI_eq (b := 34) (by omega) (by omega)).mp z)), if_neg (show ¬ nI (t.getD i 0) = 34 from fun z => h34 ((nI_eq (b := 34) (by omega) (by omega)).mp z))]
      obtain ⟨v, hv⟩ := rdU_bsn _ [] (t.drop i) (Nat.le_refl _)
      rw [hv] at hx
      have e := Option.some.inj hx
      have hs := bsn_suf _ (t.drop i) (Nat.le_refl _)
      have h3 : bsn (t.drop i) <:+ t := hs.trans (List.drop_suffix _ _)
      have hle := hs.length_le
      rw [List.length_drop] at hle
      subst e
      rw [if_neg (show ¬ nI (t.getD i 0) = 123 from fun z => h123 ((nI_eq (b := 123) (by omega) (by omega)).mp z))]
      exact M_rd_loop (N := N) hr hN (fun z => h123 ((nI_eq (b := 123) (by omega) (by omega)).mp z)) (q := false) (last := t.length - (bsn (t.drop i)).length) (by omega) (x := (v, bsn (t.drop i))) (suf_drop h3) N i [] wf hv (by omega) (by omega) (by simp) hw0
