/-! PURE, the reference: the rest of its calls -/
theorem Rep_copy {f g : Nat → Int32} {n : Int32} {t : List Nat} (hr : Rep f n t) (h : ∀ j, j < t.length → g j = f j) : Rep g n t := ⟨hr.1, hr.2.1, fun i hi => by rw [h i hi]; exact hr.2.2.1 i hi, hr.2.2.2⟩
theorem cp_step {f g : Nat → Int32} {i : Nat} (h : ∀ j, j < i → g j = f j) : ∀ j, j < i + 1 → upd g i (f i) j = f j := by
  intro j hj
  by_cases e : j = i
  · subst e
    rw [pk_us]
  · rw [pk_un e]
    exact h j (by omega)
theorem M_list_loop {N : Nat} {f : Nat → Int32} {n z : Int32} {t : List Nat} (hr : Rep f n t) : ∀ (k i : Nat) (g : Nat → Int32), i ≤ t.length → t.length - i < k → (∀ j, j < i → g j = f j) → ∃ g', p_M_list_2 N f k n z g (nI i) = some (n, 0, n, g') ∧ ∀ j, j < t.length → g' j = f j := by
  have hL := hr.2.1
  intro k
  induction k with
  | zero => intro i g h1 h2; omega
  | succ k ih =>
    intro i g h1 h2 h3
    rw [p_M_list_2]
    by_cases hi : i < t.length
    · obtain ⟨g1, g2⟩ := wrd_at hr hi
      rw [if_neg (show ¬ n ≤ nI i by rw [hr.1, nI_lev (by omega) (by omega)]; omega), if_neg g1, if_neg g1, nI_clamp (by omega), nI_1]
      exact ih (i + 1) _ (by omega) (by omega) (cp_step h3)
    · rw [if_pos (show n ≤ nI i by rw [hr.1, nI_lev (by omega) (by omega)]; omega)]
      exact ⟨g, rfl, fun j hj => h3 j (by omega)⟩
theorem M_list {N : Nat} {f g : Nat → Int32} {n z : Int32} {t : List Nat} (hr : Rep f n t) (hN : 1100 ≤ N) : ∃ g', p_M_list N n z f g = some (nI t.length, 0, nI t.length, g') ∧ Rep g' (nI t.length) t := by
  have hL := hr.2.1
  obtain ⟨g', e, h⟩ := M_list_loop (N := N) (z := z) hr N 0 g (Nat.zero_le _) (by omega) (fun j hj => by omega)
  have q := Rep_copy hr h
  rw [hr.1] at e q
  refine ⟨g', ?_, q⟩
  unfold p_M_list p_M_list_0
  rw [hr.1]
  exact e
theorem M_item_loop {N : Nat} {f : Nat → Int32} {n z : Int32} {t : List Nat} (hr : Rep f n t) : ∀ (k i : Nat) (g : Nat → Int32), i ≤ t.length → t.length - i < k → (∀ j, j < i → g j = f j) → ∃ g', p_M_item_2 N f k n z g (nI i) = some (n, 0, n, g') ∧ ∀ j, j < t.length → g' j = f j := by
  have hL := hr.2.1
  intro k
  induction k with
  | zero => intro i g h1 h2; omega
  | succ k ih =>
    intro i g h1 h2 h3
    rw [p_M_item_2]
    by_cases hi : i < t.length
    · obtain ⟨g1, g2⟩ := wrd_at hr hi
      rw [if_neg (show ¬ n ≤ nI i by rw [hr.1, nI_lev (by omega) (by omega)]; omega), if_neg g1, if_neg g1, nI_clamp (by omega), nI_1]
      exact ih (i + 1) _ (by omega) (by omega) (cp_step h3)
    · rw [if_pos (show n ≤ nI i by rw [hr.1, nI_lev (by omega) (by omega)]; omega)]
      exact ⟨g, rfl, fun j hj => h3 j (by omega)⟩
theorem M_item {N : Nat} {f g : Nat → Int32} {n z : Int32} {t : List Nat} (hr : Rep f n t) (hN : 1100 ≤ N) : ∃ g', p_M_item N n z f g = some (nI t.length, 0, nI t.length, g') ∧ Rep g' (nI t.length) t := by
  have hL := hr.2.1
  obtain ⟨g', e, h⟩ := M_item_loop (N := N) (z := z) hr N 0 g (Nat.zero_le _) (by omega) (fun j hj => by omega)
  have q := Rep_copy hr h
  rw [hr.1] at e q
  refine ⟨g', ?_, q⟩
  unfold p_M_item p_M_item_0
  rw [hr.1]
  exact e
theorem M_wrap_loop {N : Nat} {f : Nat → Int32} {n z : Int32} {t : List Nat} (hr : Rep f n t) : ∀ (k i : Nat) (g : Nat → Int32), i ≤ t.length → t.length - i < k → (∀ j, j < i → g j = f j) → ∃ g', p_M_wrap_2 N f k n z g (nI i) = some (n, 0, n, g') ∧ ∀ j, j < t.length → g' j = f j := by
  have hL := hr.2.1
  intro k
  induction k with
  | zero => intro i g h1 h2; omega
  | succ k ih =>
    intro i g h1 h2 h3
    rw [p_M_wrap_2]
    by_cases hi : i < t.length
    · obtain ⟨g1, g2⟩ := wrd_at hr hi
      rw [if_neg (show ¬ n ≤ nI i by rw [hr.1, nI_lev (by omega) (by omega)]; omega), if_neg g1, if_neg g1, nI_clamp (by omega), nI_1]
      exact ih (i + 1) _ (by omega) (by omega) (cp_step h3)
    · rw [if_pos (show n ≤ nI i by rw [hr.1, nI_lev (by omega) (by omega)]; omega)]
      exact ⟨g, rfl, fun j hj => h3 j (by omega)⟩
theorem M_wrap {N : Nat} {f g : Nat → Int32} {n z : Int32} {t : List Nat} (hr : Rep f n t) (hN : 1100 ≤ N) : ∃ g', p_M_wrap N n z f g = some (nI t.length, 0, nI t.length, g') ∧ Rep g' (nI t.length) t := by
  have hL := hr.2.1
  obtain ⟨g', e, h⟩ := M_wrap_loop (N := N) (z := z) hr N 0 g (Nat.zero_le _) (by omega) (fun j hj => by omega)
  have q := Rep_copy hr h
  rw [hr.1] at e q
  refine ⟨g', ?_, q⟩
  unfold p_M_wrap p_M_wrap_0
  rw [hr.1]
  exact e
theorem M_el_loop {N : Nat} {lf wf : Nat → Int32} {ln wn itn : Int32} {w : List Nat} (hr : Rep wf wn w) : ∀ (k i : Nat) (g : Nat → Int32), i ≤ w.length → w.length - i < k → (∀ j, j < i → g j = wf j) → ∃ g', p_M_element_36 N ln lf k itn wn g wf (nI i) = some (wn, wn, wn, g', wf) ∧ ∀ j, j < w.length → g' j = wf j := by
  have hL := hr.2.1
  intro k
  induction k with
  | zero => intro i g h1 h2; omega
  | succ k ih =>
    intro i g h1 h2 h3
    rw [p_M_element_36]
    by_cases hi : i < w.length
    · obtain ⟨g1, g2⟩ := wrd_at hr hi
      rw [if_neg (show ¬ wn ≤ nI i by rw [hr.1, nI_lev (by omega) (by omega)]; omega), if_neg g1, if_neg g1, nI_clamp (by omega), nI_1]
      exact ih (i + 1) _ (by omega) (by omega) (cp_step h3)
    · rw [if_pos (show wn ≤ nI i by rw [hr.1, nI_lev (by omega) (by omega)]; omega)]
      exact ⟨g, rfl, fun j hj => h3 j (by omega)⟩
theorem M_element {N : Nat} {f wf itf : Nat → Int32} {n wn itn : Int32} {t w it : List Nat} (hr : Rep f n t) (hN : 1100 ≤ N) (hw : Rep wf wn w) (hit : Rep itf itn it) (x : Int32) : ∃ (itn' wn' : Int32) (itf' wf' : Nat → Int32) (w' : List Nat), p_M_element N n itn wn f itf wf x = some ((elA t it x).1, itn', wn', itf', wf') ∧ Rep itf' itn' (elA t it x).2 ∧ Rep wf' wn' w' := by
  have hL := hr.2.1
  unfold p_M_element p_M_element_0 elA
  rw [M_goOver_cnt hr hN, bS]
  dsimp only
  cases he : elems t with
  | none =>
    rw [if_pos (show cntR 0 none = -2 from rfl)]
    exact ⟨_, _, _, _, w, rfl, hit, hw⟩
  | some es =>
    have hes := elems_length _ t es (Nat.le_refl _) he
    dsimp only
    rw [show cntR 0 (some es) = nI es.length by show nI (0 + es.length) = _; rw [Nat.zero_add], if_neg (nI_neB (by omega))]
    rcases pk_ix x (n := es.length) (by omega) with h | h | ⟨j, hj, rfl⟩
    · rw [if_pos h, if_pos (Or.inl h)]
      exact ⟨_, _, _, _, w, rfl, hit, hw⟩
    · rw [if_pos (show x < 0 ∨ nI es.length ≤ x from Or.inr h)]
      by_cases h0 : x < 0
      · rw [if_pos h0]
        exact ⟨_, _, _, _, w, rfl, hit, hw⟩
      · rw [if_neg h0, if_neg (Int32.not_lt.mpr h)]
        exact ⟨_, _, _, _, w, rfl, hit, hw⟩
    · rw [if_neg (nI_pos (by omega)), if_pos ((nI_ltI (by omega) (by omega)).mpr hj), if_neg (show ¬ (nI j < 0 ∨ nI es.length ≤ nI j) from fun z => z.elim (nI_pos (by omega)) (fun z => absurd ((nI_leI (by omega) (by omega)).mp z) (by omega))), nI_clamp (by omega)]
      obtain ⟨wf2, e2, h2⟩ := M_goOver_rd (N := N) hr hN hw he hj
      rw [e2, bS]
      dsimp only
      have hl2 := h2.2.1
      obtain ⟨g', e3, h3⟩ := M_el_loop (N := N) (lf := f) (ln := n) (itn := itn) h2 N 0 itf (Nat.zero_le _) (by omega) (fun j hj => by omega)
      exact ⟨_, _, g', wf2, _, e3, Rep_copy h2 h3, h2⟩
theorem M_listAt {N : Nat} {f : Nat → Int32} {n : Int32} {t : List Nat} (hr : Rep f n t) (x : Int32) : p_M_listAt N n f x = some (atA t x) := R_at (N := N) hr x
theorem M_itemAt {N : Nat} {f : Nat → Int32} {n : Int32} {t : List Nat} (hr : Rep f n t) (x : Int32) : p_M_itemAt N n f x = some (atA t x) := R_at (N := N) hr x
theorem M_end {N : Nat} {f : Nat → Int32} {n : Int32} {t : List Nat} (hr : Rep f n t) (x : Int32) : ∃ n' : Int32, p_M_end N n x = some ((enA t x).1, n') ∧ Rep f n' (enA t x).2 := by
  obtain ⟨n', e, h⟩ := X_end (N := N) hr x
  refine ⟨n', Eq.trans ?_ e, h⟩
  unfold p_M_end p_M_end_0 p_X_end p_X_end_0 p_R_cutTo p_R_cutTo_0
  split
  · rfl
  · split <;> rfl
theorem M_settle_loop {N : Nat} {tf : Nat → Int32} {tn ln : Int32} {y : List Nat} (hr : RepT tf tn y) (hy : y.length ≤ 1024) : ∀ (k i : Nat) (g : Nat → Int32), i ≤ y.length → y.length - i < k → (∀ j, j < i → g j = tf j) → ∃ g', p_M_settle_15 N tn tf k ln g (nI i) = some (tn, tn, g') ∧ ∀ j, j < y.length → g' j = tf j := by
  intro k
  induction k with
  | zero => intro i g h1 h2; omega
  | succ k ih =>
    intro i g h1 h2 h3
    rw [p_M_settle_15]
    by_cases hi : i < y.length
    · rw [if_neg (show ¬ tn ≤ nI i by rw [hr.1, nI_lev (by omega) (by omega)]; omega), nI_clamp (by omega), if_neg (fun q => q.elim (nI_pos (by omega)) (fun q => by omega)), if_neg (fun q => q.elim (nI_pos (by omega)) (fun q => by omega)), nI_1]
      exact ih (i + 1) _ (by omega) (by omega) (cp_step h3)
    · rw [if_pos (show tn ≤ nI i by rw [hr.1, nI_lev (by omega) (by omega)]; omega)]
      exact ⟨g, rfl, fun j hj => h3 j (by omega)⟩
/-- settle: the text becomes the list, if it isn't too long -/
def stA (t y : List Nat) : Int32 × List Nat := if y.length ≤ 1024 then (nI y.length, y) else (-3, t)
theorem M_settle {N : Nat} {f tf : Nat → Int32} {n tn : Int32} {t y : List Nat} (hr : Rep f n t) (hy : RepT tf tn y) (hN : 1100 ≤ N) : ∃ (n' : Int32) (f' : Nat → Int32), p_M_settle N n tn f tf = some ((stA t y).1, n', f') ∧ Rep f' n' (stA t y).2 := by
  have hL := hy.2.1
  unfold p_M_settle p_M_settle_0 stA
  by_cases hl : y.length ≤ 1024
  · obtain ⟨g', e, h⟩ := M_settle_loop (N := N) (ln := n) hy hl N 0 f (Nat.zero_le _) (by omega) (fun j hj => by omega)
    rw [if_pos (show tn ≤ (1024 : Int32) by rw [hy.1]; exact (nI_leI (b := 1024) (by omega) (by omega)).mpr hl), if_pos hl]
    refine ⟨tn, g', ?_, hy.1, hl, fun i hi => by rw [h i hi]; exact hy.2.2.1 i hi, hy.2.2.2⟩
    rw [← hy.1]
    exact e
  · rw [if_neg (show ¬ tn ≤ (1024 : Int32) from fun z => by rw [hy.1] at z; exact hl ((nI_leI (b := 1024) (by omega) (by omega)).mp z)), if_neg hl]
    exact ⟨n, f, rfl, hr⟩
theorem M_ap33 {N : Nat} {itf txf lf : Nat → Int32} {itn txn ln wn : Int32} {it : List Nat} (hit : Rep itf itn it) : ∀ (k i : Nat) (g : Nat → Int32), i ≤ it.length → it.length - i < k → (∀ j, j < i → g j = itf j) → ∃ g', p_M_append_33 N itn itf k ln wn txn lf g txf (nI i) = ((p_M_write N itn txn g' txf).bind fun r_68 => ((p_M_settle N ln r_68.1 lf r_68.2).bind fun r_72 => some (r_72.1, r_72.2.1, itn, r_68.1, r_72.2.2, g', r_68.2))) ∧ ∀ j, j < it.length → g' j = itf j := by
  have hL := hit.2.1
  intro k
  induction k with
  | zero => intro i g h1 h2; omega
  | succ k ih =>
    intro i g h1 h2 h3
    rw [p_M_append_33]
    by_cases hi : i < it.length
    · obtain ⟨g1, g2⟩ := wrd_at hit hi
      rw [if_neg (show ¬ itn ≤ nI i by rw [hit.1, nI_lev (by omega) (by omega)]; omega), if_neg g1, if_neg g1, nI_clamp (by omega), nI_1]
      exact ih (i + 1) _ (by omega) (by omega) (cp_step h3)
    · rw [if_pos (show itn ≤ nI i by rw [hit.1, nI_lev (by omega) (by omega)]; omega)]
      exact ⟨g, rfl, fun j hj => h3 j (by omega)⟩
theorem M_ap7 {N : Nat} {itf lf wf : Nat → Int32} {itn ln wn : Int32} {t : List Nat} (hr : Rep lf ln t) : ∀ (k i : Nat) (z : List Nat) (g : Nat → Int32), i ≤ t.length → t.length - i < k → z.length ≤ i → RepT g (nI z.length) z → ∃ g', p_M_append_7 N itn itf k ln wn (nI z.length) lf wf g (nI i) = p_M_append_33 N itn itf N ln wn (nI (z ++ t.drop i).length) lf wf g' 0 ∧ RepT g' (nI (z ++ t.drop i).length) (z ++ t.drop i) := by
  have hL := hr.2.1
  intro k
  induction k with
  | zero => intro i z g h1 h2; omega
  | succ k ih =>
    intro i z g h1 h2 h3 hz
    rw [p_M_append_7]
    by_cases hi : i < t.length
    · obtain ⟨g1, g2⟩ := wrd_at hr hi
      obtain ⟨f', e, hr'⟩ := M_put (N := N) hz (by omega) (Rep_byte hr hi)
      rw [if_neg (show ¬ ln ≤ nI i by rw [hr.1, nI_lev (by omega) (by omega)]; omega), if_neg g1, g2, e, bS, nI_1, dropC hi]
      have q := ih (i + 1) _ f' (by omega) (by omega) (by rw [lenA1]; omega) hr'
      rw [List.append_assoc] at q
      exact q
    · rw [if_pos (show ln ≤ nI i by rw [hr.1, nI_lev (by omega) (by omega)]; omega), dropN (by omega), List.append_nil]
      exact ⟨g, rfl, hz⟩
theorem M_append {N : Nat} {f itf wf txf : Nat → Int32} {n itn wn txn : Int32} {t it : List Nat} (hr : Rep f n t) (hit : Rep itf itn it) (hN : 1100 ≤ N) : ∃ (n' wn' txn' : Int32) (f' wf' txf' : Nat → Int32) (w' y' : List Nat), p_M_append N n itn wn txn f itf wf txf = some ((apA t it).1, n', wn', txn', f', wf', txf') ∧ Rep f' n' (apA t it).2 ∧ Rep wf' wn' w' ∧ RepT txf' txn' y' := by
  have hL := hr.2.1
  have hL2 := hit.2.1
  unfold p_M_append p_M_append_0
  obtain ⟨g1, e1, h1⟩ := M_ap7 (N := N) (itf := itf) (wf := wf) (itn := itn) (wn := wn) hr N 0 [] txf (Nat.zero_le _) (by omega) (Nat.zero_le _) (RepT_nil txf)
  rw [List.nil_append, List.drop_zero] at e1 h1
  obtain ⟨g2, e2, h2⟩ := M_ap33 (N := N) (txf := g1) (lf := f) (txn := nI t.length) (ln := n) (wn := wn) hit N 0 wf (Nat.zero_le _) (by omega) (fun j hj => by omega)
  have e3 : p_M_append_7 N itn itf N n wn 0 f wf txf 0 = _ := e1.trans e2
  rw [e3]
  have hw := Rep_copy hit h2
  obtain ⟨g3, e4, h4⟩ := M_write (N := N) hw hN h1 hL
  obtain ⟨n', f', e5, h5⟩ := M_settle (N := N) hr h4 hN
  rw [e4, bS]
  dsimp only
  rw [e5, bS]
  exact ⟨n', itn, _, f', g2, g3, it, _, rfl, h5, hw, h4⟩
theorem M_ag_loop {N : Nat} {f : Nat → Int32} {n : Int32} {t : List Nat} (hr : Rep f n t) (hN : 1100 ≤ N) {es : List (List Nat)} (he : elems t = some es) : ∀ (k m : Nat) (wn zn : Int32) (wf zf : Nat → Int32) (w z : List Nat), Rep wf wn w → RepT zf zn z → m ≤ es.length → es.length - m < k →
    ∃ (n' wn' zn' : Int32) (f' wf' zf' : Nat → Int32) (w' z' : List Nat), p_M_again_24 N k n wn zn f wf zf (nI es.length) (nI m) = some ((if z.length ≤ 1024 then agB t z (es.drop m) else (-3, t)).1, n', wn', zn', f', wf', zf') ∧ Rep f' n' (if z.length ≤ 1024 then agB t z (es.drop m) else (-3, t)).2 ∧ Rep wf' wn' w' ∧ RepT zf' zn' z' := by
  have hL := hr.2.1
  have hes := elems_length _ t es (Nat.le_refl _) he
  intro k
  induction k with
  | zero => intro m wn zn wf zf w z hw hz h1 h2; omega
  | succ k ih =>
    intro m wn zn wf zf w z hw hz h1 h2
    have hzl := hz.2.1
    rw [p_M_again_24]
    have fin : ∀ r : Int32 × List Nat, r = stA t z → ∃ (n' wn' zn' : Int32) (f' wf' zf' : Nat → Int32) (w' z' : List Nat), p_M_again_55 N n wn zn f wf zf = some (r.1, n', wn', zn', f', wf', zf') ∧ Rep f' n' r.2 ∧ Rep wf' wn' w' ∧ RepT zf' zn' z' := by
      intro r hreq
      subst hreq
      unfold p_M_again_55
      obtain ⟨n', f', e5, h5⟩ := M_settle (N := N) hr hz hN
      rw [e5, bS]
      exact ⟨n', wn, zn, f', wf, zf, w, z, rfl, h5, hw, hz⟩
    by_cases hm : m < es.length
    · rw [if_neg (show ¬ nI es.length ≤ nI m by rw [nI_lev (by omega) (by omega)]; omega)]
      by_cases hl : z.length ≤ 1024
      · rw [if_neg (show ¬ (1024 : Int32) < zn from fun q => by rw [hz.1] at q; exact absurd ((nI_ltI (a := 1024) (by omega) (by omega)).mp q) (by omega)), if_pos hl]
        obtain ⟨wf2, e2, h2'⟩ := M_goOver_rd (N := N) hr hN hw he hm
        obtain ⟨g3, e4, h4⟩ := M_write (N := N) h2' hN hz hl
        rw [e2, bS]
        dsimp only
        rw [e4, bS, nI_1]
        have ed : es.drop m = es.getD m [] :: es.drop (m + 1) := by
          rw [List.drop_eq_getElem_cons hm, List.getD_eq_getElem?_getD, List.getElem?_eq_getElem hm]
          rfl
        have eag : agB t z (es.drop m) = (if (behind z (es.getD m [])).length ≤ 1024 then agB t (behind z (es.getD m [])) (es.drop (m + 1)) else (-3, t)) := by
          rw [ed]
          unfold agB
          rw [agn]
          by_cases hbl : (behind z (es.getD m [])).length ≤ 1024
          · rw [if_pos hbl, if_pos hbl]
          · rw [if_neg hbl, if_neg hbl]
        rw [eag]
        exact ih (m + 1) _ _ wf2 g3 _ _ h2' h4 (by omega) (by omega)
      · rw [if_pos (show (1024 : Int32) < zn by rw [hz.1]; exact (nI_ltI (a := 1024) (by omega) (by omega)).mpr (by omega)), if_neg hl]
        exact fin _ (by unfold stA; rw [if_neg hl])
    · rw [if_pos (show nI es.length ≤ nI m by rw [nI_lev (by omega) (by omega)]; omega)]
      have ed : es.drop m = [] := List.drop_eq_nil_iff.mpr (by omega)
      rw [ed]
      exact fin _ (by unfold stA agB agn; rfl)
theorem M_again {N : Nat} {f wf zf : Nat → Int32} {n wn zn : Int32} {t w z : List Nat} (hr : Rep f n t) (hN : 1100 ≤ N) (hw : Rep wf wn w) (hz : RepT zf zn z) : ∃ (n' wn' zn' : Int32) (f' wf' zf' : Nat → Int32) (w' z' : List Nat), p_M_again N n wn zn f wf zf = some ((agA t).1, n', wn', zn', f', wf', zf') ∧ Rep f' n' (agA t).2 ∧ Rep wf' wn' w' ∧ RepT zf' zn' z' := by
  have hL := hr.2.1
  unfold p_M_again p_M_again_0 agA
  rw [M_goOver_cnt hr hN, bS]
  dsimp only
  cases he : elems t with
  | none =>
    rw [if_pos (show cntR 0 none = -2 from rfl)]
    exact ⟨_, _, _, f, wf, zf, w, z, rfl, hr, hw, hz⟩
  | some es =>
    have hes := elems_length _ t es (Nat.le_refl _) he
    dsimp only
    rw [show cntR 0 (some es) = nI es.length by show nI (0 + es.length) = _; rw [Nat.zero_add], if_neg (nI_neB (by omega))]
    have q := M_ag_loop (N := N) hr hN he N 0 wn 0 wf zf w [] hw (RepT_nil zf) (Nat.zero_le _) (by omega)
    rw [if_pos (show ([] : List Nat).length ≤ 1024 by simp), List.drop_zero] at q
    exact q
/-- byte j of five numbers -/
def by20 (a b c d e : Int32) (j : Nat) : Nat := byk (24 - 8 * (j % 4)) (if j < 4 then a else if j < 8 then b else if j < 12 then c else if j < 16 then d else e)
def full20 (a b c d e : Int32) : List Nat := (List.range 20).map (by20 a b c d e)
theorem full20_eq (a b c d e : Int32) : full20 a b c d e = by4 a ++ by4 b ++ by4 c ++ by4 d ++ by4 e := rfl
theorem full20_len (a b c d e : Int32) : (full20 a b c d e).length = 20 := rfl
theorem full20_get (a b c d e : Int32) {j : Nat} (hj : j < 20) : (full20 a b c d e).getD j 0 = by20 a b c d e j := by
  unfold full20
  simp [List.getD_eq_getElem?_getD, hj]
theorem M_f71 {N : Nat} {kk : Int32 → (Nat → Int32) → Int32 → Int32 → Int32 → Int32 → Int32 → Int32 → Option (Int32 × Int32 × (Nat → Int32))} {f : Nat → Int32} {t : List Nat} {a b c d e y : Int32} {j : Nat} (hr : Rep f (nI t.length) t) (hl : t.length < 1024) (hj : j < 20) : ∃ f', p_M_feed_71 N kk (nI t.length) f a b c d e (nI j) y = kk (nI (t ++ [byk (24 - 8 * (j % 4)) y]).length) f' a b c d e (nI (j + 1)) ∧ Rep f' (nI (t ++ [byk (24 - 8 * (j % 4)) y]).length) (t ++ [byk (24 - 8 * (j % 4)) y]) := by
  have hm : j % 4 < 4 := Nat.mod_lt _ (by omega)
  have e1 : nI j - nI j / (4 : Int32) * (4 : Int32) = nI (j % 4) := pk_rem (a := j) (d := 4) (by omega) (by omega) (by omega)
  have e2 : (24 : Int32) - (8 : Int32) * nI (j % 4) = nI (24 - 8 * (j % 4)) := by
    rw [show (8 : Int32) = nI 8 from rfl, pk_mul, show (24 : Int32) = nI 24 from rfl, pk_sub (by omega)]
  obtain ⟨f', e3, hr'⟩ := M_add (N := N) hr hl (byk_lt (24 - 8 * (j % 4)) y)
  refine ⟨f', ?_, hr'⟩
  unfold p_M_add p_M_add_0 at e3
  have hg : ¬ (nI t.length < 0 ∨ 1024 ≤ (nI t.length).toNatClampNeg) := by rw [nI_clamp (by omega)]; exact fun q => q.elim (nI_pos (by omega)) (fun q => by omega)
  rw [if_neg hg] at e3
  have e4 := Option.some.inj e3
  unfold p_M_feed_71
  have e5 : nI t.length + 1 = nI (t ++ [byk (24 - 8 * (j % 4)) y]).length := congrArg Prod.fst e4
  have e6 : upd f (nI t.length).toNatClampNeg (nI (byk (24 - 8 * (j % 4)) y)) = f' := congrArg Prod.snd e4
  rw [if_neg hg, e1, e2, sshr_byte _ (by omega) y, nI_1 j, e5, e6]
theorem M_feed_loop {N : Nat} {a b c d e : Int32} : ∀ (k j : Nat) (t : List Nat) (f : Nat → Int32), j ≤ 20 → 20 - j < k → t.length + (20 - j) ≤ 1024 → Rep f (nI t.length) t → ∃ f', p_M_feed_18 N k (nI t.length) f a b c d e (nI j) = some (1, nI (t ++ (full20 a b c d e).drop j).length, f') ∧ Rep f' (nI (t ++ (full20 a b c d e).drop j).length) (t ++ (full20 a b c d e).drop j) := by
  intro k
  induction k with
  | zero => intro j t f h1 h2; omega
  | succ k ih =>
    intro j t f h1 h2 h3 hr
    rw [p_M_feed_18, show (20 : Int32) = nI 20 from rfl, show (16 : Int32) = nI 16 from rfl, show (12 : Int32) = nI 12 from rfl, show (8 : Int32) = nI 8 from rfl, show (4 : Int32) = nI 4 from rfl, iteLe (by omega) (by omega), iteLe (by omega) (by omega), iteLe (by omega) (by omega), iteLe (by omega) (by omega), iteLe (by omega) (by omega)]
    by_cases hj : j < 20
    · rw [if_neg (show ¬ 20 ≤ j by omega), dropC (by rw [full20_len]; exact hj), full20_get _ _ _ _ _ hj]
      have go : ∀ y : Int32, y = (if j < 4 then a else if j < 8 then b else if j < 12 then c else if j < 16 then d else e) → ∃ f', p_M_feed_71 N (p_M_feed_18 N k) (nI t.length) f a b c d e (nI j) y = some (1, nI (t ++ by20 a b c d e j :: (full20 a b c d e).drop (j + 1)).length, f') ∧ Rep f' (nI (t ++ by20 a b c d e j :: (full20 a b c d e).drop (j + 1)).length) (t ++ by20 a b c d e j :: (full20 a b c d e).drop (j + 1)) := by
        intro y hy
        obtain ⟨f', e1, hr'⟩ := M_f71 (N := N) (kk := p_M_feed_18 N k) (a := a) (b := b) (c := c) (d := d) (e := e) (y := y) hr (by omega) hj
        rw [e1]
        have q := ih (j + 1) _ f' (by omega) (by omega) (by rw [lenA1]; omega) hr'
        rw [List.append_assoc] at q
        subst hy
        exact q
      by_cases h4 : 4 ≤ j
      · rw [if_pos h4]
        by_cases h8 : 8 ≤ j
        · rw [if_pos h8]
          by_cases h12 : 12 ≤ j
          · rw [if_pos h12]
            by_cases h16 : 16 ≤ j
            · rw [if_pos h16]
              exact go e (by rw [if_neg (by omega), if_neg (by omega), if_neg (by omega), if_neg (by omega)])
            · rw [if_neg h16]
              exact go d (by rw [if_neg (by omega), if_neg (by omega), if_neg (by omega), if_pos (by omega)])
          · rw [if_neg h12]
            exact go c (by rw [if_neg (by omega), if_neg (by omega), if_pos (by omega)])
        · rw [if_neg h8]
          exact go b (by rw [if_neg (by omega), if_pos (by omega)])
      · rw [if_neg h4]
        exact go a (by rw [if_pos (by omega)])
    · rw [if_pos (show 20 ≤ j by omega), List.drop_eq_nil_iff.mpr (by rw [full20_len]; omega), List.append_nil]
      exact ⟨f, rfl, hr⟩
theorem M_feed {N : Nat} {f : Nat → Int32} {n : Int32} {t : List Nat} (hr : Rep f n t) (hN : 1100 ≤ N) (a b c d e : Int32) : ∃ (n' : Int32) (f' : Nat → Int32), p_M_feed N n f a b c d e = some ((fdA t a b c d e).1, n', f') ∧ Rep f' n' (fdA t a b c d e).2 := by
  have hL := hr.2.1
  unfold p_M_feed p_M_feed_0 fdA
  obtain rfl := hr.1
  rw [show (20 : Int32) = nI 20 from rfl, nI_add, show (1024 : Int32) = nI 1024 from rfl, iteLe (by omega) (by omega)]
  by_cases hl : t.length + 20 ≤ 1024
  · rw [if_pos hl, if_pos hl]
    obtain ⟨f', e1, hr'⟩ := M_feed_loop (N := N) (a := a) (b := b) (c := c) (d := d) (e := e) N 0 t f (by omega) (by omega) (by omega) hr
    rw [List.drop_zero, full20_eq, ← List.append_assoc, ← List.append_assoc, ← List.append_assoc, ← List.append_assoc] at e1 hr'
    exact ⟨_, f', e1, hr'⟩
  · rw [if_neg hl, if_neg hl]
    exact ⟨_, f, rfl, hr⟩
