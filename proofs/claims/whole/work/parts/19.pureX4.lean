/-! PURE, the class's reading: quoted and bare words -/
def RU (t : List Nat) (res : Option (List Nat × List Nat)) (val : Option (Int32 × Int32 × (Nat → Int32))) : Prop :=
  match res with
  | none => ∃ (wn : Int32) (wf : Nat → Int32) (w : List Nat), val = some (-2, wn, wf) ∧ Rep wf wn w
  | some x => ∃ (j : Nat) (wf : Nat → Int32), val = some (nI j, nI x.1.length, wf) ∧ Rep wf (nI x.1.length) x.1 ∧ j ≤ t.length ∧ t.drop j = x.2
theorem X_ru_47 {N : Nat} {f : Nat → Int32} {n : Int32} {t : List Nat} (hr : Rep f n t) (hN : 1100 ≤ N) {kk : Int32 → (Nat → Int32) → Int32 → Int32 → Option (Int32 × Int32 × (Nat → Int32))} {i : Nat} {w : List Nat} {wf : Nat → Int32} {x2 : Int32} (hi : i < t.length) (hwl : w.length ≤ i) (hw : Rep wf (nI w.length) w) :
    ∃ (f' : Nat → Int32), Rep f' (nI (w ++ [if t.getD i 0 = 92 then (esc (t.drop (i + 1))).1 else t.getD i 0]).length) (w ++ [if t.getD i 0 = 92 then (esc (t.drop (i + 1))).1 else t.getD i 0]) ∧
      p_X_readUnbraced_47 N n f kk (nI w.length) wf x2 (nI i) (nI (t.getD i 0)) = kk (nI (w ++ [if t.getD i 0 = 92 then (esc (t.drop (i + 1))).1 else t.getD i 0]).length) f' x2 (nI (i + 1 + (if t.getD i 0 = 92 then (esc (t.drop (i + 1))).2 else 0))) := by
  have hL := hr.2.1
  have hb := Rep_byte hr hi
  by_cases h92 : t.getD i 0 = 92
  · have hv : (esc (t.drop (i + 1))).1 < 256 := esc_lt (fun b hb => hr.2.2.2 b (List.mem_of_mem_drop hb))
    obtain ⟨f', e, hw'⟩ := R_putB (N := N) hw (by omega) hv
    rw [if_pos h92, if_pos h92]
    refine ⟨f', hw', ?_⟩
    unfold p_X_readUnbraced_47
    rw [h92, if_pos (show nI 92 = 92 from rfl), X_meaning hr hN hi, bS]
    unfold p_X_readUnbraced_68
    rw [e, bS, X_bb hr hN hi h92, bS, nI_add, nI_1]
    congr 2
    omega
  · obtain ⟨f', e, hw'⟩ := R_putB (N := N) hw (by omega) hb
    rw [if_neg h92, if_neg h92]
    refine ⟨f', hw', ?_⟩
    unfold p_X_readUnbraced_47
    rw [show (92 : Int32) = nI 92 from rfl, iteEq (by omega) (by omega), if_neg h92]
    unfold p_X_readUnbraced_68
    rw [e, bS, X_bb0 hr hi h92, bS, Int32.add_zero, nI_1]
theorem X_ru_loop {N : Nat} {f : Nat → Int32} {n : Int32} {t : List Nat} (hr : Rep f n t) (hN : 1100 ≤ N) (q : Bool) : ∀ (k i : Nat) (w : List Nat) (wf : Nat → Int32), i ≤ t.length → t.length - i < k → w.length ≤ i → Rep wf (nI w.length) w → RU t (rdU q w (t.drop i)) (p_X_readUnbraced_2 N n f k (nI w.length) wf (if q then 1 else 0) (nI i)) := by
  have hL := hr.2.1
  intro k
  induction k with
  | zero => intro i w wf h1 h2; omega
  | succ k ih =>
    intro i w wf h1 h2 hwl hw
    rw [p_X_readUnbraced_2, R_size, bS, bS]
    by_cases hi : i < t.length
    · have hb := Rep_byte hr hi
      have hge : ¬ n ≤ nI i := by rw [hr.1, nI_lev (by omega) (by omega)]; omega
      rw [if_neg hge, R_byteAt hr (by omega), bS, gb_lt hi, X_isSpace hb, bS, dropC hi, rdU_cons]
      obtain ⟨f', hw', e⟩ := X_ru_47 hr hN (kk := p_X_readUnbraced_2 N n f k) (x2 := if q then 1 else 0) hi hwl hw
      rw [e]
      have go : RU t (if t.getD i 0 = 92 then rdU q (w ++ [(esc (t.drop (i + 1))).1]) ((t.drop (i + 1)).drop (esc (t.drop (i + 1))).2) else rdU q (w ++ [t.getD i 0]) (t.drop (i + 1))) (p_X_readUnbraced_2 N n f k (nI (w ++ [if t.getD i 0 = 92 then (esc (t.drop (i + 1))).1 else t.getD i 0]).length) f' (if q then 1 else 0) (nI (i + 1 + (if t.getD i 0 = 92 then (esc (t.drop (i + 1))).2 else 0)))) := by
        by_cases h92 : t.getD i 0 = 92
        · have h3 := esc_le (t.drop (i + 1))
          rw [List.length_drop] at h3
          simp only [if_pos h92] at hw' ⊢
          rw [List.drop_drop]
          exact ih (i + 1 + (esc (t.drop (i + 1))).2) _ f' (by omega) (by omega) (by rw [lenA1]; omega) hw'
        · simp only [if_neg h92] at hw' ⊢
          exact ih (i + 1) _ f' (by omega) (by omega) (by rw [lenA1]; omega) hw'
      cases q with
      | true =>
        rw [if_neg (show ¬ ((if true = true then (1 : Int32) else 0) = 0) by decide)]
        by_cases h34 : t.getD i 0 = 34
        · rw [if_pos (show nI (t.getD i 0) = (34 : Int32) by rw [h34]; rfl), if_pos (show (if true = true then t.getD i 0 == 34 else isSp (t.getD i 0)) = true by rw [if_pos rfl, h34]; rfl)]
          exact ⟨i, wf, rfl, hw, by omega, dropC hi⟩
        · rw [if_neg (show ¬ nI (t.getD i 0) = (34 : Int32) from fun z => h34 ((nI_eq (b := 34) (by omega) (by omega)).mp z)), if_neg (show ¬ (if true = true then t.getD i 0 == 34 else isSp (t.getD i 0)) = true by rw [if_pos rfl]; simpa using h34)]
          exact go
      | false =>
        rw [if_pos (show ((if false = true then (1 : Int32) else 0) = 0) by decide)]
        cases hs : isSp (t.getD i 0) with
        | true =>
          rw [if_neg (show ¬ ((if true = true then (1 : Int32) else 0) = 0) by decide), if_pos (show (if false = true then t.getD i 0 == 34 else true) = true by rfl)]
          exact ⟨i, wf, rfl, hw, by omega, dropC hi⟩
        | false =>
          rw [if_pos (show ((if false = true then (1 : Int32) else 0) = 0) by decide), if_neg (show ¬ (if false = true then t.getD i 0 == 34 else false) = true from fun z => by cases z)]
          exact go
    · have hge : n ≤ nI i := by rw [hr.1, nI_lev (by omega) (by omega)]; omega
      rw [if_pos hge, dropN (by omega), rdU_nil]
      cases q with
      | true =>
        rw [if_neg (show ¬ ((if true = true then (1 : Int32) else 0) = 0) by decide)]
        exact ⟨_, wf, w, rfl, hw⟩
      | false =>
        rw [if_pos (show ((if false = true then (1 : Int32) else 0) = 0) by decide)]
        exact ⟨t.length, wf, by rw [hr.1], hw, Nat.le_refl _, dropN (Nat.le_refl _)⟩
