/-! THE PURE FACT: the law's loop answers 1 -/
set_option maxHeartbeats 4000000 in
set_option maxRecDepth 100000 in
theorem law_pure {N : Nat} (hN : 1100 ≤ N) {L : Nat} (hL : L ≤ 3072) {xs : Nat → Int32} : ∀ (k i : Nat) (pl s1 : Int32) (a1 : Nat → Int32) (s2 : Int32) (a2 : Nat → Int32) (s3 : Int32) (a3 : Nat → Int32) (s4 : Int32) (a4 : Nat → Int32) (s5 : Int32) (a5 : Nat → Int32) (t1 t2 t3 t4 t5 : Int32) (b1 b2 b3 b4 b5 : Nat → Int32) (tp ls it w z w2 y2 : List Nat),
    Rep a1 s1 tp → Rep a2 s2 ls → Rep a3 s3 it → Rep a4 s4 w → Rep a5 s5 z → Rep b1 t1 tp → Rep b2 t2 ls → Rep b3 t3 it → Rep b4 t4 w2 → RepT b5 t5 y2 → i ≤ L → L - i < k →
    p_L_law_18 N L xs k pl s1 a1 s2 a2 s3 a3 s4 a4 s5 a5 t1 t2 t3 t4 t5 b1 b2 b3 b4 b5 (nI i) = some 1 := by
  intro k
  induction k with
  | zero => intro i pl s1 a1 s2 a2 s3 a3 s4 a4 s5 a5 t1 t2 t3 t4 t5 b1 b2 b3 b4 b5 tp ls it w z w2 y2 hT hS hI hW hZ mT mS mI mW mX h1 h2; omega
  | succ k ih =>
    intro i pl s1 a1 s2 a2 s3 a3 s4 a4 s5 a5 t1 t2 t3 t4 t5 b1 b2 b3 b4 b5 tp ls it w z w2 y2 hT hS hI hW hZ mT mS mI mW mX h1 h2
    have e6 : nI i + (6 : Int32) = nI (i + 6) := nI_add i 6
    rw [p_L_law_18, e6]
    by_cases hend : L < i + 6
    · rw [if_pos]
      by_cases h6 : L < 6
      · exact Int32.lt_of_lt_of_le (pk_sneg (a := L) (b := 6) (by omega) h6) (nI_pos' (by omega))
      · have e7 : Int32.ofNat L - (6 : Int32) = nI (L - 6) := pk_sub (a := L) (b := 6) (by omega)
        rw [e7]
        exact (nI_ltI (by omega) (by omega)).mpr (by omega)
    · have e7 : Int32.ofNat L - (6 : Int32) = nI (L - 6) := pk_sub (a := L) (b := 6) (by omega)
      rw [e7, if_neg (fun q => absurd ((nI_ltI (by omega) (by omega)).mp q) (by omega))]
      have g0 : ¬ (nI i < 0 ∨ L ≤ (nI i).toNatClampNeg) := by
        rw [nI_clamp (by omega)]
        exact fun q => q.elim (nI_pos (by omega)) (fun q => by omega)
      have g1 : ¬ (nI i + (1 : Int32) < 0 ∨ L ≤ (nI i + (1 : Int32)).toNatClampNeg) := by
        rw [show nI i + (1 : Int32) = nI (i + 1) from nI_add i 1, nI_clamp (by omega)]
        exact fun q => q.elim (nI_pos (by omega)) (fun q => by omega)
      have g2 : ¬ (nI i + (2 : Int32) < 0 ∨ L ≤ (nI i + (2 : Int32)).toNatClampNeg) := by
        rw [show nI i + (2 : Int32) = nI (i + 2) from nI_add i 2, nI_clamp (by omega)]
        exact fun q => q.elim (nI_pos (by omega)) (fun q => by omega)
      have g3 : ¬ (nI i + (3 : Int32) < 0 ∨ L ≤ (nI i + (3 : Int32)).toNatClampNeg) := by
        rw [show nI i + (3 : Int32) = nI (i + 3) from nI_add i 3, nI_clamp (by omega)]
        exact fun q => q.elim (nI_pos (by omega)) (fun q => by omega)
      have g4 : ¬ (nI i + (4 : Int32) < 0 ∨ L ≤ (nI i + (4 : Int32)).toNatClampNeg) := by
        rw [show nI i + (4 : Int32) = nI (i + 4) from nI_add i 4, nI_clamp (by omega)]
        exact fun q => q.elim (nI_pos (by omega)) (fun q => by omega)
      have g5 : ¬ (nI i + (5 : Int32) < 0 ∨ L ≤ (nI i + (5 : Int32)).toNatClampNeg) := by
        rw [show nI i + (5 : Int32) = nI (i + 5) from nI_add i 5, nI_clamp (by omega)]
        exact fun q => q.elim (nI_pos (by omega)) (fun q => by omega)
      rw [if_neg g0]
      by_cases c0 : (xs (nI i).toNatClampNeg &&& (15 : Int32)) = (0 : Int32)
      · rw [if_pos c0]
        simp only [if_neg g1, if_neg g2, if_neg g3, if_neg g4, if_neg g5]
        obtain ⟨n1, f1, e1, q1⟩ := X_feed (N := N) hT (xs (nI i + (1 : Int32)).toNatClampNeg) (xs (nI i + (2 : Int32)).toNatClampNeg) (xs (nI i + (3 : Int32)).toNatClampNeg) (xs (nI i + (4 : Int32)).toNatClampNeg) (xs (nI i + (5 : Int32)).toNatClampNeg)
        obtain ⟨n2, f2, e2, q2⟩ := M_feed (N := N) mT hN (xs (nI i + (1 : Int32)).toNatClampNeg) (xs (nI i + (2 : Int32)).toNatClampNeg) (xs (nI i + (3 : Int32)).toNatClampNeg) (xs (nI i + (4 : Int32)).toNatClampNeg) (xs (nI i + (5 : Int32)).toNatClampNeg)
        rw [e1, bS]
        dsimp only
        rw [e2, bS]
        dsimp only
        rw [if_pos rfl]
        exact ih (i + 6) _ _ _ _ _ _ _ _ _ _ _ _ _ _ _ _ _ _ _ _ _ _ _ _ _ _ _ _ q1 hS hI hW hZ q2 mS mI mW mX (by omega) (by omega)
      rw [if_neg c0]
      by_cases c1 : (xs (nI i).toNatClampNeg &&& (15 : Int32)) = (1 : Int32)
      · rw [if_pos c1]
        simp only [if_neg g1]
        obtain ⟨n1, e1, q1⟩ := X_end (N := N) hT (xs (nI i + (1 : Int32)).toNatClampNeg)
        obtain ⟨n2, e2, q2⟩ := M_end (N := N) mT (xs (nI i + (1 : Int32)).toNatClampNeg)
        rw [e1, bS]
        dsimp only
        rw [e2, bS]
        dsimp only
        rw [if_pos rfl]
        exact ih (i + 6) _ _ _ _ _ _ _ _ _ _ _ _ _ _ _ _ _ _ _ _ _ _ _ _ _ _ _ _ q1 hS hI hW hZ q2 mS mI mW mX (by omega) (by omega)
      rw [if_neg c1]
      by_cases c2 : (xs (nI i).toNatClampNeg &&& (15 : Int32)) = (2 : Int32)
      · rw [if_pos c2]
        obtain ⟨f1, e1, q1⟩ := X_list (N := N) (f := a2) (n := s2) hT
        obtain ⟨f2, e2, q2⟩ := M_list (N := N) (g := b2) (z := t2) mT hN
        rw [e1, bS]
        dsimp only
        rw [e2, bS]
        dsimp only
        rw [if_pos rfl]
        exact ih (i + 6) _ _ _ _ _ _ _ _ _ _ _ _ _ _ _ _ _ _ _ _ _ _ _ _ _ _ _ _ (Rep_nil a1) q1 hI hW hZ (Rep_nil b1) q2 mI mW mX (by omega) (by omega)
      rw [if_neg c2]
      by_cases c3 : (xs (nI i).toNatClampNeg &&& (15 : Int32)) = (3 : Int32)
      · rw [if_pos c3]
        obtain ⟨f1, e1, q1⟩ := X_item (N := N) (f := a3) (n := s3) hT
        obtain ⟨f2, e2, q2⟩ := M_item (N := N) (g := b3) (z := t3) mT hN
        rw [e1, bS]
        dsimp only
        rw [e2, bS]
        dsimp only
        rw [if_pos rfl]
        exact ih (i + 6) _ _ _ _ _ _ _ _ _ _ _ _ _ _ _ _ _ _ _ _ _ _ _ _ _ _ _ _ (Rep_nil a1) hS q1 hW hZ (Rep_nil b1) mS q2 mW mX (by omega) (by omega)
      rw [if_neg c3]
      by_cases c4 : (xs (nI i).toNatClampNeg &&& (15 : Int32)) = (4 : Int32)
      · rw [if_pos c4]
        obtain ⟨p1, n1, f1, w1, e1, q1⟩ := X_count (N := N) (pl0 := pl) hS hN hW
        have e2 := M_count (N := N) (wf := b4) (wn := t4) mS hN
        rw [e1, bS]
        dsimp only
        rw [e2, bS]
        dsimp only
        rw [if_pos rfl]
        exact ih (i + 6) _ _ _ _ _ _ _ _ _ _ _ _ _ _ _ _ _ _ _ _ _ _ _ _ _ _ _ _ hT hS hI q1 hZ mT mS mI mW mX (by omega) (by omega)
      rw [if_neg c4]
      by_cases c5 : (xs (nI i).toNatClampNeg &&& (15 : Int32)) = (5 : Int32)
      · rw [if_pos c5]
        simp only [if_neg g1]
        obtain ⟨p1, n1, m1, f1, g1', w1, e1, q1, r1⟩ := X_element (N := N) (pl0 := pl) hS hN hW hI (xs (nI i + (1 : Int32)).toNatClampNeg)
        obtain ⟨n2, m2, f2, g2', w2', e2, q2, r2⟩ := M_element (N := N) mS hN mW mI (xs (nI i + (1 : Int32)).toNatClampNeg)
        rw [e1, bS]
        dsimp only
        rw [e2, bS]
        dsimp only
        rw [if_pos rfl]
        exact ih (i + 6) _ _ _ _ _ _ _ _ _ _ _ _ _ _ _ _ _ _ _ _ _ _ _ _ _ _ _ _ hT hS q1 r1 hZ mT mS q2 r2 mX (by omega) (by omega)
      rw [if_neg c5]
      by_cases c6 : (xs (nI i).toNatClampNeg &&& (15 : Int32)) = (6 : Int32)
      · rw [if_pos c6]
        obtain ⟨n1, f1, e1, q1⟩ := X_append (N := N) hS hI hN
        obtain ⟨n2, m2, o2, f2, g2', k2, w2', y2', e2, q2, r2, u2⟩ := M_append (N := N) (wf := b4) (txf := b5) (wn := t4) (txn := t5) mS mI hN
        rw [e1, bS]
        dsimp only
        rw [e2, bS]
        dsimp only
        rw [if_pos rfl]
        exact ih (i + 6) _ _ _ _ _ _ _ _ _ _ _ _ _ _ _ _ _ _ _ _ _ _ _ _ _ _ _ _ hT q1 hI hW hZ mT q2 mI r2 u2 (by omega) (by omega)
      rw [if_neg c6]
      by_cases c7 : (xs (nI i).toNatClampNeg &&& (15 : Int32)) = (7 : Int32)
      · rw [if_pos c7]
        obtain ⟨p1, n1, m1, o1, f1, g1', k1, w1, z1, e1, q1, r1, u1⟩ := X_again (N := N) (pl0 := pl) hS hN hW hZ
        obtain ⟨n2, m2, o2, f2, g2', k2, w2', y2', e2, q2, r2, u2⟩ := M_again (N := N) mS hN mW mX
        rw [e1, bS]
        dsimp only
        rw [e2, bS]
        dsimp only
        rw [if_pos rfl]
        exact ih (i + 6) _ _ _ _ _ _ _ _ _ _ _ _ _ _ _ _ _ _ _ _ _ _ _ _ _ _ _ _ hT q1 hI r1 u1 mT q2 mI r2 u2 (by omega) (by omega)
      rw [if_neg c7]
      by_cases c8 : (xs (nI i).toNatClampNeg &&& (15 : Int32)) = (8 : Int32)
      · rw [if_pos c8]
        obtain ⟨f1, e1, q1⟩ := X_wrap (N := N) (f := a3) (n := s3) hS
        obtain ⟨f2, e2, q2⟩ := M_wrap (N := N) (g := b3) (z := t3) mS hN
        rw [e1, bS]
        dsimp only
        rw [e2, bS]
        dsimp only
        rw [if_pos rfl]
        exact ih (i + 6) _ _ _ _ _ _ _ _ _ _ _ _ _ _ _ _ _ _ _ _ _ _ _ _ _ _ _ _ hT (Rep_nil a2) q1 hW hZ mT (Rep_nil b2) q2 mW mX (by omega) (by omega)
      rw [if_neg c8]
      by_cases c9 : (xs (nI i).toNatClampNeg &&& (15 : Int32)) = (9 : Int32)
      · rw [if_pos c9]
        simp only [if_neg g1]
        have e1 := X_listAt (N := N) hS (xs (nI i + (1 : Int32)).toNatClampNeg)
        have e2 := M_listAt (N := N) mS (xs (nI i + (1 : Int32)).toNatClampNeg)
        rw [e1, bS, e2, bS]
        rw [if_pos rfl]
        exact ih (i + 6) _ _ _ _ _ _ _ _ _ _ _ _ _ _ _ _ _ _ _ _ _ _ _ _ _ _ _ _ hT hS hI hW hZ mT mS mI mW mX (by omega) (by omega)
      rw [if_neg c9]
      by_cases c10 : (xs (nI i).toNatClampNeg &&& (15 : Int32)) = (10 : Int32)
      · rw [if_pos c10]
        simp only [if_neg g1]
        have e1 := X_itemAt (N := N) hI (xs (nI i + (1 : Int32)).toNatClampNeg)
        have e2 := M_itemAt (N := N) mI (xs (nI i + (1 : Int32)).toNatClampNeg)
        rw [e1, bS, e2, bS]
        rw [if_pos rfl]
        exact ih (i + 6) _ _ _ _ _ _ _ _ _ _ _ _ _ _ _ _ _ _ _ _ _ _ _ _ _ _ _ _ hT hS hI hW hZ mT mS mI mW mX (by omega) (by omega)
      rw [if_neg c10]
      exact ih (i + 6) _ _ _ _ _ _ _ _ _ _ _ _ _ _ _ _ _ _ _ _ _ _ _ _ _ _ _ _ hT hS hI hW hZ mT mS mI mW mX (by omega) (by omega)
theorem fuN_ok : 1100 ≤ fuN := by decide
theorem pure_main (L : Nat) (xs : Nat → Int32) (hL : L ≤ 3072) : p_L_law_18 fuN L xs fuN 0 0 (fun _ => 0) 0 (fun _ => 0) 0 (fun _ => 0) 0 (fun _ => 0) 0 (fun _ => 0) 0 0 0 0 0 (fun _ => 0) (fun _ => 0) (fun _ => 0) (fun _ => 0) (fun _ => 0) 0 = some 1 :=
  law_pure fuN_ok hL fuN 0 0 0 _ 0 _ 0 _ 0 _ 0 _ 0 0 0 0 0 _ _ _ _ _ [] [] [] [] [] [] [] (Rep_nil _) (Rep_nil _) (Rep_nil _) (Rep_nil _) (Rep_nil _) (Rep_nil _) (Rep_nil _) (Rep_nil _) (Rep_nil _) (RepT_nil _) (Nat.zero_le _) (by unfold fuN; omega)
