/-! PURE, the class's reading: words -/
theorem R_putB {N : Nat} {f : Nat → Int32} {t : List Nat} (h : Rep f (nI t.length) t) (hlt : t.length < 1024) {b : Nat} (hb : b < 256) : ∃ f', p_R_put N (nI t.length) f (nI b) = some (1, nI (t ++ [b]).length, f') ∧ Rep f' (nI (t ++ [b]).length) (t ++ [b]) := R_put h hlt (nI b) (and255 hb) hb
theorem lenA1 (w : List Nat) (b : Nat) : (w ++ [b]).length = w.length + 1 := by simp
/-- what readBraced comes to -/
def RB (t : List Nat) (res : Option (List Nat × List Nat)) (val : Option (Int32 × Int32 × (Nat → Int32))) : Prop :=
  match res with
  | none => ∃ (wn : Int32) (wf : Nat → Int32) (w : List Nat), val = some (-2, wn, wf) ∧ Rep wf wn w
  | some x => ∃ (j : Nat) (wf : Nat → Int32), val = some (nI j, nI x.1.length, wf) ∧ Rep wf (nI x.1.length) x.1 ∧ j < t.length ∧ t.drop (j + 1) = x.2
theorem X_rb_48 {N : Nat} {f : Nat → Int32} {n : Int32} {t : List Nat} (hr : Rep f n t) {kk : Int32 → (Nat → Int32) → Int32 → Int32 → Option (Int32 × Int32 × (Nat → Int32))} {i o b : Nat} {w : List Nat} {wf : Nat → Int32} (ho : 1 ≤ o) (ho2 : o < 2 ^ 30) (hi : i < t.length) (hb : b < 256) (h92 : ¬ b = 92) (hwl : w.length ≤ i) (hw : Rep wf (nI w.length) w) : ∃ f', Rep f' (nI (w ++ [b]).length) (w ++ [b]) ∧ p_X_readBraced_48 N n f kk (nI w.length) wf (nI o) (nI i) (nI b) = kk (nI (w ++ [b]).length) f' (nI o) (nI (i + 1)) := by
  have hL := hr.2.1
  obtain ⟨f', e, hw'⟩ := R_putB (N := N) hw (by omega) hb
  refine ⟨f', hw', ?_⟩
  unfold p_X_readBraced_48
  rw [if_neg (nI_ne0 (by omega) (by omega)), e, bS, show (92 : Int32) = nI 92 from rfl, iteEq (by omega) (by omega), if_neg h92, nI_1]
theorem X_rb_loop {N : Nat} {f : Nat → Int32} {n : Int32} {t : List Nat} (hr : Rep f n t) : ∀ (k i o : Nat) (w : List Nat) (wf : Nat → Int32), i ≤ t.length → t.length - i < k → 1 ≤ o → o ≤ i + 1 → w.length ≤ i → Rep wf (nI w.length) w → RB t (rdB o w (t.drop i)) (p_X_readBraced_4 N n f k (nI w.length) wf (nI o) (nI i)) := by
  have hL := hr.2.1
  intro k
  induction k with
  | zero => intro i o w wf h1 h2; omega
  | succ k ih =>
    intro i o w wf h1 h2 ho ho2 hwl hw
    rw [p_X_readBraced_4, R_size, bS, hr.1, iteLe (by omega) (by omega), ← hr.1]
    by_cases hi : i < t.length
    · rw [if_neg (by omega), R_byteAt hr (by omega), bS, gb_lt hi, dropC hi, rdB_cons]
      have hb := Rep_byte hr hi
      generalize t.getD i 0 = b at hb ⊢
      rw [show (123 : Int32) = nI 123 from rfl, show (125 : Int32) = nI 125 from rfl, iteEq (by omega) (by omega), iteEq (by omega) (by omega)]
      by_cases h123 : b = 123
      · rw [if_pos h123, if_pos h123, nI_1]
        obtain ⟨f', hw', e⟩ := X_rb_48 (N := N) hr (kk := p_X_readBraced_4 N n f k) (o := o + 1) (by omega) (by omega) hi hb (by omega) hwl hw
        rw [e]
        exact ih (i + 1) (o + 1) (w ++ [b]) f' (by omega) (by omega) (by omega) (by omega) (by rw [lenA1]; omega) hw'
      · rw [if_neg h123, if_neg h123]
        by_cases h125 : b = 125
        · rw [if_pos h125, if_pos h125, sb_m1 (by omega)]
          by_cases h1o : o = 1
          · subst h1o
            rw [if_pos rfl]
            unfold p_X_readBraced_48
            rw [if_pos (show nI (1 - 1) = 0 from rfl)]
            exact ⟨i, wf, rfl, hw, hi, rfl⟩
          · rw [if_neg h1o]
            obtain ⟨f', hw', e⟩ := X_rb_48 (N := N) hr (kk := p_X_readBraced_4 N n f k) (o := o - 1) (by omega) (by omega) hi hb (by omega) hwl hw
            rw [e]
            exact ih (i + 1) (o - 1) (w ++ [b]) f' (by omega) (by omega) (by omega) (by omega) (by rw [lenA1]; omega) hw'
        · rw [if_neg h125, if_neg h125]
          by_cases h92 : b = 92
          · rw [if_pos h92]
            unfold p_X_readBraced_48
            obtain ⟨f', e, hw'⟩ := R_putB (N := N) hw (by omega) hb
            rw [if_neg (nI_ne0 (by omega) (by omega)), e, bS, show (92 : Int32) = nI 92 from rfl, iteEq (by omega) (by omega), if_pos h92, R_size, bS, hr.1, nI_1, iteLe (by omega) (by omega), ← hr.1]
            by_cases hi2 : i + 1 < t.length
            · have hb2 := Rep_byte hr hi2
              rw [if_neg (by omega), R_byteAt hr (by omega), bS, gb_lt hi2, dropC hi2]
              generalize t.getD (i + 1) 0 = b2 at hb2 ⊢
              obtain ⟨f2, e2, hw2⟩ := R_putB (N := N) hw' (by rw [lenA1]; omega) hb2
              rw [e2, bS, nI_1]
              rw [List.append_assoc] at hw2 ⊢
              exact ih (i + 1 + 1) o (w ++ [b, b2]) f2 (by omega) (by omega) ho (by omega) (by simp; omega) hw2
            · have e3 : t.drop (i + 1) = [] := dropN (by omega)
              rw [if_pos (by omega), e3]
              have q := ih (i + 1) o (w ++ [b]) f' (by omega) (by omega) ho (by omega) (by rw [lenA1]; omega) hw'
              rw [e3, rdB_nil] at q
              exact q
          · rw [if_neg h92]
            obtain ⟨f', hw', e⟩ := X_rb_48 (N := N) hr (kk := p_X_readBraced_4 N n f k) ho (by omega) hi hb h92 hwl hw
            rw [e]
            exact ih (i + 1) o (w ++ [b]) f' (by omega) (by omega) (by omega) (by omega) (by rw [lenA1]; omega) hw'
    · rw [if_pos (by omega), dropN (by omega), rdB_nil]
      exact ⟨_, wf, w, rfl, hw⟩
