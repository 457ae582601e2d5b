/-! PURE, the reference: writing -/
def RepT (f : Nat → Int32) (n : Int32) (t : List Nat) : Prop := n = nI t.length ∧ t.length ≤ 4200 ∧ (∀ i, i < t.length → f i = nI (t.getD i 0)) ∧ ∀ b ∈ t, b < 256
theorem RepT_nil (f : Nat → Int32) : RepT f 0 [] := ⟨rfl, by simp, fun i h => by simp at h, fun b h => by cases h⟩
theorem getD_app {t u : List Nat} {i : Nat} (h : i < t.length) : (t ++ u).getD i 0 = t.getD i 0 := by
  simp [List.getD_eq_getElem?_getD, List.getElem?_append_left h]
theorem getD_last (t : List Nat) (b : Nat) : (t ++ [b]).getD t.length 0 = b := by
  simp [List.getD_eq_getElem?_getD]
theorem M_put {N : Nat} {f : Nat → Int32} {t : List Nat} (h : RepT f (nI t.length) t) (hlt : t.length < 4200) {b : Nat} (hb : b < 256) : ∃ f', p_M_put N (nI t.length) f (nI b) = some (nI (t ++ [b]).length, f') ∧ RepT f' (nI (t ++ [b]).length) (t ++ [b]) := by
  obtain ⟨-, hl, hf, hbb⟩ := h
  refine ⟨upd f t.length (nI b), ?_, rfl, by rw [lenA1]; omega, fun i hi => ?_, fun c hc => ?_⟩
  · unfold p_M_put p_M_put_0
    rw [if_neg (by rw [nI_clamp (by omega)]; intro q; rcases q with q | q; exact nI_pos (by omega) q; omega), nI_clamp (by omega), nI_1, lenA1]
  · rw [lenA1] at hi
    by_cases e : i = t.length
    · subst e
      rw [pk_us, getD_last]
    · rw [pk_un e, hf i (by omega), getD_app (by omega)]
  · rcases List.mem_append.mp hc with hc | hc
    · exact hbb c hc
    · rw [List.mem_singleton.mp hc]
      exact hb
theorem M_special_t : ∀ b, b < 256 → p_M_isSpecial 0 (nI b) = some (if needs 1 b then 1 else 0) := by decide +kernel
theorem M_special {N b : Nat} (h : b < 256) : p_M_isSpecial N (nI b) = some (if needs 1 b then 1 else 0) := M_special_t b h
def anyS (l : List Nat) : Bool := l.any (needs 1)
theorem anyN_S : ∀ (l : List Nat) (i : Nat), anyN (i + 1) l = anyS l := by
  intro l
  induction l with
  | nil => intro i; rfl
  | cons b l ih => intro i; rw [anyN, needs_S, ih]; rfl
theorem needs_0 (b : Nat) : needs 0 b = (needs 1 b || b == 35) := by simp [needs]
theorem wrd_at {f : Nat → Int32} {n : Int32} {t : List Nat} (hr : Rep f n t) {i : Nat} (hi : i < t.length) : ¬ (nI i < 0 ∨ 1024 ≤ (nI i).toNatClampNeg) ∧ f (nI i).toNatClampNeg = nI (t.getD i 0) := by
  have hL := hr.2.1
  rw [nI_clamp (by omega)]
  exact ⟨fun q => q.elim (nI_pos (by omega)) (fun q => by omega), hr.2.2.1 i hi⟩
theorem M_plain_loop {N : Nat} {f : Nat → Int32} {n : Int32} {t : List Nat} (hr : Rep f n t) : ∀ (k i : Nat) (p : Bool), i ≤ t.length → t.length - i < k → p_M_isPlain_26 N n f k (if p then 1 else 0) (nI i) = some (if p && !anyS (t.drop i) then 1 else 0) := by
  have hL := hr.2.1
  intro k
  induction k with
  | zero => intro i p h1 h2; omega
  | succ k ih =>
    intro i p h1 h2
    rw [p_M_isPlain_26]
    by_cases hi : i < t.length
    · have hb := Rep_byte hr hi
      obtain ⟨g1, g2⟩ := wrd_at hr hi
      rw [if_neg (show ¬ n ≤ nI i by rw [hr.1, nI_lev (by omega) (by omega)]; omega), if_neg g1, g2, M_special hb, bS, nI_1, dropC hi]
      have e0 := ih (i + 1) false (by omega) (by omega)
      have e1 := ih (i + 1) true (by omega) (by omega)
      cases p with
      | false =>
        rw [if_pos (show (if false = true then (1 : Int32) else 0) = 0 from rfl)]
        exact e0
      | true =>
        rw [if_neg (show ¬ (if true = true then (1 : Int32) else 0) = 0 by decide)]
        show _ = some (if true && !(needs 1 (t.getD i 0) || anyS (t.drop (i + 1))) then 1 else 0)
        cases needs 1 (t.getD i 0) with
        | true =>
          rw [if_neg (show ¬ (if true = true then (1 : Int32) else 0) = 0 by decide)]
          exact e0
        | false =>
          rw [if_pos (show (if false = true then (1 : Int32) else 0) = 0 from rfl), Bool.false_or]
          exact e1
    · rw [if_pos (show n ≤ nI i by rw [hr.1, nI_lev (by omega) (by omega)]; omega), dropN (by omega)]
      cases p with
      | false => rw [if_neg (by decide)]; rfl
      | true => rw [if_neg (by decide)]; rfl
theorem M_plain {N : Nat} {f : Nat → Int32} {n : Int32} {t : List Nat} (hr : Rep f n t) (hN : 1100 ≤ N) : p_M_isPlain N n f = some (if t ≠ [] ∧ anyN 0 t = false then 1 else 0) := by
  have hL := hr.2.1
  have e0 := M_plain_loop (N := N) hr N 0 false (Nat.zero_le _) (by omega)
  have e1 := M_plain_loop (N := N) hr N 0 true (Nat.zero_le _) (by omega)
  rw [List.drop_zero] at e0 e1
  unfold p_M_isPlain p_M_isPlain_0
  cases t with
  | nil =>
    rw [if_pos (show n ≤ 0 by rw [hr.1]; decide)]
    exact e0
  | cons b l =>
    have hb : b < 256 := hr.2.2.2 b List.mem_cons_self
    have hw : f (0 : Int32).toNatClampNeg = nI b := hr.2.2.1 0 (by simp)
    rw [if_neg (show ¬ n ≤ 0 by rw [hr.1]; exact nI_nle (by simp) (by omega)), if_neg (show ¬ ((0 : Int32) < 0 ∨ 1024 ≤ (0 : Int32).toNatClampNeg) by decide), hw, show (35 : Int32) = nI 35 from rfl, iteEq (by omega) (by omega)]
    have ea : anyN 0 (b :: l) = (b == 35 || anyS (b :: l)) := by
      show (needs 0 b || anyN (0 + 1) l) = (b == 35 || (needs 1 b || anyS l))
      rw [anyN_S, needs_0]
      cases needs 1 b <;> cases b == 35 <;> rfl
    by_cases h35 : b = 35
    · rw [if_pos h35]
      refine Eq.trans e0 ?_
      rw [if_neg (show ¬ (b :: l ≠ [] ∧ anyN 0 (b :: l) = false) from fun z => by rw [ea, h35] at z; simp at z)]
      rfl
    · rw [if_neg h35]
      refine Eq.trans e1 ?_
      rw [ea, show (b == 35) = false by simpa using h35, Bool.false_or]
      cases anyS (b :: l) with
      | true => simp
      | false => simp
theorem M_br0 {N : Nat} {f : Nat → Int32} {n : Int32} {t : List Nat} (hr : Rep f n t) : ∀ (k i : Nat) (x : Int32), i ≤ t.length → t.length - i < k → p_M_isBraced_6 N n f k 0 x (nI i) = some 0 := by
  have hL := hr.2.1
  intro k
  induction k with
  | zero => intro i x h1 h2; omega
  | succ k ih =>
    intro i x h1 h2
    rw [p_M_isBraced_6]
    by_cases hi : i < t.length
    · obtain ⟨g1, g2⟩ := wrd_at hr hi
      have go : ∀ z : Int32, p_M_isBraced_46 N n f (p_M_isBraced_6 N n f k) 0 (nI i) z x = some 0 := by
        intro z
        unfold p_M_isBraced_46
        rw [if_pos rfl, nI_1]
        exact ih (i + 1) _ (by omega) (by omega)
      rw [if_neg (show ¬ n ≤ nI i by rw [hr.1, nI_lev (by omega) (by omega)]; omega), if_neg g1, if_neg g1, go, go, go]
      split
      · rfl
      · split <;> rfl
    · rw [if_pos (show n ≤ nI i by rw [hr.1, nI_lev (by omega) (by omega)]; omega), if_pos rfl]
theorem M_br_loop {N : Nat} {f : Nat → Int32} {n : Int32} {t : List Nat} (hr : Rep f n t) : ∀ (k i o : Nat), i ≤ t.length → t.length - i < k → o ≤ i → p_M_isBraced_6 N n f k 1 (nI o) (nI i) = some (if bal o (t.drop i) then 1 else 0) := by
  have hL := hr.2.1
  intro k
  induction k with
  | zero => intro i o h1 h2; omega
  | succ k ih =>
    intro i o h1 h2 h3
    rw [p_M_isBraced_6]
    by_cases hi : i < t.length
    · have hb := Rep_byte hr hi
      obtain ⟨g1, g2⟩ := wrd_at hr hi
      have z0 : ∀ x : Int32, p_M_isBraced_6 N n f k 0 x (nI (i + 1)) = some 0 := fun x => M_br0 hr k (i + 1) x (by omega) (by omega)
      rw [if_neg (show ¬ n ≤ nI i by rw [hr.1, nI_lev (by omega) (by omega)]; omega), if_neg g1, if_neg g1, g2, dropC hi, bal]
      have go : ∀ (z : Int32) (o2 : Nat), nI o + z = nI o2 → o2 ≤ i + 1 → ¬ t.getD i 0 = 92 → p_M_isBraced_46 N n f (p_M_isBraced_6 N n f k) 1 (nI i) z (nI o) = some (if bal o2 (t.drop (i + 1)) then 1 else 0) := by
        intro z o2 hz ho2 h92
        unfold p_M_isBraced_46
        rw [if_neg (show ¬ (1 : Int32) = 0 by decide), hz, if_neg (nI_pos (by omega)), if_neg g1, g2, if_neg (show ¬ nI (t.getD i 0) = (92 : Int32) from fun q => h92 ((nI_eq (b := 92) (by omega) (by omega)).mp q)), nI_1]
        exact ih (i + 1) o2 (by omega) (by omega) (by omega)
      by_cases h123 : t.getD i 0 = 123
      · rw [if_pos (show nI (t.getD i 0) = (123 : Int32) by rw [h123]; rfl), if_pos h123]
        exact go 1 (o + 1) (nI_1 o) (by omega) (by omega)
      · rw [if_neg (show ¬ nI (t.getD i 0) = (123 : Int32) from fun q => h123 ((nI_eq (b := 123) (by omega) (by omega)).mp q)), if_neg h123]
        by_cases h125 : t.getD i 0 = 125
        · rw [if_pos (show nI (t.getD i 0) = (125 : Int32) by rw [h125]; rfl), if_pos h125]
          cases o with
          | zero =>
            unfold p_M_isBraced_46
            rw [if_neg (show ¬ (1 : Int32) = 0 by decide), if_pos (show nI 0 + -1 < (0 : Int32) by decide), nI_1, z0]
            rfl
          | succ o => exact go (-1) o (pk_m1 o) (by omega) (by omega)
        · rw [if_neg (show ¬ nI (t.getD i 0) = (125 : Int32) from fun q => h125 ((nI_eq (b := 125) (by omega) (by omega)).mp q)), if_neg h125]
          by_cases h92 : t.getD i 0 = 92
          · unfold p_M_isBraced_46
            rw [if_neg (show ¬ (1 : Int32) = 0 by decide), Int32.add_zero, if_neg (nI_pos (by omega)), if_neg g1, g2, if_pos (show nI (t.getD i 0) = (92 : Int32) by rw [h92]; rfl), nI_1, z0, h92]
            rfl
          · rw [go 0 o (Int32.add_zero _) (by omega) h92]
            have : (t.getD i 0 != 92) = true := by
              generalize t.getD i 0 = b at h92 ⊢
              simpa using h92
            rw [this, Bool.true_and]
    · rw [if_pos (show n ≤ nI i by rw [hr.1, nI_lev (by omega) (by omega)]; omega), if_neg (show ¬ (1 : Int32) = 0 by decide), dropN (by omega), bal, show (0 : Int32) = nI 0 from rfl, iteEq (by omega) (by omega)]
      by_cases h0 : o = 0
      · subst h0
        rfl
      · rw [if_neg h0]
        have : (o == 0) = false := by simpa using h0
        rw [this]
        rfl
theorem M_braced {N : Nat} {f : Nat → Int32} {n : Int32} {t : List Nat} (hr : Rep f n t) (hN : 1100 ≤ N) : p_M_isBraced N n f = some (if bal 0 t then 1 else 0) := by
  have hL := hr.2.1
  have e := M_br_loop (N := N) hr N 0 0 (Nat.zero_le _) (by omega) (by omega)
  rw [List.drop_zero] at e
  exact e
/-- 'out' put behind t -/
def PT (t out : List Nat) (val : Option (Int32 × (Nat → Int32))) : Prop := ∃ f', val = some (nI (t ++ out).length, f') ∧ RepT f' (nI (t ++ out).length) (t ++ out)
theorem PT_put {N : Nat} {f : Nat → Int32} {t out : List Nat} {b : Nat} {kk : Int32 → (Nat → Int32) → Option (Int32 × (Nat → Int32))} (hr : RepT f (nI t.length) t) (hl : t.length < 4200) (hb : b < 256) (hk : ∀ f', RepT f' (nI (t ++ [b]).length) (t ++ [b]) → PT (t ++ [b]) out (kk (nI (t ++ [b]).length) f')) : PT t (b :: out) ((p_M_put N (nI t.length) f (nI b)).bind fun r => kk r.1 r.2) := by
  obtain ⟨f', e, hr'⟩ := M_put (N := N) hr hl hb
  rw [e, bS]
  obtain ⟨f2, e2, h2⟩ := hk f' hr'
  rw [List.append_assoc] at e2 h2
  exact ⟨f2, e2, h2⟩
theorem PT_nil {f : Nat → Int32} {t : List Nat} (hr : RepT f (nI t.length) t) : PT t [] (some (nI t.length, f)) := by
  unfold PT
  rw [List.append_nil]
  exact ⟨f, rfl, hr⟩
theorem M_esc23 {N : Nat} {f : Nat → Int32} {t : List Nat} {b : Nat} (hr : RepT f (nI t.length) t) (hl : t.length < 4200) (hb : b < 256) : PT t [if b = 9 then 116 else if b = 10 then 110 else if b = 11 then 118 else if b = 12 then 102 else if b = 13 then 114 else b] (p_M_escape_23 N (nI t.length) f (nI b)) := by
  unfold p_M_escape_23 p_M_escape_80
  rw [show (9 : Int32) = nI 9 from rfl, show (10 : Int32) = nI 10 from rfl, show (11 : Int32) = nI 11 from rfl, show (12 : Int32) = nI 12 from rfl, show (13 : Int32) = nI 13 from rfl, iteEq (by omega) (by omega), iteEq (by omega) (by omega), iteEq (by omega) (by omega), iteEq (by omega) (by omega), iteEq (by omega) (by omega)]
  have go : ∀ c : Nat, c < 256 → PT t [c] ((p_M_put N (nI t.length) f (nI c)).bind fun r => some (r.1, r.2)) := fun c hc => PT_put (kk := fun a f' => some (a, f')) hr hl hc (fun f' hr' => PT_nil hr')
  by_cases h9 : b = 9
  · rw [if_pos h9, if_pos h9]; exact go 116 (by omega)
  · rw [if_neg h9, if_neg h9]
    by_cases h10 : b = 10
    · rw [if_pos h10, if_pos h10]; exact go 110 (by omega)
    · rw [if_neg h10, if_neg h10]
      by_cases h11 : b = 11
      · rw [if_pos h11, if_pos h11]; exact go 118 (by omega)
      · rw [if_neg h11, if_neg h11]
        by_cases h12 : b = 12
        · rw [if_pos h12, if_pos h12]; exact go 102 (by omega)
        · rw [if_neg h12, if_neg h12]
          by_cases h13 : b = 13
          · rw [if_pos h13, if_pos h13]; exact go 114 (by omega)
          · rw [if_neg h13, if_neg h13]; exact go b hb
theorem M_esc {N : Nat} {f : Nat → Int32} {t : List Nat} {b i : Nat} (hr : RepT f (nI t.length) t) (hl : t.length + 1 < 4200) (hb : b < 256) : PT t (escB i b) (p_M_escape N (nI t.length) f (nI b) (if i = 0 then 1 else 0)) := by
  unfold p_M_escape p_M_escape_0 p_M_escape_17 escB
  rw [M_special hb, bS]
  have a := M_esc23 (N := N) hr (by omega) hb
  have c : PT t (92 :: [if b = 9 then 116 else if b = 10 then 110 else if b = 11 then 118 else if b = 12 then 102 else if b = 13 then 114 else b]) ((p_M_put N (nI t.length) f 92).bind fun r => p_M_escape_23 N r.1 r.2 (nI b)) :=
    PT_put (b := 92) (kk := fun a f' => p_M_escape_23 N a f' (nI b)) hr (by omega) (by omega) (fun f' hr' => M_esc23 hr' (by rw [lenA1]; omega) hb)
  cases h1 : needs 1 b with
  | true =>
    rw [if_neg (show ¬ (if true = true then (1 : Int32) else 0) = 0 by decide)]
    have : needs i b = true := by
      cases i with
      | zero => rw [needs_0, h1]; rfl
      | succ i => rw [needs_S, h1]
    rw [this]
    exact c
  | false =>
    rw [if_pos (show (if false = true then (1 : Int32) else 0) = 0 from rfl)]
    cases i with
    | zero =>
      rw [if_pos rfl, if_neg (show ¬ (1 : Int32) = 0 by decide), needs_0, h1, Bool.false_or, show (35 : Int32) = nI 35 from rfl, iteEq (by omega) (by omega)]
      by_cases h35 : b = 35
      · rw [if_pos h35, show (b == 35) = true by simpa using h35]
        exact c
      · rw [if_neg h35, show (b == 35) = false by simpa using h35]
        exact a
    | succ i =>
      rw [if_neg (show ¬ i + 1 = 0 by omega), if_pos rfl, needs_S, h1]
      exact a
theorem PT_bind {t a out : List Nat} {v : Option (Int32 × (Nat → Int32))} {kk : Int32 → (Nat → Int32) → Option (Int32 × (Nat → Int32))} (h : PT t a v) (hk : ∀ f', RepT f' (nI (t ++ a).length) (t ++ a) → PT (t ++ a) out (kk (nI (t ++ a).length) f')) : PT t (a ++ out) (v.bind fun r => kk r.1 r.2) := by
  obtain ⟨f', e, hr'⟩ := h
  rw [e, bS]
  obtain ⟨f2, e2, h2⟩ := hk f' hr'
  rw [List.append_assoc] at e2 h2
  exact ⟨f2, e2, h2⟩
theorem escB_len (i b : Nat) : (escB i b).length ≤ 2 := by
  unfold escB
  split <;> simp
theorem escW_len : ∀ (l : List Nat) (i : Nat), (escW i l).length ≤ 2 * l.length := by
  intro l
  induction l with
  | nil => intro i; simp [escW]
  | cons b l ih =>
    intro i
    have h1 := escB_len i b
    have h2 := ih (i + 1)
    rw [escW, List.length_append, List.length_cons]
    omega
/-- plain or braced: the word as it is -/
theorem M_w_plain {N : Nat} {ef : Nat → Int32} {en x1 : Int32} {e : List Nat} (he : Rep ef en e) (br : Bool) (hx1 : x1 = if br then 1 else 0) : ∀ (k i : Nat) (t : List Nat) (f : Nat → Int32), i ≤ e.length → e.length - i < k → t.length + (e.length - i) + 1 ≤ 4200 → RepT f (nI t.length) t → PT t (e.drop i ++ (if br then [125] else [])) (p_M_write_62 N en ef k (nI t.length) f x1 1 (nI i)) := by
  have hL := he.2.1
  intro k
  induction k with
  | zero => intro i t f h1 h2; omega
  | succ k ih =>
    intro i t f h1 h2 h3 hr
    rw [p_M_write_62]
    by_cases hi : i < e.length
    · have hb := Rep_byte he hi
      obtain ⟨g1, g2⟩ := wrd_at he hi
      rw [if_neg (show ¬ en ≤ nI i by rw [he.1, nI_lev (by omega) (by omega)]; omega), if_neg (show ¬ (1 : Int32) = 0 by decide), if_neg g1, g2, nI_1, dropC hi]
      exact PT_put (kk := fun a f' => p_M_write_62 N en ef k a f' x1 1 (nI (i + 1))) hr (by omega) hb (fun f' hr' => ih (i + 1) _ f' (by omega) (by omega) (by rw [lenA1]; omega) hr')
    · rw [if_pos (show en ≤ nI i by rw [he.1, nI_lev (by omega) (by omega)]; omega), dropN (by omega), List.nil_append, hx1]
      cases br with
      | true =>
        rw [if_neg (show ¬ (if true = true then (1 : Int32) else 0) = 0 by decide)]
        exact PT_put (b := 125) (kk := fun a f' => some (a, f')) hr (by omega) (by omega) (fun f' hr' => PT_nil hr')
      | false =>
        rw [if_pos (show (if false = true then (1 : Int32) else 0) = 0 from rfl)]
        exact PT_nil hr
theorem M_w_esc {N : Nat} {ef : Nat → Int32} {en : Int32} {e : List Nat} (he : Rep ef en e) : ∀ (k i : Nat) (t : List Nat) (f : Nat → Int32), i ≤ e.length → e.length - i < k → t.length + 2 * (e.length - i) + 2 ≤ 4200 → RepT f (nI t.length) t → PT t (escW i (e.drop i)) (p_M_write_62 N en ef k (nI t.length) f 0 0 (nI i)) := by
  have hL := he.2.1
  intro k
  induction k with
  | zero => intro i t f h1 h2; omega
  | succ k ih =>
    intro i t f h1 h2 h3 hr
    rw [p_M_write_62]
    by_cases hi : i < e.length
    · have hb := Rep_byte he hi
      obtain ⟨g1, g2⟩ := wrd_at he hi
      unfold p_M_write_103
      rw [if_neg (show ¬ en ≤ nI i by rw [he.1, nI_lev (by omega) (by omega)]; omega), if_pos rfl, if_neg g1, g2, nI_1, dropC hi, escW]
      have h5 := escB_len i (e.getD i 0)
      have q : PT t (escB i (e.getD i 0) ++ escW (i + 1) (e.drop (i + 1))) ((p_M_escape N (nI t.length) f (nI (e.getD i 0)) (if i = 0 then 1 else 0)).bind fun r => p_M_write_62 N en ef k r.1 r.2 0 0 (nI (i + 1))) :=
        PT_bind (kk := fun a f' => p_M_write_62 N en ef k a f' 0 0 (nI (i + 1))) (M_esc (N := N) hr (by omega) hb) (fun f' hr' => ih (i + 1) _ f' (by omega) (by omega) (by rw [List.length_append]; omega) hr')
      by_cases h0 : i = 0
      · rw [if_pos h0] at q
        rw [if_pos (show nI i = (0 : Int32) by rw [h0]; rfl)]
        exact q
      · rw [if_neg h0] at q
        rw [if_neg (show ¬ nI i = (0 : Int32) from nI_ne0 (by omega) (by omega))]
        exact q
    · rw [if_pos (show en ≤ nI i by rw [he.1, nI_lev (by omega) (by omega)]; omega), if_pos rfl, dropN (by omega), escW]
      exact PT_nil hr
theorem M_w13 {N : Nat} {ef f : Nat → Int32} {en : Int32} {e t : List Nat} (he : Rep ef en e) (hN : 1100 ≤ N) (hr : RepT f (nI t.length) t) (hl : t.length ≤ 2000) : PT t (wr e) (p_M_write_13 N en ef (nI t.length) f) := by
  have hL := he.2.1
  unfold p_M_write_13 p_M_write_31 p_M_write_32 p_M_write_44 p_M_write_49 wr
  rw [M_plain he hN, bS, bS, M_braced he hN, bS]
  by_cases hb : e ≠ [] ∧ anyN 0 e = false
  · rw [if_pos hb, if_pos hb, if_neg (show ¬ (1 : Int32) = 0 by decide), if_neg (show ¬ (1 : Int32) = 0 by decide), if_pos rfl]
    have q := M_w_plain (N := N) (x1 := 0) he false rfl N 0 t f (Nat.zero_le _) (by omega) (by omega) hr
    rw [List.drop_zero] at q
    show PT t e _
    have e2 : e ++ (if false = true then [125] else []) = e := List.append_nil e
    rw [e2] at q
    exact q
  · rw [if_neg hb, if_neg hb, if_pos rfl, if_pos rfl, if_pos rfl]
    cases hbal : bal 0 e with
    | true =>
      rw [if_neg (show ¬ (if true = true then (1 : Int32) else 0) = 0 by decide), if_neg (show ¬ (1 : Int32) = 0 by decide), if_pos rfl, if_neg (show ¬ (1 : Int32) = 0 by decide), List.append_assoc]
      refine PT_put (b := 123) (kk := fun a f' => p_M_write_62 N en ef N a f' 1 1 0) hr (by omega) (by omega) (fun f' hr' => ?_)
      have q := M_w_plain (N := N) (x1 := 1) he true rfl N 0 (t ++ [123]) f' (Nat.zero_le _) (by omega) (by rw [lenA1]; omega) hr'
      rw [List.drop_zero] at q
      exact q
    | false =>
      rw [if_pos (show (if false = true then (1 : Int32) else 0) = 0 from rfl), if_pos rfl, if_neg (show ¬ false = true by decide)]
      have q := M_w_esc (N := N) he N 0 t f (Nat.zero_le _) (by omega) (by omega) hr
      rw [List.drop_zero] at q
      exact q
theorem M_write {N : Nat} {ef f : Nat → Int32} {en tn : Int32} {e t : List Nat} (he : Rep ef en e) (hN : 1100 ≤ N) (hr : RepT f tn t) (hl : t.length ≤ 1024) : ∃ f', p_M_write N en tn ef f = some (nI (behind t e).length, f') ∧ RepT f' (nI (behind t e).length) (behind t e) := by
  obtain rfl := hr.1
  have eb : behind t e = t ++ ((if t = [] then [] else [32]) ++ wr e) := by unfold behind; rw [List.append_assoc]
  rw [eb]
  show PT t ((if t = [] then [] else [32]) ++ wr e) _
  unfold p_M_write p_M_write_0
  rw [show (0 : Int32) = nI 0 from rfl, iteLe (by omega) (by omega)]
  by_cases h0 : t = []
  · rw [if_pos h0, if_pos (by rw [h0]; exact Nat.le_refl _), List.nil_append]
    exact M_w13 he hN hr (by omega)
  · rw [if_neg h0, if_neg (fun z => h0 (List.length_eq_zero_iff.mp (by omega)))]
    exact PT_put (b := 32) (kk := fun a f' => p_M_write_13 N en ef a f') hr (by omega) (by omega) (fun f' hr' => M_w13 he hN hr' (by rw [lenA1]; omega))
