/-! PURE, the class's reading: small things -/
theorem bS {α β : Type} {a : α} {f : α → Option β} : (some a).bind f = f a := rfl
theorem dropC {t : List Nat} {i : Nat} (h : i < t.length) : t.drop i = t.getD i 0 :: t.drop (i + 1) := by
  rw [List.drop_eq_getElem_cons h, List.getD_eq_getElem?_getD, List.getElem?_eq_getElem h]
  rfl
theorem dropN {t : List Nat} {i : Nat} (h : t.length ≤ i) : t.drop i = [] := List.drop_eq_nil_iff.mpr h
theorem gb_lt {t : List Nat} {i : Nat} (h : i < t.length) : gb t i = nI (t.getD i 0) := if_pos h
theorem gb_ge {t : List Nat} {i : Nat} (h : t.length ≤ i) : gb t i = -1 := if_neg (by omega)
theorem nI_eqv {a b : Nat} (ha : a < 2 ^ 31) (hb : b < 2 ^ 31) : (nI a = nI b) = (a = b) := propext (nI_eq ha hb)
theorem nI_lev {a b : Nat} (ha : a < 2 ^ 31) (hb : b < 2 ^ 31) : (nI a ≤ nI b) = (a ≤ b) := propext (nI_leI ha hb)
theorem nI_ltv {a b : Nat} (ha : a < 2 ^ 31) (hb : b < 2 ^ 31) : (nI a < nI b) = (a < b) := propext (nI_ltI ha hb)
theorem iteLe {α : Type} {a b : Nat} {A B : α} (ha : a < 2 ^ 31) (hb : b < 2 ^ 31) : (if nI a ≤ nI b then A else B) = (if a ≤ b then A else B) := by
  by_cases h : a ≤ b
  · rw [if_pos h, if_pos ((nI_leI ha hb).mpr h)]
  · rw [if_neg h, if_neg (fun q => h ((nI_leI ha hb).mp q))]
theorem iteLt {α : Type} {a b : Nat} {A B : α} (ha : a < 2 ^ 31) (hb : b < 2 ^ 31) : (if nI a < nI b then A else B) = (if a < b then A else B) := by
  by_cases h : a < b
  · rw [if_pos h, if_pos ((nI_ltI ha hb).mpr h)]
  · rw [if_neg h, if_neg (fun q => h ((nI_ltI ha hb).mp q))]
theorem iteEq {α : Type} {a b : Nat} {A B : α} (ha : a < 2 ^ 31) (hb : b < 2 ^ 31) : (if nI a = nI b then A else B) = (if a = b then A else B) := by
  by_cases h : a = b
  · rw [if_pos h, if_pos ((nI_eq ha hb).mpr h)]
  · rw [if_neg h, if_neg (fun q => h ((nI_eq ha hb).mp q))]
theorem nI_neN {a : Nat} (ha : a < 2 ^ 31) : ¬ nI a = -1 := by
  intro h
  exact nI_pos ha (by rw [h]; decide)
theorem nI_neB {a : Nat} (ha : a < 2 ^ 31) : ¬ nI a = -2 := by
  intro h
  exact nI_pos ha (by rw [h]; decide)
theorem and255 {b : Nat} (hb : b < 256) : nI b &&& 255 = nI b := by
  rw [pk_andN (n := b) (by omega) (m := 255) 8 (by decide), Nat.mod_eq_of_lt hb]
theorem and255m {b : Nat} (hb : b < 2 ^ 32) : nI b &&& 255 = nI (b % 256) := by
  rw [pk_andN (n := b) hb (m := 255) 8 (by decide)]
theorem X_isNamed_t : ∀ b, b < 256 → p_X_isNamedSpace 0 (nI b) = some (if decide (9 ≤ b) && decide (b ≤ 13) then 1 else 0) := by decide +kernel
theorem X_isNamed {N b : Nat} (h : b < 256) : p_X_isNamedSpace N (nI b) = some (if decide (9 ≤ b) && decide (b ≤ 13) then 1 else 0) := X_isNamed_t b h
theorem X_isSpace_t : ∀ b, b < 256 → p_X_isSpace 0 (nI b) = some (if isSp b then 1 else 0) := by decide +kernel
theorem X_isSpace {N b : Nat} (h : b < 256) : p_X_isSpace N (nI b) = some (if isSp b then 1 else 0) := X_isSpace_t b h
theorem X_digitOf_t : ∀ b, b < 256 → p_X_digitOf 0 (nI b) = some (nI (dg b)) := by decide +kernel
theorem X_digitOf {N b : Nat} (h : b < 256) : p_X_digitOf N (nI b) = some (nI (dg b)) := X_digitOf_t b h
theorem X_digitOf_m {N : Nat} : p_X_digitOf N (-1) = some (nI 16) := (by decide +kernel : p_X_digitOf 0 (-1) = some (nI 16))
theorem dg_le (b : Nat) : dg b ≤ 16 := by
  unfold dg
  split
  · omega
  · split
    · omega
    · split <;> omega
theorem X_bs_loop {N : Nat} {f : Nat → Int32} {n : Int32} {t : List Nat} (hr : Rep f n t) : ∀ (k i : Nat), i ≤ t.length → t.length - i < k → p_X_behindSpaces_2 N n f k (nI i) = some (nI (i + ((t.drop i).takeWhile isSp).length)) := by
  have hL := hr.2.1
  intro k
  induction k with
  | zero => intro i h1 h2; omega
  | succ k ih =>
    intro i h1 h2
    rw [p_X_behindSpaces_2, R_size, bS, hr.1, iteLe (by omega) (by omega), ← hr.1]
    by_cases hi : i < t.length
    · rw [if_neg (by omega), R_byteAt hr (by omega), bS, gb_lt hi, X_isSpace (Rep_byte hr hi), bS, dropC hi, List.takeWhile_cons]
      cases hs : isSp (t.getD i 0) with
      | false => simp
      | true =>
        rw [if_neg (by decide), nI_1, ih (i + 1) (by omega) (by omega)]
        simp only [if_true, List.length_cons]
        congr 2
        omega
    · rw [if_pos (by omega), dropN (by omega)]
      simp
theorem X_behindSpaces {N : Nat} {f : Nat → Int32} {n : Int32} {t : List Nat} (hr : Rep f n t) (hN : 1100 ≤ N) {i : Nat} (hi : i ≤ t.length) : p_X_behindSpaces N n f (nI i) = some (nI (i + ((t.drop i).takeWhile isSp).length)) := by
  have hL := hr.2.1
  exact X_bs_loop hr N i hi (by omega)
theorem X_cb_loop {N : Nat} {f : Nat → Int32} {n : Int32} {t : List Nat} (hr : Rep f n t) (x : Int32) : ∀ (k i : Nat), t.length - i < k → i < 2 ^ 30 → p_X_countBlanks_2 N n f k x (nI i) = some (nI (i + ((t.drop i).takeWhile isBl).length) - x) := by
  have hL := hr.2.1
  intro k
  induction k with
  | zero => intro i h2; omega
  | succ k ih =>
    intro i h2 h3
    rw [p_X_countBlanks_2, R_size, bS, hr.1, iteLe (by omega) (by omega), ← hr.1]
    by_cases hi : i < t.length
    · rw [if_neg (by omega), R_byteAt hr (by omega), bS, bS, gb_lt hi, dropC hi, List.takeWhile_cons]
      have hb := Rep_byte hr hi
      rw [show (32 : Int32) = nI 32 from rfl, show (9 : Int32) = nI 9 from rfl, iteEq (by omega) (by omega), iteEq (by omega) (by omega), nI_1]
      by_cases h32 : t.getD i 0 = 32
      · rw [if_pos h32, ih (i + 1) (by omega) (by omega), h32]
        simp only [isBl, beq_self_eq_true, Bool.true_or, if_true, List.length_cons]
        congr 3
        omega
      · rw [if_neg h32]
        by_cases h9 : t.getD i 0 = 9
        · rw [if_pos h9, ih (i + 1) (by omega) (by omega), h9]
          simp only [isBl, beq_self_eq_true, Bool.or_true, if_true, List.length_cons]
          congr 3
          omega
        · rw [if_neg h9]
          generalize t.getD i 0 = b at h32 h9 ⊢
          simp [isBl, h32, h9]
    · rw [if_pos (by omega), dropN (by omega)]
      simp
theorem X_countBlanks {N : Nat} {f : Nat → Int32} {n : Int32} {t : List Nat} (hr : Rep f n t) (hN : 1100 ≤ N) {i : Nat} (hi : i ≤ 2000) : p_X_countBlanks N n f (nI i) = some (nI ((t.drop i).takeWhile isBl).length) := by
  have hL := hr.2.1
  have e := X_cb_loop (N := N) hr (nI i) N i (by omega) (by omega)
  unfold p_X_countBlanks p_X_countBlanks_0
  rw [e, pk_sub (by omega)]
  congr 2
  omega
theorem and255g (a : Nat) : nI a &&& 255 = nI (a % 256) := by
  rw [pk_and (nI a) (m := 255) 8 (by decide)]
  congr 1
  show (BitVec.ofNat 32 a).toNat % 2 ^ 8 = a % 256
  rw [BitVec.toNat_ofNat]
  omega
theorem X_cd_loop {N : Nat} {f : Nat → Int32} {n : Int32} {t : List Nat} (hr : Rep f n t) {i m bs : Nat} (hi : i ≤ 2000) (hm : m ≤ 16) (hbs : bs ≤ 16) : ∀ (k d : Nat), d ≤ m → m - d < k → p_X_countDigits_3 N n f k (nI i) (nI m) (nI bs) (nI d) = some (nI (d + digs bs (m - d) (t.drop (i + d)))) := by
  have hL := hr.2.1
  intro k
  induction k with
  | zero => intro d h1 h2; omega
  | succ k ih =>
    intro d h1 h2
    rw [p_X_countDigits_3, iteLe (by omega) (by omega)]
    by_cases hd : m ≤ d
    · rw [if_pos hd, show m - d = 0 by omega]
      simp [digs]
    · rw [if_neg hd, nI_add, R_byteAt hr (by omega), bS, show m - d = (m - (d + 1)) + 1 by omega]
      by_cases hlt : i + d < t.length
      · have hb := Rep_byte hr hlt
        have hdl := dg_le (t.getD (i + d) 0)
        rw [gb_lt hlt, X_digitOf hb, bS, iteLe (by omega) (by omega), dropC hlt, digs]
        by_cases hg : dg (t.getD (i + d) 0) < bs
        · rw [if_neg (by omega), if_pos hg, nI_1, ih (d + 1) (by omega) (by omega), show i + d + 1 = i + (d + 1) by omega]
          congr 2
          omega
        · rw [if_pos (by omega), if_neg hg]
          rfl
      · rw [gb_ge (by omega), X_digitOf_m, bS, iteLe (by omega) (by omega), if_pos hbs, dropN (by omega)]
        rfl
theorem X_countDigits {N : Nat} {f : Nat → Int32} {n : Int32} {t : List Nat} (hr : Rep f n t) (hN : 1100 ≤ N) {i m bs : Nat} (hi : i ≤ 2000) (hm : m ≤ 16) (hbs : bs ≤ 16) : p_X_countDigits N n f (nI i) (nI m) (nI bs) = some (nI (digs bs m (t.drop i))) := by
  have e := X_cd_loop (N := N) hr hi hm hbs N 0 (by omega) (by omega)
  rw [Nat.zero_add, Nat.add_zero, Nat.sub_zero] at e
  exact e
theorem digs_le (bs : Nat) : ∀ (m : Nat) (l : List Nat), digs bs m l ≤ m ∧ digs bs m l ≤ l.length := by
  intro m
  induction m with
  | zero => intro l; exact ⟨Nat.le_refl _, Nat.zero_le _⟩
  | succ m ih =>
    intro l
    cases l with
    | nil => exact ⟨Nat.zero_le _, Nat.zero_le _⟩
    | cons b l =>
      rw [digs]
      have := ih l
      split
      · simp; omega
      · simp
theorem X_na_loop {N : Nat} {f : Nat → Int32} {n : Int32} {t : List Nat} (hr : Rep f n t) {i c bs : Nat} (hc : i + c ≤ t.length) : ∀ (k j v : Nat), j ≤ c → c - j < k → p_X_numberAt_6 N n f k (nI i) (nI c) (nI bs) (nI v) (nI j) = some (nI (((t.drop (i + j)).take (c - j)).foldl (fun a b => a * bs + dg b) v % 256)) := by
  have hL := hr.2.1
  intro k
  induction k with
  | zero => intro j v h1 h2; omega
  | succ k ih =>
    intro j v h1 h2
    rw [p_X_numberAt_6, iteLe (by omega) (by omega)]
    by_cases hj : c ≤ j
    · rw [if_pos hj, show c - j = 0 by omega, and255g]
      simp
    · have hlt : i + j < t.length := by omega
      rw [if_neg hj, nI_add, R_byteAt hr (by omega), bS, gb_lt hlt, X_digitOf (Rep_byte hr hlt), bS, pk_mul, nI_add, nI_1, ih (j + 1) _ (by omega) (by omega), dropC hlt, show c - j = (c - (j + 1)) + 1 by omega, List.take_succ_cons, List.foldl_cons, show i + j + 1 = i + (j + 1) by omega]
theorem X_numberAt {N : Nat} {f : Nat → Int32} {n : Int32} {t : List Nat} (hr : Rep f n t) (hN : 1100 ≤ N) {i c bs : Nat} (hc : i + c ≤ t.length) : p_X_numberAt N n f (nI i) (nI c) (nI bs) = some (nI (numOf bs ((t.drop i).take c) % 256)) := by
  have hL := hr.2.1
  have e := X_na_loop (N := N) (bs := bs) hr hc N 0 0 (by omega) (by omega)
  rw [Nat.add_zero, Nat.sub_zero] at e
  exact e
