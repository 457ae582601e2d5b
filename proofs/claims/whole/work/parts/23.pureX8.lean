/-! bits (out of kit/laws/BITS.to-paste) -/
def bt (x : Int32) (i : Nat) : Bool := x.toBitVec.getLsbD i
theorem b_ext {x y : Int32} (h : ∀ i, i < 32 → bt x i = bt y i) : x = y := Int32.toBitVec_inj.mp (BitVec.eq_of_getLsbD_eq (fun i hi => h i hi))
theorem b_and (x y : Int32) (i : Nat) : bt (x &&& y) i = (bt x i && bt y i) := by unfold bt; rw [Int32.toBitVec_and, BitVec.getLsbD_and]
theorem b_big {x : Int32} {i : Nat} (h : 32 ≤ i) : bt x i = false := BitVec.getLsbD_of_ge _ _ h
theorem b_255 (i : Nat) : bt 255 i = decide (i < 8) := by
  rcases Nat.lt_or_ge i 32 with h | h
  · exact (by decide +kernel : ∀ i, i < 32 → bt 255 i = decide (i < 8)) i h
  · rw [b_big h, decide_eq_false (by omega)]
theorem s_l : ∀ n, n < 32 → ((nI n &&& 31).toBitVec.smod 32).toNat = n := by decide +kernel
theorem s_u : ∀ n, n < 32 → (((nI n).toUInt32 &&& Int32.toUInt32 31).toBitVec % 32).toNat = n := by decide +kernel
theorem b_ushr (n : Nat) (hn : n < 32) (x : Int32) (i : Nat) : bt ((x.toUInt32 >>> ((nI n).toUInt32 &&& Int32.toUInt32 31)).toInt32) i = bt x (n + i) := by
  show (x.toUInt32 >>> ((nI n).toUInt32 &&& Int32.toUInt32 31)).toBitVec.getLsbD i = x.toUInt32.toBitVec.getLsbD (n + i)
  rw [UInt32.toBitVec_shiftRight]
  show (x.toUInt32.toBitVec >>> (((nI n).toUInt32 &&& Int32.toUInt32 31).toBitVec % 32).toNat).getLsbD i = _
  rw [s_u n hn, BitVec.getLsbD_ushiftRight]
theorem b_sshr (n : Nat) (hn : n < 32) (x : Int32) {i : Nat} (hi : i < 32) : bt (x >>> (nI n &&& 31)) i = if n + i < 32 then bt x (n + i) else bt x 31 := by
  unfold bt
  rw [Int32.toBitVec_shiftRight]
  show (x.toBitVec.sshiftRight ((nI n &&& 31).toBitVec.smod 32).toNat).getLsbD i = _
  rw [s_l n hn, BitVec.getLsbD_sshiftRight, BitVec.msb_eq_getLsbD_last]
  simp [hi]
/-! PURE, the class: bytes of a number, feed, end .. again -/
def byk (s : Nat) (x : Int32) : Nat := x.toBitVec.toNat / 2 ^ s % 256
theorem byk_lt (s : Nat) (x : Int32) : byk s x < 256 := Nat.mod_lt _ (by omega)
theorem ushr_byte (s : Nat) (hs : s < 32) (x : Int32) : (x.toUInt32 >>> ((nI s).toUInt32 &&& Int32.toUInt32 31)).toInt32 &&& 255 = nI (byk s x) := by
  rw [pk_and _ (m := 255) 8 (by decide), pk_ushr x (nI s) s (s_u s hs)]
  rfl
theorem sshr_byte (s : Nat) (hs : s ≤ 24) (x : Int32) : (x >>> (nI s &&& 31)) &&& 255 = nI (byk s x) := by
  rw [← ushr_byte s (by omega) x]
  refine b_ext (fun i hi => ?_)
  rw [b_and, b_and, b_255, b_ushr s (by omega), b_sshr s (by omega) x hi]
  by_cases h8 : i < 8
  · rw [if_pos (by omega)]
  · rw [decide_eq_false h8, Bool.and_false, Bool.and_false]
theorem and_byte (x : Int32) : x &&& 255 = nI (byk 0 x) := by
  rw [pk_and _ (m := 255) 8 (by decide)]
  unfold byk
  rw [Nat.pow_zero, Nat.div_one]
def by4 (x : Int32) : List Nat := [byk 24 x, byk 16 x, byk 8 x, byk 0 x]
theorem R_putNumber {N : Nat} {f : Nat → Int32} {t : List Nat} (hr : Rep f (nI t.length) t) (hl : t.length + 4 ≤ 1024) (x : Int32) : ∃ f', p_R_putNumber N (nI t.length) f x = some (nI (t ++ by4 x).length, f') ∧ Rep f' (nI (t ++ by4 x).length) (t ++ by4 x) := by
  unfold p_R_putNumber p_R_putNumber_0
  obtain ⟨f1, e1, h1⟩ := R_put (N := N) hr (by omega) _ (ushr_byte 24 (by omega) x) (byk_lt _ _)
  rw [show (24 : Int32) = nI 24 from rfl, e1, bS]
  dsimp only
  obtain ⟨f2, e2, h2⟩ := R_put (N := N) h1 (by simp; omega) _ (ushr_byte 16 (by omega) x) (byk_lt _ _)
  rw [show (16 : Int32) = nI 16 from rfl, e2, bS]
  dsimp only
  obtain ⟨f3, e3, h3⟩ := R_put (N := N) h2 (by simp; omega) _ (ushr_byte 8 (by omega) x) (byk_lt _ _)
  rw [show (8 : Int32) = nI 8 from rfl, e3, bS]
  dsimp only
  obtain ⟨f4, e4, h4⟩ := R_put (N := N) h3 (by simp; omega) _ (and_byte x) (byk_lt _ _)
  rw [e4, bS]
  dsimp only
  have e5 : t ++ [byk 24 x] ++ [byk 16 x] ++ [byk 8 x] ++ [byk 0 x] = t ++ by4 x := by simp [by4]
  rw [e5] at h4 ⊢
  exact ⟨f4, rfl, h4⟩
def fdA (t : List Nat) (a b c d e : Int32) : Int32 × List Nat := if t.length + 20 ≤ 1024 then (1, t ++ by4 a ++ by4 b ++ by4 c ++ by4 d ++ by4 e) else (0, t)
theorem by4_len (x : Int32) : (by4 x).length = 4 := rfl
theorem X_feed {N : Nat} {f : Nat → Int32} {n : Int32} {t : List Nat} (hr : Rep f n t) (a b c d e : Int32) : ∃ (n' : Int32) (f' : Nat → Int32), p_X_feed N n f a b c d e = some ((fdA t a b c d e).1, n', f') ∧ Rep f' n' (fdA t a b c d e).2 := by
  have hL := hr.2.1
  unfold p_X_feed p_X_feed_0 fdA
  obtain rfl := hr.1
  rw [R_size, bS, show (1004 : Int32) = nI 1004 from rfl, iteLe (by omega) (by omega)]
  by_cases hl : t.length ≤ 1004
  · rw [if_pos hl, if_pos (show t.length + 20 ≤ 1024 by omega)]
    obtain ⟨f1, e1, h1⟩ := R_putNumber (N := N) hr (by omega) a
    obtain ⟨f2, e2, h2⟩ := R_putNumber (N := N) h1 (by simp only [List.length_append, by4_len]; omega) b
    obtain ⟨f3, e3, h3⟩ := R_putNumber (N := N) h2 (by simp only [List.length_append, by4_len]; omega) c
    obtain ⟨f4, e4, h4⟩ := R_putNumber (N := N) h3 (by simp only [List.length_append, by4_len]; omega) d
    obtain ⟨f5, e5, h5⟩ := R_putNumber (N := N) h4 (by simp only [List.length_append, by4_len]; omega) e
    rw [e1, bS]
    dsimp only
    rw [e2, bS]
    dsimp only
    rw [e3, bS]
    dsimp only
    rw [e4, bS]
    dsimp only
    rw [e5, bS]
    exact ⟨_, f5, rfl, h5⟩
  · rw [if_neg hl, if_neg (show ¬ t.length + 20 ≤ 1024 by omega)]
    exact ⟨_, f, rfl, hr⟩
def enA (t : List Nat) (x : Int32) : Int32 × List Nat := if x < 0 ∨ nI t.length < x then (0, t) else (1, t.take x.toNatClampNeg)
theorem X_end {N : Nat} {f : Nat → Int32} {n : Int32} {t : List Nat} (hr : Rep f n t) (x : Int32) : ∃ n' : Int32, p_X_end N n x = some ((enA t x).1, n') ∧ Rep f n' (enA t x).2 := by
  have hL := hr.2.1
  unfold p_X_end p_X_end_0 enA
  by_cases hx : x < 0 ∨ nI t.length < x
  · rw [if_pos hx, R_cutTo_no hr hx, bS]
    exact ⟨n, rfl, hr⟩
  · rw [if_neg hx]
    obtain ⟨j, hj, rfl⟩ := nI_of (fun z => hx (Or.inl z))
    have hjl : j ≤ t.length := by
      rcases Nat.lt_or_ge t.length j with z | z
      · exact absurd (Or.inr ((nI_ltI (by omega) hj).mpr z)) hx
      · exact z
    rw [R_cutTo hr hjl, bS, nI_clamp hj]
    exact ⟨nI j, rfl, Rep_take hr hjl⟩
theorem X_list {N : Nat} {f g : Nat → Int32} {n k : Int32} {tp : List Nat} (ht : Rep g k tp) : ∃ f', p_X_list N k g n f = some (nI tp.length, 0, nI tp.length, f') ∧ Rep f' (nI tp.length) tp := by
  obtain ⟨f', e, h⟩ := R_takeAll (N := N) (f := f) (n := n) ht
  unfold p_X_list p_X_list_0
  rw [e, bS]
  exact ⟨f', rfl, h⟩
theorem X_item {N : Nat} {f g : Nat → Int32} {n k : Int32} {tp : List Nat} (ht : Rep g k tp) : ∃ f', p_X_item N k g n f = some (nI tp.length, 0, nI tp.length, f') ∧ Rep f' (nI tp.length) tp := by
  obtain ⟨f', e, h⟩ := R_takeAll (N := N) (f := f) (n := n) ht
  unfold p_X_item p_X_item_0
  rw [e, bS]
  exact ⟨f', rfl, h⟩
theorem X_wrap {N : Nat} {f g : Nat → Int32} {n k : Int32} {t : List Nat} (ht : Rep g k t) : ∃ f', p_X_wrap N k g n f = some (nI t.length, 0, nI t.length, f') ∧ Rep f' (nI t.length) t := by
  obtain ⟨f', e, h⟩ := R_takeAll (N := N) (f := f) (n := n) ht
  unfold p_X_wrap p_X_wrap_0
  rw [e, bS]
  exact ⟨f', rfl, h⟩
/-- byte x of a text -/
def atA (t : List Nat) (x : Int32) : Int32 := if x < 0 ∨ nI t.length ≤ x then -1 else nI (t.getD x.toNatClampNeg 0)
theorem R_at {N : Nat} {f : Nat → Int32} {n : Int32} {t : List Nat} (hr : Rep f n t) (x : Int32) : p_R_byteAt N n f x = some (atA t x) := by
  have hL := hr.2.1
  unfold atA
  rcases pk_ix x (n := t.length) (by omega) with h | h | ⟨j, hj, rfl⟩
  · rw [if_pos (Or.inl h), R_byteAt_neg h]
  · rw [if_pos (Or.inr h)]
    by_cases h0 : x < 0
    · rw [R_byteAt_neg h0]
    · obtain ⟨j, hj, rfl⟩ := nI_of h0
      rw [R_byteAt hr hj, gb_ge ((nI_leI (by omega) hj).mp h)]
  · rw [R_byteAt hr (by omega), gb_lt hj, if_neg (fun z => z.elim (nI_pos (by omega)) (fun z => absurd ((nI_leI (by omega) (by omega)).mp z) (by omega))), nI_clamp (by omega)]
theorem X_listAt {N : Nat} {f : Nat → Int32} {n : Int32} {t : List Nat} (hr : Rep f n t) (x : Int32) : p_X_listAt N n f x = some (atA t x) := by
  unfold p_X_listAt p_X_listAt_0
  rw [R_at hr, bS]
theorem X_itemAt {N : Nat} {f : Nat → Int32} {n : Int32} {t : List Nat} (hr : Rep f n t) (x : Int32) : p_X_itemAt N n f x = some (atA t x) := by
  unfold p_X_itemAt p_X_itemAt_0
  rw [R_at hr, bS]
def apA (t it : List Nat) : Int32 × List Nat := if (behind t it).length ≤ 1024 then (nI (behind t it).length, behind t it) else (-3, t)
theorem X_append {N : Nat} {f itf : Nat → Int32} {n itn : Int32} {t it : List Nat} (hr : Rep f n t) (hit : Rep itf itn it) (hN : 1100 ≤ N) : ∃ (n' : Int32) (f' : Nat → Int32), p_X_append N n f itn itf = some ((apA t it).1, n', f') ∧ Rep f' n' (apA t it).2 := by
  have hL := hr.2.1
  have q := X_writeBehind (N := N) hr hit hN
  unfold p_X_append p_X_append_0 apA
  rw [R_size, bS]
  have eb : behind t it = t ++ ((if t = [] then [] else [32]) ++ wr it) := by unfold behind; rw [List.append_assoc]
  rw [eb]
  unfold RW at q
  by_cases hl : (t ++ ((if t = [] then [] else [32]) ++ wr it)).length ≤ 1024
  · rw [if_pos hl] at q ⊢
    obtain ⟨f', e, hr'⟩ := q
    rw [e, bS]
    dsimp only
    rw [if_neg (show ¬ (1 : Int32) = 0 by decide), R_size, bS]
    exact ⟨_, f', rfl, hr'⟩
  · rw [if_neg hl] at q ⊢
    obtain ⟨n', f', u, e, hr'⟩ := q
    rw [e, bS]
    dsimp only
    rw [if_pos rfl, hr.1, R_cutTo hr' (by simp), bS]
    have h2 := Rep_take hr' (k := t.length) (by simp)
    rw [List.take_left' rfl] at h2
    exact ⟨_, f', rfl, h2⟩
/-- the elements written one behind the other, while all fit -/
def agn : List Nat → List (List Nat) → Option (List Nat)
  | z, [] => some z
  | z, e :: es => if (behind z e).length ≤ 1024 then agn (behind z e) es else none
def agB (t z : List Nat) (es : List (List Nat)) : Int32 × List Nat := match agn z es with
  | none => (-3, t)
  | some y => (nI y.length, y)
def agA (t : List Nat) : Int32 × List Nat := match elems t with
  | none => (-2, t)
  | some es => agB t [] es
theorem X_ag_loop {N : Nat} {f : Nat → Int32} {n : Int32} {t : List Nat} (hr : Rep f n t) (hN : 1100 ≤ N) {c : Nat} (hc : c ≤ 2000) : ∀ (k m i : Nat) (es : List (List Nat)) (wn zn : Int32) (wf zf : Nat → Int32) (w z : List Nat), Rep wf wn w → Rep zf zn z → elems (t.drop i) = some es → i ≤ t.length → m + es.length = c → es.length + 1 ≤ k →
    ∃ (pl n' wn' zn' : Int32) (f' wf' zf' : Nat → Int32) (w' z' : List Nat), p_X_again_30 N k (nI i) n f wn wf zn zf (nI c) (nI m) = some ((agB t z es).1, pl, n', f', wn', wf', zn', zf') ∧ Rep f' n' (agB t z es).2 ∧ Rep wf' wn' w' ∧ Rep zf' zn' z' := by
  have hL := hr.2.1
  intro k
  induction k with
  | zero => intro m i es wn zn wf zf w z hw hz he hi h1 h2; omega
  | succ k ih =>
    intro m i es wn zn wf zf w z hw hz he hi h1 h2
    rw [p_X_again_30, iteLe (by omega) (by omega)]
    cases es with
    | nil =>
      simp only [List.length_nil] at h1
      rw [if_pos (show c ≤ m by omega)]
      obtain ⟨f', e, hr'⟩ := R_takeAll (N := N) (f := f) (n := n) hz
      rw [e, bS]
      exact ⟨_, _, _, _, f', wf, zf, w, [], rfl, hr', hw, Rep_nil zf⟩
    | cons e es =>
      simp only [List.length_cons] at h1 h2
      rw [if_neg (show ¬ c ≤ m by omega)]
      obtain ⟨r, hn, he2⟩ := elems_cons he
      have q := X_next (N := N) hr hN hw hi
      rw [hn] at q
      obtain ⟨j, wf', e1, hw', hj, e2⟩ := q
      dsimp only at e1 hw' e2
      rw [e1, bS]
      dsimp only
      have q2 := X_writeBehind (N := N) hz hw' hN
      have eb : behind z e = z ++ ((if z = [] then [] else [32]) ++ wr e) := by unfold behind; rw [List.append_assoc]
      unfold RW at q2
      rw [← eb] at q2
      unfold agB agn
      by_cases hl : (behind z e).length ≤ 1024
      · rw [if_pos hl] at q2 ⊢
        obtain ⟨zf', e3, hz'⟩ := q2
        rw [e3, bS]
        dsimp only
        rw [if_neg (show ¬ (1 : Int32) = 0 by decide), nI_1]
        exact ih (m + 1) j es _ _ wf' zf' e (behind z e) hw' hz' (by rw [e2]; exact he2) hj (by omega) (by omega)
      · rw [if_neg hl] at q2 ⊢
        obtain ⟨zn', zf', u, e3, hz'⟩ := q2
        rw [e3, bS]
        dsimp only
        rw [if_pos rfl]
        exact ⟨_, _, _, _, f, wf', zf', e, _, rfl, hr, hw', hz'⟩
theorem X_again {N : Nat} {f wf zf : Nat → Int32} {n pl0 wn zn : Int32} {t w z : List Nat} (hr : Rep f n t) (hN : 1100 ≤ N) (hw : Rep wf wn w) (hz : Rep zf zn z) : ∃ (pl n' wn' zn' : Int32) (f' wf' zf' : Nat → Int32) (w' z' : List Nat), p_X_again N pl0 n f wn wf zn zf = some ((agA t).1, pl, n', f', wn', wf', zn', zf') ∧ Rep f' n' (agA t).2 ∧ Rep wf' wn' w' ∧ Rep zf' zn' z' := by
  have hL := hr.2.1
  obtain ⟨pl, wn1, wf1, w1, e1, hw1⟩ := X_count (N := N) (pl0 := pl0) hr hN hw
  unfold p_X_again p_X_again_0 agA
  rw [e1, bS]
  dsimp only
  cases he : elems t with
  | none =>
    rw [if_pos (show cntR 0 none = -2 from rfl)]
    exact ⟨_, _, _, _, f, wf1, zf, w1, z, rfl, hr, hw1, hz⟩
  | some es =>
    have hes := elems_length _ t es (Nat.le_refl _) he
    dsimp only
    have hcut : p_R_cutTo N zn (0 : Int32) = some (1, 0) := R_cutTo (k := 0) hz (Nat.zero_le _)
    rw [show cntR 0 (some es) = nI es.length by show nI (0 + es.length) = _; rw [Nat.zero_add], if_neg (nI_neB (by omega)), hcut, bS]
    dsimp only
    exact X_ag_loop (N := N) hr hN (c := es.length) (by omega) N 0 0 es wn1 0 wf1 zf w1 [] hw1 (Rep_nil zf) he (Nat.zero_le _) (by omega) (by omega)
