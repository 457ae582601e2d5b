/-! PURE, Row: a row holds a text -/
def Rep (f : Nat → Int32) (n : Int32) (t : List Nat) : Prop := n = nI t.length ∧ t.length ≤ 1024 ∧ (∀ i, i < t.length → f i = nI (t.getD i 0)) ∧ ∀ b ∈ t, b < 256
/-- byte i of a text, or -1 -/
def gb (t : List Nat) (i : Nat) : Int32 := if i < t.length then nI (t.getD i 0) else -1
theorem R_size {N : Nat} {n : Int32} : p_R_size N n = some n := rfl
theorem R_byteAt {N : Nat} {f : Nat → Int32} {n : Int32} {t : List Nat} (h : Rep f n t) {i : Nat} (hi : i < 2 ^ 31) : p_R_byteAt N n f (nI i) = some (gb t i) := by
  obtain ⟨rfl, hl, hf, hb⟩ := h
  unfold p_R_byteAt p_R_byteAt_0 gb
  rw [if_neg (nI_pos hi)]
  by_cases hlt : i < t.length
  · rw [if_neg (fun q => absurd ((nI_leI (by omega) hi).mp q) (by omega)), if_neg (by rw [nI_clamp hi]; intro q; rcases q with q | q; exact nI_pos hi q; omega), nI_clamp hi, hf i hlt, if_pos hlt]
  · rw [if_pos ((nI_leI (by omega) hi).mpr (by omega)), if_neg hlt]
theorem R_byteAt_neg {N : Nat} {f : Nat → Int32} {n x : Int32} (hx : x < 0) : p_R_byteAt N n f x = some (-1) := by
  unfold p_R_byteAt p_R_byteAt_0
  rw [if_pos hx]
theorem Rep_byte {f : Nat → Int32} {n : Int32} {t : List Nat} (h : Rep f n t) {i : Nat} (hi : i < t.length) : t.getD i 0 < 256 := by
  refine h.2.2.2 (t.getD i 0) ?_
  rw [List.getD_eq_getElem?_getD, List.getElem?_eq_getElem hi]
  exact List.getElem_mem hi
/-- a byte put behind -/
theorem R_put {N : Nat} {f : Nat → Int32} {n : Int32} {t : List Nat} (h : Rep f n t) (hlt : t.length < 1024) (x : Int32) {b : Nat} (hx : x &&& 255 = nI b) (hb : b < 256) : ∃ f', p_R_put N n f x = some (1, nI (t ++ [b]).length, f') ∧ Rep f' (nI (t ++ [b]).length) (t ++ [b]) := by
  obtain ⟨rfl, hl, hf, hbb⟩ := h
  unfold p_R_put p_R_put_0
  rw [if_pos (show nI t.length < (1024 : Int32) from (nI_ltI (a := t.length) (b := 1024) (by omega) (by omega)).mpr hlt), if_neg (by rw [nI_clamp (by omega)]; intro q; rcases q with q | q; exact nI_pos (by omega) q; omega), nI_clamp (by omega), hx]
  refine ⟨upd f t.length (nI b), ?_, rfl, ?_, ?_, ?_⟩
  · rw [nI_1, List.length_append]
    rfl
  · rw [List.length_append]
    exact hlt
  · intro i hi
    rw [List.length_append] at hi
    by_cases e : i = t.length
    · subst e
      rw [pk_us]
      simp [List.getD_eq_getElem?_getD]
    · rw [pk_un e, hf i (by simp at hi; omega)]
      have : i < t.length := by simp at hi; omega
      simp [List.getD_eq_getElem?_getD, List.getElem?_append_left this]
  · intro c hc
    rcases List.mem_append.mp hc with hc | hc
    · exact hbb c hc
    · rw [List.mem_singleton.mp hc]
      exact hb
theorem R_put_full {N : Nat} {f : Nat → Int32} {n : Int32} {t : List Nat} (h : Rep f n t) (hlt : t.length = 1024) (x : Int32) : p_R_put N n f x = some (0, n, f) := by
  obtain ⟨rfl, hl, hf, hbb⟩ := h
  unfold p_R_put p_R_put_0
  rw [if_neg (show ¬ nI t.length < (1024 : Int32) from fun q => absurd ((nI_ltI (a := t.length) (b := 1024) (by omega) (by omega)).mp q) (by omega))]
theorem Rep_nil (f : Nat → Int32) : Rep f 0 [] := ⟨rfl, by simp, fun i h => by simp at h, fun b h => by cases h⟩
theorem Rep_take {f : Nat → Int32} {n : Int32} {t : List Nat} (h : Rep f n t) {k : Nat} (hk : k ≤ t.length) : Rep f (nI k) (t.take k) := by
  obtain ⟨rfl, hl, hf, hbb⟩ := h
  have e : (t.take k).length = k := by rw [List.length_take]; omega
  refine ⟨by rw [e], by omega, fun i hi => ?_, fun b hb => hbb b (List.mem_of_mem_take hb)⟩
  rw [e] at hi
  rw [hf i (by omega)]
  simp [List.getD_eq_getElem?_getD, List.getElem?_take, hi]
theorem R_cutTo {N : Nat} {f : Nat → Int32} {n : Int32} {t : List Nat} (h : Rep f n t) {k : Nat} (hk : k ≤ t.length) : p_R_cutTo N n (nI k) = some (1, nI k) := by
  obtain ⟨rfl, hl, hf, hbb⟩ := h
  unfold p_R_cutTo p_R_cutTo_0
  rw [if_neg (nI_pos (by omega)), if_pos ((nI_leI (by omega) (by omega)).mpr hk)]
theorem R_cutTo_no {N : Nat} {f : Nat → Int32} {n x : Int32} {t : List Nat} (h : Rep f n t) (hx : x < 0 ∨ nI t.length < x) : p_R_cutTo N n x = some (0, n) := by
  obtain ⟨rfl, hl, hf, hbb⟩ := h
  unfold p_R_cutTo p_R_cutTo_0
  rcases hx with hx | hx
  · rw [if_pos hx]
  · by_cases h0 : x < 0
    · rw [if_pos h0]
    · rw [if_neg h0, if_neg (fun q => absurd hx (Int32.not_lt.mpr q))]
/-- all of another row put behind -/
theorem R_putAll {N : Nat} {f g : Nat → Int32} {n k : Int32} {t u : List Nat} (h : Rep f n t) (hu : Rep g k u) (hlt : t.length + u.length ≤ 1024) : ∃ f', p_R_putAll N n f k g = some (1, nI (t ++ u).length, f') ∧ Rep f' (nI (t ++ u).length) (t ++ u) := by
  obtain ⟨rfl, hl, hf, hbb⟩ := h
  obtain ⟨rfl, hl', hg, hbg⟩ := hu
  unfold p_R_putAll p_R_putAll_0
  have e1 : (1024 : Int32) - nI t.length = nI (1024 - t.length) := pk_sub (a := 1024) (by omega)
  rw [e1, if_pos ((nI_leI (by omega) (by omega)).mpr (by omega)), nI_clamp (by omega), nI_clamp (by omega), sb_cl0]
  rw [if_neg (by
    intro q
    rcases q with q | q | q | q | q
    · exact absurd q (by decide)
    · exact nI_pos (by omega) q
    · exact nI_pos (by omega) q
    · omega
    · omega)]
  refine ⟨va_cpy g f 0 t.length u.length, ?_, rfl, ?_, ?_, ?_⟩
  · rw [nI_add, List.length_append]
  · rw [List.length_append]
    exact hlt
  · intro i hi
    rw [List.length_append] at hi
    by_cases e : i < t.length
    · rw [pk_cpy_out (Or.inl e), hf i e]
      simp [List.getD_eq_getElem?_getD, List.getElem?_append_left e]
    · rw [pk_cpy_in (by omega) (by omega), Nat.zero_add, hg (i - t.length) (by omega)]
      simp [List.getD_eq_getElem?_getD, List.getElem?_append_right (Nat.le_of_not_lt e)]
  · intro c hc
    rcases List.mem_append.mp hc with hc | hc
    · exact hbb c hc
    · exact hbg c hc
theorem R_putAll_no {N : Nat} {f g : Nat → Int32} {n k : Int32} {t u : List Nat} (h : Rep f n t) (hu : Rep g k u) (hlt : 1024 < t.length + u.length) : p_R_putAll N n f k g = some (0, n, f) := by
  obtain ⟨rfl, hl, hf, hbb⟩ := h
  obtain ⟨rfl, hl', hg, hbg⟩ := hu
  unfold p_R_putAll p_R_putAll_0
  have e1 : (1024 : Int32) - nI t.length = nI (1024 - t.length) := pk_sub (a := 1024) (by omega)
  rw [e1, if_neg (fun q => absurd ((nI_leI (by omega) (by omega)).mp q) (by omega))]
theorem R_takeAll {N : Nat} {f g : Nat → Int32} {n k : Int32} {u : List Nat} (hu : Rep g k u) : ∃ f', p_R_takeAll N n f k g = some (nI u.length, nI u.length, f', 0) ∧ Rep f' (nI u.length) u := by
  obtain ⟨f', e, hr⟩ := R_putAll (N := N) (Rep_nil f) hu (by have := hu.2.1; simpa using this)
  rw [List.nil_append] at e hr
  refine ⟨f', ?_, hr⟩
  unfold p_R_takeAll p_R_takeAll_0
  rw [e]
  rfl
