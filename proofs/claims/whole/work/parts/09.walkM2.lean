-- ListWordsModel.isPlain()Z
set_option maxHeartbeats 4000000 in
set_option maxRecDepth 100000 in
theorem t_M_isPlain_26 {p : Program} {l : Launch} {e : Env} {s : State} {m : MethodId} {args : Array Value} {below : List Frame} {meth : Method} {c : Code} {D : va_G} {cA : ClassId} {zz : zT} {A : Nat → Prop} (C0 : Cx p s m args meth c b_M_isPlain R_M 3 (some .boolean)) (hK : va_K D classes [(cA, .int)] s) (hA : ∀ q : Nat, s.heap.size ≤ q → A q) (hZ : ZS zz A s s.heap) (N : Nat) (h_this : Nat) (h_this_tape : Nat) (h_this_list : Nat) (h_this_item : Nat) (h_this_word : Nat) (h_this_text : Nat) (tapeSize_this : Int32) (listSize_this : Int32) (itemSize_this : Int32) (wordSize_this : Int32) (textSize_this : Int32) (a_word : Nat → Int32) (res : Int32) :
    ∀ (n : Nat), ∀ (x1 : Int32) (x2 : Int32), p_M_isPlain_26 N wordSize_this a_word n x1 x2 = some res → ∀ (H : Heap) (locs : List Loc), va_P D classes [(h_this, .inr (2, [.ref h_this_tape, .int tapeSize_this, .ref h_this_list, .int listSize_this, .ref h_this_item, .int itemSize_this, .ref h_this_word, .int wordSize_this, .ref h_this_text, .int textSize_this])), (h_this_word, .inl (cA, 1024, .inl a_word))] H → va_D A [(h_this, .inr (2, [.ref h_this_tape, .int tapeSize_this, .ref h_this_list, .int listSize_this, .ref h_this_item, .int itemSize_this, .ref h_this_word, .int wordSize_this, .ref h_this_text, .int textSize_this])), (h_this_word, .inl (cA, 1024, .inl a_word))] → va_S A s.heap H locs → ∀ (ls : Array Slot), lv_has ls 3 [(0, .ref h_this), (1, .int x1), (2, .int x2)] → W p l e rm_M_isPlain s m args below meth c H locs 0 0 (QI .boolean below args s D cA A (res) [(h_this, .inr (2, [.ref h_this_tape, .int tapeSize_this, .ref h_this_list, .int listSize_this, .ref h_this_item, .int itemSize_this, .ref h_this_word, .int wordSize_this, .ref h_this_text, .int textSize_this])), (h_this_word, .inl (cA, 1024, .inl a_word))]) (F0 m 26 ls []) := by
  obtain ⟨hx, hb, hr, hml, hown, hG, hlk⟩ := id C0
  intro n
  induction n with
  | zero =>
    intro x1 x2 h H locs hP hD hS ls hl
    exact absurd h (by simp [p_M_isPlain_26])
  | succ n ih =>
    intro x1 x2 h H locs hP hD hS ls hl
    rw [p_M_isPlain_26] at h
    refine lv_iload_n hx hb d_M_isPlain_26 rfl (lv_at hl 2 rfl) ?_
    refine lv_aload_n hx hb d_M_isPlain_27 rfl (lv_at hl 0 rfl) ?_
    refine va_get (D := D) (ci := 2) (v := .int wordSize_this) (C := R_M) (T := F_M) (N := 10) hx hb hG i_M hown hK hP 0 rfl rfl 7 (by decide) (hG _ f_M_49) (fun _ h9 => h9) rfl d_M_isPlain_28 ?_
    refine lv_icmp_ge (tgt := 62) hx hb d_M_isPlain_31 (by decide) (fun c_31 => ?_) (fun c_31 => ?_)
    · have h := iteP c_31 h
      refine lv_iload_n hx hb d_M_isPlain_62 rfl (lv_at hl 1 rfl) ?_
      obtain ⟨g_63, h⟩ := guardN h
      obtain rfl := Option.some.inj h
      exact rI (v := x1) C0 (nb01 g_63) hK hP hD hS d_M_isPlain_63
    · have h := iteN c_31 h
      refine lv_iload_n hx hb d_M_isPlain_34 rfl (lv_at hl 1 rfl) ?_
      refine lv_if_eq (tgt := 54) hx hb d_M_isPlain_35 (by decide) (fun c_35 => ?_) (fun c_35 => ?_)
      · have h := iteP c_35 h
        refine lv_iconst (v := (0 : Int32)) hx hb d_M_isPlain_54 (by decide) ?_
        refine lv_istore_n (lv' := [(1, .int (0 : Int32)), (0, .ref h_this), (2, .int x2)]) hx hb d_M_isPlain_55 rfl hl (by decide) rfl (fun ls hl => ?_)
        refine lv_iinc (v := (x2 + (1 : Int32))) (lv' := [(2, .int (x2 + (1 : Int32))), (1, .int (0 : Int32)), (0, .ref h_this)]) hx hb d_M_isPlain_56 hl (k := 2) rfl rfl (by decide) rfl (fun ls hl => ?_)
        refine lv_goto (tgt := 26) hx hb d_M_isPlain_59 (by decide) ?_
        exact ih _ _ h H locs hP hD hS ls (lv_sub hl [2, 1, 0] rfl)
      · have h := iteN c_35 h
        refine lv_aload_n hx hb d_M_isPlain_38 rfl (lv_at hl 0 rfl) ?_
        refine va_get (D := D) (ci := 2) (v := .ref h_this_word) (C := R_M) (T := F_M) (N := 10) hx hb hG i_M hown hK hP 0 rfl rfl 6 (by decide) (hG _ f_M_19) (fun _ h9 => h9) rfl d_M_isPlain_39 ?_
        refine lv_iload_n hx hb d_M_isPlain_42 rfl (lv_at hl 2 rfl) ?_
        obtain ⟨g_43, h⟩ := guardN h
        refine va_iald hx hb hK hP 1 0 rfl rfl g_43 d_M_isPlain_43 ?_
        obtain ⟨r_44, h_44, h⟩ := bindS h
        refine call_si (wr := [(h_this, .inr (2, [.ref h_this_tape, .int tapeSize_this, .ref h_this_list, .int listSize_this, .ref h_this_item, .int itemSize_this, .ref h_this_word, .int wordSize_this, .ref h_this_text, .int textSize_this])), (h_this_word, .inl (cA, 1024, .inl a_word))]) (w1 := []) (wN := [(h_this, .inr (2, [.ref h_this_tape, .int tapeSize_this, .ref h_this_list, .int listSize_this, .ref h_this_item, .int itemSize_this, .ref h_this_word, .int wordSize_this, .ref h_this_text, .int textSize_this])), (h_this_word, .inl (cA, 1024, .inl a_word))]) (rest := []) C0 hK hP hD hS hA hZ (c_M_isSpecial l D cA zz N (a_word x2.toNatClampNeg) r_44 h_44) [] [0, 1] [0, 1] rfl rfl rfl rfl (by decide) rfl rfl m_M_79 ⟨Nat.le_of_ble_eq_true rfl, Nat.le_of_ble_eq_true rfl⟩ ⟨rfl, rfl⟩ rfl hl.1 rfl (Nat.le_of_ble_eq_true rfl) ⟨Nat.le_of_ble_eq_true rfl, Nat.le_of_ble_eq_true rfl⟩ d_M_isPlain_44 (fun b_44 H locs hP hD hS => ?_)
        refine lv_if_ne (tgt := 54) hx hb d_M_isPlain_47 (by decide) (fun c_47 => ?_) (fun c_47 => ?_)
        · have h := iteN c_47 h
          refine lv_iconst (v := (0 : Int32)) hx hb d_M_isPlain_54 (by decide) ?_
          refine lv_istore_n (lv' := [(1, .int (0 : Int32)), (0, .ref h_this), (2, .int x2)]) hx hb d_M_isPlain_55 rfl hl (by decide) rfl (fun ls hl => ?_)
          refine lv_iinc (v := (x2 + (1 : Int32))) (lv' := [(2, .int (x2 + (1 : Int32))), (1, .int (0 : Int32)), (0, .ref h_this)]) hx hb d_M_isPlain_56 hl (k := 2) rfl rfl (by decide) rfl (fun ls hl => ?_)
          refine lv_goto (tgt := 26) hx hb d_M_isPlain_59 (by decide) ?_
          exact ih _ _ h H locs hP hD hS ls (lv_sub hl [2, 1, 0] rfl)
        · have h := iteP c_47 h
          refine lv_iconst (v := (1 : Int32)) hx hb d_M_isPlain_50 (by decide) ?_
          refine lv_goto (tgt := 55) hx hb d_M_isPlain_51 (by decide) ?_
          refine lv_istore_n (lv' := [(1, .int (1 : Int32)), (0, .ref h_this), (2, .int x2)]) hx hb d_M_isPlain_55 rfl hl (by decide) rfl (fun ls hl => ?_)
          refine lv_iinc (v := (x2 + (1 : Int32))) (lv' := [(2, .int (x2 + (1 : Int32))), (1, .int (1 : Int32)), (0, .ref h_this)]) hx hb d_M_isPlain_56 hl (k := 2) rfl rfl (by decide) rfl (fun ls hl => ?_)
          refine lv_goto (tgt := 26) hx hb d_M_isPlain_59 (by decide) ?_
          exact ih _ _ h H locs hP hD hS ls (lv_sub hl [2, 1, 0] rfl)
set_option maxHeartbeats 4000000 in
set_option maxRecDepth 100000 in
theorem t_M_isPlain_0 {p : Program} {l : Launch} {e : Env} {s : State} {m : MethodId} {args : Array Value} {below : List Frame} {meth : Method} {c : Code} {D : va_G} {cA : ClassId} {zz : zT} {A : Nat → Prop} (C0 : Cx p s m args meth c b_M_isPlain R_M 3 (some .boolean)) (hK : va_K D classes [(cA, .int)] s) (hA : ∀ q : Nat, s.heap.size ≤ q → A q) (hZ : ZS zz A s s.heap) (N : Nat) (h_this : Nat) (h_this_tape : Nat) (h_this_list : Nat) (h_this_item : Nat) (h_this_word : Nat) (h_this_text : Nat) (tapeSize_this : Int32) (listSize_this : Int32) (itemSize_this : Int32) (wordSize_this : Int32) (textSize_this : Int32) (a_word : Nat → Int32) (res : Int32) :
    p_M_isPlain_0 N wordSize_this a_word = some res → ∀ (H : Heap) (locs : List Loc), va_P D classes [(h_this, .inr (2, [.ref h_this_tape, .int tapeSize_this, .ref h_this_list, .int listSize_this, .ref h_this_item, .int itemSize_this, .ref h_this_word, .int wordSize_this, .ref h_this_text, .int textSize_this])), (h_this_word, .inl (cA, 1024, .inl a_word))] H → va_D A [(h_this, .inr (2, [.ref h_this_tape, .int tapeSize_this, .ref h_this_list, .int listSize_this, .ref h_this_item, .int itemSize_this, .ref h_this_word, .int wordSize_this, .ref h_this_text, .int textSize_this])), (h_this_word, .inl (cA, 1024, .inl a_word))] → va_S A s.heap H locs → ∀ (ls : Array Slot), lv_has ls 3 [(0, .ref h_this)] → W p l e rm_M_isPlain s m args below meth c H locs 0 0 (QI .boolean below args s D cA A (res) [(h_this, .inr (2, [.ref h_this_tape, .int tapeSize_this, .ref h_this_list, .int listSize_this, .ref h_this_item, .int itemSize_this, .ref h_this_word, .int wordSize_this, .ref h_this_text, .int textSize_this])), (h_this_word, .inl (cA, 1024, .inl a_word))]) (F0 m 0 ls []) := by
  obtain ⟨hx, hb, hr, hml, hown, hG, hlk⟩ := id C0
  intro h H locs hP hD hS ls hl
  unfold p_M_isPlain_0 at h
  refine lv_aload_n hx hb d_M_isPlain_0 rfl (lv_at hl 0 rfl) ?_
  refine va_get (D := D) (ci := 2) (v := .int wordSize_this) (C := R_M) (T := F_M) (N := 10) hx hb hG i_M hown hK hP 0 rfl rfl 7 (by decide) (hG _ f_M_49) (fun _ h9 => h9) rfl d_M_isPlain_1 ?_
  refine lv_if_le (tgt := 22) hx hb d_M_isPlain_4 (by decide) (fun c_4 => ?_) (fun c_4 => ?_)
  · have h := iteP c_4 h
    refine lv_iconst (v := (0 : Int32)) hx hb d_M_isPlain_22 (by decide) ?_
    refine lv_istore_n (lv' := [(1, .int (0 : Int32)), (0, .ref h_this)]) hx hb d_M_isPlain_23 rfl hl (by decide) rfl (fun ls hl => ?_)
    refine lv_iconst (v := (0 : Int32)) hx hb d_M_isPlain_24 (by decide) ?_
    refine lv_istore_n (lv' := [(2, .int (0 : Int32)), (1, .int (0 : Int32)), (0, .ref h_this)]) hx hb d_M_isPlain_25 rfl hl (by decide) rfl (fun ls hl => ?_)
    exact t_M_isPlain_26 C0 hK hA hZ N h_this h_this_tape h_this_list h_this_item h_this_word h_this_text tapeSize_this listSize_this itemSize_this wordSize_this textSize_this a_word res N _ _ h H locs hP hD hS ls (lv_sub hl [2, 1, 0] rfl)
  · have h := iteN c_4 h
    refine lv_aload_n hx hb d_M_isPlain_7 rfl (lv_at hl 0 rfl) ?_
    refine va_get (D := D) (ci := 2) (v := .ref h_this_word) (C := R_M) (T := F_M) (N := 10) hx hb hG i_M hown hK hP 0 rfl rfl 6 (by decide) (hG _ f_M_19) (fun _ h9 => h9) rfl d_M_isPlain_8 ?_
    refine lv_iconst (v := (0 : Int32)) hx hb d_M_isPlain_11 (by decide) ?_
    obtain ⟨g_12, h⟩ := guardN h
    refine va_iald hx hb hK hP 1 0 rfl rfl g_12 d_M_isPlain_12 ?_
    refine lv_bipush (v := (35 : Int32)) hx hb d_M_isPlain_13 (by decide) ?_
    refine lv_icmp_eq (tgt := 22) hx hb d_M_isPlain_15 (by decide) (fun c_15 => ?_) (fun c_15 => ?_)
    · have h := iteP c_15 h
      refine lv_iconst (v := (0 : Int32)) hx hb d_M_isPlain_22 (by decide) ?_
      refine lv_istore_n (lv' := [(1, .int (0 : Int32)), (0, .ref h_this)]) hx hb d_M_isPlain_23 rfl hl (by decide) rfl (fun ls hl => ?_)
      refine lv_iconst (v := (0 : Int32)) hx hb d_M_isPlain_24 (by decide) ?_
      refine lv_istore_n (lv' := [(2, .int (0 : Int32)), (1, .int (0 : Int32)), (0, .ref h_this)]) hx hb d_M_isPlain_25 rfl hl (by decide) rfl (fun ls hl => ?_)
      exact t_M_isPlain_26 C0 hK hA hZ N h_this h_this_tape h_this_list h_this_item h_this_word h_this_text tapeSize_this listSize_this itemSize_this wordSize_this textSize_this a_word res N _ _ h H locs hP hD hS ls (lv_sub hl [2, 1, 0] rfl)
    · have h := iteN c_15 h
      refine lv_iconst (v := (1 : Int32)) hx hb d_M_isPlain_18 (by decide) ?_
      refine lv_goto (tgt := 23) hx hb d_M_isPlain_19 (by decide) ?_
      refine lv_istore_n (lv' := [(1, .int (1 : Int32)), (0, .ref h_this)]) hx hb d_M_isPlain_23 rfl hl (by decide) rfl (fun ls hl => ?_)
      refine lv_iconst (v := (0 : Int32)) hx hb d_M_isPlain_24 (by decide) ?_
      refine lv_istore_n (lv' := [(2, .int (0 : Int32)), (1, .int (1 : Int32)), (0, .ref h_this)]) hx hb d_M_isPlain_25 rfl hl (by decide) rfl (fun ls hl => ?_)
      exact t_M_isPlain_26 C0 hK hA hZ N h_this h_this_tape h_this_list h_this_item h_this_word h_this_text tapeSize_this listSize_this itemSize_this wordSize_this textSize_this a_word res N _ _ h H locs hP hD hS ls (lv_sub hl [2, 1, 0] rfl)
theorem c_M_isPlain (l : Launch) (D : va_G) (cA : ClassId) (zz : zT) (N : Nat) (h_this : Nat) (h_this_tape : Nat) (h_this_list : Nat) (h_this_item : Nat) (h_this_word : Nat) (h_this_text : Nat) (tapeSize_this : Int32) (listSize_this : Int32) (itemSize_this : Int32) (wordSize_this : Int32) (textSize_this : Int32) (a_word : Nat → Int32) (res : Int32) (h : p_M_isPlain N wordSize_this a_word = some res) : MI l D cA zz y_M_isPlain b_M_isPlain 3 .boolean rm_M_isPlain [.ref h_this] [(h_this, .inr (2, [.ref h_this_tape, .int tapeSize_this, .ref h_this_list, .int listSize_this, .ref h_this_item, .int itemSize_this, .ref h_this_word, .int wordSize_this, .ref h_this_text, .int textSize_this])), (h_this_word, .inl (cA, 1024, .inl a_word))] (res) [(h_this, .inr (2, [.ref h_this_tape, .int tapeSize_this, .ref h_this_list, .int listSize_this, .ref h_this_item, .int itemSize_this, .ref h_this_word, .int wordSize_this, .ref h_this_text, .int textSize_this])), (h_this_word, .inl (cA, 1024, .inl a_word))] := by
  unfold p_M_isPlain at h
  exact MI_enter (by decide) (Nat.le_of_ble_eq_true rfl) (fun p e s m below meth c A ls C0 hK hA hZ hP hD hl => t_M_isPlain_0 C0 hK hA hZ N h_this h_this_tape h_this_list h_this_item h_this_word h_this_text tapeSize_this listSize_this itemSize_this wordSize_this textSize_this a_word res h s.heap [] hP hD va_S.rf ls hl)
-- ListWordsModel.isBraced()Z
set_option maxHeartbeats 4000000 in
set_option maxRecDepth 100000 in
theorem t_M_isBraced_46 {p : Program} {l : Launch} {e : Env} {s : State} {m : MethodId} {args : Array Value} {below : List Frame} {meth : Method} {c : Code} {D : va_G} {cA : ClassId} {zz : zT} {A : Nat → Prop} (C0 : Cx p s m args meth c b_M_isBraced R_M 4 (some .boolean)) (hK : va_K D classes [(cA, .int)] s) (hA : ∀ q : Nat, s.heap.size ≤ q → A q) (hZ : ZS zz A s s.heap) (N : Nat) (h_this : Nat) (h_this_tape : Nat) (h_this_list : Nat) (h_this_item : Nat) (h_this_word : Nat) (h_this_text : Nat) (tapeSize_this : Int32) (listSize_this : Int32) (itemSize_this : Int32) (wordSize_this : Int32) (textSize_this : Int32) (a_word : Nat → Int32) (res : Int32)
    (k_6 : Int32 → Int32 → Int32 → Option (Int32)) (hk_6 : ∀ (x1 : Int32) (x2 : Int32) (x3 : Int32), k_6 x1 x2 x3 = some res → ∀ (H : Heap) (locs : List Loc), va_P D classes [(h_this, .inr (2, [.ref h_this_tape, .int tapeSize_this, .ref h_this_list, .int listSize_this, .ref h_this_item, .int itemSize_this, .ref h_this_word, .int wordSize_this, .ref h_this_text, .int textSize_this])), (h_this_word, .inl (cA, 1024, .inl a_word))] H → va_D A [(h_this, .inr (2, [.ref h_this_tape, .int tapeSize_this, .ref h_this_list, .int listSize_this, .ref h_this_item, .int itemSize_this, .ref h_this_word, .int wordSize_this, .ref h_this_text, .int textSize_this])), (h_this_word, .inl (cA, 1024, .inl a_word))] → va_S A s.heap H locs → ∀ (ls : Array Slot), lv_has ls 4 [(0, .ref h_this), (1, .int x1), (2, .int x2), (3, .int x3)] → W p l e rm_M_isBraced s m args below meth c H locs 0 0 (QI .boolean below args s D cA A (res) [(h_this, .inr (2, [.ref h_this_tape, .int tapeSize_this, .ref h_this_list, .int listSize_this, .ref h_this_item, .int itemSize_this, .ref h_this_word, .int wordSize_this, .ref h_this_text, .int textSize_this])), (h_this_word, .inl (cA, 1024, .inl a_word))]) (F0 m 6 ls [])) :
    ∀ (x1 : Int32) (x3 : Int32) (y0 : Int32) (y1 : Int32), p_M_isBraced_46 N wordSize_this a_word k_6 x1 x3 y0 y1 = some res → ∀ (H : Heap) (locs : List Loc), va_P D classes [(h_this, .inr (2, [.ref h_this_tape, .int tapeSize_this, .ref h_this_list, .int listSize_this, .ref h_this_item, .int itemSize_this, .ref h_this_word, .int wordSize_this, .ref h_this_text, .int textSize_this])), (h_this_word, .inl (cA, 1024, .inl a_word))] H → va_D A [(h_this, .inr (2, [.ref h_this_tape, .int tapeSize_this, .ref h_this_list, .int listSize_this, .ref h_this_item, .int itemSize_this, .ref h_this_word, .int wordSize_this, .ref h_this_text, .int textSize_this])), (h_this_word, .inl (cA, 1024, .inl a_word))] → va_S A s.heap H locs → ∀ (ls : Array Slot), lv_has ls 4 [(0, .ref h_this), (1, .int x1), (3, .int x3)] → W p l e rm_M_isBraced s m args below meth c H locs 0 0 (QI .boolean below args s D cA A (res) [(h_this, .inr (2, [.ref h_this_tape, .int tapeSize_this, .ref h_this_list, .int listSize_this, .ref h_this_item, .int itemSize_this, .ref h_this_word, .int wordSize_this, .ref h_this_text, .int textSize_this])), (h_this_word, .inl (cA, 1024, .inl a_word))]) (F0 m 46 ls [.int y0, .int y1]) := by
  obtain ⟨hx, hb, hr, hml, hown, hG, hlk⟩ := id C0
  intro x1 x3 y0 y1 h H locs hP hD hS ls hl
  unfold p_M_isBraced_46 at h
  refine lv_iadd hx hb d_M_isBraced_46 ?_
  refine lv_istore_n (lv' := [(2, .int (y1 + y0)), (0, .ref h_this), (1, .int x1), (3, .int x3)]) hx hb d_M_isBraced_47 rfl hl (by decide) rfl (fun ls hl => ?_)
  refine lv_iload_n hx hb d_M_isBraced_48 rfl (lv_at hl 2 rfl) ?_
  refine lv_if_eq (tgt := 71) hx hb d_M_isBraced_49 (by decide) (fun c_49 => ?_) (fun c_49 => ?_)
  · have h := iteP c_49 h
    refine lv_iconst (v := (0 : Int32)) hx hb d_M_isBraced_71 (by decide) ?_
    refine lv_istore_n (lv' := [(1, .int (0 : Int32)), (2, .int (y1 + y0)), (0, .ref h_this), (3, .int x3)]) hx hb d_M_isBraced_72 rfl hl (by decide) rfl (fun ls hl => ?_)
    refine lv_iinc (v := (x3 + (1 : Int32))) (lv' := [(3, .int (x3 + (1 : Int32))), (1, .int (0 : Int32)), (2, .int (y1 + y0)), (0, .ref h_this)]) hx hb d_M_isBraced_73 hl (k := 3) rfl rfl (by decide) rfl (fun ls hl => ?_)
    refine lv_goto (tgt := 6) hx hb d_M_isBraced_76 (by decide) ?_
    exact hk_6 _ _ _ h H locs hP hD hS ls (lv_sub hl [3, 1, 2, 0] rfl)
  · have h := iteN c_49 h
    refine lv_iload_n hx hb d_M_isBraced_52 rfl (lv_at hl 0 rfl) ?_
    refine lv_if_lt (tgt := 71) hx hb d_M_isBraced_53 (by decide) (fun c_53 => ?_) (fun c_53 => ?_)
    · have h := iteP c_53 h
      refine lv_iconst (v := (0 : Int32)) hx hb d_M_isBraced_71 (by decide) ?_
      refine lv_istore_n (lv' := [(1, .int (0 : Int32)), (2, .int (y1 + y0)), (0, .ref h_this), (3, .int x3)]) hx hb d_M_isBraced_72 rfl hl (by decide) rfl (fun ls hl => ?_)
      refine lv_iinc (v := (x3 + (1 : Int32))) (lv' := [(3, .int (x3 + (1 : Int32))), (1, .int (0 : Int32)), (2, .int (y1 + y0)), (0, .ref h_this)]) hx hb d_M_isBraced_73 hl (k := 3) rfl rfl (by decide) rfl (fun ls hl => ?_)
      refine lv_goto (tgt := 6) hx hb d_M_isBraced_76 (by decide) ?_
      exact hk_6 _ _ _ h H locs hP hD hS ls (lv_sub hl [3, 1, 2, 0] rfl)
    · have h := iteN c_53 h
      refine lv_aload_n hx hb d_M_isBraced_56 rfl (lv_at hl 1 rfl) ?_
      refine va_get (D := D) (ci := 2) (v := .ref h_this_word) (C := R_M) (T := F_M) (N := 10) hx hb hG i_M hown hK hP 0 rfl rfl 6 (by decide) (hG _ f_M_19) (fun _ h9 => h9) rfl d_M_isBraced_57 ?_
      refine lv_iload_n hx hb d_M_isBraced_60 rfl (lv_at hl 3 rfl) ?_
      obtain ⟨g_61, h⟩ := guardN h
      refine va_iald hx hb hK hP 1 0 rfl rfl g_61 d_M_isBraced_61 ?_
      refine lv_bipush (v := (92 : Int32)) hx hb d_M_isBraced_62 (by decide) ?_
      refine lv_icmp_eq (tgt := 71) hx hb d_M_isBraced_64 (by decide) (fun c_64 => ?_) (fun c_64 => ?_)
      · have h := iteP c_64 h
        refine lv_iconst (v := (0 : Int32)) hx hb d_M_isBraced_71 (by decide) ?_
        refine lv_istore_n (lv' := [(1, .int (0 : Int32)), (2, .int (y1 + y0)), (0, .ref h_this), (3, .int x3)]) hx hb d_M_isBraced_72 rfl hl (by decide) rfl (fun ls hl => ?_)
        refine lv_iinc (v := (x3 + (1 : Int32))) (lv' := [(3, .int (x3 + (1 : Int32))), (1, .int (0 : Int32)), (2, .int (y1 + y0)), (0, .ref h_this)]) hx hb d_M_isBraced_73 hl (k := 3) rfl rfl (by decide) rfl (fun ls hl => ?_)
        refine lv_goto (tgt := 6) hx hb d_M_isBraced_76 (by decide) ?_
        exact hk_6 _ _ _ h H locs hP hD hS ls (lv_sub hl [3, 1, 2, 0] rfl)
      · have h := iteN c_64 h
        refine lv_iconst (v := (1 : Int32)) hx hb d_M_isBraced_67 (by decide) ?_
        refine lv_goto (tgt := 72) hx hb d_M_isBraced_68 (by decide) ?_
        refine lv_istore_n (lv' := [(1, .int (1 : Int32)), (2, .int (y1 + y0)), (0, .ref h_this), (3, .int x3)]) hx hb d_M_isBraced_72 rfl hl (by decide) rfl (fun ls hl => ?_)
        refine lv_iinc (v := (x3 + (1 : Int32))) (lv' := [(3, .int (x3 + (1 : Int32))), (1, .int (1 : Int32)), (2, .int (y1 + y0)), (0, .ref h_this)]) hx hb d_M_isBraced_73 hl (k := 3) rfl rfl (by decide) rfl (fun ls hl => ?_)
        refine lv_goto (tgt := 6) hx hb d_M_isBraced_76 (by decide) ?_
        exact hk_6 _ _ _ h H locs hP hD hS ls (lv_sub hl [3, 1, 2, 0] rfl)
set_option maxHeartbeats 4000000 in
set_option maxRecDepth 100000 in
theorem t_M_isBraced_6 {p : Program} {l : Launch} {e : Env} {s : State} {m : MethodId} {args : Array Value} {below : List Frame} {meth : Method} {c : Code} {D : va_G} {cA : ClassId} {zz : zT} {A : Nat → Prop} (C0 : Cx p s m args meth c b_M_isBraced R_M 4 (some .boolean)) (hK : va_K D classes [(cA, .int)] s) (hA : ∀ q : Nat, s.heap.size ≤ q → A q) (hZ : ZS zz A s s.heap) (N : Nat) (h_this : Nat) (h_this_tape : Nat) (h_this_list : Nat) (h_this_item : Nat) (h_this_word : Nat) (h_this_text : Nat) (tapeSize_this : Int32) (listSize_this : Int32) (itemSize_this : Int32) (wordSize_this : Int32) (textSize_this : Int32) (a_word : Nat → Int32) (res : Int32) :
    ∀ (n : Nat), ∀ (x1 : Int32) (x2 : Int32) (x3 : Int32), p_M_isBraced_6 N wordSize_this a_word n x1 x2 x3 = some res → ∀ (H : Heap) (locs : List Loc), va_P D classes [(h_this, .inr (2, [.ref h_this_tape, .int tapeSize_this, .ref h_this_list, .int listSize_this, .ref h_this_item, .int itemSize_this, .ref h_this_word, .int wordSize_this, .ref h_this_text, .int textSize_this])), (h_this_word, .inl (cA, 1024, .inl a_word))] H → va_D A [(h_this, .inr (2, [.ref h_this_tape, .int tapeSize_this, .ref h_this_list, .int listSize_this, .ref h_this_item, .int itemSize_this, .ref h_this_word, .int wordSize_this, .ref h_this_text, .int textSize_this])), (h_this_word, .inl (cA, 1024, .inl a_word))] → va_S A s.heap H locs → ∀ (ls : Array Slot), lv_has ls 4 [(0, .ref h_this), (1, .int x1), (2, .int x2), (3, .int x3)] → W p l e rm_M_isBraced s m args below meth c H locs 0 0 (QI .boolean below args s D cA A (res) [(h_this, .inr (2, [.ref h_this_tape, .int tapeSize_this, .ref h_this_list, .int listSize_this, .ref h_this_item, .int itemSize_this, .ref h_this_word, .int wordSize_this, .ref h_this_text, .int textSize_this])), (h_this_word, .inl (cA, 1024, .inl a_word))]) (F0 m 6 ls []) := by
  obtain ⟨hx, hb, hr, hml, hown, hG, hlk⟩ := id C0
  intro n
  induction n with
  | zero =>
    intro x1 x2 x3 h H locs hP hD hS ls hl
    exact absurd h (by simp [p_M_isBraced_6])
  | succ n ih =>
    intro x1 x2 x3 h H locs hP hD hS ls hl
    rw [p_M_isBraced_6] at h
    refine lv_iload_n hx hb d_M_isBraced_6 rfl (lv_at hl 3 rfl) ?_
    refine lv_aload_n hx hb d_M_isBraced_7 rfl (lv_at hl 0 rfl) ?_
    refine va_get (D := D) (ci := 2) (v := .int wordSize_this) (C := R_M) (T := F_M) (N := 10) hx hb hG i_M hown hK hP 0 rfl rfl 7 (by decide) (hG _ f_M_49) (fun _ h9 => h9) rfl d_M_isBraced_8 ?_
    refine lv_icmp_ge (tgt := 79) hx hb d_M_isBraced_11 (by decide) (fun c_11 => ?_) (fun c_11 => ?_)
    · have h := iteP c_11 h
      refine lv_iload_n hx hb d_M_isBraced_79 rfl (lv_at hl 1 rfl) ?_
      refine lv_if_eq (tgt := 91) hx hb d_M_isBraced_80 (by decide) (fun c_80 => ?_) (fun c_80 => ?_)
      · have h := iteP c_80 h
        refine lv_iconst (v := (0 : Int32)) hx hb d_M_isBraced_91 (by decide) ?_
        obtain rfl := Option.some.inj h
        exact rI (v := (0 : Int32)) C0 rfl hK hP hD hS d_M_isBraced_92
      · have h := iteN c_80 h
        refine lv_iload_n hx hb d_M_isBraced_83 rfl (lv_at hl 2 rfl) ?_
        refine lv_if_ne (tgt := 91) hx hb d_M_isBraced_84 (by decide) (fun c_84 => ?_) (fun c_84 => ?_)
        · have h := iteN c_84 h
          refine lv_iconst (v := (0 : Int32)) hx hb d_M_isBraced_91 (by decide) ?_
          obtain rfl := Option.some.inj h
          exact rI (v := (0 : Int32)) C0 rfl hK hP hD hS d_M_isBraced_92
        · have h := iteP c_84 h
          refine lv_iconst (v := (1 : Int32)) hx hb d_M_isBraced_87 (by decide) ?_
          refine lv_goto (tgt := 92) hx hb d_M_isBraced_88 (by decide) ?_
          obtain rfl := Option.some.inj h
          exact rI (v := (1 : Int32)) C0 rfl hK hP hD hS d_M_isBraced_92
    · have h := iteN c_11 h
      refine lv_iload_n hx hb d_M_isBraced_14 rfl (lv_at hl 2 rfl) ?_
      refine lv_aload_n hx hb d_M_isBraced_15 rfl (lv_at hl 0 rfl) ?_
      refine va_get (D := D) (ci := 2) (v := .ref h_this_word) (C := R_M) (T := F_M) (N := 10) hx hb hG i_M hown hK hP 0 rfl rfl 6 (by decide) (hG _ f_M_19) (fun _ h9 => h9) rfl d_M_isBraced_16 ?_
      refine lv_iload_n hx hb d_M_isBraced_19 rfl (lv_at hl 3 rfl) ?_
      obtain ⟨g_20, h⟩ := guardN h
      refine va_iald hx hb hK hP 1 0 rfl rfl g_20 d_M_isBraced_20 ?_
      refine lv_bipush (v := (123 : Int32)) hx hb d_M_isBraced_21 (by decide) ?_
      refine lv_icmp_ne (tgt := 30) hx hb d_M_isBraced_23 (by decide) (fun c_23 => ?_) (fun c_23 => ?_)
      · have h := iteN c_23 h
        refine lv_aload_n hx hb d_M_isBraced_30 rfl (lv_at hl 0 rfl) ?_
        refine va_get (D := D) (ci := 2) (v := .ref h_this_word) (C := R_M) (T := F_M) (N := 10) hx hb hG i_M hown hK hP 0 rfl rfl 6 (by decide) (hG _ f_M_19) (fun _ h9 => h9) rfl d_M_isBraced_31 ?_
        refine lv_iload_n hx hb d_M_isBraced_34 rfl (lv_at hl 3 rfl) ?_
        obtain ⟨g_35, h⟩ := guardN h
        refine va_iald hx hb hK hP 1 0 rfl rfl g_35 d_M_isBraced_35 ?_
        refine lv_bipush (v := (125 : Int32)) hx hb d_M_isBraced_36 (by decide) ?_
        refine lv_icmp_ne (tgt := 45) hx hb d_M_isBraced_38 (by decide) (fun c_38 => ?_) (fun c_38 => ?_)
        · have h := iteN c_38 h
          refine lv_iconst (v := (0 : Int32)) hx hb d_M_isBraced_45 (by decide) ?_
          exact t_M_isBraced_46 C0 hK hA hZ N h_this h_this_tape h_this_list h_this_item h_this_word h_this_text tapeSize_this listSize_this itemSize_this wordSize_this textSize_this a_word res (p_M_isBraced_6 N wordSize_this a_word n) ih _ _ _ _ h H locs hP hD hS ls (lv_sub hl [0, 1, 3] rfl)
        · have h := iteP c_38 h
          refine lv_iconst (v := (-1 : Int32)) hx hb d_M_isBraced_41 (by decide) ?_
          refine lv_goto (tgt := 46) hx hb d_M_isBraced_42 (by decide) ?_
          exact t_M_isBraced_46 C0 hK hA hZ N h_this h_this_tape h_this_list h_this_item h_this_word h_this_text tapeSize_this listSize_this itemSize_this wordSize_this textSize_this a_word res (p_M_isBraced_6 N wordSize_this a_word n) ih _ _ _ _ h H locs hP hD hS ls (lv_sub hl [0, 1, 3] rfl)
      · have h := iteP c_23 h
        refine lv_iconst (v := (1 : Int32)) hx hb d_M_isBraced_26 (by decide) ?_
        refine lv_goto (tgt := 46) hx hb d_M_isBraced_27 (by decide) ?_
        exact t_M_isBraced_46 C0 hK hA hZ N h_this h_this_tape h_this_list h_this_item h_this_word h_this_text tapeSize_this listSize_this itemSize_this wordSize_this textSize_this a_word res (p_M_isBraced_6 N wordSize_this a_word n) ih _ _ _ _ h H locs hP hD hS ls (lv_sub hl [0, 1, 3] rfl)
set_option maxHeartbeats 4000000 in
set_option maxRecDepth 100000 in
theorem t_M_isBraced_0 {p : Program} {l : Launch} {e : Env} {s : State} {m : MethodId} {args : Array Value} {below : List Frame} {meth : Method} {c : Code} {D : va_G} {cA : ClassId} {zz : zT} {A : Nat → Prop} (C0 : Cx p s m args meth c b_M_isBraced R_M 4 (some .boolean)) (hK : va_K D classes [(cA, .int)] s) (hA : ∀ q : Nat, s.heap.size ≤ q → A q) (hZ : ZS zz A s s.heap) (N : Nat) (h_this : Nat) (h_this_tape : Nat) (h_this_list : Nat) (h_this_item : Nat) (h_this_word : Nat) (h_this_text : Nat) (tapeSize_this : Int32) (listSize_this : Int32) (itemSize_this : Int32) (wordSize_this : Int32) (textSize_this : Int32) (a_word : Nat → Int32) (res : Int32) :
    p_M_isBraced_0 N wordSize_this a_word = some res → ∀ (H : Heap) (locs : List Loc), va_P D classes [(h_this, .inr (2, [.ref h_this_tape, .int tapeSize_this, .ref h_this_list, .int listSize_this, .ref h_this_item, .int itemSize_this, .ref h_this_word, .int wordSize_this, .ref h_this_text, .int textSize_this])), (h_this_word, .inl (cA, 1024, .inl a_word))] H → va_D A [(h_this, .inr (2, [.ref h_this_tape, .int tapeSize_this, .ref h_this_list, .int listSize_this, .ref h_this_item, .int itemSize_this, .ref h_this_word, .int wordSize_this, .ref h_this_text, .int textSize_this])), (h_this_word, .inl (cA, 1024, .inl a_word))] → va_S A s.heap H locs → ∀ (ls : Array Slot), lv_has ls 4 [(0, .ref h_this)] → W p l e rm_M_isBraced s m args below meth c H locs 0 0 (QI .boolean below args s D cA A (res) [(h_this, .inr (2, [.ref h_this_tape, .int tapeSize_this, .ref h_this_list, .int listSize_this, .ref h_this_item, .int itemSize_this, .ref h_this_word, .int wordSize_this, .ref h_this_text, .int textSize_this])), (h_this_word, .inl (cA, 1024, .inl a_word))]) (F0 m 0 ls []) := by
  obtain ⟨hx, hb, hr, hml, hown, hG, hlk⟩ := id C0
  intro h H locs hP hD hS ls hl
  unfold p_M_isBraced_0 at h
  refine lv_iconst (v := (1 : Int32)) hx hb d_M_isBraced_0 (by decide) ?_
  refine lv_istore_n (lv' := [(1, .int (1 : Int32)), (0, .ref h_this)]) hx hb d_M_isBraced_1 rfl hl (by decide) rfl (fun ls hl => ?_)
  refine lv_iconst (v := (0 : Int32)) hx hb d_M_isBraced_2 (by decide) ?_
  refine lv_istore_n (lv' := [(2, .int (0 : Int32)), (1, .int (1 : Int32)), (0, .ref h_this)]) hx hb d_M_isBraced_3 rfl hl (by decide) rfl (fun ls hl => ?_)
  refine lv_iconst (v := (0 : Int32)) hx hb d_M_isBraced_4 (by decide) ?_
  refine lv_istore_n (lv' := [(3, .int (0 : Int32)), (2, .int (0 : Int32)), (1, .int (1 : Int32)), (0, .ref h_this)]) hx hb d_M_isBraced_5 rfl hl (by decide) rfl (fun ls hl => ?_)
  exact t_M_isBraced_6 C0 hK hA hZ N h_this h_this_tape h_this_list h_this_item h_this_word h_this_text tapeSize_this listSize_this itemSize_this wordSize_this textSize_this a_word res N _ _ _ h H locs hP hD hS ls (lv_sub hl [3, 2, 1, 0] rfl)
theorem c_M_isBraced (l : Launch) (D : va_G) (cA : ClassId) (zz : zT) (N : Nat) (h_this : Nat) (h_this_tape : Nat) (h_this_list : Nat) (h_this_item : Nat) (h_this_word : Nat) (h_this_text : Nat) (tapeSize_this : Int32) (listSize_this : Int32) (itemSize_this : Int32) (wordSize_this : Int32) (textSize_this : Int32) (a_word : Nat → Int32) (res : Int32) (h : p_M_isBraced N wordSize_this a_word = some res) : MI l D cA zz y_M_isBraced b_M_isBraced 4 .boolean rm_M_isBraced [.ref h_this] [(h_this, .inr (2, [.ref h_this_tape, .int tapeSize_this, .ref h_this_list, .int listSize_this, .ref h_this_item, .int itemSize_this, .ref h_this_word, .int wordSize_this, .ref h_this_text, .int textSize_this])), (h_this_word, .inl (cA, 1024, .inl a_word))] (res) [(h_this, .inr (2, [.ref h_this_tape, .int tapeSize_this, .ref h_this_list, .int listSize_this, .ref h_this_item, .int itemSize_this, .ref h_this_word, .int wordSize_this, .ref h_this_text, .int textSize_this])), (h_this_word, .inl (cA, 1024, .inl a_word))] := by
  unfold p_M_isBraced at h
  exact MI_enter (by decide) (Nat.le_of_ble_eq_true rfl) (fun p e s m below meth c A ls C0 hK hA hZ hP hD hl => t_M_isBraced_0 C0 hK hA hZ N h_this h_this_tape h_this_list h_this_item h_this_word h_this_text tapeSize_this listSize_this itemSize_this wordSize_this textSize_this a_word res h s.heap [] hP hD va_S.rf ls hl)
-- ListWordsModel.escape(IZ)V
set_option maxHeartbeats 4000000 in
set_option maxRecDepth 100000 in
theorem t_M_escape_80 {p : Program} {l : Launch} {e : Env} {s : State} {m : MethodId} {args : Array Value} {below : List Frame} {meth : Method} {c : Code} {D : va_G} {cA : ClassId} {zz : zT} {A : Nat → Prop} (C0 : Cx p s m args meth c b_M_escape R_M 3 none) (hK : va_K D classes [(cA, .int)] s) (hA : ∀ q : Nat, s.heap.size ≤ q → A q) (hZ : ZS zz A s s.heap) (N : Nat) (h_this : Nat) (h_this_tape : Nat) (h_this_list : Nat) (h_this_item : Nat) (h_this_word : Nat) (h_this_text : Nat) (tapeSize_this : Int32) (listSize_this : Int32) (itemSize_this : Int32) (wordSize_this : Int32) (res : Int32 × (Nat → Int32)) :
    ∀ (textSize_this : Int32) (a_text : Nat → Int32) (y0 : Int32), p_M_escape_80 N textSize_this a_text y0 = some res → ∀ (H : Heap) (locs : List Loc), va_P D classes [(h_this, .inr (2, [.ref h_this_tape, .int tapeSize_this, .ref h_this_list, .int listSize_this, .ref h_this_item, .int itemSize_this, .ref h_this_word, .int wordSize_this, .ref h_this_text, .int textSize_this])), (h_this_text, .inl (cA, 4200, .inl a_text))] H → va_D A [(h_this, .inr (2, [.ref h_this_tape, .int tapeSize_this, .ref h_this_list, .int listSize_this, .ref h_this_item, .int itemSize_this, .ref h_this_word, .int wordSize_this, .ref h_this_text, .int textSize_this])), (h_this_text, .inl (cA, 4200, .inl a_text))] → va_S A s.heap H locs → ∀ (ls : Array Slot), lv_has ls 3 [] → W p l e rm_M_escape s m args below meth c H locs 0 0 (QV below args s D cA A [(h_this, .inr (2, [.ref h_this_tape, .int tapeSize_this, .ref h_this_list, .int listSize_this, .ref h_this_item, .int itemSize_this, .ref h_this_word, .int wordSize_this, .ref h_this_text, .int res.1])), (h_this_text, .inl (cA, 4200, .inl res.2))]) (F0 m 80 ls [.int y0, .ref h_this]) := by
  obtain ⟨hx, hb, hr, hml, hown, hG, hlk⟩ := id C0
  intro textSize_this a_text y0 h H locs hP hD hS ls hl
  unfold p_M_escape_80 at h
  obtain ⟨r_80, h_80, h⟩ := bindS h
  refine call_vv (wr := []) (w1 := [(h_this, .inr (2, [.ref h_this_tape, .int tapeSize_this, .ref h_this_list, .int listSize_this, .ref h_this_item, .int itemSize_this, .ref h_this_word, .int wordSize_this, .ref h_this_text, .int r_80.1])), (h_this_text, .inl (cA, 4200, .inl r_80.2))]) (wN := [(h_this, .inr (2, [.ref h_this_tape, .int tapeSize_this, .ref h_this_list, .int listSize_this, .ref h_this_item, .int itemSize_this, .ref h_this_word, .int wordSize_this, .ref h_this_text, .int r_80.1])), (h_this_text, .inl (cA, 4200, .inl r_80.2))]) (rest := []) C0 hK hP hD hS hA hZ (c_M_put l D cA zz N h_this h_this_tape h_this_list h_this_item h_this_word h_this_text tapeSize_this listSize_this itemSize_this wordSize_this textSize_this a_text y0 r_80 h_80) [0, 1] [] [0, 1] rfl rfl rfl rfl (by decide) rfl rfl 0 2 rfl rfl m_M_82 ⟨Nat.le_of_ble_eq_true rfl, Nat.le_of_ble_eq_true rfl⟩ ⟨rfl, rfl⟩ rfl hl.1 rfl (Nat.le_of_ble_eq_true rfl) ⟨Nat.le_of_ble_eq_true rfl, Nat.le_of_ble_eq_true rfl⟩ d_M_escape_80 (fun H locs hP hD hS => ?_)
  obtain rfl := Option.some.inj h
  exact rV C0 hK hP hD hS d_M_escape_83
set_option maxHeartbeats 4000000 in
set_option maxRecDepth 100000 in
theorem t_M_escape_23 {p : Program} {l : Launch} {e : Env} {s : State} {m : MethodId} {args : Array Value} {below : List Frame} {meth : Method} {c : Code} {D : va_G} {cA : ClassId} {zz : zT} {A : Nat → Prop} (C0 : Cx p s m args meth c b_M_escape R_M 3 none) (hK : va_K D classes [(cA, .int)] s) (hA : ∀ q : Nat, s.heap.size ≤ q → A q) (hZ : ZS zz A s s.heap) (N : Nat) (h_this : Nat) (h_this_tape : Nat) (h_this_list : Nat) (h_this_item : Nat) (h_this_word : Nat) (h_this_text : Nat) (tapeSize_this : Int32) (listSize_this : Int32) (itemSize_this : Int32) (wordSize_this : Int32) (res : Int32 × (Nat → Int32)) :
    ∀ (textSize_this : Int32) (a_text : Nat → Int32) (x1 : Int32), p_M_escape_23 N textSize_this a_text x1 = some res → ∀ (H : Heap) (locs : List Loc), va_P D classes [(h_this, .inr (2, [.ref h_this_tape, .int tapeSize_this, .ref h_this_list, .int listSize_this, .ref h_this_item, .int itemSize_this, .ref h_this_word, .int wordSize_this, .ref h_this_text, .int textSize_this])), (h_this_text, .inl (cA, 4200, .inl a_text))] H → va_D A [(h_this, .inr (2, [.ref h_this_tape, .int tapeSize_this, .ref h_this_list, .int listSize_this, .ref h_this_item, .int itemSize_this, .ref h_this_word, .int wordSize_this, .ref h_this_text, .int textSize_this])), (h_this_text, .inl (cA, 4200, .inl a_text))] → va_S A s.heap H locs → ∀ (ls : Array Slot), lv_has ls 3 [(0, .ref h_this), (1, .int x1)] → W p l e rm_M_escape s m args below meth c H locs 0 0 (QV below args s D cA A [(h_this, .inr (2, [.ref h_this_tape, .int tapeSize_this, .ref h_this_list, .int listSize_this, .ref h_this_item, .int itemSize_this, .ref h_this_word, .int wordSize_this, .ref h_this_text, .int res.1])), (h_this_text, .inl (cA, 4200, .inl res.2))]) (F0 m 23 ls []) := by
  obtain ⟨hx, hb, hr, hml, hown, hG, hlk⟩ := id C0
  intro textSize_this a_text x1 h H locs hP hD hS ls hl
  unfold p_M_escape_23 at h
  refine lv_aload_n hx hb d_M_escape_23 rfl (lv_at hl 0 rfl) ?_
  refine lv_iload_n hx hb d_M_escape_24 rfl (lv_at hl 1 rfl) ?_
  refine lv_bipush (v := (9 : Int32)) hx hb d_M_escape_25 (by decide) ?_
  refine lv_icmp_ne (tgt := 35) hx hb d_M_escape_27 (by decide) (fun c_27 => ?_) (fun c_27 => ?_)
  · have h := iteN c_27 h
    refine lv_iload_n hx hb d_M_escape_35 rfl (lv_at hl 1 rfl) ?_
    refine lv_bipush (v := (10 : Int32)) hx hb d_M_escape_36 (by decide) ?_
    refine lv_icmp_ne (tgt := 46) hx hb d_M_escape_38 (by decide) (fun c_38 => ?_) (fun c_38 => ?_)
    · have h := iteN c_38 h
      refine lv_iload_n hx hb d_M_escape_46 rfl (lv_at hl 1 rfl) ?_
      refine lv_bipush (v := (11 : Int32)) hx hb d_M_escape_47 (by decide) ?_
      refine lv_icmp_ne (tgt := 57) hx hb d_M_escape_49 (by decide) (fun c_49 => ?_) (fun c_49 => ?_)
      · have h := iteN c_49 h
        refine lv_iload_n hx hb d_M_escape_57 rfl (lv_at hl 1 rfl) ?_
        refine lv_bipush (v := (12 : Int32)) hx hb d_M_escape_58 (by decide) ?_
        refine lv_icmp_ne (tgt := 68) hx hb d_M_escape_60 (by decide) (fun c_60 => ?_) (fun c_60 => ?_)
        · have h := iteN c_60 h
          refine lv_iload_n hx hb d_M_escape_68 rfl (lv_at hl 1 rfl) ?_
          refine lv_bipush (v := (13 : Int32)) hx hb d_M_escape_69 (by decide) ?_
          refine lv_icmp_ne (tgt := 79) hx hb d_M_escape_71 (by decide) (fun c_71 => ?_) (fun c_71 => ?_)
          · have h := iteN c_71 h
            refine lv_iload_n hx hb d_M_escape_79 rfl (lv_at hl 1 rfl) ?_
            exact t_M_escape_80 C0 hK hA hZ N h_this h_this_tape h_this_list h_this_item h_this_word h_this_text tapeSize_this listSize_this itemSize_this wordSize_this res _ _ _ h H locs hP hD hS ls (lv_sub hl [] rfl)
          · have h := iteP c_71 h
            refine lv_bipush (v := (114 : Int32)) hx hb d_M_escape_74 (by decide) ?_
            refine lv_goto (tgt := 80) hx hb d_M_escape_76 (by decide) ?_
            exact t_M_escape_80 C0 hK hA hZ N h_this h_this_tape h_this_list h_this_item h_this_word h_this_text tapeSize_this listSize_this itemSize_this wordSize_this res _ _ _ h H locs hP hD hS ls (lv_sub hl [] rfl)
        · have h := iteP c_60 h
          refine lv_bipush (v := (102 : Int32)) hx hb d_M_escape_63 (by decide) ?_
          refine lv_goto (tgt := 80) hx hb d_M_escape_65 (by decide) ?_
          exact t_M_escape_80 C0 hK hA hZ N h_this h_this_tape h_this_list h_this_item h_this_word h_this_text tapeSize_this listSize_this itemSize_this wordSize_this res _ _ _ h H locs hP hD hS ls (lv_sub hl [] rfl)
      · have h := iteP c_49 h
        refine lv_bipush (v := (118 : Int32)) hx hb d_M_escape_52 (by decide) ?_
        refine lv_goto (tgt := 80) hx hb d_M_escape_54 (by decide) ?_
        exact t_M_escape_80 C0 hK hA hZ N h_this h_this_tape h_this_list h_this_item h_this_word h_this_text tapeSize_this listSize_this itemSize_this wordSize_this res _ _ _ h H locs hP hD hS ls (lv_sub hl [] rfl)
    · have h := iteP c_38 h
      refine lv_bipush (v := (110 : Int32)) hx hb d_M_escape_41 (by decide) ?_
      refine lv_goto (tgt := 80) hx hb d_M_escape_43 (by decide) ?_
      exact t_M_escape_80 C0 hK hA hZ N h_this h_this_tape h_this_list h_this_item h_this_word h_this_text tapeSize_this listSize_this itemSize_this wordSize_this res _ _ _ h H locs hP hD hS ls (lv_sub hl [] rfl)
  · have h := iteP c_27 h
    refine lv_bipush (v := (116 : Int32)) hx hb d_M_escape_30 (by decide) ?_
    refine lv_goto (tgt := 80) hx hb d_M_escape_32 (by decide) ?_
    exact t_M_escape_80 C0 hK hA hZ N h_this h_this_tape h_this_list h_this_item h_this_word h_this_text tapeSize_this listSize_this itemSize_this wordSize_this res _ _ _ h H locs hP hD hS ls (lv_sub hl [] rfl)
set_option maxHeartbeats 4000000 in
set_option maxRecDepth 100000 in
theorem t_M_escape_17 {p : Program} {l : Launch} {e : Env} {s : State} {m : MethodId} {args : Array Value} {below : List Frame} {meth : Method} {c : Code} {D : va_G} {cA : ClassId} {zz : zT} {A : Nat → Prop} (C0 : Cx p s m args meth c b_M_escape R_M 3 none) (hK : va_K D classes [(cA, .int)] s) (hA : ∀ q : Nat, s.heap.size ≤ q → A q) (hZ : ZS zz A s s.heap) (N : Nat) (h_this : Nat) (h_this_tape : Nat) (h_this_list : Nat) (h_this_item : Nat) (h_this_word : Nat) (h_this_text : Nat) (tapeSize_this : Int32) (listSize_this : Int32) (itemSize_this : Int32) (wordSize_this : Int32) (res : Int32 × (Nat → Int32)) :
    ∀ (textSize_this : Int32) (a_text : Nat → Int32) (x1 : Int32), p_M_escape_17 N textSize_this a_text x1 = some res → ∀ (H : Heap) (locs : List Loc), va_P D classes [(h_this, .inr (2, [.ref h_this_tape, .int tapeSize_this, .ref h_this_list, .int listSize_this, .ref h_this_item, .int itemSize_this, .ref h_this_word, .int wordSize_this, .ref h_this_text, .int textSize_this])), (h_this_text, .inl (cA, 4200, .inl a_text))] H → va_D A [(h_this, .inr (2, [.ref h_this_tape, .int tapeSize_this, .ref h_this_list, .int listSize_this, .ref h_this_item, .int itemSize_this, .ref h_this_word, .int wordSize_this, .ref h_this_text, .int textSize_this])), (h_this_text, .inl (cA, 4200, .inl a_text))] → va_S A s.heap H locs → ∀ (ls : Array Slot), lv_has ls 3 [(0, .ref h_this), (1, .int x1)] → W p l e rm_M_escape s m args below meth c H locs 0 0 (QV below args s D cA A [(h_this, .inr (2, [.ref h_this_tape, .int tapeSize_this, .ref h_this_list, .int listSize_this, .ref h_this_item, .int itemSize_this, .ref h_this_word, .int wordSize_this, .ref h_this_text, .int res.1])), (h_this_text, .inl (cA, 4200, .inl res.2))]) (F0 m 17 ls []) := by
  obtain ⟨hx, hb, hr, hml, hown, hG, hlk⟩ := id C0
  intro textSize_this a_text x1 h H locs hP hD hS ls hl
  unfold p_M_escape_17 at h
  refine lv_aload_n hx hb d_M_escape_17 rfl (lv_at hl 0 rfl) ?_
  refine lv_bipush (v := (92 : Int32)) hx hb d_M_escape_18 (by decide) ?_
  obtain ⟨r_20, h_20, h⟩ := bindS h
  refine call_vv (wr := []) (w1 := [(h_this, .inr (2, [.ref h_this_tape, .int tapeSize_this, .ref h_this_list, .int listSize_this, .ref h_this_item, .int itemSize_this, .ref h_this_word, .int wordSize_this, .ref h_this_text, .int r_20.1])), (h_this_text, .inl (cA, 4200, .inl r_20.2))]) (wN := [(h_this, .inr (2, [.ref h_this_tape, .int tapeSize_this, .ref h_this_list, .int listSize_this, .ref h_this_item, .int itemSize_this, .ref h_this_word, .int wordSize_this, .ref h_this_text, .int r_20.1])), (h_this_text, .inl (cA, 4200, .inl r_20.2))]) (rest := []) C0 hK hP hD hS hA hZ (c_M_put l D cA zz N h_this h_this_tape h_this_list h_this_item h_this_word h_this_text tapeSize_this listSize_this itemSize_this wordSize_this textSize_this a_text (92 : Int32) r_20 h_20) [0, 1] [] [0, 1] rfl rfl rfl rfl (by decide) rfl rfl 0 2 rfl rfl m_M_82 ⟨Nat.le_of_ble_eq_true rfl, Nat.le_of_ble_eq_true rfl⟩ ⟨rfl, rfl⟩ rfl hl.1 rfl (Nat.le_of_ble_eq_true rfl) ⟨Nat.le_of_ble_eq_true rfl, Nat.le_of_ble_eq_true rfl⟩ d_M_escape_20 (fun H locs hP hD hS => ?_)
  exact t_M_escape_23 C0 hK hA hZ N h_this h_this_tape h_this_list h_this_item h_this_word h_this_text tapeSize_this listSize_this itemSize_this wordSize_this res _ _ _ h H locs hP hD hS ls (lv_sub hl [0, 1] rfl)
set_option maxHeartbeats 4000000 in
set_option maxRecDepth 100000 in
theorem t_M_escape_0 {p : Program} {l : Launch} {e : Env} {s : State} {m : MethodId} {args : Array Value} {below : List Frame} {meth : Method} {c : Code} {D : va_G} {cA : ClassId} {zz : zT} {A : Nat → Prop} (C0 : Cx p s m args meth c b_M_escape R_M 3 none) (hK : va_K D classes [(cA, .int)] s) (hA : ∀ q : Nat, s.heap.size ≤ q → A q) (hZ : ZS zz A s s.heap) (N : Nat) (h_this : Nat) (h_this_tape : Nat) (h_this_list : Nat) (h_this_item : Nat) (h_this_word : Nat) (h_this_text : Nat) (tapeSize_this : Int32) (listSize_this : Int32) (itemSize_this : Int32) (wordSize_this : Int32) (res : Int32 × (Nat → Int32)) :
    ∀ (textSize_this : Int32) (a_text : Nat → Int32) (x1 : Int32) (x2 : Int32), p_M_escape_0 N textSize_this a_text x1 x2 = some res → ∀ (H : Heap) (locs : List Loc), va_P D classes [(h_this, .inr (2, [.ref h_this_tape, .int tapeSize_this, .ref h_this_list, .int listSize_this, .ref h_this_item, .int itemSize_this, .ref h_this_word, .int wordSize_this, .ref h_this_text, .int textSize_this])), (h_this_text, .inl (cA, 4200, .inl a_text))] H → va_D A [(h_this, .inr (2, [.ref h_this_tape, .int tapeSize_this, .ref h_this_list, .int listSize_this, .ref h_this_item, .int itemSize_this, .ref h_this_word, .int wordSize_this, .ref h_this_text, .int textSize_this])), (h_this_text, .inl (cA, 4200, .inl a_text))] → va_S A s.heap H locs → ∀ (ls : Array Slot), lv_has ls 3 [(0, .ref h_this), (1, .int x1), (2, .int x2)] → W p l e rm_M_escape s m args below meth c H locs 0 0 (QV below args s D cA A [(h_this, .inr (2, [.ref h_this_tape, .int tapeSize_this, .ref h_this_list, .int listSize_this, .ref h_this_item, .int itemSize_this, .ref h_this_word, .int wordSize_this, .ref h_this_text, .int res.1])), (h_this_text, .inl (cA, 4200, .inl res.2))]) (F0 m 0 ls []) := by
  obtain ⟨hx, hb, hr, hml, hown, hG, hlk⟩ := id C0
  intro textSize_this a_text x1 x2 h H locs hP hD hS ls hl
  unfold p_M_escape_0 at h
  refine lv_iload_n hx hb d_M_escape_0 rfl (lv_at hl 1 rfl) ?_
  obtain ⟨r_1, h_1, h⟩ := bindS h
  refine call_si (wr := [(h_this, .inr (2, [.ref h_this_tape, .int tapeSize_this, .ref h_this_list, .int listSize_this, .ref h_this_item, .int itemSize_this, .ref h_this_word, .int wordSize_this, .ref h_this_text, .int textSize_this])), (h_this_text, .inl (cA, 4200, .inl a_text))]) (w1 := []) (wN := [(h_this, .inr (2, [.ref h_this_tape, .int tapeSize_this, .ref h_this_list, .int listSize_this, .ref h_this_item, .int itemSize_this, .ref h_this_word, .int wordSize_this, .ref h_this_text, .int textSize_this])), (h_this_text, .inl (cA, 4200, .inl a_text))]) (rest := []) C0 hK hP hD hS hA hZ (c_M_isSpecial l D cA zz N x1 r_1 h_1) [] [0, 1] [0, 1] rfl rfl rfl rfl (by decide) rfl rfl m_M_79 ⟨Nat.le_of_ble_eq_true rfl, Nat.le_of_ble_eq_true rfl⟩ ⟨rfl, rfl⟩ rfl hl.1 rfl (Nat.le_of_ble_eq_true rfl) ⟨Nat.le_of_ble_eq_true rfl, Nat.le_of_ble_eq_true rfl⟩ d_M_escape_1 (fun b_1 H locs hP hD hS => ?_)
  refine lv_if_ne (tgt := 17) hx hb d_M_escape_4 (by decide) (fun c_4 => ?_) (fun c_4 => ?_)
  · have h := iteN c_4 h
    exact t_M_escape_17 C0 hK hA hZ N h_this h_this_tape h_this_list h_this_item h_this_word h_this_text tapeSize_this listSize_this itemSize_this wordSize_this res _ _ _ h H locs hP hD hS ls (lv_sub hl [0, 1] rfl)
  · have h := iteP c_4 h
    refine lv_iload_n hx hb d_M_escape_7 rfl (lv_at hl 2 rfl) ?_
    refine lv_if_eq (tgt := 23) hx hb d_M_escape_8 (by decide) (fun c_8 => ?_) (fun c_8 => ?_)
    · have h := iteP c_8 h
      exact t_M_escape_23 C0 hK hA hZ N h_this h_this_tape h_this_list h_this_item h_this_word h_this_text tapeSize_this listSize_this itemSize_this wordSize_this res _ _ _ h H locs hP hD hS ls (lv_sub hl [0, 1] rfl)
    · have h := iteN c_8 h
      refine lv_iload_n hx hb d_M_escape_11 rfl (lv_at hl 1 rfl) ?_
      refine lv_bipush (v := (35 : Int32)) hx hb d_M_escape_12 (by decide) ?_
      refine lv_icmp_ne (tgt := 23) hx hb d_M_escape_14 (by decide) (fun c_14 => ?_) (fun c_14 => ?_)
      · have h := iteN c_14 h
        exact t_M_escape_23 C0 hK hA hZ N h_this h_this_tape h_this_list h_this_item h_this_word h_this_text tapeSize_this listSize_this itemSize_this wordSize_this res _ _ _ h H locs hP hD hS ls (lv_sub hl [0, 1] rfl)
      · have h := iteP c_14 h
        exact t_M_escape_17 C0 hK hA hZ N h_this h_this_tape h_this_list h_this_item h_this_word h_this_text tapeSize_this listSize_this itemSize_this wordSize_this res _ _ _ h H locs hP hD hS ls (lv_sub hl [0, 1] rfl)
theorem c_M_escape (l : Launch) (D : va_G) (cA : ClassId) (zz : zT) (N : Nat) (h_this : Nat) (h_this_tape : Nat) (h_this_list : Nat) (h_this_item : Nat) (h_this_word : Nat) (h_this_text : Nat) (tapeSize_this : Int32) (listSize_this : Int32) (itemSize_this : Int32) (wordSize_this : Int32) (textSize_this : Int32) (a_text : Nat → Int32) (x1 : Int32) (x2 : Int32) (res : Int32 × (Nat → Int32)) (h : p_M_escape N textSize_this a_text x1 x2 = some res) : MV l D cA zz y_M_escape b_M_escape 3 rm_M_escape [.ref h_this, .int x1, .int x2] [(h_this, .inr (2, [.ref h_this_tape, .int tapeSize_this, .ref h_this_list, .int listSize_this, .ref h_this_item, .int itemSize_this, .ref h_this_word, .int wordSize_this, .ref h_this_text, .int textSize_this])), (h_this_text, .inl (cA, 4200, .inl a_text))] [(h_this, .inr (2, [.ref h_this_tape, .int tapeSize_this, .ref h_this_list, .int listSize_this, .ref h_this_item, .int itemSize_this, .ref h_this_word, .int wordSize_this, .ref h_this_text, .int res.1])), (h_this_text, .inl (cA, 4200, .inl res.2))] := by
  unfold p_M_escape at h
  exact MV_enter (by decide) (Nat.le_of_ble_eq_true rfl) (fun p e s m below meth c A ls C0 hK hA hZ hP hD hl => t_M_escape_0 C0 hK hA hZ N h_this h_this_tape h_this_list h_this_item h_this_word h_this_text tapeSize_this listSize_this itemSize_this wordSize_this res _ _ _ _ h s.heap [] hP hD va_S.rf ls hl)
-- ListWordsModel.write()V
set_option maxHeartbeats 4000000 in
set_option maxRecDepth 100000 in
theorem t_M_write_103 {p : Program} {l : Launch} {e : Env} {s : State} {m : MethodId} {args : Array Value} {below : List Frame} {meth : Method} {c : Code} {D : va_G} {cA : ClassId} {zz : zT} {A : Nat → Prop} (C0 : Cx p s m args meth c b_M_write R_M 4 none) (hK : va_K D classes [(cA, .int)] s) (hA : ∀ q : Nat, s.heap.size ≤ q → A q) (hZ : ZS zz A s s.heap) (N : Nat) (h_this : Nat) (h_this_tape : Nat) (h_this_list : Nat) (h_this_item : Nat) (h_this_word : Nat) (h_this_text : Nat) (tapeSize_this : Int32) (listSize_this : Int32) (itemSize_this : Int32) (wordSize_this : Int32) (a_word : Nat → Int32) (res : Int32 × (Nat → Int32))
    (k_62 : Int32 → (Nat → Int32) → Int32 → Int32 → Int32 → Option (Int32 × (Nat → Int32))) (hk_62 : ∀ (textSize_this : Int32) (a_text : Nat → Int32) (x1 : Int32) (x2 : Int32) (x3 : Int32), k_62 textSize_this a_text x1 x2 x3 = some res → ∀ (H : Heap) (locs : List Loc), va_P D classes [(h_this, .inr (2, [.ref h_this_tape, .int tapeSize_this, .ref h_this_list, .int listSize_this, .ref h_this_item, .int itemSize_this, .ref h_this_word, .int wordSize_this, .ref h_this_text, .int textSize_this])), (h_this_word, .inl (cA, 1024, .inl a_word)), (h_this_text, .inl (cA, 4200, .inl a_text))] H → va_D A [(h_this, .inr (2, [.ref h_this_tape, .int tapeSize_this, .ref h_this_list, .int listSize_this, .ref h_this_item, .int itemSize_this, .ref h_this_word, .int wordSize_this, .ref h_this_text, .int textSize_this])), (h_this_word, .inl (cA, 1024, .inl a_word)), (h_this_text, .inl (cA, 4200, .inl a_text))] → va_S A s.heap H locs → ∀ (ls : Array Slot), lv_has ls 4 [(0, .ref h_this), (1, .int x1), (2, .int x2), (3, .int x3)] → W p l e rm_M_write s m args below meth c H locs 0 0 (QV below args s D cA A [(h_this, .inr (2, [.ref h_this_tape, .int tapeSize_this, .ref h_this_list, .int listSize_this, .ref h_this_item, .int itemSize_this, .ref h_this_word, .int wordSize_this, .ref h_this_text, .int res.1])), (h_this_word, .inl (cA, 1024, .inl a_word)), (h_this_text, .inl (cA, 4200, .inl res.2))]) (F0 m 62 ls [])) :
    ∀ (textSize_this : Int32) (a_text : Nat → Int32) (x1 : Int32) (x2 : Int32) (x3 : Int32) (y0 : Int32) (y1 : Int32), p_M_write_103 N wordSize_this a_word k_62 textSize_this a_text x1 x2 x3 y0 y1 = some res → ∀ (H : Heap) (locs : List Loc), va_P D classes [(h_this, .inr (2, [.ref h_this_tape, .int tapeSize_this, .ref h_this_list, .int listSize_this, .ref h_this_item, .int itemSize_this, .ref h_this_word, .int wordSize_this, .ref h_this_text, .int textSize_this])), (h_this_word, .inl (cA, 1024, .inl a_word)), (h_this_text, .inl (cA, 4200, .inl a_text))] H → va_D A [(h_this, .inr (2, [.ref h_this_tape, .int tapeSize_this, .ref h_this_list, .int listSize_this, .ref h_this_item, .int itemSize_this, .ref h_this_word, .int wordSize_this, .ref h_this_text, .int textSize_this])), (h_this_word, .inl (cA, 1024, .inl a_word)), (h_this_text, .inl (cA, 4200, .inl a_text))] → va_S A s.heap H locs → ∀ (ls : Array Slot), lv_has ls 4 [(0, .ref h_this), (1, .int x1), (2, .int x2), (3, .int x3)] → W p l e rm_M_write s m args below meth c H locs 0 0 (QV below args s D cA A [(h_this, .inr (2, [.ref h_this_tape, .int tapeSize_this, .ref h_this_list, .int listSize_this, .ref h_this_item, .int itemSize_this, .ref h_this_word, .int wordSize_this, .ref h_this_text, .int res.1])), (h_this_word, .inl (cA, 1024, .inl a_word)), (h_this_text, .inl (cA, 4200, .inl res.2))]) (F0 m 103 ls [.int y0, .int y1, .ref h_this]) := by
  obtain ⟨hx, hb, hr, hml, hown, hG, hlk⟩ := id C0
  intro textSize_this a_text x1 x2 x3 y0 y1 h H locs hP hD hS ls hl
  unfold p_M_write_103 at h
  obtain ⟨r_103, h_103, h⟩ := bindS h
  refine call_vv (wr := [(h_this_word, .inl (cA, 1024, .inl a_word))]) (w1 := [(h_this, .inr (2, [.ref h_this_tape, .int tapeSize_this, .ref h_this_list, .int listSize_this, .ref h_this_item, .int itemSize_this, .ref h_this_word, .int wordSize_this, .ref h_this_text, .int r_103.1])), (h_this_text, .inl (cA, 4200, .inl r_103.2))]) (wN := [(h_this, .inr (2, [.ref h_this_tape, .int tapeSize_this, .ref h_this_list, .int listSize_this, .ref h_this_item, .int itemSize_this, .ref h_this_word, .int wordSize_this, .ref h_this_text, .int r_103.1])), (h_this_word, .inl (cA, 1024, .inl a_word)), (h_this_text, .inl (cA, 4200, .inl r_103.2))]) (rest := []) C0 hK hP hD hS hA hZ (c_M_escape l D cA zz N h_this h_this_tape h_this_list h_this_item h_this_word h_this_text tapeSize_this listSize_this itemSize_this wordSize_this textSize_this a_text y1 y0 r_103 h_103) [0, 2] [1] [1, 0, 2] rfl rfl rfl rfl (by decide) rfl rfl 0 2 rfl rfl m_M_92 ⟨Nat.le_of_ble_eq_true rfl, Nat.le_of_ble_eq_true rfl⟩ ⟨rfl, rfl⟩ rfl hl.1 rfl (Nat.le_of_ble_eq_true rfl) ⟨Nat.le_of_ble_eq_true rfl, Nat.le_of_ble_eq_true rfl⟩ d_M_write_103 (fun H locs hP hD hS => ?_)
  refine lv_iinc (v := (x3 + (1 : Int32))) (lv' := [(3, .int (x3 + (1 : Int32))), (0, .ref h_this), (1, .int x1), (2, .int x2)]) hx hb d_M_write_106 hl (k := 3) rfl rfl (by decide) rfl (fun ls hl => ?_)
  refine lv_goto (tgt := 62) hx hb d_M_write_109 (by decide) ?_
  exact hk_62 _ _ _ _ _ h H locs hP hD hS ls (lv_sub hl [1, 2, 3, 0] rfl)
set_option maxHeartbeats 4000000 in
set_option maxRecDepth 100000 in
theorem t_M_write_62 {p : Program} {l : Launch} {e : Env} {s : State} {m : MethodId} {args : Array Value} {below : List Frame} {meth : Method} {c : Code} {D : va_G} {cA : ClassId} {zz : zT} {A : Nat → Prop} (C0 : Cx p s m args meth c b_M_write R_M 4 none) (hK : va_K D classes [(cA, .int)] s) (hA : ∀ q : Nat, s.heap.size ≤ q → A q) (hZ : ZS zz A s s.heap) (N : Nat) (h_this : Nat) (h_this_tape : Nat) (h_this_list : Nat) (h_this_item : Nat) (h_this_word : Nat) (h_this_text : Nat) (tapeSize_this : Int32) (listSize_this : Int32) (itemSize_this : Int32) (wordSize_this : Int32) (a_word : Nat → Int32) (res : Int32 × (Nat → Int32)) :
    ∀ (n : Nat), ∀ (textSize_this : Int32) (a_text : Nat → Int32) (x1 : Int32) (x2 : Int32) (x3 : Int32), p_M_write_62 N wordSize_this a_word n textSize_this a_text x1 x2 x3 = some res → ∀ (H : Heap) (locs : List Loc), va_P D classes [(h_this, .inr (2, [.ref h_this_tape, .int tapeSize_this, .ref h_this_list, .int listSize_this, .ref h_this_item, .int itemSize_this, .ref h_this_word, .int wordSize_this, .ref h_this_text, .int textSize_this])), (h_this_word, .inl (cA, 1024, .inl a_word)), (h_this_text, .inl (cA, 4200, .inl a_text))] H → va_D A [(h_this, .inr (2, [.ref h_this_tape, .int tapeSize_this, .ref h_this_list, .int listSize_this, .ref h_this_item, .int itemSize_this, .ref h_this_word, .int wordSize_this, .ref h_this_text, .int textSize_this])), (h_this_word, .inl (cA, 1024, .inl a_word)), (h_this_text, .inl (cA, 4200, .inl a_text))] → va_S A s.heap H locs → ∀ (ls : Array Slot), lv_has ls 4 [(0, .ref h_this), (1, .int x1), (2, .int x2), (3, .int x3)] → W p l e rm_M_write s m args below meth c H locs 0 0 (QV below args s D cA A [(h_this, .inr (2, [.ref h_this_tape, .int tapeSize_this, .ref h_this_list, .int listSize_this, .ref h_this_item, .int itemSize_this, .ref h_this_word, .int wordSize_this, .ref h_this_text, .int res.1])), (h_this_word, .inl (cA, 1024, .inl a_word)), (h_this_text, .inl (cA, 4200, .inl res.2))]) (F0 m 62 ls []) := by
  obtain ⟨hx, hb, hr, hml, hown, hG, hlk⟩ := id C0
  intro n
  induction n with
  | zero =>
    intro textSize_this a_text x1 x2 x3 h H locs hP hD hS ls hl
    exact absurd h (by simp [p_M_write_62])
  | succ n ih =>
    intro textSize_this a_text x1 x2 x3 h H locs hP hD hS ls hl
    rw [p_M_write_62] at h
    refine lv_iload_n hx hb d_M_write_62 rfl (lv_at hl 3 rfl) ?_
    refine lv_aload_n hx hb d_M_write_63 rfl (lv_at hl 0 rfl) ?_
    refine va_get (D := D) (ci := 2) (v := .int wordSize_this) (C := R_M) (T := F_M) (N := 10) hx hb hG i_M hown hK hP 0 rfl rfl 7 (by decide) (hG _ f_M_49) (fun _ h9 => h9) rfl d_M_write_64 ?_
    refine lv_icmp_ge (tgt := 112) hx hb d_M_write_67 (by decide) (fun c_67 => ?_) (fun c_67 => ?_)
    · have h := iteP c_67 h
      refine lv_iload_n hx hb d_M_write_112 rfl (lv_at hl 1 rfl) ?_
      refine lv_if_eq (tgt := 122) hx hb d_M_write_113 (by decide) (fun c_113 => ?_) (fun c_113 => ?_)
      · have h := iteP c_113 h
        obtain rfl := Option.some.inj h
        exact rV C0 hK hP hD hS d_M_write_122
      · have h := iteN c_113 h
        refine lv_aload_n hx hb d_M_write_116 rfl (lv_at hl 0 rfl) ?_
        refine lv_bipush (v := (125 : Int32)) hx hb d_M_write_117 (by decide) ?_
        obtain ⟨r_119, h_119, h⟩ := bindS h
        refine call_vv (wr := [(h_this_word, .inl (cA, 1024, .inl a_word))]) (w1 := [(h_this, .inr (2, [.ref h_this_tape, .int tapeSize_this, .ref h_this_list, .int listSize_this, .ref h_this_item, .int itemSize_this, .ref h_this_word, .int wordSize_this, .ref h_this_text, .int r_119.1])), (h_this_text, .inl (cA, 4200, .inl r_119.2))]) (wN := [(h_this, .inr (2, [.ref h_this_tape, .int tapeSize_this, .ref h_this_list, .int listSize_this, .ref h_this_item, .int itemSize_this, .ref h_this_word, .int wordSize_this, .ref h_this_text, .int r_119.1])), (h_this_word, .inl (cA, 1024, .inl a_word)), (h_this_text, .inl (cA, 4200, .inl r_119.2))]) (rest := []) C0 hK hP hD hS hA hZ (c_M_put l D cA zz N h_this h_this_tape h_this_list h_this_item h_this_word h_this_text tapeSize_this listSize_this itemSize_this wordSize_this textSize_this a_text (125 : Int32) r_119 h_119) [0, 2] [1] [1, 0, 2] rfl rfl rfl rfl (by decide) rfl rfl 0 2 rfl rfl m_M_82 ⟨Nat.le_of_ble_eq_true rfl, Nat.le_of_ble_eq_true rfl⟩ ⟨rfl, rfl⟩ rfl hl.1 rfl (Nat.le_of_ble_eq_true rfl) ⟨Nat.le_of_ble_eq_true rfl, Nat.le_of_ble_eq_true rfl⟩ d_M_write_119 (fun H locs hP hD hS => ?_)
        obtain rfl := Option.some.inj h
        exact rV C0 hK hP hD hS d_M_write_122
    · have h := iteN c_67 h
      refine lv_iload_n hx hb d_M_write_70 rfl (lv_at hl 2 rfl) ?_
      refine lv_if_eq (tgt := 87) hx hb d_M_write_71 (by decide) (fun c_71 => ?_) (fun c_71 => ?_)
      · have h := iteP c_71 h
        refine lv_aload_n hx hb d_M_write_87 rfl (lv_at hl 0 rfl) ?_
        refine lv_aload_n hx hb d_M_write_88 rfl (lv_at hl 0 rfl) ?_
        refine va_get (D := D) (ci := 2) (v := .ref h_this_word) (C := R_M) (T := F_M) (N := 10) hx hb hG i_M hown hK hP 0 rfl rfl 6 (by decide) (hG _ f_M_19) (fun _ h9 => h9) rfl d_M_write_89 ?_
        refine lv_iload_n hx hb d_M_write_92 rfl (lv_at hl 3 rfl) ?_
        obtain ⟨g_93, h⟩ := guardN h
        refine va_iald hx hb hK hP 1 0 rfl rfl g_93 d_M_write_93 ?_
        refine lv_iload_n hx hb d_M_write_94 rfl (lv_at hl 3 rfl) ?_
        refine lv_if_ne (tgt := 102) hx hb d_M_write_95 (by decide) (fun c_95 => ?_) (fun c_95 => ?_)
        · have h := iteN c_95 h
          refine lv_iconst (v := (0 : Int32)) hx hb d_M_write_102 (by decide) ?_
          exact t_M_write_103 C0 hK hA hZ N h_this h_this_tape h_this_list h_this_item h_this_word h_this_text tapeSize_this listSize_this itemSize_this wordSize_this a_word res (p_M_write_62 N wordSize_this a_word n) ih _ _ _ _ _ _ _ h H locs hP hD hS ls (lv_sub hl [0, 1, 2, 3] rfl)
        · have h := iteP c_95 h
          refine lv_iconst (v := (1 : Int32)) hx hb d_M_write_98 (by decide) ?_
          refine lv_goto (tgt := 103) hx hb d_M_write_99 (by decide) ?_
          exact t_M_write_103 C0 hK hA hZ N h_this h_this_tape h_this_list h_this_item h_this_word h_this_text tapeSize_this listSize_this itemSize_this wordSize_this a_word res (p_M_write_62 N wordSize_this a_word n) ih _ _ _ _ _ _ _ h H locs hP hD hS ls (lv_sub hl [0, 1, 2, 3] rfl)
      · have h := iteN c_71 h
        refine lv_aload_n hx hb d_M_write_74 rfl (lv_at hl 0 rfl) ?_
        refine lv_aload_n hx hb d_M_write_75 rfl (lv_at hl 0 rfl) ?_
        refine va_get (D := D) (ci := 2) (v := .ref h_this_word) (C := R_M) (T := F_M) (N := 10) hx hb hG i_M hown hK hP 0 rfl rfl 6 (by decide) (hG _ f_M_19) (fun _ h9 => h9) rfl d_M_write_76 ?_
        refine lv_iload_n hx hb d_M_write_79 rfl (lv_at hl 3 rfl) ?_
        obtain ⟨g_80, h⟩ := guardN h
        refine va_iald hx hb hK hP 1 0 rfl rfl g_80 d_M_write_80 ?_
        obtain ⟨r_81, h_81, h⟩ := bindS h
        refine call_vv (wr := [(h_this_word, .inl (cA, 1024, .inl a_word))]) (w1 := [(h_this, .inr (2, [.ref h_this_tape, .int tapeSize_this, .ref h_this_list, .int listSize_this, .ref h_this_item, .int itemSize_this, .ref h_this_word, .int wordSize_this, .ref h_this_text, .int r_81.1])), (h_this_text, .inl (cA, 4200, .inl r_81.2))]) (wN := [(h_this, .inr (2, [.ref h_this_tape, .int tapeSize_this, .ref h_this_list, .int listSize_this, .ref h_this_item, .int itemSize_this, .ref h_this_word, .int wordSize_this, .ref h_this_text, .int r_81.1])), (h_this_word, .inl (cA, 1024, .inl a_word)), (h_this_text, .inl (cA, 4200, .inl r_81.2))]) (rest := []) C0 hK hP hD hS hA hZ (c_M_put l D cA zz N h_this h_this_tape h_this_list h_this_item h_this_word h_this_text tapeSize_this listSize_this itemSize_this wordSize_this textSize_this a_text (a_word x3.toNatClampNeg) r_81 h_81) [0, 2] [1] [1, 0, 2] rfl rfl rfl rfl (by decide) rfl rfl 0 2 rfl rfl m_M_82 ⟨Nat.le_of_ble_eq_true rfl, Nat.le_of_ble_eq_true rfl⟩ ⟨rfl, rfl⟩ rfl hl.1 rfl (Nat.le_of_ble_eq_true rfl) ⟨Nat.le_of_ble_eq_true rfl, Nat.le_of_ble_eq_true rfl⟩ d_M_write_81 (fun H locs hP hD hS => ?_)
        refine lv_goto (tgt := 106) hx hb d_M_write_84 (by decide) ?_
        refine lv_iinc (v := (x3 + (1 : Int32))) (lv' := [(3, .int (x3 + (1 : Int32))), (0, .ref h_this), (1, .int x1), (2, .int x2)]) hx hb d_M_write_106 hl (k := 3) rfl rfl (by decide) rfl (fun ls hl => ?_)
        refine lv_goto (tgt := 62) hx hb d_M_write_109 (by decide) ?_
        exact ih _ _ _ _ _ h H locs hP hD hS ls (lv_sub hl [1, 2, 3, 0] rfl)
set_option maxHeartbeats 4000000 in
set_option maxRecDepth 100000 in
theorem t_M_write_49 {p : Program} {l : Launch} {e : Env} {s : State} {m : MethodId} {args : Array Value} {below : List Frame} {meth : Method} {c : Code} {D : va_G} {cA : ClassId} {zz : zT} {A : Nat → Prop} (C0 : Cx p s m args meth c b_M_write R_M 4 none) (hK : va_K D classes [(cA, .int)] s) (hA : ∀ q : Nat, s.heap.size ≤ q → A q) (hZ : ZS zz A s s.heap) (N : Nat) (h_this : Nat) (h_this_tape : Nat) (h_this_list : Nat) (h_this_item : Nat) (h_this_word : Nat) (h_this_text : Nat) (tapeSize_this : Int32) (listSize_this : Int32) (itemSize_this : Int32) (wordSize_this : Int32) (a_word : Nat → Int32) (res : Int32 × (Nat → Int32)) :
    ∀ (textSize_this : Int32) (a_text : Nat → Int32) (x1 : Int32) (y0 : Int32), p_M_write_49 N wordSize_this a_word textSize_this a_text x1 y0 = some res → ∀ (H : Heap) (locs : List Loc), va_P D classes [(h_this, .inr (2, [.ref h_this_tape, .int tapeSize_this, .ref h_this_list, .int listSize_this, .ref h_this_item, .int itemSize_this, .ref h_this_word, .int wordSize_this, .ref h_this_text, .int textSize_this])), (h_this_word, .inl (cA, 1024, .inl a_word)), (h_this_text, .inl (cA, 4200, .inl a_text))] H → va_D A [(h_this, .inr (2, [.ref h_this_tape, .int tapeSize_this, .ref h_this_list, .int listSize_this, .ref h_this_item, .int itemSize_this, .ref h_this_word, .int wordSize_this, .ref h_this_text, .int textSize_this])), (h_this_word, .inl (cA, 1024, .inl a_word)), (h_this_text, .inl (cA, 4200, .inl a_text))] → va_S A s.heap H locs → ∀ (ls : Array Slot), lv_has ls 4 [(0, .ref h_this), (1, .int x1)] → W p l e rm_M_write s m args below meth c H locs 0 0 (QV below args s D cA A [(h_this, .inr (2, [.ref h_this_tape, .int tapeSize_this, .ref h_this_list, .int listSize_this, .ref h_this_item, .int itemSize_this, .ref h_this_word, .int wordSize_this, .ref h_this_text, .int res.1])), (h_this_word, .inl (cA, 1024, .inl a_word)), (h_this_text, .inl (cA, 4200, .inl res.2))]) (F0 m 49 ls [.int y0]) := by
  obtain ⟨hx, hb, hr, hml, hown, hG, hlk⟩ := id C0
  intro textSize_this a_text x1 y0 h H locs hP hD hS ls hl
  unfold p_M_write_49 at h
  refine lv_istore_n (lv' := [(2, .int y0), (0, .ref h_this), (1, .int x1)]) hx hb d_M_write_49 rfl hl (by decide) rfl (fun ls hl => ?_)
  refine lv_iload_n hx hb d_M_write_50 rfl (lv_at hl 2 rfl) ?_
  refine lv_if_eq (tgt := 60) hx hb d_M_write_51 (by decide) (fun c_51 => ?_) (fun c_51 => ?_)
  · have h := iteP c_51 h
    refine lv_iconst (v := (0 : Int32)) hx hb d_M_write_60 (by decide) ?_
    refine lv_istore_n (lv' := [(3, .int (0 : Int32)), (2, .int y0), (0, .ref h_this), (1, .int x1)]) hx hb d_M_write_61 rfl hl (by decide) rfl (fun ls hl => ?_)
    exact t_M_write_62 C0 hK hA hZ N h_this h_this_tape h_this_list h_this_item h_this_word h_this_text tapeSize_this listSize_this itemSize_this wordSize_this a_word res N _ _ _ _ _ h H locs hP hD hS ls (lv_sub hl [2, 3, 1, 0] rfl)
  · have h := iteN c_51 h
    refine lv_aload_n hx hb d_M_write_54 rfl (lv_at hl 1 rfl) ?_
    refine lv_bipush (v := (123 : Int32)) hx hb d_M_write_55 (by decide) ?_
    obtain ⟨r_57, h_57, h⟩ := bindS h
    refine call_vv (wr := [(h_this_word, .inl (cA, 1024, .inl a_word))]) (w1 := [(h_this, .inr (2, [.ref h_this_tape, .int tapeSize_this, .ref h_this_list, .int listSize_this, .ref h_this_item, .int itemSize_this, .ref h_this_word, .int wordSize_this, .ref h_this_text, .int r_57.1])), (h_this_text, .inl (cA, 4200, .inl r_57.2))]) (wN := [(h_this, .inr (2, [.ref h_this_tape, .int tapeSize_this, .ref h_this_list, .int listSize_this, .ref h_this_item, .int itemSize_this, .ref h_this_word, .int wordSize_this, .ref h_this_text, .int r_57.1])), (h_this_word, .inl (cA, 1024, .inl a_word)), (h_this_text, .inl (cA, 4200, .inl r_57.2))]) (rest := []) C0 hK hP hD hS hA hZ (c_M_put l D cA zz N h_this h_this_tape h_this_list h_this_item h_this_word h_this_text tapeSize_this listSize_this itemSize_this wordSize_this textSize_this a_text (123 : Int32) r_57 h_57) [0, 2] [1] [1, 0, 2] rfl rfl rfl rfl (by decide) rfl rfl 0 2 rfl rfl m_M_82 ⟨Nat.le_of_ble_eq_true rfl, Nat.le_of_ble_eq_true rfl⟩ ⟨rfl, rfl⟩ rfl hl.1 rfl (Nat.le_of_ble_eq_true rfl) ⟨Nat.le_of_ble_eq_true rfl, Nat.le_of_ble_eq_true rfl⟩ d_M_write_57 (fun H locs hP hD hS => ?_)
    refine lv_iconst (v := (0 : Int32)) hx hb d_M_write_60 (by decide) ?_
    refine lv_istore_n (lv' := [(3, .int (0 : Int32)), (2, .int y0), (0, .ref h_this), (1, .int x1)]) hx hb d_M_write_61 rfl hl (by decide) rfl (fun ls hl => ?_)
    exact t_M_write_62 C0 hK hA hZ N h_this h_this_tape h_this_list h_this_item h_this_word h_this_text tapeSize_this listSize_this itemSize_this wordSize_this a_word res N _ _ _ _ _ h H locs hP hD hS ls (lv_sub hl [2, 3, 1, 0] rfl)
set_option maxHeartbeats 4000000 in
set_option maxRecDepth 100000 in
theorem t_M_write_44 {p : Program} {l : Launch} {e : Env} {s : State} {m : MethodId} {args : Array Value} {below : List Frame} {meth : Method} {c : Code} {D : va_G} {cA : ClassId} {zz : zT} {A : Nat → Prop} (C0 : Cx p s m args meth c b_M_write R_M 4 none) (hK : va_K D classes [(cA, .int)] s) (hA : ∀ q : Nat, s.heap.size ≤ q → A q) (hZ : ZS zz A s s.heap) (N : Nat) (h_this : Nat) (h_this_tape : Nat) (h_this_list : Nat) (h_this_item : Nat) (h_this_word : Nat) (h_this_text : Nat) (tapeSize_this : Int32) (listSize_this : Int32) (itemSize_this : Int32) (wordSize_this : Int32) (a_word : Nat → Int32) (res : Int32 × (Nat → Int32)) :
    ∀ (textSize_this : Int32) (a_text : Nat → Int32) (x1 : Int32), p_M_write_44 N wordSize_this a_word textSize_this a_text x1 = some res → ∀ (H : Heap) (locs : List Loc), va_P D classes [(h_this, .inr (2, [.ref h_this_tape, .int tapeSize_this, .ref h_this_list, .int listSize_this, .ref h_this_item, .int itemSize_this, .ref h_this_word, .int wordSize_this, .ref h_this_text, .int textSize_this])), (h_this_word, .inl (cA, 1024, .inl a_word)), (h_this_text, .inl (cA, 4200, .inl a_text))] H → va_D A [(h_this, .inr (2, [.ref h_this_tape, .int tapeSize_this, .ref h_this_list, .int listSize_this, .ref h_this_item, .int itemSize_this, .ref h_this_word, .int wordSize_this, .ref h_this_text, .int textSize_this])), (h_this_word, .inl (cA, 1024, .inl a_word)), (h_this_text, .inl (cA, 4200, .inl a_text))] → va_S A s.heap H locs → ∀ (ls : Array Slot), lv_has ls 4 [(0, .ref h_this), (1, .int x1)] → W p l e rm_M_write s m args below meth c H locs 0 0 (QV below args s D cA A [(h_this, .inr (2, [.ref h_this_tape, .int tapeSize_this, .ref h_this_list, .int listSize_this, .ref h_this_item, .int itemSize_this, .ref h_this_word, .int wordSize_this, .ref h_this_text, .int res.1])), (h_this_word, .inl (cA, 1024, .inl a_word)), (h_this_text, .inl (cA, 4200, .inl res.2))]) (F0 m 44 ls []) := by
  obtain ⟨hx, hb, hr, hml, hown, hG, hlk⟩ := id C0
  intro textSize_this a_text x1 h H locs hP hD hS ls hl
  unfold p_M_write_44 at h
  refine lv_iconst (v := (1 : Int32)) hx hb d_M_write_44 (by decide) ?_
  refine lv_goto (tgt := 49) hx hb d_M_write_45 (by decide) ?_
  exact t_M_write_49 C0 hK hA hZ N h_this h_this_tape h_this_list h_this_item h_this_word h_this_text tapeSize_this listSize_this itemSize_this wordSize_this a_word res _ _ _ _ h H locs hP hD hS ls (lv_sub hl [0, 1] rfl)
set_option maxHeartbeats 4000000 in
set_option maxRecDepth 100000 in
theorem t_M_write_32 {p : Program} {l : Launch} {e : Env} {s : State} {m : MethodId} {args : Array Value} {below : List Frame} {meth : Method} {c : Code} {D : va_G} {cA : ClassId} {zz : zT} {A : Nat → Prop} (C0 : Cx p s m args meth c b_M_write R_M 4 none) (hK : va_K D classes [(cA, .int)] s) (hA : ∀ q : Nat, s.heap.size ≤ q → A q) (hZ : ZS zz A s s.heap) (N : Nat) (h_this : Nat) (h_this_tape : Nat) (h_this_list : Nat) (h_this_item : Nat) (h_this_word : Nat) (h_this_text : Nat) (tapeSize_this : Int32) (listSize_this : Int32) (itemSize_this : Int32) (wordSize_this : Int32) (a_word : Nat → Int32) (res : Int32 × (Nat → Int32)) :
    ∀ (textSize_this : Int32) (a_text : Nat → Int32) (y0 : Int32), p_M_write_32 N wordSize_this a_word textSize_this a_text y0 = some res → ∀ (H : Heap) (locs : List Loc), va_P D classes [(h_this, .inr (2, [.ref h_this_tape, .int tapeSize_this, .ref h_this_list, .int listSize_this, .ref h_this_item, .int itemSize_this, .ref h_this_word, .int wordSize_this, .ref h_this_text, .int textSize_this])), (h_this_word, .inl (cA, 1024, .inl a_word)), (h_this_text, .inl (cA, 4200, .inl a_text))] H → va_D A [(h_this, .inr (2, [.ref h_this_tape, .int tapeSize_this, .ref h_this_list, .int listSize_this, .ref h_this_item, .int itemSize_this, .ref h_this_word, .int wordSize_this, .ref h_this_text, .int textSize_this])), (h_this_word, .inl (cA, 1024, .inl a_word)), (h_this_text, .inl (cA, 4200, .inl a_text))] → va_S A s.heap H locs → ∀ (ls : Array Slot), lv_has ls 4 [(0, .ref h_this)] → W p l e rm_M_write s m args below meth c H locs 0 0 (QV below args s D cA A [(h_this, .inr (2, [.ref h_this_tape, .int tapeSize_this, .ref h_this_list, .int listSize_this, .ref h_this_item, .int itemSize_this, .ref h_this_word, .int wordSize_this, .ref h_this_text, .int res.1])), (h_this_word, .inl (cA, 1024, .inl a_word)), (h_this_text, .inl (cA, 4200, .inl res.2))]) (F0 m 32 ls [.int y0]) := by
  obtain ⟨hx, hb, hr, hml, hown, hG, hlk⟩ := id C0
  intro textSize_this a_text y0 h H locs hP hD hS ls hl
  unfold p_M_write_32 at h
  refine lv_istore_n (lv' := [(1, .int y0), (0, .ref h_this)]) hx hb d_M_write_32 rfl hl (by decide) rfl (fun ls hl => ?_)
  refine lv_aload_n hx hb d_M_write_33 rfl (lv_at hl 1 rfl) ?_
  obtain ⟨r_34, h_34, h⟩ := bindS h
  refine call_vi (wr := [(h_this_text, .inl (cA, 4200, .inl a_text))]) (w1 := [(h_this, .inr (2, [.ref h_this_tape, .int tapeSize_this, .ref h_this_list, .int listSize_this, .ref h_this_item, .int itemSize_this, .ref h_this_word, .int wordSize_this, .ref h_this_text, .int textSize_this])), (h_this_word, .inl (cA, 1024, .inl a_word))]) (wN := [(h_this, .inr (2, [.ref h_this_tape, .int tapeSize_this, .ref h_this_list, .int listSize_this, .ref h_this_item, .int itemSize_this, .ref h_this_word, .int wordSize_this, .ref h_this_text, .int textSize_this])), (h_this_word, .inl (cA, 1024, .inl a_word)), (h_this_text, .inl (cA, 4200, .inl a_text))]) (rest := []) C0 hK hP hD hS hA hZ (c_M_isPlain l D cA zz N h_this h_this_tape h_this_list h_this_item h_this_word h_this_text tapeSize_this listSize_this itemSize_this wordSize_this textSize_this a_word r_34 h_34) [0, 1] [2] [1, 2, 0] rfl rfl rfl rfl (by decide) rfl rfl 0 2 rfl rfl m_M_85 ⟨Nat.le_of_ble_eq_true rfl, Nat.le_of_ble_eq_true rfl⟩ ⟨rfl, rfl⟩ rfl hl.1 rfl (Nat.le_of_ble_eq_true rfl) ⟨Nat.le_of_ble_eq_true rfl, Nat.le_of_ble_eq_true rfl⟩ d_M_write_34 (fun b_34 H locs hP hD hS => ?_)
  refine lv_if_ne (tgt := 44) hx hb d_M_write_37 (by decide) (fun c_37 => ?_) (fun c_37 => ?_)
  · have h := iteN c_37 h
    exact t_M_write_44 C0 hK hA hZ N h_this h_this_tape h_this_list h_this_item h_this_word h_this_text tapeSize_this listSize_this itemSize_this wordSize_this a_word res _ _ _ h H locs hP hD hS ls (lv_sub hl [1, 0] rfl)
  · have h := iteP c_37 h
    refine lv_iload_n hx hb d_M_write_40 rfl (lv_at hl 0 rfl) ?_
    refine lv_if_eq (tgt := 48) hx hb d_M_write_41 (by decide) (fun c_41 => ?_) (fun c_41 => ?_)
    · have h := iteP c_41 h
      refine lv_iconst (v := (0 : Int32)) hx hb d_M_write_48 (by decide) ?_
      exact t_M_write_49 C0 hK hA hZ N h_this h_this_tape h_this_list h_this_item h_this_word h_this_text tapeSize_this listSize_this itemSize_this wordSize_this a_word res _ _ _ _ h H locs hP hD hS ls (lv_sub hl [1, 0] rfl)
    · have h := iteN c_41 h
      exact t_M_write_44 C0 hK hA hZ N h_this h_this_tape h_this_list h_this_item h_this_word h_this_text tapeSize_this listSize_this itemSize_this wordSize_this a_word res _ _ _ h H locs hP hD hS ls (lv_sub hl [1, 0] rfl)
set_option maxHeartbeats 4000000 in
set_option maxRecDepth 100000 in
theorem t_M_write_31 {p : Program} {l : Launch} {e : Env} {s : State} {m : MethodId} {args : Array Value} {below : List Frame} {meth : Method} {c : Code} {D : va_G} {cA : ClassId} {zz : zT} {A : Nat → Prop} (C0 : Cx p s m args meth c b_M_write R_M 4 none) (hK : va_K D classes [(cA, .int)] s) (hA : ∀ q : Nat, s.heap.size ≤ q → A q) (hZ : ZS zz A s s.heap) (N : Nat) (h_this : Nat) (h_this_tape : Nat) (h_this_list : Nat) (h_this_item : Nat) (h_this_word : Nat) (h_this_text : Nat) (tapeSize_this : Int32) (listSize_this : Int32) (itemSize_this : Int32) (wordSize_this : Int32) (a_word : Nat → Int32) (res : Int32 × (Nat → Int32)) :
    ∀ (textSize_this : Int32) (a_text : Nat → Int32), p_M_write_31 N wordSize_this a_word textSize_this a_text = some res → ∀ (H : Heap) (locs : List Loc), va_P D classes [(h_this, .inr (2, [.ref h_this_tape, .int tapeSize_this, .ref h_this_list, .int listSize_this, .ref h_this_item, .int itemSize_this, .ref h_this_word, .int wordSize_this, .ref h_this_text, .int textSize_this])), (h_this_word, .inl (cA, 1024, .inl a_word)), (h_this_text, .inl (cA, 4200, .inl a_text))] H → va_D A [(h_this, .inr (2, [.ref h_this_tape, .int tapeSize_this, .ref h_this_list, .int listSize_this, .ref h_this_item, .int itemSize_this, .ref h_this_word, .int wordSize_this, .ref h_this_text, .int textSize_this])), (h_this_word, .inl (cA, 1024, .inl a_word)), (h_this_text, .inl (cA, 4200, .inl a_text))] → va_S A s.heap H locs → ∀ (ls : Array Slot), lv_has ls 4 [(0, .ref h_this)] → W p l e rm_M_write s m args below meth c H locs 0 0 (QV below args s D cA A [(h_this, .inr (2, [.ref h_this_tape, .int tapeSize_this, .ref h_this_list, .int listSize_this, .ref h_this_item, .int itemSize_this, .ref h_this_word, .int wordSize_this, .ref h_this_text, .int res.1])), (h_this_word, .inl (cA, 1024, .inl a_word)), (h_this_text, .inl (cA, 4200, .inl res.2))]) (F0 m 31 ls []) := by
  obtain ⟨hx, hb, hr, hml, hown, hG, hlk⟩ := id C0
  intro textSize_this a_text h H locs hP hD hS ls hl
  unfold p_M_write_31 at h
  refine lv_iconst (v := (0 : Int32)) hx hb d_M_write_31 (by decide) ?_
  exact t_M_write_32 C0 hK hA hZ N h_this h_this_tape h_this_list h_this_item h_this_word h_this_text tapeSize_this listSize_this itemSize_this wordSize_this a_word res _ _ _ h H locs hP hD hS ls (lv_sub hl [0] rfl)
set_option maxHeartbeats 4000000 in
set_option maxRecDepth 100000 in
theorem t_M_write_13 {p : Program} {l : Launch} {e : Env} {s : State} {m : MethodId} {args : Array Value} {below : List Frame} {meth : Method} {c : Code} {D : va_G} {cA : ClassId} {zz : zT} {A : Nat → Prop} (C0 : Cx p s m args meth c b_M_write R_M 4 none) (hK : va_K D classes [(cA, .int)] s) (hA : ∀ q : Nat, s.heap.size ≤ q → A q) (hZ : ZS zz A s s.heap) (N : Nat) (h_this : Nat) (h_this_tape : Nat) (h_this_list : Nat) (h_this_item : Nat) (h_this_word : Nat) (h_this_text : Nat) (tapeSize_this : Int32) (listSize_this : Int32) (itemSize_this : Int32) (wordSize_this : Int32) (a_word : Nat → Int32) (res : Int32 × (Nat → Int32)) :
    ∀ (textSize_this : Int32) (a_text : Nat → Int32), p_M_write_13 N wordSize_this a_word textSize_this a_text = some res → ∀ (H : Heap) (locs : List Loc), va_P D classes [(h_this, .inr (2, [.ref h_this_tape, .int tapeSize_this, .ref h_this_list, .int listSize_this, .ref h_this_item, .int itemSize_this, .ref h_this_word, .int wordSize_this, .ref h_this_text, .int textSize_this])), (h_this_word, .inl (cA, 1024, .inl a_word)), (h_this_text, .inl (cA, 4200, .inl a_text))] H → va_D A [(h_this, .inr (2, [.ref h_this_tape, .int tapeSize_this, .ref h_this_list, .int listSize_this, .ref h_this_item, .int itemSize_this, .ref h_this_word, .int wordSize_this, .ref h_this_text, .int textSize_this])), (h_this_word, .inl (cA, 1024, .inl a_word)), (h_this_text, .inl (cA, 4200, .inl a_text))] → va_S A s.heap H locs → ∀ (ls : Array Slot), lv_has ls 4 [(0, .ref h_this)] → W p l e rm_M_write s m args below meth c H locs 0 0 (QV below args s D cA A [(h_this, .inr (2, [.ref h_this_tape, .int tapeSize_this, .ref h_this_list, .int listSize_this, .ref h_this_item, .int itemSize_this, .ref h_this_word, .int wordSize_this, .ref h_this_text, .int res.1])), (h_this_word, .inl (cA, 1024, .inl a_word)), (h_this_text, .inl (cA, 4200, .inl res.2))]) (F0 m 13 ls []) := by
  obtain ⟨hx, hb, hr, hml, hown, hG, hlk⟩ := id C0
  intro textSize_this a_text h H locs hP hD hS ls hl
  unfold p_M_write_13 at h
  refine lv_aload_n hx hb d_M_write_13 rfl (lv_at hl 0 rfl) ?_
  obtain ⟨r_14, h_14, h⟩ := bindS h
  refine call_vi (wr := [(h_this_text, .inl (cA, 4200, .inl a_text))]) (w1 := [(h_this, .inr (2, [.ref h_this_tape, .int tapeSize_this, .ref h_this_list, .int listSize_this, .ref h_this_item, .int itemSize_this, .ref h_this_word, .int wordSize_this, .ref h_this_text, .int textSize_this])), (h_this_word, .inl (cA, 1024, .inl a_word))]) (wN := [(h_this, .inr (2, [.ref h_this_tape, .int tapeSize_this, .ref h_this_list, .int listSize_this, .ref h_this_item, .int itemSize_this, .ref h_this_word, .int wordSize_this, .ref h_this_text, .int textSize_this])), (h_this_word, .inl (cA, 1024, .inl a_word)), (h_this_text, .inl (cA, 4200, .inl a_text))]) (rest := []) C0 hK hP hD hS hA hZ (c_M_isPlain l D cA zz N h_this h_this_tape h_this_list h_this_item h_this_word h_this_text tapeSize_this listSize_this itemSize_this wordSize_this textSize_this a_word r_14 h_14) [0, 1] [2] [1, 2, 0] rfl rfl rfl rfl (by decide) rfl rfl 0 2 rfl rfl m_M_85 ⟨Nat.le_of_ble_eq_true rfl, Nat.le_of_ble_eq_true rfl⟩ ⟨rfl, rfl⟩ rfl hl.1 rfl (Nat.le_of_ble_eq_true rfl) ⟨Nat.le_of_ble_eq_true rfl, Nat.le_of_ble_eq_true rfl⟩ d_M_write_14 (fun b_14 H locs hP hD hS => ?_)
  refine lv_if_ne (tgt := 31) hx hb d_M_write_17 (by decide) (fun c_17 => ?_) (fun c_17 => ?_)
  · have h := iteN c_17 h
    exact t_M_write_31 C0 hK hA hZ N h_this h_this_tape h_this_list h_this_item h_this_word h_this_text tapeSize_this listSize_this itemSize_this wordSize_this a_word res _ _ h H locs hP hD hS ls (lv_sub hl [0] rfl)
  · have h := iteP c_17 h
    refine lv_aload_n hx hb d_M_write_20 rfl (lv_at hl 0 rfl) ?_
    obtain ⟨r_21, h_21, h⟩ := bindS h
    refine call_vi (wr := [(h_this_text, .inl (cA, 4200, .inl a_text))]) (w1 := [(h_this, .inr (2, [.ref h_this_tape, .int tapeSize_this, .ref h_this_list, .int listSize_this, .ref h_this_item, .int itemSize_this, .ref h_this_word, .int wordSize_this, .ref h_this_text, .int textSize_this])), (h_this_word, .inl (cA, 1024, .inl a_word))]) (wN := [(h_this, .inr (2, [.ref h_this_tape, .int tapeSize_this, .ref h_this_list, .int listSize_this, .ref h_this_item, .int itemSize_this, .ref h_this_word, .int wordSize_this, .ref h_this_text, .int textSize_this])), (h_this_word, .inl (cA, 1024, .inl a_word)), (h_this_text, .inl (cA, 4200, .inl a_text))]) (rest := []) C0 hK hP hD hS hA hZ (c_M_isBraced l D cA zz N h_this h_this_tape h_this_list h_this_item h_this_word h_this_text tapeSize_this listSize_this itemSize_this wordSize_this textSize_this a_word r_21 h_21) [0, 1] [2] [1, 2, 0] rfl rfl rfl rfl (by decide) rfl rfl 0 2 rfl rfl m_M_89 ⟨Nat.le_of_ble_eq_true rfl, Nat.le_of_ble_eq_true rfl⟩ ⟨rfl, rfl⟩ rfl hl.1 rfl (Nat.le_of_ble_eq_true rfl) ⟨Nat.le_of_ble_eq_true rfl, Nat.le_of_ble_eq_true rfl⟩ d_M_write_21 (fun b_21 H locs hP hD hS => ?_)
    refine lv_if_eq (tgt := 31) hx hb d_M_write_24 (by decide) (fun c_24 => ?_) (fun c_24 => ?_)
    · have h := iteP c_24 h
      exact t_M_write_31 C0 hK hA hZ N h_this h_this_tape h_this_list h_this_item h_this_word h_this_text tapeSize_this listSize_this itemSize_this wordSize_this a_word res _ _ h H locs hP hD hS ls (lv_sub hl [0] rfl)
    · have h := iteN c_24 h
      refine lv_iconst (v := (1 : Int32)) hx hb d_M_write_27 (by decide) ?_
      refine lv_goto (tgt := 32) hx hb d_M_write_28 (by decide) ?_
      exact t_M_write_32 C0 hK hA hZ N h_this h_this_tape h_this_list h_this_item h_this_word h_this_text tapeSize_this listSize_this itemSize_this wordSize_this a_word res _ _ _ h H locs hP hD hS ls (lv_sub hl [0] rfl)
set_option maxHeartbeats 4000000 in
set_option maxRecDepth 100000 in
theorem t_M_write_0 {p : Program} {l : Launch} {e : Env} {s : State} {m : MethodId} {args : Array Value} {below : List Frame} {meth : Method} {c : Code} {D : va_G} {cA : ClassId} {zz : zT} {A : Nat → Prop} (C0 : Cx p s m args meth c b_M_write R_M 4 none) (hK : va_K D classes [(cA, .int)] s) (hA : ∀ q : Nat, s.heap.size ≤ q → A q) (hZ : ZS zz A s s.heap) (N : Nat) (h_this : Nat) (h_this_tape : Nat) (h_this_list : Nat) (h_this_item : Nat) (h_this_word : Nat) (h_this_text : Nat) (tapeSize_this : Int32) (listSize_this : Int32) (itemSize_this : Int32) (wordSize_this : Int32) (a_word : Nat → Int32) (res : Int32 × (Nat → Int32)) :
    ∀ (textSize_this : Int32) (a_text : Nat → Int32), p_M_write_0 N wordSize_this a_word textSize_this a_text = some res → ∀ (H : Heap) (locs : List Loc), va_P D classes [(h_this, .inr (2, [.ref h_this_tape, .int tapeSize_this, .ref h_this_list, .int listSize_this, .ref h_this_item, .int itemSize_this, .ref h_this_word, .int wordSize_this, .ref h_this_text, .int textSize_this])), (h_this_word, .inl (cA, 1024, .inl a_word)), (h_this_text, .inl (cA, 4200, .inl a_text))] H → va_D A [(h_this, .inr (2, [.ref h_this_tape, .int tapeSize_this, .ref h_this_list, .int listSize_this, .ref h_this_item, .int itemSize_this, .ref h_this_word, .int wordSize_this, .ref h_this_text, .int textSize_this])), (h_this_word, .inl (cA, 1024, .inl a_word)), (h_this_text, .inl (cA, 4200, .inl a_text))] → va_S A s.heap H locs → ∀ (ls : Array Slot), lv_has ls 4 [(0, .ref h_this)] → W p l e rm_M_write s m args below meth c H locs 0 0 (QV below args s D cA A [(h_this, .inr (2, [.ref h_this_tape, .int tapeSize_this, .ref h_this_list, .int listSize_this, .ref h_this_item, .int itemSize_this, .ref h_this_word, .int wordSize_this, .ref h_this_text, .int res.1])), (h_this_word, .inl (cA, 1024, .inl a_word)), (h_this_text, .inl (cA, 4200, .inl res.2))]) (F0 m 0 ls []) := by
  obtain ⟨hx, hb, hr, hml, hown, hG, hlk⟩ := id C0
  intro textSize_this a_text h H locs hP hD hS ls hl
  unfold p_M_write_0 at h
  refine lv_aload_n hx hb d_M_write_0 rfl (lv_at hl 0 rfl) ?_
  refine va_get (D := D) (ci := 2) (v := .int textSize_this) (C := R_M) (T := F_M) (N := 10) hx hb hG i_M hown hK hP 0 rfl rfl 9 (by decide) (hG _ f_M_76) (fun _ h9 => h9) rfl d_M_write_1 ?_
  refine lv_if_le (tgt := 13) hx hb d_M_write_4 (by decide) (fun c_4 => ?_) (fun c_4 => ?_)
  · have h := iteP c_4 h
    exact t_M_write_13 C0 hK hA hZ N h_this h_this_tape h_this_list h_this_item h_this_word h_this_text tapeSize_this listSize_this itemSize_this wordSize_this a_word res _ _ h H locs hP hD hS ls (lv_sub hl [0] rfl)
  · have h := iteN c_4 h
    refine lv_aload_n hx hb d_M_write_7 rfl (lv_at hl 0 rfl) ?_
    refine lv_bipush (v := (32 : Int32)) hx hb d_M_write_8 (by decide) ?_
    obtain ⟨r_10, h_10, h⟩ := bindS h
    refine call_vv (wr := [(h_this_word, .inl (cA, 1024, .inl a_word))]) (w1 := [(h_this, .inr (2, [.ref h_this_tape, .int tapeSize_this, .ref h_this_list, .int listSize_this, .ref h_this_item, .int itemSize_this, .ref h_this_word, .int wordSize_this, .ref h_this_text, .int r_10.1])), (h_this_text, .inl (cA, 4200, .inl r_10.2))]) (wN := [(h_this, .inr (2, [.ref h_this_tape, .int tapeSize_this, .ref h_this_list, .int listSize_this, .ref h_this_item, .int itemSize_this, .ref h_this_word, .int wordSize_this, .ref h_this_text, .int r_10.1])), (h_this_word, .inl (cA, 1024, .inl a_word)), (h_this_text, .inl (cA, 4200, .inl r_10.2))]) (rest := []) C0 hK hP hD hS hA hZ (c_M_put l D cA zz N h_this h_this_tape h_this_list h_this_item h_this_word h_this_text tapeSize_this listSize_this itemSize_this wordSize_this textSize_this a_text (32 : Int32) r_10 h_10) [0, 2] [1] [1, 0, 2] rfl rfl rfl rfl (by decide) rfl rfl 0 2 rfl rfl m_M_82 ⟨Nat.le_of_ble_eq_true rfl, Nat.le_of_ble_eq_true rfl⟩ ⟨rfl, rfl⟩ rfl hl.1 rfl (Nat.le_of_ble_eq_true rfl) ⟨Nat.le_of_ble_eq_true rfl, Nat.le_of_ble_eq_true rfl⟩ d_M_write_10 (fun H locs hP hD hS => ?_)
    exact t_M_write_13 C0 hK hA hZ N h_this h_this_tape h_this_list h_this_item h_this_word h_this_text tapeSize_this listSize_this itemSize_this wordSize_this a_word res _ _ h H locs hP hD hS ls (lv_sub hl [0] rfl)
theorem c_M_write (l : Launch) (D : va_G) (cA : ClassId) (zz : zT) (N : Nat) (h_this : Nat) (h_this_tape : Nat) (h_this_list : Nat) (h_this_item : Nat) (h_this_word : Nat) (h_this_text : Nat) (tapeSize_this : Int32) (listSize_this : Int32) (itemSize_this : Int32) (wordSize_this : Int32) (textSize_this : Int32) (a_word : Nat → Int32) (a_text : Nat → Int32) (res : Int32 × (Nat → Int32)) (h : p_M_write N wordSize_this textSize_this a_word a_text = some res) : MV l D cA zz y_M_write b_M_write 4 rm_M_write [.ref h_this] [(h_this, .inr (2, [.ref h_this_tape, .int tapeSize_this, .ref h_this_list, .int listSize_this, .ref h_this_item, .int itemSize_this, .ref h_this_word, .int wordSize_this, .ref h_this_text, .int textSize_this])), (h_this_word, .inl (cA, 1024, .inl a_word)), (h_this_text, .inl (cA, 4200, .inl a_text))] [(h_this, .inr (2, [.ref h_this_tape, .int tapeSize_this, .ref h_this_list, .int listSize_this, .ref h_this_item, .int itemSize_this, .ref h_this_word, .int wordSize_this, .ref h_this_text, .int res.1])), (h_this_word, .inl (cA, 1024, .inl a_word)), (h_this_text, .inl (cA, 4200, .inl res.2))] := by
  unfold p_M_write at h
  exact MV_enter (by decide) (Nat.le_of_ble_eq_true rfl) (fun p e s m below meth c A ls C0 hK hA hZ hP hD hl => t_M_write_0 C0 hK hA hZ N h_this h_this_tape h_this_list h_this_item h_this_word h_this_text tapeSize_this listSize_this itemSize_this wordSize_this a_word res _ _ h s.heap [] hP hD va_S.rf ls hl)
-- ListWordsModel.settle()I
set_option maxHeartbeats 4000000 in
set_option maxRecDepth 100000 in
theorem t_M_settle_15 {p : Program} {l : Launch} {e : Env} {s : State} {m : MethodId} {args : Array Value} {below : List Frame} {meth : Method} {c : Code} {D : va_G} {cA : ClassId} {zz : zT} {A : Nat → Prop} (C0 : Cx p s m args meth c b_M_settle R_M 2 (some .int)) (hK : va_K D classes [(cA, .int)] s) (hA : ∀ q : Nat, s.heap.size ≤ q → A q) (hZ : ZS zz A s s.heap) (N : Nat) (h_this : Nat) (h_this_tape : Nat) (h_this_list : Nat) (h_this_item : Nat) (h_this_word : Nat) (h_this_text : Nat) (tapeSize_this : Int32) (itemSize_this : Int32) (wordSize_this : Int32) (textSize_this : Int32) (a_text : Nat → Int32) (res : Int32 × Int32 × (Nat → Int32)) :
    ∀ (n : Nat), ∀ (listSize_this : Int32) (a_list : Nat → Int32) (x1 : Int32), p_M_settle_15 N textSize_this a_text n listSize_this a_list x1 = some res → ∀ (H : Heap) (locs : List Loc), va_P D classes [(h_this, .inr (2, [.ref h_this_tape, .int tapeSize_this, .ref h_this_list, .int listSize_this, .ref h_this_item, .int itemSize_this, .ref h_this_word, .int wordSize_this, .ref h_this_text, .int textSize_this])), (h_this_list, .inl (cA, 1024, .inl a_list)), (h_this_text, .inl (cA, 4200, .inl a_text))] H → va_D A [(h_this, .inr (2, [.ref h_this_tape, .int tapeSize_this, .ref h_this_list, .int listSize_this, .ref h_this_item, .int itemSize_this, .ref h_this_word, .int wordSize_this, .ref h_this_text, .int textSize_this])), (h_this_list, .inl (cA, 1024, .inl a_list)), (h_this_text, .inl (cA, 4200, .inl a_text))] → va_S A s.heap H locs → ∀ (ls : Array Slot), lv_has ls 2 [(0, .ref h_this), (1, .int x1)] → W p l e rm_M_settle s m args below meth c H locs 0 0 (QI .int below args s D cA A (res.1) [(h_this, .inr (2, [.ref h_this_tape, .int tapeSize_this, .ref h_this_list, .int res.2.1, .ref h_this_item, .int itemSize_this, .ref h_this_word, .int wordSize_this, .ref h_this_text, .int textSize_this])), (h_this_list, .inl (cA, 1024, .inl res.2.2)), (h_this_text, .inl (cA, 4200, .inl a_text))]) (F0 m 15 ls []) := by
  obtain ⟨hx, hb, hr, hml, hown, hG, hlk⟩ := id C0
  intro n
  induction n with
  | zero =>
    intro listSize_this a_list x1 h H locs hP hD hS ls hl
    exact absurd h (by simp [p_M_settle_15])
  | succ n ih =>
    intro listSize_this a_list x1 h H locs hP hD hS ls hl
    rw [p_M_settle_15] at h
    refine lv_iload_n hx hb d_M_settle_15 rfl (lv_at hl 1 rfl) ?_
    refine lv_aload_n hx hb d_M_settle_16 rfl (lv_at hl 0 rfl) ?_
    refine va_get (D := D) (ci := 2) (v := .int textSize_this) (C := R_M) (T := F_M) (N := 10) hx hb hG i_M hown hK hP 0 rfl rfl 9 (by decide) (hG _ f_M_76) (fun _ h9 => h9) rfl d_M_settle_17 ?_
    refine lv_icmp_ge (tgt := 41) hx hb d_M_settle_20 (by decide) (fun c_20 => ?_) (fun c_20 => ?_)
    · have h := iteP c_20 h
      refine lv_aload_n hx hb d_M_settle_41 rfl (lv_at hl 0 rfl) ?_
      refine lv_aload_n hx hb d_M_settle_42 rfl (lv_at hl 0 rfl) ?_
      refine va_get (D := D) (ci := 2) (v := .int textSize_this) (C := R_M) (T := F_M) (N := 10) hx hb hG i_M hown hK hP 0 rfl rfl 9 (by decide) (hG _ f_M_76) (fun _ h9 => h9) rfl d_M_settle_43 ?_
      refine va_put (D := D) (ci := 2) (v := .int textSize_this) (ty := .int) (C := R_M) (T := F_M) (N := 10) hx hb hG i_M t_M t_M_ok n_M hown hK hP hD hS 0 rfl rfl 3 (by decide) (hG _ f_M_25) (fun _ h9 => h9) rfl (by decide +kernel) rfl rfl (Nat.le_of_ble_eq_true rfl) d_M_settle_46 (fun H locs hP hD hS => ?_)
      have hP : va_P D classes [(h_this, .inr (2, [.ref h_this_tape, .int tapeSize_this, .ref h_this_list, .int textSize_this, .ref h_this_item, .int itemSize_this, .ref h_this_word, .int wordSize_this, .ref h_this_text, .int textSize_this])), (h_this_list, .inl (cA, 1024, .inl a_list)), (h_this_text, .inl (cA, 4200, .inl a_text))] H := hP
      have hD : va_D A [(h_this, .inr (2, [.ref h_this_tape, .int tapeSize_this, .ref h_this_list, .int textSize_this, .ref h_this_item, .int itemSize_this, .ref h_this_word, .int wordSize_this, .ref h_this_text, .int textSize_this])), (h_this_list, .inl (cA, 1024, .inl a_list)), (h_this_text, .inl (cA, 4200, .inl a_text))] := hD
      refine lv_aload_n hx hb d_M_settle_49 rfl (lv_at hl 0 rfl) ?_
      refine va_get (D := D) (ci := 2) (v := .int textSize_this) (C := R_M) (T := F_M) (N := 10) hx hb hG i_M hown hK hP 0 rfl rfl 9 (by decide) (hG _ f_M_76) (fun _ h9 => h9) rfl d_M_settle_50 ?_
      obtain rfl := Option.some.inj h
      exact rI (v := textSize_this) C0 (vp_nar_int _) hK hP hD hS d_M_settle_53
    · have h := iteN c_20 h
      refine lv_aload_n hx hb d_M_settle_23 rfl (lv_at hl 0 rfl) ?_
      refine va_get (D := D) (ci := 2) (v := .ref h_this_list) (C := R_M) (T := F_M) (N := 10) hx hb hG i_M hown hK hP 0 rfl rfl 2 (by decide) (hG _ f_M_13) (fun _ h9 => h9) rfl d_M_settle_24 ?_
      refine lv_iload_n hx hb d_M_settle_27 rfl (lv_at hl 1 rfl) ?_
      refine lv_aload_n hx hb d_M_settle_28 rfl (lv_at hl 0 rfl) ?_
      refine va_get (D := D) (ci := 2) (v := .ref h_this_text) (C := R_M) (T := F_M) (N := 10) hx hb hG i_M hown hK hP 0 rfl rfl 8 (by decide) (hG _ f_M_22) (fun _ h9 => h9) rfl d_M_settle_29 ?_
      refine lv_iload_n hx hb d_M_settle_32 rfl (lv_at hl 1 rfl) ?_
      obtain ⟨g_33, h⟩ := guardN h
      refine va_iald hx hb hK hP 2 0 rfl rfl g_33 d_M_settle_33 ?_
      obtain ⟨g_34, h⟩ := guardN h
      refine va_iast hx hb hK hP hD hS 1 0 rfl rfl g_34 d_M_settle_34 (fun H locs hP hD hS => ?_)
      have hP : va_P D classes [(h_this, .inr (2, [.ref h_this_tape, .int tapeSize_this, .ref h_this_list, .int listSize_this, .ref h_this_item, .int itemSize_this, .ref h_this_word, .int wordSize_this, .ref h_this_text, .int textSize_this])), (h_this_list, .inl (cA, 1024, .inl (upd a_list x1.toNatClampNeg (a_text x1.toNatClampNeg)))), (h_this_text, .inl (cA, 4200, .inl a_text))] H := hP
      have hD : va_D A [(h_this, .inr (2, [.ref h_this_tape, .int tapeSize_this, .ref h_this_list, .int listSize_this, .ref h_this_item, .int itemSize_this, .ref h_this_word, .int wordSize_this, .ref h_this_text, .int textSize_this])), (h_this_list, .inl (cA, 1024, .inl (upd a_list x1.toNatClampNeg (a_text x1.toNatClampNeg)))), (h_this_text, .inl (cA, 4200, .inl a_text))] := hD
      refine lv_iinc (v := (x1 + (1 : Int32))) (lv' := [(1, .int (x1 + (1 : Int32))), (0, .ref h_this)]) hx hb d_M_settle_35 hl (k := 1) rfl rfl (by decide) rfl (fun ls hl => ?_)
      refine lv_goto (tgt := 15) hx hb d_M_settle_38 (by decide) ?_
      exact ih _ _ _ h H locs hP hD hS ls (lv_sub hl [1, 0] rfl)
set_option maxHeartbeats 4000000 in
set_option maxRecDepth 100000 in
theorem t_M_settle_0 {p : Program} {l : Launch} {e : Env} {s : State} {m : MethodId} {args : Array Value} {below : List Frame} {meth : Method} {c : Code} {D : va_G} {cA : ClassId} {zz : zT} {A : Nat → Prop} (C0 : Cx p s m args meth c b_M_settle R_M 2 (some .int)) (hK : va_K D classes [(cA, .int)] s) (hA : ∀ q : Nat, s.heap.size ≤ q → A q) (hZ : ZS zz A s s.heap) (N : Nat) (h_this : Nat) (h_this_tape : Nat) (h_this_list : Nat) (h_this_item : Nat) (h_this_word : Nat) (h_this_text : Nat) (tapeSize_this : Int32) (itemSize_this : Int32) (wordSize_this : Int32) (textSize_this : Int32) (a_text : Nat → Int32) (res : Int32 × Int32 × (Nat → Int32)) :
    ∀ (listSize_this : Int32) (a_list : Nat → Int32), p_M_settle_0 N textSize_this a_text listSize_this a_list = some res → ∀ (H : Heap) (locs : List Loc), va_P D classes [(h_this, .inr (2, [.ref h_this_tape, .int tapeSize_this, .ref h_this_list, .int listSize_this, .ref h_this_item, .int itemSize_this, .ref h_this_word, .int wordSize_this, .ref h_this_text, .int textSize_this])), (h_this_list, .inl (cA, 1024, .inl a_list)), (h_this_text, .inl (cA, 4200, .inl a_text))] H → va_D A [(h_this, .inr (2, [.ref h_this_tape, .int tapeSize_this, .ref h_this_list, .int listSize_this, .ref h_this_item, .int itemSize_this, .ref h_this_word, .int wordSize_this, .ref h_this_text, .int textSize_this])), (h_this_list, .inl (cA, 1024, .inl a_list)), (h_this_text, .inl (cA, 4200, .inl a_text))] → va_S A s.heap H locs → ∀ (ls : Array Slot), lv_has ls 2 [(0, .ref h_this)] → W p l e rm_M_settle s m args below meth c H locs 0 0 (QI .int below args s D cA A (res.1) [(h_this, .inr (2, [.ref h_this_tape, .int tapeSize_this, .ref h_this_list, .int res.2.1, .ref h_this_item, .int itemSize_this, .ref h_this_word, .int wordSize_this, .ref h_this_text, .int textSize_this])), (h_this_list, .inl (cA, 1024, .inl res.2.2)), (h_this_text, .inl (cA, 4200, .inl a_text))]) (F0 m 0 ls []) := by
  obtain ⟨hx, hb, hr, hml, hown, hG, hlk⟩ := id C0
  intro listSize_this a_list h H locs hP hD hS ls hl
  unfold p_M_settle_0 at h
  refine lv_aload_n hx hb d_M_settle_0 rfl (lv_at hl 0 rfl) ?_
  refine va_get (D := D) (ci := 2) (v := .int textSize_this) (C := R_M) (T := F_M) (N := 10) hx hb hG i_M hown hK hP 0 rfl rfl 9 (by decide) (hG _ f_M_76) (fun _ h9 => h9) rfl d_M_settle_1 ?_
  refine lv_sipush (v := (1024 : Int32)) hx hb d_M_settle_4 (by decide) ?_
  refine lv_icmp_le (tgt := 13) hx hb d_M_settle_7 (by decide) (fun c_7 => ?_) (fun c_7 => ?_)
  · have h := iteP c_7 h
    refine lv_iconst (v := (0 : Int32)) hx hb d_M_settle_13 (by decide) ?_
    refine lv_istore_n (lv' := [(1, .int (0 : Int32)), (0, .ref h_this)]) hx hb d_M_settle_14 rfl hl (by decide) rfl (fun ls hl => ?_)
    exact t_M_settle_15 C0 hK hA hZ N h_this h_this_tape h_this_list h_this_item h_this_word h_this_text tapeSize_this itemSize_this wordSize_this textSize_this a_text res N _ _ _ h H locs hP hD hS ls (lv_sub hl [1, 0] rfl)
  · have h := iteN c_7 h
    refine lv_bipush (v := (-3 : Int32)) hx hb d_M_settle_10 (by decide) ?_
    obtain rfl := Option.some.inj h
    exact rI (v := (-3 : Int32)) C0 (vp_nar_int _) hK hP hD hS d_M_settle_12
theorem c_M_settle (l : Launch) (D : va_G) (cA : ClassId) (zz : zT) (N : Nat) (h_this : Nat) (h_this_tape : Nat) (h_this_list : Nat) (h_this_item : Nat) (h_this_word : Nat) (h_this_text : Nat) (tapeSize_this : Int32) (listSize_this : Int32) (itemSize_this : Int32) (wordSize_this : Int32) (textSize_this : Int32) (a_list : Nat → Int32) (a_text : Nat → Int32) (res : Int32 × Int32 × (Nat → Int32)) (h : p_M_settle N listSize_this textSize_this a_list a_text = some res) : MI l D cA zz y_M_settle b_M_settle 2 .int rm_M_settle [.ref h_this] [(h_this, .inr (2, [.ref h_this_tape, .int tapeSize_this, .ref h_this_list, .int listSize_this, .ref h_this_item, .int itemSize_this, .ref h_this_word, .int wordSize_this, .ref h_this_text, .int textSize_this])), (h_this_list, .inl (cA, 1024, .inl a_list)), (h_this_text, .inl (cA, 4200, .inl a_text))] (res.1) [(h_this, .inr (2, [.ref h_this_tape, .int tapeSize_this, .ref h_this_list, .int res.2.1, .ref h_this_item, .int itemSize_this, .ref h_this_word, .int wordSize_this, .ref h_this_text, .int textSize_this])), (h_this_list, .inl (cA, 1024, .inl res.2.2)), (h_this_text, .inl (cA, 4200, .inl a_text))] := by
  unfold p_M_settle at h
  exact MI_enter (by decide) (Nat.le_of_ble_eq_true rfl) (fun p e s m below meth c A ls C0 hK hA hZ hP hD hl => t_M_settle_0 C0 hK hA hZ N h_this h_this_tape h_this_list h_this_item h_this_word h_this_text tapeSize_this itemSize_this wordSize_this textSize_this a_text res _ _ h s.heap [] hP hD va_S.rf ls hl)
-- ListWordsModel.again()I
set_option maxHeartbeats 4000000 in
set_option maxRecDepth 100000 in
theorem t_M_again_55 {p : Program} {l : Launch} {e : Env} {s : State} {m : MethodId} {args : Array Value} {below : List Frame} {meth : Method} {c : Code} {D : va_G} {cA : ClassId} {zz : zT} {A : Nat → Prop} (C0 : Cx p s m args meth c b_M_again R_M 4 (some .int)) (hK : va_K D classes [(cA, .int)] s) (hA : ∀ q : Nat, s.heap.size ≤ q → A q) (hZ : ZS zz A s s.heap) (N : Nat) (h_this : Nat) (h_this_tape : Nat) (h_this_list : Nat) (h_this_item : Nat) (h_this_word : Nat) (h_this_text : Nat) (tapeSize_this : Int32) (itemSize_this : Int32) (res : Int32 × Int32 × Int32 × Int32 × (Nat → Int32) × (Nat → Int32) × (Nat → Int32)) :
    ∀ (listSize_this : Int32) (wordSize_this : Int32) (textSize_this : Int32) (a_list : Nat → Int32) (a_word : Nat → Int32) (a_text : Nat → Int32), p_M_again_55 N listSize_this wordSize_this textSize_this a_list a_word a_text = some res → ∀ (H : Heap) (locs : List Loc), va_P D classes [(h_this, .inr (2, [.ref h_this_tape, .int tapeSize_this, .ref h_this_list, .int listSize_this, .ref h_this_item, .int itemSize_this, .ref h_this_word, .int wordSize_this, .ref h_this_text, .int textSize_this])), (h_this_list, .inl (cA, 1024, .inl a_list)), (h_this_word, .inl (cA, 1024, .inl a_word)), (h_this_text, .inl (cA, 4200, .inl a_text))] H → va_D A [(h_this, .inr (2, [.ref h_this_tape, .int tapeSize_this, .ref h_this_list, .int listSize_this, .ref h_this_item, .int itemSize_this, .ref h_this_word, .int wordSize_this, .ref h_this_text, .int textSize_this])), (h_this_list, .inl (cA, 1024, .inl a_list)), (h_this_word, .inl (cA, 1024, .inl a_word)), (h_this_text, .inl (cA, 4200, .inl a_text))] → va_S A s.heap H locs → ∀ (ls : Array Slot), lv_has ls 4 [(0, .ref h_this)] → W p l e rm_M_again s m args below meth c H locs 0 0 (QI .int below args s D cA A (res.1) [(h_this, .inr (2, [.ref h_this_tape, .int tapeSize_this, .ref h_this_list, .int res.2.1, .ref h_this_item, .int itemSize_this, .ref h_this_word, .int res.2.2.1, .ref h_this_text, .int res.2.2.2.1])), (h_this_list, .inl (cA, 1024, .inl res.2.2.2.2.1)), (h_this_word, .inl (cA, 1024, .inl res.2.2.2.2.2.1)), (h_this_text, .inl (cA, 4200, .inl res.2.2.2.2.2.2))]) (F0 m 55 ls []) := by
  obtain ⟨hx, hb, hr, hml, hown, hG, hlk⟩ := id C0
  intro listSize_this wordSize_this textSize_this a_list a_word a_text h H locs hP hD hS ls hl
  unfold p_M_again_55 at h
  refine lv_aload_n hx hb d_M_again_55 rfl (lv_at hl 0 rfl) ?_
  obtain ⟨r_56, h_56, h⟩ := bindS h
  refine call_vi (wr := [(h_this_word, .inl (cA, 1024, .inl a_word))]) (w1 := [(h_this, .inr (2, [.ref h_this_tape, .int tapeSize_this, .ref h_this_list, .int r_56.2.1, .ref h_this_item, .int itemSize_this, .ref h_this_word, .int wordSize_this, .ref h_this_text, .int textSize_this])), (h_this_list, .inl (cA, 1024, .inl r_56.2.2)), (h_this_text, .inl (cA, 4200, .inl a_text))]) (wN := [(h_this, .inr (2, [.ref h_this_tape, .int tapeSize_this, .ref h_this_list, .int r_56.2.1, .ref h_this_item, .int itemSize_this, .ref h_this_word, .int wordSize_this, .ref h_this_text, .int textSize_this])), (h_this_list, .inl (cA, 1024, .inl r_56.2.2)), (h_this_word, .inl (cA, 1024, .inl a_word)), (h_this_text, .inl (cA, 4200, .inl a_text))]) (rest := []) C0 hK hP hD hS hA hZ (c_M_settle l D cA zz N h_this h_this_tape h_this_list h_this_item h_this_word h_this_text tapeSize_this listSize_this itemSize_this wordSize_this textSize_this a_list a_text r_56 h_56) [0, 1, 3] [2] [1, 2, 0, 3] rfl rfl rfl rfl (by decide) rfl rfl 0 2 rfl rfl m_M_108 ⟨Nat.le_of_ble_eq_true rfl, Nat.le_of_ble_eq_true rfl⟩ ⟨rfl, rfl⟩ rfl hl.1 rfl (Nat.le_of_ble_eq_true rfl) ⟨Nat.le_of_ble_eq_true rfl, Nat.le_of_ble_eq_true rfl⟩ d_M_again_56 (fun b_56 H locs hP hD hS => ?_)
  obtain rfl := Option.some.inj h
  exact rI (v := r_56.1) C0 (vp_nar_int _) hK hP hD hS d_M_again_59
set_option maxHeartbeats 4000000 in
set_option maxRecDepth 100000 in
theorem t_M_again_24 {p : Program} {l : Launch} {e : Env} {s : State} {m : MethodId} {args : Array Value} {below : List Frame} {meth : Method} {c : Code} {D : va_G} {cA : ClassId} {zz : zT} {A : Nat → Prop} (C0 : Cx p s m args meth c b_M_again R_M 4 (some .int)) (hK : va_K D classes [(cA, .int)] s) (hA : ∀ q : Nat, s.heap.size ≤ q → A q) (hZ : ZS zz A s s.heap) (N : Nat) (h_this : Nat) (h_this_tape : Nat) (h_this_list : Nat) (h_this_item : Nat) (h_this_word : Nat) (h_this_text : Nat) (tapeSize_this : Int32) (itemSize_this : Int32) (res : Int32 × Int32 × Int32 × Int32 × (Nat → Int32) × (Nat → Int32) × (Nat → Int32)) :
    ∀ (n : Nat), ∀ (listSize_this : Int32) (wordSize_this : Int32) (textSize_this : Int32) (a_list : Nat → Int32) (a_word : Nat → Int32) (a_text : Nat → Int32) (x1 : Int32) (x2 : Int32), p_M_again_24 N n listSize_this wordSize_this textSize_this a_list a_word a_text x1 x2 = some res → ∀ (H : Heap) (locs : List Loc), va_P D classes [(h_this, .inr (2, [.ref h_this_tape, .int tapeSize_this, .ref h_this_list, .int listSize_this, .ref h_this_item, .int itemSize_this, .ref h_this_word, .int wordSize_this, .ref h_this_text, .int textSize_this])), (h_this_list, .inl (cA, 1024, .inl a_list)), (h_this_word, .inl (cA, 1024, .inl a_word)), (h_this_text, .inl (cA, 4200, .inl a_text))] H → va_D A [(h_this, .inr (2, [.ref h_this_tape, .int tapeSize_this, .ref h_this_list, .int listSize_this, .ref h_this_item, .int itemSize_this, .ref h_this_word, .int wordSize_this, .ref h_this_text, .int textSize_this])), (h_this_list, .inl (cA, 1024, .inl a_list)), (h_this_word, .inl (cA, 1024, .inl a_word)), (h_this_text, .inl (cA, 4200, .inl a_text))] → va_S A s.heap H locs → ∀ (ls : Array Slot), lv_has ls 4 [(0, .ref h_this), (1, .int x1), (2, .int x2)] → W p l e rm_M_again s m args below meth c H locs 0 0 (QI .int below args s D cA A (res.1) [(h_this, .inr (2, [.ref h_this_tape, .int tapeSize_this, .ref h_this_list, .int res.2.1, .ref h_this_item, .int itemSize_this, .ref h_this_word, .int res.2.2.1, .ref h_this_text, .int res.2.2.2.1])), (h_this_list, .inl (cA, 1024, .inl res.2.2.2.2.1)), (h_this_word, .inl (cA, 1024, .inl res.2.2.2.2.2.1)), (h_this_text, .inl (cA, 4200, .inl res.2.2.2.2.2.2))]) (F0 m 24 ls []) := by
  obtain ⟨hx, hb, hr, hml, hown, hG, hlk⟩ := id C0
  intro n
  induction n with
  | zero =>
    intro listSize_this wordSize_this textSize_this a_list a_word a_text x1 x2 h H locs hP hD hS ls hl
    exact absurd h (by simp [p_M_again_24])
  | succ n ih =>
    intro listSize_this wordSize_this textSize_this a_list a_word a_text x1 x2 h H locs hP hD hS ls hl
    rw [p_M_again_24] at h
    refine lv_iload_n hx hb d_M_again_24 rfl (lv_at hl 2 rfl) ?_
    refine lv_iload_n hx hb d_M_again_25 rfl (lv_at hl 1 rfl) ?_
    refine lv_icmp_ge (tgt := 55) hx hb d_M_again_26 (by decide) (fun c_26 => ?_) (fun c_26 => ?_)
    · have h := iteP c_26 h
      exact t_M_again_55 C0 hK hA hZ N h_this h_this_tape h_this_list h_this_item h_this_word h_this_text tapeSize_this itemSize_this res _ _ _ _ _ _ h H locs hP hD hS ls (lv_sub hl [0] rfl)
    · have h := iteN c_26 h
      refine lv_aload_n hx hb d_M_again_29 rfl (lv_at hl 0 rfl) ?_
      refine va_get (D := D) (ci := 2) (v := .int textSize_this) (C := R_M) (T := F_M) (N := 10) hx hb hG i_M hown hK hP 0 rfl rfl 9 (by decide) (hG _ f_M_76) (fun _ h9 => h9) rfl d_M_again_30 ?_
      refine lv_sipush (v := (1024 : Int32)) hx hb d_M_again_33 (by decide) ?_
      refine lv_icmp_gt (tgt := 55) hx hb d_M_again_36 (by decide) (fun c_36 => ?_) (fun c_36 => ?_)
      · have h := iteP c_36 h
        exact t_M_again_55 C0 hK hA hZ N h_this h_this_tape h_this_list h_this_item h_this_word h_this_text tapeSize_this itemSize_this res _ _ _ _ _ _ h H locs hP hD hS ls (lv_sub hl [0] rfl)
      · have h := iteN c_36 h
        refine lv_aload_n hx hb d_M_again_39 rfl (lv_at hl 0 rfl) ?_
        refine lv_iload_n hx hb d_M_again_40 rfl (lv_at hl 2 rfl) ?_
        obtain ⟨r_41, h_41, h⟩ := bindS h
        refine call_vi (wr := [(h_this_text, .inl (cA, 4200, .inl a_text))]) (w1 := [(h_this, .inr (2, [.ref h_this_tape, .int tapeSize_this, .ref h_this_list, .int listSize_this, .ref h_this_item, .int itemSize_this, .ref h_this_word, .int r_41.2.1, .ref h_this_text, .int textSize_this])), (h_this_list, .inl (cA, 1024, .inl a_list)), (h_this_word, .inl (cA, 1024, .inl r_41.2.2))]) (wN := [(h_this, .inr (2, [.ref h_this_tape, .int tapeSize_this, .ref h_this_list, .int listSize_this, .ref h_this_item, .int itemSize_this, .ref h_this_word, .int r_41.2.1, .ref h_this_text, .int textSize_this])), (h_this_list, .inl (cA, 1024, .inl a_list)), (h_this_word, .inl (cA, 1024, .inl r_41.2.2)), (h_this_text, .inl (cA, 4200, .inl a_text))]) (rest := []) C0 hK hP hD hS hA hZ (c_M_goOver l D cA zz N h_this h_this_tape h_this_list h_this_item h_this_word h_this_text tapeSize_this listSize_this itemSize_this wordSize_this textSize_this a_list a_word x2 r_41 h_41) [0, 1, 2] [3] [1, 2, 3, 0] rfl rfl rfl rfl (by decide) rfl rfl 0 2 rfl rfl m_M_102 ⟨Nat.le_of_ble_eq_true rfl, Nat.le_of_ble_eq_true rfl⟩ ⟨rfl, rfl⟩ rfl hl.1 rfl (Nat.le_of_ble_eq_true rfl) ⟨Nat.le_of_ble_eq_true rfl, Nat.le_of_ble_eq_true rfl⟩ d_M_again_41 (fun b_41 H locs hP hD hS => ?_)
        refine lv_istore_n (lv' := [(3, .int r_41.1), (0, .ref h_this), (1, .int x1), (2, .int x2)]) hx hb d_M_again_44 rfl hl (by decide) rfl (fun ls hl => ?_)
        refine lv_aload_n hx hb d_M_again_45 rfl (lv_at hl 1 rfl) ?_
        obtain ⟨r_46, h_46, h⟩ := bindS h
        refine call_vv (wr := [(h_this_list, .inl (cA, 1024, .inl a_list))]) (w1 := [(h_this, .inr (2, [.ref h_this_tape, .int tapeSize_this, .ref h_this_list, .int listSize_this, .ref h_this_item, .int itemSize_this, .ref h_this_word, .int r_41.2.1, .ref h_this_text, .int r_46.1])), (h_this_word, .inl (cA, 1024, .inl r_41.2.2)), (h_this_text, .inl (cA, 4200, .inl r_46.2))]) (wN := [(h_this, .inr (2, [.ref h_this_tape, .int tapeSize_this, .ref h_this_list, .int listSize_this, .ref h_this_item, .int itemSize_this, .ref h_this_word, .int r_41.2.1, .ref h_this_text, .int r_46.1])), (h_this_list, .inl (cA, 1024, .inl a_list)), (h_this_word, .inl (cA, 1024, .inl r_41.2.2)), (h_this_text, .inl (cA, 4200, .inl r_46.2))]) (rest := []) C0 hK hP hD hS hA hZ (c_M_write l D cA zz N h_this h_this_tape h_this_list h_this_item h_this_word h_this_text tapeSize_this listSize_this itemSize_this r_41.2.1 textSize_this r_41.2.2 a_text r_46 h_46) [0, 2, 3] [1] [1, 0, 2, 3] rfl rfl rfl rfl (by decide) rfl rfl 0 2 rfl rfl m_M_105 ⟨Nat.le_of_ble_eq_true rfl, Nat.le_of_ble_eq_true rfl⟩ ⟨rfl, rfl⟩ rfl hl.1 rfl (Nat.le_of_ble_eq_true rfl) ⟨Nat.le_of_ble_eq_true rfl, Nat.le_of_ble_eq_true rfl⟩ d_M_again_46 (fun H locs hP hD hS => ?_)
        refine lv_iinc (v := (x2 + (1 : Int32))) (lv' := [(2, .int (x2 + (1 : Int32))), (3, .int r_41.1), (0, .ref h_this), (1, .int x1)]) hx hb d_M_again_49 hl (k := 3) rfl rfl (by decide) rfl (fun ls hl => ?_)
        refine lv_goto (tgt := 24) hx hb d_M_again_52 (by decide) ?_
        exact ih _ _ _ _ _ _ _ _ h H locs hP hD hS ls (lv_sub hl [2, 3, 0] rfl)
set_option maxHeartbeats 4000000 in
set_option maxRecDepth 100000 in
theorem t_M_again_0 {p : Program} {l : Launch} {e : Env} {s : State} {m : MethodId} {args : Array Value} {below : List Frame} {meth : Method} {c : Code} {D : va_G} {cA : ClassId} {zz : zT} {A : Nat → Prop} (C0 : Cx p s m args meth c b_M_again R_M 4 (some .int)) (hK : va_K D classes [(cA, .int)] s) (hA : ∀ q : Nat, s.heap.size ≤ q → A q) (hZ : ZS zz A s s.heap) (N : Nat) (h_this : Nat) (h_this_tape : Nat) (h_this_list : Nat) (h_this_item : Nat) (h_this_word : Nat) (h_this_text : Nat) (tapeSize_this : Int32) (itemSize_this : Int32) (res : Int32 × Int32 × Int32 × Int32 × (Nat → Int32) × (Nat → Int32) × (Nat → Int32)) :
    ∀ (listSize_this : Int32) (wordSize_this : Int32) (textSize_this : Int32) (a_list : Nat → Int32) (a_word : Nat → Int32) (a_text : Nat → Int32), p_M_again_0 N listSize_this wordSize_this textSize_this a_list a_word a_text = some res → ∀ (H : Heap) (locs : List Loc), va_P D classes [(h_this, .inr (2, [.ref h_this_tape, .int tapeSize_this, .ref h_this_list, .int listSize_this, .ref h_this_item, .int itemSize_this, .ref h_this_word, .int wordSize_this, .ref h_this_text, .int textSize_this])), (h_this_list, .inl (cA, 1024, .inl a_list)), (h_this_word, .inl (cA, 1024, .inl a_word)), (h_this_text, .inl (cA, 4200, .inl a_text))] H → va_D A [(h_this, .inr (2, [.ref h_this_tape, .int tapeSize_this, .ref h_this_list, .int listSize_this, .ref h_this_item, .int itemSize_this, .ref h_this_word, .int wordSize_this, .ref h_this_text, .int textSize_this])), (h_this_list, .inl (cA, 1024, .inl a_list)), (h_this_word, .inl (cA, 1024, .inl a_word)), (h_this_text, .inl (cA, 4200, .inl a_text))] → va_S A s.heap H locs → ∀ (ls : Array Slot), lv_has ls 4 [(0, .ref h_this)] → W p l e rm_M_again s m args below meth c H locs 0 0 (QI .int below args s D cA A (res.1) [(h_this, .inr (2, [.ref h_this_tape, .int tapeSize_this, .ref h_this_list, .int res.2.1, .ref h_this_item, .int itemSize_this, .ref h_this_word, .int res.2.2.1, .ref h_this_text, .int res.2.2.2.1])), (h_this_list, .inl (cA, 1024, .inl res.2.2.2.2.1)), (h_this_word, .inl (cA, 1024, .inl res.2.2.2.2.2.1)), (h_this_text, .inl (cA, 4200, .inl res.2.2.2.2.2.2))]) (F0 m 0 ls []) := by
  obtain ⟨hx, hb, hr, hml, hown, hG, hlk⟩ := id C0
  intro listSize_this wordSize_this textSize_this a_list a_word a_text h H locs hP hD hS ls hl
  unfold p_M_again_0 at h
  refine lv_aload_n hx hb d_M_again_0 rfl (lv_at hl 0 rfl) ?_
  refine lv_sipush (v := (1024 : Int32)) hx hb d_M_again_1 (by decide) ?_
  obtain ⟨r_4, h_4, h⟩ := bindS h
  refine call_vi (wr := [(h_this_text, .inl (cA, 4200, .inl a_text))]) (w1 := [(h_this, .inr (2, [.ref h_this_tape, .int tapeSize_this, .ref h_this_list, .int listSize_this, .ref h_this_item, .int itemSize_this, .ref h_this_word, .int r_4.2.1, .ref h_this_text, .int textSize_this])), (h_this_list, .inl (cA, 1024, .inl a_list)), (h_this_word, .inl (cA, 1024, .inl r_4.2.2))]) (wN := [(h_this, .inr (2, [.ref h_this_tape, .int tapeSize_this, .ref h_this_list, .int listSize_this, .ref h_this_item, .int itemSize_this, .ref h_this_word, .int r_4.2.1, .ref h_this_text, .int textSize_this])), (h_this_list, .inl (cA, 1024, .inl a_list)), (h_this_word, .inl (cA, 1024, .inl r_4.2.2)), (h_this_text, .inl (cA, 4200, .inl a_text))]) (rest := []) C0 hK hP hD hS hA hZ (c_M_goOver l D cA zz N h_this h_this_tape h_this_list h_this_item h_this_word h_this_text tapeSize_this listSize_this itemSize_this wordSize_this textSize_this a_list a_word (1024 : Int32) r_4 h_4) [0, 1, 2] [3] [1, 2, 3, 0] rfl rfl rfl rfl (by decide) rfl rfl 0 2 rfl rfl m_M_102 ⟨Nat.le_of_ble_eq_true rfl, Nat.le_of_ble_eq_true rfl⟩ ⟨rfl, rfl⟩ rfl hl.1 rfl (Nat.le_of_ble_eq_true rfl) ⟨Nat.le_of_ble_eq_true rfl, Nat.le_of_ble_eq_true rfl⟩ d_M_again_4 (fun b_4 H locs hP hD hS => ?_)
  refine lv_istore_n (lv' := [(1, .int r_4.1), (0, .ref h_this)]) hx hb d_M_again_7 rfl hl (by decide) rfl (fun ls hl => ?_)
  refine lv_iload_n hx hb d_M_again_8 rfl (lv_at hl 0 rfl) ?_
  refine lv_bipush (v := (-2 : Int32)) hx hb d_M_again_9 (by decide) ?_
  refine lv_icmp_ne (tgt := 17) hx hb d_M_again_11 (by decide) (fun c_11 => ?_) (fun c_11 => ?_)
  · have h := iteN c_11 h
    refine lv_aload_n hx hb d_M_again_17 rfl (lv_at hl 1 rfl) ?_
    refine lv_iconst (v := (0 : Int32)) hx hb d_M_again_18 (by decide) ?_
    refine va_put (D := D) (ci := 2) (v := .int (0 : Int32)) (ty := .int) (C := R_M) (T := F_M) (N := 10) hx hb hG i_M t_M t_M_ok n_M hown hK hP hD hS 0 rfl rfl 9 (by decide) (hG _ f_M_76) (fun _ h9 => h9) rfl (by decide +kernel) rfl rfl (Nat.le_of_ble_eq_true rfl) d_M_again_19 (fun H locs hP hD hS => ?_)
    have hP : va_P D classes [(h_this, .inr (2, [.ref h_this_tape, .int tapeSize_this, .ref h_this_list, .int listSize_this, .ref h_this_item, .int itemSize_this, .ref h_this_word, .int r_4.2.1, .ref h_this_text, .int (0 : Int32)])), (h_this_list, .inl (cA, 1024, .inl a_list)), (h_this_word, .inl (cA, 1024, .inl r_4.2.2)), (h_this_text, .inl (cA, 4200, .inl a_text))] H := hP
    have hD : va_D A [(h_this, .inr (2, [.ref h_this_tape, .int tapeSize_this, .ref h_this_list, .int listSize_this, .ref h_this_item, .int itemSize_this, .ref h_this_word, .int r_4.2.1, .ref h_this_text, .int (0 : Int32)])), (h_this_list, .inl (cA, 1024, .inl a_list)), (h_this_word, .inl (cA, 1024, .inl r_4.2.2)), (h_this_text, .inl (cA, 4200, .inl a_text))] := hD
    refine lv_iconst (v := (0 : Int32)) hx hb d_M_again_22 (by decide) ?_
    refine lv_istore_n (lv' := [(2, .int (0 : Int32)), (1, .int r_4.1), (0, .ref h_this)]) hx hb d_M_again_23 rfl hl (by decide) rfl (fun ls hl => ?_)
    exact t_M_again_24 C0 hK hA hZ N h_this h_this_tape h_this_list h_this_item h_this_word h_this_text tapeSize_this itemSize_this res N _ _ _ _ _ _ _ _ h H locs hP hD hS ls (lv_sub hl [2, 1, 0] rfl)
  · have h := iteP c_11 h
    refine lv_bipush (v := (-2 : Int32)) hx hb d_M_again_14 (by decide) ?_
    obtain rfl := Option.some.inj h
    exact rI (v := (-2 : Int32)) C0 (vp_nar_int _) hK hP hD hS d_M_again_16
theorem c_M_again (l : Launch) (D : va_G) (cA : ClassId) (zz : zT) (N : Nat) (h_this : Nat) (h_this_tape : Nat) (h_this_list : Nat) (h_this_item : Nat) (h_this_word : Nat) (h_this_text : Nat) (tapeSize_this : Int32) (listSize_this : Int32) (itemSize_this : Int32) (wordSize_this : Int32) (textSize_this : Int32) (a_list : Nat → Int32) (a_word : Nat → Int32) (a_text : Nat → Int32) (res : Int32 × Int32 × Int32 × Int32 × (Nat → Int32) × (Nat → Int32) × (Nat → Int32)) (h : p_M_again N listSize_this wordSize_this textSize_this a_list a_word a_text = some res) : MI l D cA zz y_M_again b_M_again 4 .int rm_M_again [.ref h_this] [(h_this, .inr (2, [.ref h_this_tape, .int tapeSize_this, .ref h_this_list, .int listSize_this, .ref h_this_item, .int itemSize_this, .ref h_this_word, .int wordSize_this, .ref h_this_text, .int textSize_this])), (h_this_list, .inl (cA, 1024, .inl a_list)), (h_this_word, .inl (cA, 1024, .inl a_word)), (h_this_text, .inl (cA, 4200, .inl a_text))] (res.1) [(h_this, .inr (2, [.ref h_this_tape, .int tapeSize_this, .ref h_this_list, .int res.2.1, .ref h_this_item, .int itemSize_this, .ref h_this_word, .int res.2.2.1, .ref h_this_text, .int res.2.2.2.1])), (h_this_list, .inl (cA, 1024, .inl res.2.2.2.2.1)), (h_this_word, .inl (cA, 1024, .inl res.2.2.2.2.2.1)), (h_this_text, .inl (cA, 4200, .inl res.2.2.2.2.2.2))] := by
  unfold p_M_again at h
  exact MI_enter (by decide) (Nat.le_of_ble_eq_true rfl) (fun p e s m below meth c A ls C0 hK hA hZ hP hD hl => t_M_again_0 C0 hK hA hZ N h_this h_this_tape h_this_list h_this_item h_this_word h_this_text tapeSize_this itemSize_this res _ _ _ _ _ _ h s.heap [] hP hD va_S.rf ls hl)
-- ListWordsModel.append()I
set_option maxHeartbeats 4000000 in
set_option maxRecDepth 100000 in
theorem t_M_append_33 {p : Program} {l : Launch} {e : Env} {s : State} {m : MethodId} {args : Array Value} {below : List Frame} {meth : Method} {c : Code} {D : va_G} {cA : ClassId} {zz : zT} {A : Nat → Prop} (C0 : Cx p s m args meth c b_M_append R_M 2 (some .int)) (hK : va_K D classes [(cA, .int)] s) (hA : ∀ q : Nat, s.heap.size ≤ q → A q) (hZ : ZS zz A s s.heap) (N : Nat) (h_this : Nat) (h_this_tape : Nat) (h_this_list : Nat) (h_this_item : Nat) (h_this_word : Nat) (h_this_text : Nat) (tapeSize_this : Int32) (itemSize_this : Int32) (a_item : Nat → Int32) (res : Int32 × Int32 × Int32 × Int32 × (Nat → Int32) × (Nat → Int32) × (Nat → Int32)) :
    ∀ (n : Nat), ∀ (listSize_this : Int32) (wordSize_this : Int32) (textSize_this : Int32) (a_list : Nat → Int32) (a_word : Nat → Int32) (a_text : Nat → Int32) (x1 : Int32), p_M_append_33 N itemSize_this a_item n listSize_this wordSize_this textSize_this a_list a_word a_text x1 = some res → ∀ (H : Heap) (locs : List Loc), va_P D classes [(h_this, .inr (2, [.ref h_this_tape, .int tapeSize_this, .ref h_this_list, .int listSize_this, .ref h_this_item, .int itemSize_this, .ref h_this_word, .int wordSize_this, .ref h_this_text, .int textSize_this])), (h_this_list, .inl (cA, 1024, .inl a_list)), (h_this_item, .inl (cA, 1024, .inl a_item)), (h_this_word, .inl (cA, 1024, .inl a_word)), (h_this_text, .inl (cA, 4200, .inl a_text))] H → va_D A [(h_this, .inr (2, [.ref h_this_tape, .int tapeSize_this, .ref h_this_list, .int listSize_this, .ref h_this_item, .int itemSize_this, .ref h_this_word, .int wordSize_this, .ref h_this_text, .int textSize_this])), (h_this_list, .inl (cA, 1024, .inl a_list)), (h_this_item, .inl (cA, 1024, .inl a_item)), (h_this_word, .inl (cA, 1024, .inl a_word)), (h_this_text, .inl (cA, 4200, .inl a_text))] → va_S A s.heap H locs → ∀ (ls : Array Slot), lv_has ls 2 [(0, .ref h_this), (1, .int x1)] → W p l e rm_M_append s m args below meth c H locs 0 0 (QI .int below args s D cA A (res.1) [(h_this, .inr (2, [.ref h_this_tape, .int tapeSize_this, .ref h_this_list, .int res.2.1, .ref h_this_item, .int itemSize_this, .ref h_this_word, .int res.2.2.1, .ref h_this_text, .int res.2.2.2.1])), (h_this_list, .inl (cA, 1024, .inl res.2.2.2.2.1)), (h_this_item, .inl (cA, 1024, .inl a_item)), (h_this_word, .inl (cA, 1024, .inl res.2.2.2.2.2.1)), (h_this_text, .inl (cA, 4200, .inl res.2.2.2.2.2.2))]) (F0 m 33 ls []) := by
  obtain ⟨hx, hb, hr, hml, hown, hG, hlk⟩ := id C0
  intro n
  induction n with
  | zero =>
    intro listSize_this wordSize_this textSize_this a_list a_word a_text x1 h H locs hP hD hS ls hl
    exact absurd h (by simp [p_M_append_33])
  | succ n ih =>
    intro listSize_this wordSize_this textSize_this a_list a_word a_text x1 h H locs hP hD hS ls hl
    rw [p_M_append_33] at h
    refine lv_iload_n hx hb d_M_append_33 rfl (lv_at hl 1 rfl) ?_
    refine lv_aload_n hx hb d_M_append_34 rfl (lv_at hl 0 rfl) ?_
    refine va_get (D := D) (ci := 2) (v := .int itemSize_this) (C := R_M) (T := F_M) (N := 10) hx hb hG i_M hown hK hP 0 rfl rfl 5 (by decide) (hG _ f_M_99) (fun _ h9 => h9) rfl d_M_append_35 ?_
    refine lv_icmp_ge (tgt := 59) hx hb d_M_append_38 (by decide) (fun c_38 => ?_) (fun c_38 => ?_)
    · have h := iteP c_38 h
      refine lv_aload_n hx hb d_M_append_59 rfl (lv_at hl 0 rfl) ?_
      refine lv_aload_n hx hb d_M_append_60 rfl (lv_at hl 0 rfl) ?_
      refine va_get (D := D) (ci := 2) (v := .int itemSize_this) (C := R_M) (T := F_M) (N := 10) hx hb hG i_M hown hK hP 0 rfl rfl 5 (by decide) (hG _ f_M_99) (fun _ h9 => h9) rfl d_M_append_61 ?_
      refine va_put (D := D) (ci := 2) (v := .int itemSize_this) (ty := .int) (C := R_M) (T := F_M) (N := 10) hx hb hG i_M t_M t_M_ok n_M hown hK hP hD hS 0 rfl rfl 7 (by decide) (hG _ f_M_49) (fun _ h9 => h9) rfl (by decide +kernel) rfl rfl (Nat.le_of_ble_eq_true rfl) d_M_append_64 (fun H locs hP hD hS => ?_)
      have hP : va_P D classes [(h_this, .inr (2, [.ref h_this_tape, .int tapeSize_this, .ref h_this_list, .int listSize_this, .ref h_this_item, .int itemSize_this, .ref h_this_word, .int itemSize_this, .ref h_this_text, .int textSize_this])), (h_this_list, .inl (cA, 1024, .inl a_list)), (h_this_item, .inl (cA, 1024, .inl a_item)), (h_this_word, .inl (cA, 1024, .inl a_word)), (h_this_text, .inl (cA, 4200, .inl a_text))] H := hP
      have hD : va_D A [(h_this, .inr (2, [.ref h_this_tape, .int tapeSize_this, .ref h_this_list, .int listSize_this, .ref h_this_item, .int itemSize_this, .ref h_this_word, .int itemSize_this, .ref h_this_text, .int textSize_this])), (h_this_list, .inl (cA, 1024, .inl a_list)), (h_this_item, .inl (cA, 1024, .inl a_item)), (h_this_word, .inl (cA, 1024, .inl a_word)), (h_this_text, .inl (cA, 4200, .inl a_text))] := hD
      refine lv_aload_n hx hb d_M_append_67 rfl (lv_at hl 0 rfl) ?_
      obtain ⟨r_68, h_68, h⟩ := bindS h
      refine call_vv (wr := [(h_this_list, .inl (cA, 1024, .inl a_list)), (h_this_item, .inl (cA, 1024, .inl a_item))]) (w1 := [(h_this, .inr (2, [.ref h_this_tape, .int tapeSize_this, .ref h_this_list, .int listSize_this, .ref h_this_item, .int itemSize_this, .ref h_this_word, .int itemSize_this, .ref h_this_text, .int r_68.1])), (h_this_word, .inl (cA, 1024, .inl a_word)), (h_this_text, .inl (cA, 4200, .inl r_68.2))]) (wN := [(h_this, .inr (2, [.ref h_this_tape, .int tapeSize_this, .ref h_this_list, .int listSize_this, .ref h_this_item, .int itemSize_this, .ref h_this_word, .int itemSize_this, .ref h_this_text, .int r_68.1])), (h_this_list, .inl (cA, 1024, .inl a_list)), (h_this_item, .inl (cA, 1024, .inl a_item)), (h_this_word, .inl (cA, 1024, .inl a_word)), (h_this_text, .inl (cA, 4200, .inl r_68.2))]) (rest := []) C0 hK hP hD hS hA hZ (c_M_write l D cA zz N h_this h_this_tape h_this_list h_this_item h_this_word h_this_text tapeSize_this listSize_this itemSize_this itemSize_this textSize_this a_word a_text r_68 h_68) [0, 3, 4] [1, 2] [2, 0, 1, 3, 4] rfl rfl rfl rfl (by decide) rfl rfl 0 2 rfl rfl m_M_105 ⟨Nat.le_of_ble_eq_true rfl, Nat.le_of_ble_eq_true rfl⟩ ⟨rfl, rfl⟩ rfl hl.1 rfl (Nat.le_of_ble_eq_true rfl) ⟨Nat.le_of_ble_eq_true rfl, Nat.le_of_ble_eq_true rfl⟩ d_M_append_68 (fun H locs hP hD hS => ?_)
      refine lv_aload_n hx hb d_M_append_71 rfl (lv_at hl 0 rfl) ?_
      obtain ⟨r_72, h_72, h⟩ := bindS h
      refine call_vi (wr := [(h_this_item, .inl (cA, 1024, .inl a_item)), (h_this_word, .inl (cA, 1024, .inl a_word))]) (w1 := [(h_this, .inr (2, [.ref h_this_tape, .int tapeSize_this, .ref h_this_list, .int r_72.2.1, .ref h_this_item, .int itemSize_this, .ref h_this_word, .int itemSize_this, .ref h_this_text, .int r_68.1])), (h_this_list, .inl (cA, 1024, .inl r_72.2.2)), (h_this_text, .inl (cA, 4200, .inl r_68.2))]) (wN := [(h_this, .inr (2, [.ref h_this_tape, .int tapeSize_this, .ref h_this_list, .int r_72.2.1, .ref h_this_item, .int itemSize_this, .ref h_this_word, .int itemSize_this, .ref h_this_text, .int r_68.1])), (h_this_list, .inl (cA, 1024, .inl r_72.2.2)), (h_this_item, .inl (cA, 1024, .inl a_item)), (h_this_word, .inl (cA, 1024, .inl a_word)), (h_this_text, .inl (cA, 4200, .inl r_68.2))]) (rest := []) C0 hK hP hD hS hA hZ (c_M_settle l D cA zz N h_this h_this_tape h_this_list h_this_item h_this_word h_this_text tapeSize_this listSize_this itemSize_this itemSize_this r_68.1 a_list r_68.2 r_72 h_72) [0, 1, 4] [2, 3] [2, 3, 0, 1, 4] rfl rfl rfl rfl (by decide) rfl rfl 0 2 rfl rfl m_M_108 ⟨Nat.le_of_ble_eq_true rfl, Nat.le_of_ble_eq_true rfl⟩ ⟨rfl, rfl⟩ rfl hl.1 rfl (Nat.le_of_ble_eq_true rfl) ⟨Nat.le_of_ble_eq_true rfl, Nat.le_of_ble_eq_true rfl⟩ d_M_append_72 (fun b_72 H locs hP hD hS => ?_)
      obtain rfl := Option.some.inj h
      exact rI (v := r_72.1) C0 (vp_nar_int _) hK hP hD hS d_M_append_75
    · have h := iteN c_38 h
      refine lv_aload_n hx hb d_M_append_41 rfl (lv_at hl 0 rfl) ?_
      refine va_get (D := D) (ci := 2) (v := .ref h_this_word) (C := R_M) (T := F_M) (N := 10) hx hb hG i_M hown hK hP 0 rfl rfl 6 (by decide) (hG _ f_M_19) (fun _ h9 => h9) rfl d_M_append_42 ?_
      refine lv_iload_n hx hb d_M_append_45 rfl (lv_at hl 1 rfl) ?_
      refine lv_aload_n hx hb d_M_append_46 rfl (lv_at hl 0 rfl) ?_
      refine va_get (D := D) (ci := 2) (v := .ref h_this_item) (C := R_M) (T := F_M) (N := 10) hx hb hG i_M hown hK hP 0 rfl rfl 4 (by decide) (hG _ f_M_16) (fun _ h9 => h9) rfl d_M_append_47 ?_
      refine lv_iload_n hx hb d_M_append_50 rfl (lv_at hl 1 rfl) ?_
      obtain ⟨g_51, h⟩ := guardN h
      refine va_iald hx hb hK hP 2 0 rfl rfl g_51 d_M_append_51 ?_
      obtain ⟨g_52, h⟩ := guardN h
      refine va_iast hx hb hK hP hD hS 3 0 rfl rfl g_52 d_M_append_52 (fun H locs hP hD hS => ?_)
      have hP : va_P D classes [(h_this, .inr (2, [.ref h_this_tape, .int tapeSize_this, .ref h_this_list, .int listSize_this, .ref h_this_item, .int itemSize_this, .ref h_this_word, .int wordSize_this, .ref h_this_text, .int textSize_this])), (h_this_list, .inl (cA, 1024, .inl a_list)), (h_this_item, .inl (cA, 1024, .inl a_item)), (h_this_word, .inl (cA, 1024, .inl (upd a_word x1.toNatClampNeg (a_item x1.toNatClampNeg)))), (h_this_text, .inl (cA, 4200, .inl a_text))] H := hP
      have hD : va_D A [(h_this, .inr (2, [.ref h_this_tape, .int tapeSize_this, .ref h_this_list, .int listSize_this, .ref h_this_item, .int itemSize_this, .ref h_this_word, .int wordSize_this, .ref h_this_text, .int textSize_this])), (h_this_list, .inl (cA, 1024, .inl a_list)), (h_this_item, .inl (cA, 1024, .inl a_item)), (h_this_word, .inl (cA, 1024, .inl (upd a_word x1.toNatClampNeg (a_item x1.toNatClampNeg)))), (h_this_text, .inl (cA, 4200, .inl a_text))] := hD
      refine lv_iinc (v := (x1 + (1 : Int32))) (lv' := [(1, .int (x1 + (1 : Int32))), (0, .ref h_this)]) hx hb d_M_append_53 hl (k := 1) rfl rfl (by decide) rfl (fun ls hl => ?_)
      refine lv_goto (tgt := 33) hx hb d_M_append_56 (by decide) ?_
      exact ih _ _ _ _ _ _ _ h H locs hP hD hS ls (lv_sub hl [1, 0] rfl)
set_option maxHeartbeats 4000000 in
set_option maxRecDepth 100000 in
theorem t_M_append_7 {p : Program} {l : Launch} {e : Env} {s : State} {m : MethodId} {args : Array Value} {below : List Frame} {meth : Method} {c : Code} {D : va_G} {cA : ClassId} {zz : zT} {A : Nat → Prop} (C0 : Cx p s m args meth c b_M_append R_M 2 (some .int)) (hK : va_K D classes [(cA, .int)] s) (hA : ∀ q : Nat, s.heap.size ≤ q → A q) (hZ : ZS zz A s s.heap) (N : Nat) (h_this : Nat) (h_this_tape : Nat) (h_this_list : Nat) (h_this_item : Nat) (h_this_word : Nat) (h_this_text : Nat) (tapeSize_this : Int32) (itemSize_this : Int32) (a_item : Nat → Int32) (res : Int32 × Int32 × Int32 × Int32 × (Nat → Int32) × (Nat → Int32) × (Nat → Int32)) :
    ∀ (n : Nat), ∀ (listSize_this : Int32) (wordSize_this : Int32) (textSize_this : Int32) (a_list : Nat → Int32) (a_word : Nat → Int32) (a_text : Nat → Int32) (x1 : Int32), p_M_append_7 N itemSize_this a_item n listSize_this wordSize_this textSize_this a_list a_word a_text x1 = some res → ∀ (H : Heap) (locs : List Loc), va_P D classes [(h_this, .inr (2, [.ref h_this_tape, .int tapeSize_this, .ref h_this_list, .int listSize_this, .ref h_this_item, .int itemSize_this, .ref h_this_word, .int wordSize_this, .ref h_this_text, .int textSize_this])), (h_this_list, .inl (cA, 1024, .inl a_list)), (h_this_item, .inl (cA, 1024, .inl a_item)), (h_this_word, .inl (cA, 1024, .inl a_word)), (h_this_text, .inl (cA, 4200, .inl a_text))] H → va_D A [(h_this, .inr (2, [.ref h_this_tape, .int tapeSize_this, .ref h_this_list, .int listSize_this, .ref h_this_item, .int itemSize_this, .ref h_this_word, .int wordSize_this, .ref h_this_text, .int textSize_this])), (h_this_list, .inl (cA, 1024, .inl a_list)), (h_this_item, .inl (cA, 1024, .inl a_item)), (h_this_word, .inl (cA, 1024, .inl a_word)), (h_this_text, .inl (cA, 4200, .inl a_text))] → va_S A s.heap H locs → ∀ (ls : Array Slot), lv_has ls 2 [(0, .ref h_this), (1, .int x1)] → W p l e rm_M_append s m args below meth c H locs 0 0 (QI .int below args s D cA A (res.1) [(h_this, .inr (2, [.ref h_this_tape, .int tapeSize_this, .ref h_this_list, .int res.2.1, .ref h_this_item, .int itemSize_this, .ref h_this_word, .int res.2.2.1, .ref h_this_text, .int res.2.2.2.1])), (h_this_list, .inl (cA, 1024, .inl res.2.2.2.2.1)), (h_this_item, .inl (cA, 1024, .inl a_item)), (h_this_word, .inl (cA, 1024, .inl res.2.2.2.2.2.1)), (h_this_text, .inl (cA, 4200, .inl res.2.2.2.2.2.2))]) (F0 m 7 ls []) := by
  obtain ⟨hx, hb, hr, hml, hown, hG, hlk⟩ := id C0
  intro n
  induction n with
  | zero =>
    intro listSize_this wordSize_this textSize_this a_list a_word a_text x1 h H locs hP hD hS ls hl
    exact absurd h (by simp [p_M_append_7])
  | succ n ih =>
    intro listSize_this wordSize_this textSize_this a_list a_word a_text x1 h H locs hP hD hS ls hl
    rw [p_M_append_7] at h
    refine lv_iload_n hx hb d_M_append_7 rfl (lv_at hl 1 rfl) ?_
    refine lv_aload_n hx hb d_M_append_8 rfl (lv_at hl 0 rfl) ?_
    refine va_get (D := D) (ci := 2) (v := .int listSize_this) (C := R_M) (T := F_M) (N := 10) hx hb hG i_M hown hK hP 0 rfl rfl 3 (by decide) (hG _ f_M_25) (fun _ h9 => h9) rfl d_M_append_9 ?_
    refine lv_icmp_ge (tgt := 31) hx hb d_M_append_12 (by decide) (fun c_12 => ?_) (fun c_12 => ?_)
    · have h := iteP c_12 h
      refine lv_iconst (v := (0 : Int32)) hx hb d_M_append_31 (by decide) ?_
      refine lv_istore_n (lv' := [(1, .int (0 : Int32)), (0, .ref h_this)]) hx hb d_M_append_32 rfl hl (by decide) rfl (fun ls hl => ?_)
      exact t_M_append_33 C0 hK hA hZ N h_this h_this_tape h_this_list h_this_item h_this_word h_this_text tapeSize_this itemSize_this a_item res N _ _ _ _ _ _ _ h H locs hP hD hS ls (lv_sub hl [1, 0] rfl)
    · have h := iteN c_12 h
      refine lv_aload_n hx hb d_M_append_15 rfl (lv_at hl 0 rfl) ?_
      refine lv_aload_n hx hb d_M_append_16 rfl (lv_at hl 0 rfl) ?_
      refine va_get (D := D) (ci := 2) (v := .ref h_this_list) (C := R_M) (T := F_M) (N := 10) hx hb hG i_M hown hK hP 0 rfl rfl 2 (by decide) (hG _ f_M_13) (fun _ h9 => h9) rfl d_M_append_17 ?_
      refine lv_iload_n hx hb d_M_append_20 rfl (lv_at hl 1 rfl) ?_
      obtain ⟨g_21, h⟩ := guardN h
      refine va_iald hx hb hK hP 1 0 rfl rfl g_21 d_M_append_21 ?_
      obtain ⟨r_22, h_22, h⟩ := bindS h
      refine call_vv (wr := [(h_this_list, .inl (cA, 1024, .inl a_list)), (h_this_item, .inl (cA, 1024, .inl a_item)), (h_this_word, .inl (cA, 1024, .inl a_word))]) (w1 := [(h_this, .inr (2, [.ref h_this_tape, .int tapeSize_this, .ref h_this_list, .int listSize_this, .ref h_this_item, .int itemSize_this, .ref h_this_word, .int wordSize_this, .ref h_this_text, .int r_22.1])), (h_this_text, .inl (cA, 4200, .inl r_22.2))]) (wN := [(h_this, .inr (2, [.ref h_this_tape, .int tapeSize_this, .ref h_this_list, .int listSize_this, .ref h_this_item, .int itemSize_this, .ref h_this_word, .int wordSize_this, .ref h_this_text, .int r_22.1])), (h_this_list, .inl (cA, 1024, .inl a_list)), (h_this_item, .inl (cA, 1024, .inl a_item)), (h_this_word, .inl (cA, 1024, .inl a_word)), (h_this_text, .inl (cA, 4200, .inl r_22.2))]) (rest := []) C0 hK hP hD hS hA hZ (c_M_put l D cA zz N h_this h_this_tape h_this_list h_this_item h_this_word h_this_text tapeSize_this listSize_this itemSize_this wordSize_this textSize_this a_text (a_list x1.toNatClampNeg) r_22 h_22) [0, 4] [1, 2, 3] [3, 0, 1, 2, 4] rfl rfl rfl rfl (by decide) rfl rfl 0 2 rfl rfl m_M_82 ⟨Nat.le_of_ble_eq_true rfl, Nat.le_of_ble_eq_true rfl⟩ ⟨rfl, rfl⟩ rfl hl.1 rfl (Nat.le_of_ble_eq_true rfl) ⟨Nat.le_of_ble_eq_true rfl, Nat.le_of_ble_eq_true rfl⟩ d_M_append_22 (fun H locs hP hD hS => ?_)
      refine lv_iinc (v := (x1 + (1 : Int32))) (lv' := [(1, .int (x1 + (1 : Int32))), (0, .ref h_this)]) hx hb d_M_append_25 hl (k := 1) rfl rfl (by decide) rfl (fun ls hl => ?_)
      refine lv_goto (tgt := 7) hx hb d_M_append_28 (by decide) ?_
      exact ih _ _ _ _ _ _ _ h H locs hP hD hS ls (lv_sub hl [1, 0] rfl)
set_option maxHeartbeats 4000000 in
set_option maxRecDepth 100000 in
theorem t_M_append_0 {p : Program} {l : Launch} {e : Env} {s : State} {m : MethodId} {args : Array Value} {below : List Frame} {meth : Method} {c : Code} {D : va_G} {cA : ClassId} {zz : zT} {A : Nat → Prop} (C0 : Cx p s m args meth c b_M_append R_M 2 (some .int)) (hK : va_K D classes [(cA, .int)] s) (hA : ∀ q : Nat, s.heap.size ≤ q → A q) (hZ : ZS zz A s s.heap) (N : Nat) (h_this : Nat) (h_this_tape : Nat) (h_this_list : Nat) (h_this_item : Nat) (h_this_word : Nat) (h_this_text : Nat) (tapeSize_this : Int32) (itemSize_this : Int32) (a_item : Nat → Int32) (res : Int32 × Int32 × Int32 × Int32 × (Nat → Int32) × (Nat → Int32) × (Nat → Int32)) :
    ∀ (listSize_this : Int32) (wordSize_this : Int32) (textSize_this : Int32) (a_list : Nat → Int32) (a_word : Nat → Int32) (a_text : Nat → Int32), p_M_append_0 N itemSize_this a_item listSize_this wordSize_this textSize_this a_list a_word a_text = some res → ∀ (H : Heap) (locs : List Loc), va_P D classes [(h_this, .inr (2, [.ref h_this_tape, .int tapeSize_this, .ref h_this_list, .int listSize_this, .ref h_this_item, .int itemSize_this, .ref h_this_word, .int wordSize_this, .ref h_this_text, .int textSize_this])), (h_this_list, .inl (cA, 1024, .inl a_list)), (h_this_item, .inl (cA, 1024, .inl a_item)), (h_this_word, .inl (cA, 1024, .inl a_word)), (h_this_text, .inl (cA, 4200, .inl a_text))] H → va_D A [(h_this, .inr (2, [.ref h_this_tape, .int tapeSize_this, .ref h_this_list, .int listSize_this, .ref h_this_item, .int itemSize_this, .ref h_this_word, .int wordSize_this, .ref h_this_text, .int textSize_this])), (h_this_list, .inl (cA, 1024, .inl a_list)), (h_this_item, .inl (cA, 1024, .inl a_item)), (h_this_word, .inl (cA, 1024, .inl a_word)), (h_this_text, .inl (cA, 4200, .inl a_text))] → va_S A s.heap H locs → ∀ (ls : Array Slot), lv_has ls 2 [(0, .ref h_this)] → W p l e rm_M_append s m args below meth c H locs 0 0 (QI .int below args s D cA A (res.1) [(h_this, .inr (2, [.ref h_this_tape, .int tapeSize_this, .ref h_this_list, .int res.2.1, .ref h_this_item, .int itemSize_this, .ref h_this_word, .int res.2.2.1, .ref h_this_text, .int res.2.2.2.1])), (h_this_list, .inl (cA, 1024, .inl res.2.2.2.2.1)), (h_this_item, .inl (cA, 1024, .inl a_item)), (h_this_word, .inl (cA, 1024, .inl res.2.2.2.2.2.1)), (h_this_text, .inl (cA, 4200, .inl res.2.2.2.2.2.2))]) (F0 m 0 ls []) := by
  obtain ⟨hx, hb, hr, hml, hown, hG, hlk⟩ := id C0
  intro listSize_this wordSize_this textSize_this a_list a_word a_text h H locs hP hD hS ls hl
  unfold p_M_append_0 at h
  refine lv_aload_n hx hb d_M_append_0 rfl (lv_at hl 0 rfl) ?_
  refine lv_iconst (v := (0 : Int32)) hx hb d_M_append_1 (by decide) ?_
  refine va_put (D := D) (ci := 2) (v := .int (0 : Int32)) (ty := .int) (C := R_M) (T := F_M) (N := 10) hx hb hG i_M t_M t_M_ok n_M hown hK hP hD hS 0 rfl rfl 9 (by decide) (hG _ f_M_76) (fun _ h9 => h9) rfl (by decide +kernel) rfl rfl (Nat.le_of_ble_eq_true rfl) d_M_append_2 (fun H locs hP hD hS => ?_)
  have hP : va_P D classes [(h_this, .inr (2, [.ref h_this_tape, .int tapeSize_this, .ref h_this_list, .int listSize_this, .ref h_this_item, .int itemSize_this, .ref h_this_word, .int wordSize_this, .ref h_this_text, .int (0 : Int32)])), (h_this_list, .inl (cA, 1024, .inl a_list)), (h_this_item, .inl (cA, 1024, .inl a_item)), (h_this_word, .inl (cA, 1024, .inl a_word)), (h_this_text, .inl (cA, 4200, .inl a_text))] H := hP
  have hD : va_D A [(h_this, .inr (2, [.ref h_this_tape, .int tapeSize_this, .ref h_this_list, .int listSize_this, .ref h_this_item, .int itemSize_this, .ref h_this_word, .int wordSize_this, .ref h_this_text, .int (0 : Int32)])), (h_this_list, .inl (cA, 1024, .inl a_list)), (h_this_item, .inl (cA, 1024, .inl a_item)), (h_this_word, .inl (cA, 1024, .inl a_word)), (h_this_text, .inl (cA, 4200, .inl a_text))] := hD
  refine lv_iconst (v := (0 : Int32)) hx hb d_M_append_5 (by decide) ?_
  refine lv_istore_n (lv' := [(1, .int (0 : Int32)), (0, .ref h_this)]) hx hb d_M_append_6 rfl hl (by decide) rfl (fun ls hl => ?_)
  exact t_M_append_7 C0 hK hA hZ N h_this h_this_tape h_this_list h_this_item h_this_word h_this_text tapeSize_this itemSize_this a_item res N _ _ _ _ _ _ _ h H locs hP hD hS ls (lv_sub hl [1, 0] rfl)
theorem c_M_append (l : Launch) (D : va_G) (cA : ClassId) (zz : zT) (N : Nat) (h_this : Nat) (h_this_tape : Nat) (h_this_list : Nat) (h_this_item : Nat) (h_this_word : Nat) (h_this_text : Nat) (tapeSize_this : Int32) (listSize_this : Int32) (itemSize_this : Int32) (wordSize_this : Int32) (textSize_this : Int32) (a_list : Nat → Int32) (a_item : Nat → Int32) (a_word : Nat → Int32) (a_text : Nat → Int32) (res : Int32 × Int32 × Int32 × Int32 × (Nat → Int32) × (Nat → Int32) × (Nat → Int32)) (h : p_M_append N listSize_this itemSize_this wordSize_this textSize_this a_list a_item a_word a_text = some res) : MI l D cA zz y_M_append b_M_append 2 .int rm_M_append [.ref h_this] [(h_this, .inr (2, [.ref h_this_tape, .int tapeSize_this, .ref h_this_list, .int listSize_this, .ref h_this_item, .int itemSize_this, .ref h_this_word, .int wordSize_this, .ref h_this_text, .int textSize_this])), (h_this_list, .inl (cA, 1024, .inl a_list)), (h_this_item, .inl (cA, 1024, .inl a_item)), (h_this_word, .inl (cA, 1024, .inl a_word)), (h_this_text, .inl (cA, 4200, .inl a_text))] (res.1) [(h_this, .inr (2, [.ref h_this_tape, .int tapeSize_this, .ref h_this_list, .int res.2.1, .ref h_this_item, .int itemSize_this, .ref h_this_word, .int res.2.2.1, .ref h_this_text, .int res.2.2.2.1])), (h_this_list, .inl (cA, 1024, .inl res.2.2.2.2.1)), (h_this_item, .inl (cA, 1024, .inl a_item)), (h_this_word, .inl (cA, 1024, .inl res.2.2.2.2.2.1)), (h_this_text, .inl (cA, 4200, .inl res.2.2.2.2.2.2))] := by
  unfold p_M_append at h
  exact MI_enter (by decide) (Nat.le_of_ble_eq_true rfl) (fun p e s m below meth c A ls C0 hK hA hZ hP hD hl => t_M_append_0 C0 hK hA hZ N h_this h_this_tape h_this_list h_this_item h_this_word h_this_text tapeSize_this itemSize_this a_item res _ _ _ _ _ _ h s.heap [] hP hD va_S.rf ls hl)
