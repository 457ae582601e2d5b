-- ListWordsModel.element(I)I
set_option maxHeartbeats 4000000 in
set_option maxRecDepth 100000 in
theorem t_M_element_36 {p : Program} {l : Launch} {e : Env} {s : State} {m : MethodId} {args : Array Value} {below : List Frame} {meth : Method} {c : Code} {D : va_G} {cA : ClassId} {zz : zT} {A : Nat → Prop} (C0 : Cx p s m args meth c b_M_element R_M 4 (some .int)) (hK : va_K D classes [(cA, .int)] s) (hA : ∀ q : Nat, s.heap.size ≤ q → A q) (hZ : ZS zz A s s.heap) (N : Nat) (h_this : Nat) (h_this_tape : Nat) (h_this_list : Nat) (h_this_item : Nat) (h_this_word : Nat) (h_this_text : Nat) (tapeSize_this : Int32) (listSize_this : Int32) (textSize_this : Int32) (a_list : Nat → Int32) (res : Int32 × Int32 × Int32 × (Nat → Int32) × (Nat → Int32)) :
    ∀ (n : Nat), ∀ (itemSize_this : Int32) (wordSize_this : Int32) (a_item : Nat → Int32) (a_word : Nat → Int32) (x3 : Int32), p_M_element_36 N listSize_this a_list n itemSize_this wordSize_this a_item a_word x3 = some res → ∀ (H : Heap) (locs : List Loc), va_P D classes [(h_this, .inr (2, [.ref h_this_tape, .int tapeSize_this, .ref h_this_list, .int listSize_this, .ref h_this_item, .int itemSize_this, .ref h_this_word, .int wordSize_this, .ref h_this_text, .int textSize_this])), (h_this_list, .inl (cA, 1024, .inl a_list)), (h_this_item, .inl (cA, 1024, .inl a_item)), (h_this_word, .inl (cA, 1024, .inl a_word))] H → va_D A [(h_this, .inr (2, [.ref h_this_tape, .int tapeSize_this, .ref h_this_list, .int listSize_this, .ref h_this_item, .int itemSize_this, .ref h_this_word, .int wordSize_this, .ref h_this_text, .int textSize_this])), (h_this_list, .inl (cA, 1024, .inl a_list)), (h_this_item, .inl (cA, 1024, .inl a_item)), (h_this_word, .inl (cA, 1024, .inl a_word))] → va_S A s.heap H locs → ∀ (ls : Array Slot), lv_has ls 4 [(0, .ref h_this), (3, .int x3)] → W p l e rm_M_element s m args below meth c H locs 0 0 (QI .int below args s D cA A (res.1) [(h_this, .inr (2, [.ref h_this_tape, .int tapeSize_this, .ref h_this_list, .int listSize_this, .ref h_this_item, .int res.2.1, .ref h_this_word, .int res.2.2.1, .ref h_this_text, .int textSize_this])), (h_this_list, .inl (cA, 1024, .inl a_list)), (h_this_item, .inl (cA, 1024, .inl res.2.2.2.1)), (h_this_word, .inl (cA, 1024, .inl res.2.2.2.2))]) (F0 m 36 ls []) := by
  obtain ⟨hx, hb, hr, hml, hown, hG, hlk⟩ := id C0
  intro n
  induction n with
  | zero =>
    intro itemSize_this wordSize_this a_item a_word x3 h H locs hP hD hS ls hl
    exact absurd h (by simp [p_M_element_36])
  | succ n ih =>
    intro itemSize_this wordSize_this a_item a_word x3 h H locs hP hD hS ls hl
    rw [p_M_element_36] at h
    refine lv_iload_n hx hb d_M_element_36 rfl (lv_at hl 1 rfl) ?_
    refine lv_aload_n hx hb d_M_element_37 rfl (lv_at hl 0 rfl) ?_
    refine va_get (D := D) (ci := 2) (v := .int wordSize_this) (C := R_M) (T := F_M) (N := 10) hx hb hG i_M hown hK hP 0 rfl rfl 7 (by decide) (hG _ f_M_49) (fun _ h9 => h9) rfl d_M_element_38 ?_
    refine lv_icmp_ge (tgt := 62) hx hb d_M_element_41 (by decide) (fun c_41 => ?_) (fun c_41 => ?_)
    · have h := iteP c_41 h
      refine lv_aload_n hx hb d_M_element_62 rfl (lv_at hl 0 rfl) ?_
      refine lv_aload_n hx hb d_M_element_63 rfl (lv_at hl 0 rfl) ?_
      refine va_get (D := D) (ci := 2) (v := .int wordSize_this) (C := R_M) (T := F_M) (N := 10) hx hb hG i_M hown hK hP 0 rfl rfl 7 (by decide) (hG _ f_M_49) (fun _ h9 => h9) rfl d_M_element_64 ?_
      refine va_put (D := D) (ci := 2) (v := .int wordSize_this) (ty := .int) (C := R_M) (T := F_M) (N := 10) hx hb hG i_M t_M t_M_ok n_M hown hK hP hD hS 0 rfl rfl 5 (by decide) (hG _ f_M_99) (fun _ h9 => h9) rfl (by decide +kernel) rfl rfl (Nat.le_of_ble_eq_true rfl) d_M_element_67 (fun H locs hP hD hS => ?_)
      have hP : va_P D classes [(h_this, .inr (2, [.ref h_this_tape, .int tapeSize_this, .ref h_this_list, .int listSize_this, .ref h_this_item, .int wordSize_this, .ref h_this_word, .int wordSize_this, .ref h_this_text, .int textSize_this])), (h_this_list, .inl (cA, 1024, .inl a_list)), (h_this_item, .inl (cA, 1024, .inl a_item)), (h_this_word, .inl (cA, 1024, .inl a_word))] H := hP
      have hD : va_D A [(h_this, .inr (2, [.ref h_this_tape, .int tapeSize_this, .ref h_this_list, .int listSize_this, .ref h_this_item, .int wordSize_this, .ref h_this_word, .int wordSize_this, .ref h_this_text, .int textSize_this])), (h_this_list, .inl (cA, 1024, .inl a_list)), (h_this_item, .inl (cA, 1024, .inl a_item)), (h_this_word, .inl (cA, 1024, .inl a_word))] := hD
      refine lv_aload_n hx hb d_M_element_70 rfl (lv_at hl 0 rfl) ?_
      refine va_get (D := D) (ci := 2) (v := .int wordSize_this) (C := R_M) (T := F_M) (N := 10) hx hb hG i_M hown hK hP 0 rfl rfl 5 (by decide) (hG _ f_M_99) (fun _ h9 => h9) rfl d_M_element_71 ?_
      obtain rfl := Option.some.inj h
      exact rI (v := wordSize_this) C0 (vp_nar_int _) hK hP hD hS d_M_element_74
    · have h := iteN c_41 h
      refine lv_aload_n hx hb d_M_element_44 rfl (lv_at hl 0 rfl) ?_
      refine va_get (D := D) (ci := 2) (v := .ref h_this_item) (C := R_M) (T := F_M) (N := 10) hx hb hG i_M hown hK hP 0 rfl rfl 4 (by decide) (hG _ f_M_16) (fun _ h9 => h9) rfl d_M_element_45 ?_
      refine lv_iload_n hx hb d_M_element_48 rfl (lv_at hl 1 rfl) ?_
      refine lv_aload_n hx hb d_M_element_49 rfl (lv_at hl 0 rfl) ?_
      refine va_get (D := D) (ci := 2) (v := .ref h_this_word) (C := R_M) (T := F_M) (N := 10) hx hb hG i_M hown hK hP 0 rfl rfl 6 (by decide) (hG _ f_M_19) (fun _ h9 => h9) rfl d_M_element_50 ?_
      refine lv_iload_n hx hb d_M_element_53 rfl (lv_at hl 1 rfl) ?_
      obtain ⟨g_54, h⟩ := guardN h
      refine va_iald hx hb hK hP 3 0 rfl rfl g_54 d_M_element_54 ?_
      obtain ⟨g_55, h⟩ := guardN h
      refine va_iast hx hb hK hP hD hS 2 0 rfl rfl g_55 d_M_element_55 (fun H locs hP hD hS => ?_)
      have hP : va_P D classes [(h_this, .inr (2, [.ref h_this_tape, .int tapeSize_this, .ref h_this_list, .int listSize_this, .ref h_this_item, .int itemSize_this, .ref h_this_word, .int wordSize_this, .ref h_this_text, .int textSize_this])), (h_this_list, .inl (cA, 1024, .inl a_list)), (h_this_item, .inl (cA, 1024, .inl (upd a_item x3.toNatClampNeg (a_word x3.toNatClampNeg)))), (h_this_word, .inl (cA, 1024, .inl a_word))] H := hP
      have hD : va_D A [(h_this, .inr (2, [.ref h_this_tape, .int tapeSize_this, .ref h_this_list, .int listSize_this, .ref h_this_item, .int itemSize_this, .ref h_this_word, .int wordSize_this, .ref h_this_text, .int textSize_this])), (h_this_list, .inl (cA, 1024, .inl a_list)), (h_this_item, .inl (cA, 1024, .inl (upd a_item x3.toNatClampNeg (a_word x3.toNatClampNeg)))), (h_this_word, .inl (cA, 1024, .inl a_word))] := hD
      refine lv_iinc (v := (x3 + (1 : Int32))) (lv' := [(3, .int (x3 + (1 : Int32))), (0, .ref h_this)]) hx hb d_M_element_56 hl (k := 1) rfl rfl (by decide) rfl (fun ls hl => ?_)
      refine lv_goto (tgt := 36) hx hb d_M_element_59 (by decide) ?_
      exact ih _ _ _ _ _ h H locs hP hD hS ls (lv_sub hl [1, 0] rfl)
set_option maxHeartbeats 4000000 in
set_option maxRecDepth 100000 in
theorem t_M_element_0 {p : Program} {l : Launch} {e : Env} {s : State} {m : MethodId} {args : Array Value} {below : List Frame} {meth : Method} {c : Code} {D : va_G} {cA : ClassId} {zz : zT} {A : Nat → Prop} (C0 : Cx p s m args meth c b_M_element R_M 4 (some .int)) (hK : va_K D classes [(cA, .int)] s) (hA : ∀ q : Nat, s.heap.size ≤ q → A q) (hZ : ZS zz A s s.heap) (N : Nat) (h_this : Nat) (h_this_tape : Nat) (h_this_list : Nat) (h_this_item : Nat) (h_this_word : Nat) (h_this_text : Nat) (tapeSize_this : Int32) (listSize_this : Int32) (textSize_this : Int32) (a_list : Nat → Int32) (res : Int32 × Int32 × Int32 × (Nat → Int32) × (Nat → Int32)) :
    ∀ (itemSize_this : Int32) (wordSize_this : Int32) (a_item : Nat → Int32) (a_word : Nat → Int32) (x1 : Int32), p_M_element_0 N listSize_this a_list itemSize_this wordSize_this a_item a_word x1 = some res → ∀ (H : Heap) (locs : List Loc), va_P D classes [(h_this, .inr (2, [.ref h_this_tape, .int tapeSize_this, .ref h_this_list, .int listSize_this, .ref h_this_item, .int itemSize_this, .ref h_this_word, .int wordSize_this, .ref h_this_text, .int textSize_this])), (h_this_list, .inl (cA, 1024, .inl a_list)), (h_this_item, .inl (cA, 1024, .inl a_item)), (h_this_word, .inl (cA, 1024, .inl a_word))] H → va_D A [(h_this, .inr (2, [.ref h_this_tape, .int tapeSize_this, .ref h_this_list, .int listSize_this, .ref h_this_item, .int itemSize_this, .ref h_this_word, .int wordSize_this, .ref h_this_text, .int textSize_this])), (h_this_list, .inl (cA, 1024, .inl a_list)), (h_this_item, .inl (cA, 1024, .inl a_item)), (h_this_word, .inl (cA, 1024, .inl a_word))] → va_S A s.heap H locs → ∀ (ls : Array Slot), lv_has ls 4 [(0, .ref h_this), (1, .int x1)] → W p l e rm_M_element s m args below meth c H locs 0 0 (QI .int below args s D cA A (res.1) [(h_this, .inr (2, [.ref h_this_tape, .int tapeSize_this, .ref h_this_list, .int listSize_this, .ref h_this_item, .int res.2.1, .ref h_this_word, .int res.2.2.1, .ref h_this_text, .int textSize_this])), (h_this_list, .inl (cA, 1024, .inl a_list)), (h_this_item, .inl (cA, 1024, .inl res.2.2.2.1)), (h_this_word, .inl (cA, 1024, .inl res.2.2.2.2))]) (F0 m 0 ls []) := by
  obtain ⟨hx, hb, hr, hml, hown, hG, hlk⟩ := id C0
  intro itemSize_this wordSize_this a_item a_word x1 h H locs hP hD hS ls hl
  unfold p_M_element_0 at h
  refine lv_aload_n hx hb d_M_element_0 rfl (lv_at hl 0 rfl) ?_
  refine lv_sipush (v := (1024 : Int32)) hx hb d_M_element_1 (by decide) ?_
  obtain ⟨r_4, h_4, h⟩ := bindS h
  refine call_vi (wr := [(h_this_item, .inl (cA, 1024, .inl a_item))]) (w1 := [(h_this, .inr (2, [.ref h_this_tape, .int tapeSize_this, .ref h_this_list, .int listSize_this, .ref h_this_item, .int itemSize_this, .ref h_this_word, .int r_4.2.1, .ref h_this_text, .int textSize_this])), (h_this_list, .inl (cA, 1024, .inl a_list)), (h_this_word, .inl (cA, 1024, .inl r_4.2.2))]) (wN := [(h_this, .inr (2, [.ref h_this_tape, .int tapeSize_this, .ref h_this_list, .int listSize_this, .ref h_this_item, .int itemSize_this, .ref h_this_word, .int r_4.2.1, .ref h_this_text, .int textSize_this])), (h_this_list, .inl (cA, 1024, .inl a_list)), (h_this_item, .inl (cA, 1024, .inl a_item)), (h_this_word, .inl (cA, 1024, .inl r_4.2.2))]) (rest := []) C0 hK hP hD hS hA hZ (c_M_goOver l D cA zz N h_this h_this_tape h_this_list h_this_item h_this_word h_this_text tapeSize_this listSize_this itemSize_this wordSize_this textSize_this a_list a_word (1024 : Int32) r_4 h_4) [0, 1, 3] [2] [1, 2, 0, 3] rfl rfl rfl rfl (by decide) rfl rfl 0 2 rfl rfl m_M_102 ⟨Nat.le_of_ble_eq_true rfl, Nat.le_of_ble_eq_true rfl⟩ ⟨rfl, rfl⟩ rfl hl.1 rfl (Nat.le_of_ble_eq_true rfl) ⟨Nat.le_of_ble_eq_true rfl, Nat.le_of_ble_eq_true rfl⟩ d_M_element_4 (fun b_4 H locs hP hD hS => ?_)
  refine lv_istore_n (lv' := [(2, .int r_4.1), (0, .ref h_this), (1, .int x1)]) hx hb d_M_element_7 rfl hl (by decide) rfl (fun ls hl => ?_)
  refine lv_iload_n hx hb d_M_element_8 rfl (lv_at hl 0 rfl) ?_
  refine lv_bipush (v := (-2 : Int32)) hx hb d_M_element_9 (by decide) ?_
  refine lv_icmp_ne (tgt := 17) hx hb d_M_element_11 (by decide) (fun c_11 => ?_) (fun c_11 => ?_)
  · have h := iteN c_11 h
    refine lv_iload_n hx hb d_M_element_17 rfl (lv_at hl 2 rfl) ?_
    refine lv_if_lt (tgt := 26) hx hb d_M_element_18 (by decide) (fun c_18 => ?_) (fun c_18 => ?_)
    · have h := iteP c_18 h
      refine lv_iconst (v := (-1 : Int32)) hx hb d_M_element_26 (by decide) ?_
      obtain rfl := Option.some.inj h
      exact rI (v := (-1 : Int32)) C0 (vp_nar_int _) hK hP hD hS d_M_element_27
    · have h := iteN c_18 h
      refine lv_iload_n hx hb d_M_element_21 rfl (lv_at hl 2 rfl) ?_
      refine lv_iload_n hx hb d_M_element_22 rfl (lv_at hl 0 rfl) ?_
      refine lv_icmp_lt (tgt := 28) hx hb d_M_element_23 (by decide) (fun c_23 => ?_) (fun c_23 => ?_)
      · have h := iteP c_23 h
        refine lv_aload_n hx hb d_M_element_28 rfl (lv_at hl 1 rfl) ?_
        refine lv_iload_n hx hb d_M_element_29 rfl (lv_at hl 2 rfl) ?_
        obtain ⟨r_30, h_30, h⟩ := bindS h
        refine call_vi (wr := [(h_this_item, .inl (cA, 1024, .inl a_item))]) (w1 := [(h_this, .inr (2, [.ref h_this_tape, .int tapeSize_this, .ref h_this_list, .int listSize_this, .ref h_this_item, .int itemSize_this, .ref h_this_word, .int r_30.2.1, .ref h_this_text, .int textSize_this])), (h_this_list, .inl (cA, 1024, .inl a_list)), (h_this_word, .inl (cA, 1024, .inl r_30.2.2))]) (wN := [(h_this, .inr (2, [.ref h_this_tape, .int tapeSize_this, .ref h_this_list, .int listSize_this, .ref h_this_item, .int itemSize_this, .ref h_this_word, .int r_30.2.1, .ref h_this_text, .int textSize_this])), (h_this_list, .inl (cA, 1024, .inl a_list)), (h_this_item, .inl (cA, 1024, .inl a_item)), (h_this_word, .inl (cA, 1024, .inl r_30.2.2))]) (rest := []) C0 hK hP hD hS hA hZ (c_M_goOver l D cA zz N h_this h_this_tape h_this_list h_this_item h_this_word h_this_text tapeSize_this listSize_this itemSize_this r_4.2.1 textSize_this a_list r_4.2.2 x1 r_30 h_30) [0, 1, 3] [2] [1, 2, 0, 3] rfl rfl rfl rfl (by decide) rfl rfl 0 2 rfl rfl m_M_102 ⟨Nat.le_of_ble_eq_true rfl, Nat.le_of_ble_eq_true rfl⟩ ⟨rfl, rfl⟩ rfl hl.1 rfl (Nat.le_of_ble_eq_true rfl) ⟨Nat.le_of_ble_eq_true rfl, Nat.le_of_ble_eq_true rfl⟩ d_M_element_30 (fun b_30 H locs hP hD hS => ?_)
        refine lv_istore_n (lv' := [(2, .int r_30.1), (0, .ref h_this), (1, .int x1)]) hx hb d_M_element_33 rfl hl (by decide) rfl (fun ls hl => ?_)
        refine lv_iconst (v := (0 : Int32)) hx hb d_M_element_34 (by decide) ?_
        refine lv_istore_n (lv' := [(3, .int (0 : Int32)), (2, .int r_30.1), (0, .ref h_this), (1, .int x1)]) hx hb d_M_element_35 rfl hl (by decide) rfl (fun ls hl => ?_)
        exact t_M_element_36 C0 hK hA hZ N h_this h_this_tape h_this_list h_this_item h_this_word h_this_text tapeSize_this listSize_this textSize_this a_list res N _ _ _ _ _ h H locs hP hD hS ls (lv_sub hl [2, 0] rfl)
      · have h := iteN c_23 h
        refine lv_iconst (v := (-1 : Int32)) hx hb d_M_element_26 (by decide) ?_
        obtain rfl := Option.some.inj h
        exact rI (v := (-1 : Int32)) C0 (vp_nar_int _) hK hP hD hS d_M_element_27
  · have h := iteP c_11 h
    refine lv_bipush (v := (-2 : Int32)) hx hb d_M_element_14 (by decide) ?_
    obtain rfl := Option.some.inj h
    exact rI (v := (-2 : Int32)) C0 (vp_nar_int _) hK hP hD hS d_M_element_16
theorem c_M_element (l : Launch) (D : va_G) (cA : ClassId) (zz : zT) (N : Nat) (h_this : Nat) (h_this_tape : Nat) (h_this_list : Nat) (h_this_item : Nat) (h_this_word : Nat) (h_this_text : Nat) (tapeSize_this : Int32) (listSize_this : Int32) (itemSize_this : Int32) (wordSize_this : Int32) (textSize_this : Int32) (a_list : Nat → Int32) (a_item : Nat → Int32) (a_word : Nat → Int32) (x1 : Int32) (res : Int32 × Int32 × Int32 × (Nat → Int32) × (Nat → Int32)) (h : p_M_element N listSize_this itemSize_this wordSize_this a_list a_item a_word x1 = some res) : MI l D cA zz y_M_element b_M_element 4 .int rm_M_element [.ref h_this, .int x1] [(h_this, .inr (2, [.ref h_this_tape, .int tapeSize_this, .ref h_this_list, .int listSize_this, .ref h_this_item, .int itemSize_this, .ref h_this_word, .int wordSize_this, .ref h_this_text, .int textSize_this])), (h_this_list, .inl (cA, 1024, .inl a_list)), (h_this_item, .inl (cA, 1024, .inl a_item)), (h_this_word, .inl (cA, 1024, .inl a_word))] (res.1) [(h_this, .inr (2, [.ref h_this_tape, .int tapeSize_this, .ref h_this_list, .int listSize_this, .ref h_this_item, .int res.2.1, .ref h_this_word, .int res.2.2.1, .ref h_this_text, .int textSize_this])), (h_this_list, .inl (cA, 1024, .inl a_list)), (h_this_item, .inl (cA, 1024, .inl res.2.2.2.1)), (h_this_word, .inl (cA, 1024, .inl res.2.2.2.2))] := by
  unfold p_M_element at h
  exact MI_enter (by decide) (Nat.le_of_ble_eq_true rfl) (fun p e s m below meth c A ls C0 hK hA hZ hP hD hl => t_M_element_0 C0 hK hA hZ N h_this h_this_tape h_this_list h_this_item h_this_word h_this_text tapeSize_this listSize_this textSize_this a_list res _ _ _ _ _ h s.heap [] hP hD va_S.rf ls hl)
-- ListWordsModel.count()I
set_option maxHeartbeats 4000000 in
set_option maxRecDepth 100000 in
theorem t_M_count_0 {p : Program} {l : Launch} {e : Env} {s : State} {m : MethodId} {args : Array Value} {below : List Frame} {meth : Method} {c : Code} {D : va_G} {cA : ClassId} {zz : zT} {A : Nat → Prop} (C0 : Cx p s m args meth c b_M_count R_M 1 (some .int)) (hK : va_K D classes [(cA, .int)] s) (hA : ∀ q : Nat, s.heap.size ≤ q → A q) (hZ : ZS zz A s s.heap) (N : Nat) (h_this : Nat) (h_this_tape : Nat) (h_this_list : Nat) (h_this_item : Nat) (h_this_word : Nat) (h_this_text : Nat) (tapeSize_this : Int32) (listSize_this : Int32) (itemSize_this : Int32) (textSize_this : Int32) (a_list : Nat → Int32) (res : Int32 × Int32 × (Nat → Int32)) :
    ∀ (wordSize_this : Int32) (a_word : Nat → Int32), p_M_count_0 N listSize_this a_list wordSize_this a_word = some res → ∀ (H : Heap) (locs : List Loc), va_P D classes [(h_this, .inr (2, [.ref h_this_tape, .int tapeSize_this, .ref h_this_list, .int listSize_this, .ref h_this_item, .int itemSize_this, .ref h_this_word, .int wordSize_this, .ref h_this_text, .int textSize_this])), (h_this_list, .inl (cA, 1024, .inl a_list)), (h_this_word, .inl (cA, 1024, .inl a_word))] H → va_D A [(h_this, .inr (2, [.ref h_this_tape, .int tapeSize_this, .ref h_this_list, .int listSize_this, .ref h_this_item, .int itemSize_this, .ref h_this_word, .int wordSize_this, .ref h_this_text, .int textSize_this])), (h_this_list, .inl (cA, 1024, .inl a_list)), (h_this_word, .inl (cA, 1024, .inl a_word))] → va_S A s.heap H locs → ∀ (ls : Array Slot), lv_has ls 1 [(0, .ref h_this)] → W p l e rm_M_count s m args below meth c H locs 0 0 (QI .int below args s D cA A (res.1) [(h_this, .inr (2, [.ref h_this_tape, .int tapeSize_this, .ref h_this_list, .int listSize_this, .ref h_this_item, .int itemSize_this, .ref h_this_word, .int res.2.1, .ref h_this_text, .int textSize_this])), (h_this_list, .inl (cA, 1024, .inl a_list)), (h_this_word, .inl (cA, 1024, .inl res.2.2))]) (F0 m 0 ls []) := by
  obtain ⟨hx, hb, hr, hml, hown, hG, hlk⟩ := id C0
  intro wordSize_this a_word h H locs hP hD hS ls hl
  unfold p_M_count_0 at h
  refine lv_aload_n hx hb d_M_count_0 rfl (lv_at hl 0 rfl) ?_
  refine lv_sipush (v := (1024 : Int32)) hx hb d_M_count_1 (by decide) ?_
  obtain ⟨r_4, h_4, h⟩ := bindS h
  refine call_vi (wr := []) (w1 := [(h_this, .inr (2, [.ref h_this_tape, .int tapeSize_this, .ref h_this_list, .int listSize_this, .ref h_this_item, .int itemSize_this, .ref h_this_word, .int r_4.2.1, .ref h_this_text, .int textSize_this])), (h_this_list, .inl (cA, 1024, .inl a_list)), (h_this_word, .inl (cA, 1024, .inl r_4.2.2))]) (wN := [(h_this, .inr (2, [.ref h_this_tape, .int tapeSize_this, .ref h_this_list, .int listSize_this, .ref h_this_item, .int itemSize_this, .ref h_this_word, .int r_4.2.1, .ref h_this_text, .int textSize_this])), (h_this_list, .inl (cA, 1024, .inl a_list)), (h_this_word, .inl (cA, 1024, .inl r_4.2.2))]) (rest := []) C0 hK hP hD hS hA hZ (c_M_goOver l D cA zz N h_this h_this_tape h_this_list h_this_item h_this_word h_this_text tapeSize_this listSize_this itemSize_this wordSize_this textSize_this a_list a_word (1024 : Int32) r_4 h_4) [0, 1, 2] [] [0, 1, 2] rfl rfl rfl rfl (by decide) rfl rfl 0 2 rfl rfl m_M_102 ⟨Nat.le_of_ble_eq_true rfl, Nat.le_of_ble_eq_true rfl⟩ ⟨rfl, rfl⟩ rfl hl.1 rfl (Nat.le_of_ble_eq_true rfl) ⟨Nat.le_of_ble_eq_true rfl, Nat.le_of_ble_eq_true rfl⟩ d_M_count_4 (fun b_4 H locs hP hD hS => ?_)
  obtain rfl := Option.some.inj h
  exact rI (v := r_4.1) C0 (vp_nar_int _) hK hP hD hS d_M_count_7
theorem c_M_count (l : Launch) (D : va_G) (cA : ClassId) (zz : zT) (N : Nat) (h_this : Nat) (h_this_tape : Nat) (h_this_list : Nat) (h_this_item : Nat) (h_this_word : Nat) (h_this_text : Nat) (tapeSize_this : Int32) (listSize_this : Int32) (itemSize_this : Int32) (wordSize_this : Int32) (textSize_this : Int32) (a_list : Nat → Int32) (a_word : Nat → Int32) (res : Int32 × Int32 × (Nat → Int32)) (h : p_M_count N listSize_this wordSize_this a_list a_word = some res) : MI l D cA zz y_M_count b_M_count 1 .int rm_M_count [.ref h_this] [(h_this, .inr (2, [.ref h_this_tape, .int tapeSize_this, .ref h_this_list, .int listSize_this, .ref h_this_item, .int itemSize_this, .ref h_this_word, .int wordSize_this, .ref h_this_text, .int textSize_this])), (h_this_list, .inl (cA, 1024, .inl a_list)), (h_this_word, .inl (cA, 1024, .inl a_word))] (res.1) [(h_this, .inr (2, [.ref h_this_tape, .int tapeSize_this, .ref h_this_list, .int listSize_this, .ref h_this_item, .int itemSize_this, .ref h_this_word, .int res.2.1, .ref h_this_text, .int textSize_this])), (h_this_list, .inl (cA, 1024, .inl a_list)), (h_this_word, .inl (cA, 1024, .inl res.2.2))] := by
  unfold p_M_count at h
  exact MI_enter (by decide) (Nat.le_of_ble_eq_true rfl) (fun p e s m below meth c A ls C0 hK hA hZ hP hD hl => t_M_count_0 C0 hK hA hZ N h_this h_this_tape h_this_list h_this_item h_this_word h_this_text tapeSize_this listSize_this itemSize_this textSize_this a_list res _ _ h s.heap [] hP hD va_S.rf ls hl)
-- ListWordsModel.item()I
set_option maxHeartbeats 4000000 in
set_option maxRecDepth 100000 in
theorem t_M_item_2 {p : Program} {l : Launch} {e : Env} {s : State} {m : MethodId} {args : Array Value} {below : List Frame} {meth : Method} {c : Code} {D : va_G} {cA : ClassId} {zz : zT} {A : Nat → Prop} (C0 : Cx p s m args meth c b_M_item R_M 2 (some .int)) (hK : va_K D classes [(cA, .int)] s) (hA : ∀ q : Nat, s.heap.size ≤ q → A q) (hZ : ZS zz A s s.heap) (N : Nat) (h_this : Nat) (h_this_tape : Nat) (h_this_list : Nat) (h_this_item : Nat) (h_this_word : Nat) (h_this_text : Nat) (listSize_this : Int32) (wordSize_this : Int32) (textSize_this : Int32) (a_tape : Nat → Int32) (res : Int32 × Int32 × Int32 × (Nat → Int32)) :
    ∀ (n : Nat), ∀ (tapeSize_this : Int32) (itemSize_this : Int32) (a_item : Nat → Int32) (x1 : Int32), p_M_item_2 N a_tape n tapeSize_this itemSize_this a_item x1 = some res → ∀ (H : Heap) (locs : List Loc), va_P D classes [(h_this, .inr (2, [.ref h_this_tape, .int tapeSize_this, .ref h_this_list, .int listSize_this, .ref h_this_item, .int itemSize_this, .ref h_this_word, .int wordSize_this, .ref h_this_text, .int textSize_this])), (h_this_tape, .inl (cA, 1024, .inl a_tape)), (h_this_item, .inl (cA, 1024, .inl a_item))] H → va_D A [(h_this, .inr (2, [.ref h_this_tape, .int tapeSize_this, .ref h_this_list, .int listSize_this, .ref h_this_item, .int itemSize_this, .ref h_this_word, .int wordSize_this, .ref h_this_text, .int textSize_this])), (h_this_tape, .inl (cA, 1024, .inl a_tape)), (h_this_item, .inl (cA, 1024, .inl a_item))] → va_S A s.heap H locs → ∀ (ls : Array Slot), lv_has ls 2 [(0, .ref h_this), (1, .int x1)] → W p l e rm_M_item s m args below meth c H locs 0 0 (QI .int below args s D cA A (res.1) [(h_this, .inr (2, [.ref h_this_tape, .int res.2.1, .ref h_this_list, .int listSize_this, .ref h_this_item, .int res.2.2.1, .ref h_this_word, .int wordSize_this, .ref h_this_text, .int textSize_this])), (h_this_tape, .inl (cA, 1024, .inl a_tape)), (h_this_item, .inl (cA, 1024, .inl res.2.2.2))]) (F0 m 2 ls []) := by
  obtain ⟨hx, hb, hr, hml, hown, hG, hlk⟩ := id C0
  intro n
  induction n with
  | zero =>
    intro tapeSize_this itemSize_this a_item x1 h H locs hP hD hS ls hl
    exact absurd h (by simp [p_M_item_2])
  | succ n ih =>
    intro tapeSize_this itemSize_this a_item x1 h H locs hP hD hS ls hl
    rw [p_M_item_2] at h
    refine lv_iload_n hx hb d_M_item_2 rfl (lv_at hl 1 rfl) ?_
    refine lv_aload_n hx hb d_M_item_3 rfl (lv_at hl 0 rfl) ?_
    refine va_get (D := D) (ci := 2) (v := .int tapeSize_this) (C := R_M) (T := F_M) (N := 10) hx hb hG i_M hown hK hP 0 rfl rfl 1 (by decide) (hG _ f_M_96) (fun _ h9 => h9) rfl d_M_item_4 ?_
    refine lv_icmp_ge (tgt := 28) hx hb d_M_item_7 (by decide) (fun c_7 => ?_) (fun c_7 => ?_)
    · have h := iteP c_7 h
      refine lv_aload_n hx hb d_M_item_28 rfl (lv_at hl 0 rfl) ?_
      refine lv_aload_n hx hb d_M_item_29 rfl (lv_at hl 0 rfl) ?_
      refine va_get (D := D) (ci := 2) (v := .int tapeSize_this) (C := R_M) (T := F_M) (N := 10) hx hb hG i_M hown hK hP 0 rfl rfl 1 (by decide) (hG _ f_M_96) (fun _ h9 => h9) rfl d_M_item_30 ?_
      refine va_put (D := D) (ci := 2) (v := .int tapeSize_this) (ty := .int) (C := R_M) (T := F_M) (N := 10) hx hb hG i_M t_M t_M_ok n_M hown hK hP hD hS 0 rfl rfl 5 (by decide) (hG _ f_M_99) (fun _ h9 => h9) rfl (by decide +kernel) rfl rfl (Nat.le_of_ble_eq_true rfl) d_M_item_33 (fun H locs hP hD hS => ?_)
      have hP : va_P D classes [(h_this, .inr (2, [.ref h_this_tape, .int tapeSize_this, .ref h_this_list, .int listSize_this, .ref h_this_item, .int tapeSize_this, .ref h_this_word, .int wordSize_this, .ref h_this_text, .int textSize_this])), (h_this_tape, .inl (cA, 1024, .inl a_tape)), (h_this_item, .inl (cA, 1024, .inl a_item))] H := hP
      have hD : va_D A [(h_this, .inr (2, [.ref h_this_tape, .int tapeSize_this, .ref h_this_list, .int listSize_this, .ref h_this_item, .int tapeSize_this, .ref h_this_word, .int wordSize_this, .ref h_this_text, .int textSize_this])), (h_this_tape, .inl (cA, 1024, .inl a_tape)), (h_this_item, .inl (cA, 1024, .inl a_item))] := hD
      refine lv_aload_n hx hb d_M_item_36 rfl (lv_at hl 0 rfl) ?_
      refine lv_iconst (v := (0 : Int32)) hx hb d_M_item_37 (by decide) ?_
      refine va_put (D := D) (ci := 2) (v := .int (0 : Int32)) (ty := .int) (C := R_M) (T := F_M) (N := 10) hx hb hG i_M t_M t_M_ok n_M hown hK hP hD hS 0 rfl rfl 1 (by decide) (hG _ f_M_96) (fun _ h9 => h9) rfl (by decide +kernel) rfl rfl (Nat.le_of_ble_eq_true rfl) d_M_item_38 (fun H locs hP hD hS => ?_)
      have hP : va_P D classes [(h_this, .inr (2, [.ref h_this_tape, .int (0 : Int32), .ref h_this_list, .int listSize_this, .ref h_this_item, .int tapeSize_this, .ref h_this_word, .int wordSize_this, .ref h_this_text, .int textSize_this])), (h_this_tape, .inl (cA, 1024, .inl a_tape)), (h_this_item, .inl (cA, 1024, .inl a_item))] H := hP
      have hD : va_D A [(h_this, .inr (2, [.ref h_this_tape, .int (0 : Int32), .ref h_this_list, .int listSize_this, .ref h_this_item, .int tapeSize_this, .ref h_this_word, .int wordSize_this, .ref h_this_text, .int textSize_this])), (h_this_tape, .inl (cA, 1024, .inl a_tape)), (h_this_item, .inl (cA, 1024, .inl a_item))] := hD
      refine lv_aload_n hx hb d_M_item_41 rfl (lv_at hl 0 rfl) ?_
      refine va_get (D := D) (ci := 2) (v := .int tapeSize_this) (C := R_M) (T := F_M) (N := 10) hx hb hG i_M hown hK hP 0 rfl rfl 5 (by decide) (hG _ f_M_99) (fun _ h9 => h9) rfl d_M_item_42 ?_
      obtain rfl := Option.some.inj h
      exact rI (v := tapeSize_this) C0 (vp_nar_int _) hK hP hD hS d_M_item_45
    · have h := iteN c_7 h
      refine lv_aload_n hx hb d_M_item_10 rfl (lv_at hl 0 rfl) ?_
      refine va_get (D := D) (ci := 2) (v := .ref h_this_item) (C := R_M) (T := F_M) (N := 10) hx hb hG i_M hown hK hP 0 rfl rfl 4 (by decide) (hG _ f_M_16) (fun _ h9 => h9) rfl d_M_item_11 ?_
      refine lv_iload_n hx hb d_M_item_14 rfl (lv_at hl 1 rfl) ?_
      refine lv_aload_n hx hb d_M_item_15 rfl (lv_at hl 0 rfl) ?_
      refine va_get (D := D) (ci := 2) (v := .ref h_this_tape) (C := R_M) (T := F_M) (N := 10) hx hb hG i_M hown hK hP 0 rfl rfl 0 (by decide) (hG _ f_M_7) (fun _ h9 => h9) rfl d_M_item_16 ?_
      refine lv_iload_n hx hb d_M_item_19 rfl (lv_at hl 1 rfl) ?_
      obtain ⟨g_20, h⟩ := guardN h
      refine va_iald hx hb hK hP 1 0 rfl rfl g_20 d_M_item_20 ?_
      obtain ⟨g_21, h⟩ := guardN h
      refine va_iast hx hb hK hP hD hS 2 0 rfl rfl g_21 d_M_item_21 (fun H locs hP hD hS => ?_)
      have hP : va_P D classes [(h_this, .inr (2, [.ref h_this_tape, .int tapeSize_this, .ref h_this_list, .int listSize_this, .ref h_this_item, .int itemSize_this, .ref h_this_word, .int wordSize_this, .ref h_this_text, .int textSize_this])), (h_this_tape, .inl (cA, 1024, .inl a_tape)), (h_this_item, .inl (cA, 1024, .inl (upd a_item x1.toNatClampNeg (a_tape x1.toNatClampNeg))))] H := hP
      have hD : va_D A [(h_this, .inr (2, [.ref h_this_tape, .int tapeSize_this, .ref h_this_list, .int listSize_this, .ref h_this_item, .int itemSize_this, .ref h_this_word, .int wordSize_this, .ref h_this_text, .int textSize_this])), (h_this_tape, .inl (cA, 1024, .inl a_tape)), (h_this_item, .inl (cA, 1024, .inl (upd a_item x1.toNatClampNeg (a_tape x1.toNatClampNeg))))] := hD
      refine lv_iinc (v := (x1 + (1 : Int32))) (lv' := [(1, .int (x1 + (1 : Int32))), (0, .ref h_this)]) hx hb d_M_item_22 hl (k := 1) rfl rfl (by decide) rfl (fun ls hl => ?_)
      refine lv_goto (tgt := 2) hx hb d_M_item_25 (by decide) ?_
      exact ih _ _ _ _ h H locs hP hD hS ls (lv_sub hl [1, 0] rfl)
set_option maxHeartbeats 4000000 in
set_option maxRecDepth 100000 in
theorem t_M_item_0 {p : Program} {l : Launch} {e : Env} {s : State} {m : MethodId} {args : Array Value} {below : List Frame} {meth : Method} {c : Code} {D : va_G} {cA : ClassId} {zz : zT} {A : Nat → Prop} (C0 : Cx p s m args meth c b_M_item R_M 2 (some .int)) (hK : va_K D classes [(cA, .int)] s) (hA : ∀ q : Nat, s.heap.size ≤ q → A q) (hZ : ZS zz A s s.heap) (N : Nat) (h_this : Nat) (h_this_tape : Nat) (h_this_list : Nat) (h_this_item : Nat) (h_this_word : Nat) (h_this_text : Nat) (listSize_this : Int32) (wordSize_this : Int32) (textSize_this : Int32) (a_tape : Nat → Int32) (res : Int32 × Int32 × Int32 × (Nat → Int32)) :
    ∀ (tapeSize_this : Int32) (itemSize_this : Int32) (a_item : Nat → Int32), p_M_item_0 N a_tape tapeSize_this itemSize_this a_item = some res → ∀ (H : Heap) (locs : List Loc), va_P D classes [(h_this, .inr (2, [.ref h_this_tape, .int tapeSize_this, .ref h_this_list, .int listSize_this, .ref h_this_item, .int itemSize_this, .ref h_this_word, .int wordSize_this, .ref h_this_text, .int textSize_this])), (h_this_tape, .inl (cA, 1024, .inl a_tape)), (h_this_item, .inl (cA, 1024, .inl a_item))] H → va_D A [(h_this, .inr (2, [.ref h_this_tape, .int tapeSize_this, .ref h_this_list, .int listSize_this, .ref h_this_item, .int itemSize_this, .ref h_this_word, .int wordSize_this, .ref h_this_text, .int textSize_this])), (h_this_tape, .inl (cA, 1024, .inl a_tape)), (h_this_item, .inl (cA, 1024, .inl a_item))] → va_S A s.heap H locs → ∀ (ls : Array Slot), lv_has ls 2 [(0, .ref h_this)] → W p l e rm_M_item s m args below meth c H locs 0 0 (QI .int below args s D cA A (res.1) [(h_this, .inr (2, [.ref h_this_tape, .int res.2.1, .ref h_this_list, .int listSize_this, .ref h_this_item, .int res.2.2.1, .ref h_this_word, .int wordSize_this, .ref h_this_text, .int textSize_this])), (h_this_tape, .inl (cA, 1024, .inl a_tape)), (h_this_item, .inl (cA, 1024, .inl res.2.2.2))]) (F0 m 0 ls []) := by
  obtain ⟨hx, hb, hr, hml, hown, hG, hlk⟩ := id C0
  intro tapeSize_this itemSize_this a_item h H locs hP hD hS ls hl
  unfold p_M_item_0 at h
  refine lv_iconst (v := (0 : Int32)) hx hb d_M_item_0 (by decide) ?_
  refine lv_istore_n (lv' := [(1, .int (0 : Int32)), (0, .ref h_this)]) hx hb d_M_item_1 rfl hl (by decide) rfl (fun ls hl => ?_)
  exact t_M_item_2 C0 hK hA hZ N h_this h_this_tape h_this_list h_this_item h_this_word h_this_text listSize_this wordSize_this textSize_this a_tape res N _ _ _ _ h H locs hP hD hS ls (lv_sub hl [1, 0] rfl)
theorem c_M_item (l : Launch) (D : va_G) (cA : ClassId) (zz : zT) (N : Nat) (h_this : Nat) (h_this_tape : Nat) (h_this_list : Nat) (h_this_item : Nat) (h_this_word : Nat) (h_this_text : Nat) (tapeSize_this : Int32) (listSize_this : Int32) (itemSize_this : Int32) (wordSize_this : Int32) (textSize_this : Int32) (a_tape : Nat → Int32) (a_item : Nat → Int32) (res : Int32 × Int32 × Int32 × (Nat → Int32)) (h : p_M_item N tapeSize_this itemSize_this a_tape a_item = some res) : MI l D cA zz y_M_item b_M_item 2 .int rm_M_item [.ref h_this] [(h_this, .inr (2, [.ref h_this_tape, .int tapeSize_this, .ref h_this_list, .int listSize_this, .ref h_this_item, .int itemSize_this, .ref h_this_word, .int wordSize_this, .ref h_this_text, .int textSize_this])), (h_this_tape, .inl (cA, 1024, .inl a_tape)), (h_this_item, .inl (cA, 1024, .inl a_item))] (res.1) [(h_this, .inr (2, [.ref h_this_tape, .int res.2.1, .ref h_this_list, .int listSize_this, .ref h_this_item, .int res.2.2.1, .ref h_this_word, .int wordSize_this, .ref h_this_text, .int textSize_this])), (h_this_tape, .inl (cA, 1024, .inl a_tape)), (h_this_item, .inl (cA, 1024, .inl res.2.2.2))] := by
  unfold p_M_item at h
  exact MI_enter (by decide) (Nat.le_of_ble_eq_true rfl) (fun p e s m below meth c A ls C0 hK hA hZ hP hD hl => t_M_item_0 C0 hK hA hZ N h_this h_this_tape h_this_list h_this_item h_this_word h_this_text listSize_this wordSize_this textSize_this a_tape res _ _ _ h s.heap [] hP hD va_S.rf ls hl)
-- ListWordsModel.list()I
set_option maxHeartbeats 4000000 in
set_option maxRecDepth 100000 in
theorem t_M_list_2 {p : Program} {l : Launch} {e : Env} {s : State} {m : MethodId} {args : Array Value} {below : List Frame} {meth : Method} {c : Code} {D : va_G} {cA : ClassId} {zz : zT} {A : Nat → Prop} (C0 : Cx p s m args meth c b_M_list R_M 2 (some .int)) (hK : va_K D classes [(cA, .int)] s) (hA : ∀ q : Nat, s.heap.size ≤ q → A q) (hZ : ZS zz A s s.heap) (N : Nat) (h_this : Nat) (h_this_tape : Nat) (h_this_list : Nat) (h_this_item : Nat) (h_this_word : Nat) (h_this_text : Nat) (itemSize_this : Int32) (wordSize_this : Int32) (textSize_this : Int32) (a_tape : Nat → Int32) (res : Int32 × Int32 × Int32 × (Nat → Int32)) :
    ∀ (n : Nat), ∀ (tapeSize_this : Int32) (listSize_this : Int32) (a_list : Nat → Int32) (x1 : Int32), p_M_list_2 N a_tape n tapeSize_this listSize_this a_list x1 = some res → ∀ (H : Heap) (locs : List Loc), va_P D classes [(h_this, .inr (2, [.ref h_this_tape, .int tapeSize_this, .ref h_this_list, .int listSize_this, .ref h_this_item, .int itemSize_this, .ref h_this_word, .int wordSize_this, .ref h_this_text, .int textSize_this])), (h_this_tape, .inl (cA, 1024, .inl a_tape)), (h_this_list, .inl (cA, 1024, .inl a_list))] H → va_D A [(h_this, .inr (2, [.ref h_this_tape, .int tapeSize_this, .ref h_this_list, .int listSize_this, .ref h_this_item, .int itemSize_this, .ref h_this_word, .int wordSize_this, .ref h_this_text, .int textSize_this])), (h_this_tape, .inl (cA, 1024, .inl a_tape)), (h_this_list, .inl (cA, 1024, .inl a_list))] → va_S A s.heap H locs → ∀ (ls : Array Slot), lv_has ls 2 [(0, .ref h_this), (1, .int x1)] → W p l e rm_M_list s m args below meth c H locs 0 0 (QI .int below args s D cA A (res.1) [(h_this, .inr (2, [.ref h_this_tape, .int res.2.1, .ref h_this_list, .int res.2.2.1, .ref h_this_item, .int itemSize_this, .ref h_this_word, .int wordSize_this, .ref h_this_text, .int textSize_this])), (h_this_tape, .inl (cA, 1024, .inl a_tape)), (h_this_list, .inl (cA, 1024, .inl res.2.2.2))]) (F0 m 2 ls []) := by
  obtain ⟨hx, hb, hr, hml, hown, hG, hlk⟩ := id C0
  intro n
  induction n with
  | zero =>
    intro tapeSize_this listSize_this a_list x1 h H locs hP hD hS ls hl
    exact absurd h (by simp [p_M_list_2])
  | succ n ih =>
    intro tapeSize_this listSize_this a_list x1 h H locs hP hD hS ls hl
    rw [p_M_list_2] at h
    refine lv_iload_n hx hb d_M_list_2 rfl (lv_at hl 1 rfl) ?_
    refine lv_aload_n hx hb d_M_list_3 rfl (lv_at hl 0 rfl) ?_
    refine va_get (D := D) (ci := 2) (v := .int tapeSize_this) (C := R_M) (T := F_M) (N := 10) hx hb hG i_M hown hK hP 0 rfl rfl 1 (by decide) (hG _ f_M_96) (fun _ h9 => h9) rfl d_M_list_4 ?_
    refine lv_icmp_ge (tgt := 28) hx hb d_M_list_7 (by decide) (fun c_7 => ?_) (fun c_7 => ?_)
    · have h := iteP c_7 h
      refine lv_aload_n hx hb d_M_list_28 rfl (lv_at hl 0 rfl) ?_
      refine lv_aload_n hx hb d_M_list_29 rfl (lv_at hl 0 rfl) ?_
      refine va_get (D := D) (ci := 2) (v := .int tapeSize_this) (C := R_M) (T := F_M) (N := 10) hx hb hG i_M hown hK hP 0 rfl rfl 1 (by decide) (hG _ f_M_96) (fun _ h9 => h9) rfl d_M_list_30 ?_
      refine va_put (D := D) (ci := 2) (v := .int tapeSize_this) (ty := .int) (C := R_M) (T := F_M) (N := 10) hx hb hG i_M t_M t_M_ok n_M hown hK hP hD hS 0 rfl rfl 3 (by decide) (hG _ f_M_25) (fun _ h9 => h9) rfl (by decide +kernel) rfl rfl (Nat.le_of_ble_eq_true rfl) d_M_list_33 (fun H locs hP hD hS => ?_)
      have hP : va_P D classes [(h_this, .inr (2, [.ref h_this_tape, .int tapeSize_this, .ref h_this_list, .int tapeSize_this, .ref h_this_item, .int itemSize_this, .ref h_this_word, .int wordSize_this, .ref h_this_text, .int textSize_this])), (h_this_tape, .inl (cA, 1024, .inl a_tape)), (h_this_list, .inl (cA, 1024, .inl a_list))] H := hP
      have hD : va_D A [(h_this, .inr (2, [.ref h_this_tape, .int tapeSize_this, .ref h_this_list, .int tapeSize_this, .ref h_this_item, .int itemSize_this, .ref h_this_word, .int wordSize_this, .ref h_this_text, .int textSize_this])), (h_this_tape, .inl (cA, 1024, .inl a_tape)), (h_this_list, .inl (cA, 1024, .inl a_list))] := hD
      refine lv_aload_n hx hb d_M_list_36 rfl (lv_at hl 0 rfl) ?_
      refine lv_iconst (v := (0 : Int32)) hx hb d_M_list_37 (by decide) ?_
      refine va_put (D := D) (ci := 2) (v := .int (0 : Int32)) (ty := .int) (C := R_M) (T := F_M) (N := 10) hx hb hG i_M t_M t_M_ok n_M hown hK hP hD hS 0 rfl rfl 1 (by decide) (hG _ f_M_96) (fun _ h9 => h9) rfl (by decide +kernel) rfl rfl (Nat.le_of_ble_eq_true rfl) d_M_list_38 (fun H locs hP hD hS => ?_)
      have hP : va_P D classes [(h_this, .inr (2, [.ref h_this_tape, .int (0 : Int32), .ref h_this_list, .int tapeSize_this, .ref h_this_item, .int itemSize_this, .ref h_this_word, .int wordSize_this, .ref h_this_text, .int textSize_this])), (h_this_tape, .inl (cA, 1024, .inl a_tape)), (h_this_list, .inl (cA, 1024, .inl a_list))] H := hP
      have hD : va_D A [(h_this, .inr (2, [.ref h_this_tape, .int (0 : Int32), .ref h_this_list, .int tapeSize_this, .ref h_this_item, .int itemSize_this, .ref h_this_word, .int wordSize_this, .ref h_this_text, .int textSize_this])), (h_this_tape, .inl (cA, 1024, .inl a_tape)), (h_this_list, .inl (cA, 1024, .inl a_list))] := hD
      refine lv_aload_n hx hb d_M_list_41 rfl (lv_at hl 0 rfl) ?_
      refine va_get (D := D) (ci := 2) (v := .int tapeSize_this) (C := R_M) (T := F_M) (N := 10) hx hb hG i_M hown hK hP 0 rfl rfl 3 (by decide) (hG _ f_M_25) (fun _ h9 => h9) rfl d_M_list_42 ?_
      obtain rfl := Option.some.inj h
      exact rI (v := tapeSize_this) C0 (vp_nar_int _) hK hP hD hS d_M_list_45
    · have h := iteN c_7 h
      refine lv_aload_n hx hb d_M_list_10 rfl (lv_at hl 0 rfl) ?_
      refine va_get (D := D) (ci := 2) (v := .ref h_this_list) (C := R_M) (T := F_M) (N := 10) hx hb hG i_M hown hK hP 0 rfl rfl 2 (by decide) (hG _ f_M_13) (fun _ h9 => h9) rfl d_M_list_11 ?_
      refine lv_iload_n hx hb d_M_list_14 rfl (lv_at hl 1 rfl) ?_
      refine lv_aload_n hx hb d_M_list_15 rfl (lv_at hl 0 rfl) ?_
      refine va_get (D := D) (ci := 2) (v := .ref h_this_tape) (C := R_M) (T := F_M) (N := 10) hx hb hG i_M hown hK hP 0 rfl rfl 0 (by decide) (hG _ f_M_7) (fun _ h9 => h9) rfl d_M_list_16 ?_
      refine lv_iload_n hx hb d_M_list_19 rfl (lv_at hl 1 rfl) ?_
      obtain ⟨g_20, h⟩ := guardN h
      refine va_iald hx hb hK hP 1 0 rfl rfl g_20 d_M_list_20 ?_
      obtain ⟨g_21, h⟩ := guardN h
      refine va_iast hx hb hK hP hD hS 2 0 rfl rfl g_21 d_M_list_21 (fun H locs hP hD hS => ?_)
      have hP : va_P D classes [(h_this, .inr (2, [.ref h_this_tape, .int tapeSize_this, .ref h_this_list, .int listSize_this, .ref h_this_item, .int itemSize_this, .ref h_this_word, .int wordSize_this, .ref h_this_text, .int textSize_this])), (h_this_tape, .inl (cA, 1024, .inl a_tape)), (h_this_list, .inl (cA, 1024, .inl (upd a_list x1.toNatClampNeg (a_tape x1.toNatClampNeg))))] H := hP
      have hD : va_D A [(h_this, .inr (2, [.ref h_this_tape, .int tapeSize_this, .ref h_this_list, .int listSize_this, .ref h_this_item, .int itemSize_this, .ref h_this_word, .int wordSize_this, .ref h_this_text, .int textSize_this])), (h_this_tape, .inl (cA, 1024, .inl a_tape)), (h_this_list, .inl (cA, 1024, .inl (upd a_list x1.toNatClampNeg (a_tape x1.toNatClampNeg))))] := hD
      refine lv_iinc (v := (x1 + (1 : Int32))) (lv' := [(1, .int (x1 + (1 : Int32))), (0, .ref h_this)]) hx hb d_M_list_22 hl (k := 1) rfl rfl (by decide) rfl (fun ls hl => ?_)
      refine lv_goto (tgt := 2) hx hb d_M_list_25 (by decide) ?_
      exact ih _ _ _ _ h H locs hP hD hS ls (lv_sub hl [1, 0] rfl)
set_option maxHeartbeats 4000000 in
set_option maxRecDepth 100000 in
theorem t_M_list_0 {p : Program} {l : Launch} {e : Env} {s : State} {m : MethodId} {args : Array Value} {below : List Frame} {meth : Method} {c : Code} {D : va_G} {cA : ClassId} {zz : zT} {A : Nat → Prop} (C0 : Cx p s m args meth c b_M_list R_M 2 (some .int)) (hK : va_K D classes [(cA, .int)] s) (hA : ∀ q : Nat, s.heap.size ≤ q → A q) (hZ : ZS zz A s s.heap) (N : Nat) (h_this : Nat) (h_this_tape : Nat) (h_this_list : Nat) (h_this_item : Nat) (h_this_word : Nat) (h_this_text : Nat) (itemSize_this : Int32) (wordSize_this : Int32) (textSize_this : Int32) (a_tape : Nat → Int32) (res : Int32 × Int32 × Int32 × (Nat → Int32)) :
    ∀ (tapeSize_this : Int32) (listSize_this : Int32) (a_list : Nat → Int32), p_M_list_0 N a_tape tapeSize_this listSize_this a_list = some res → ∀ (H : Heap) (locs : List Loc), va_P D classes [(h_this, .inr (2, [.ref h_this_tape, .int tapeSize_this, .ref h_this_list, .int listSize_this, .ref h_this_item, .int itemSize_this, .ref h_this_word, .int wordSize_this, .ref h_this_text, .int textSize_this])), (h_this_tape, .inl (cA, 1024, .inl a_tape)), (h_this_list, .inl (cA, 1024, .inl a_list))] H → va_D A [(h_this, .inr (2, [.ref h_this_tape, .int tapeSize_this, .ref h_this_list, .int listSize_this, .ref h_this_item, .int itemSize_this, .ref h_this_word, .int wordSize_this, .ref h_this_text, .int textSize_this])), (h_this_tape, .inl (cA, 1024, .inl a_tape)), (h_this_list, .inl (cA, 1024, .inl a_list))] → va_S A s.heap H locs → ∀ (ls : Array Slot), lv_has ls 2 [(0, .ref h_this)] → W p l e rm_M_list s m args below meth c H locs 0 0 (QI .int below args s D cA A (res.1) [(h_this, .inr (2, [.ref h_this_tape, .int res.2.1, .ref h_this_list, .int res.2.2.1, .ref h_this_item, .int itemSize_this, .ref h_this_word, .int wordSize_this, .ref h_this_text, .int textSize_this])), (h_this_tape, .inl (cA, 1024, .inl a_tape)), (h_this_list, .inl (cA, 1024, .inl res.2.2.2))]) (F0 m 0 ls []) := by
  obtain ⟨hx, hb, hr, hml, hown, hG, hlk⟩ := id C0
  intro tapeSize_this listSize_this a_list h H locs hP hD hS ls hl
  unfold p_M_list_0 at h
  refine lv_iconst (v := (0 : Int32)) hx hb d_M_list_0 (by decide) ?_
  refine lv_istore_n (lv' := [(1, .int (0 : Int32)), (0, .ref h_this)]) hx hb d_M_list_1 rfl hl (by decide) rfl (fun ls hl => ?_)
  exact t_M_list_2 C0 hK hA hZ N h_this h_this_tape h_this_list h_this_item h_this_word h_this_text itemSize_this wordSize_this textSize_this a_tape res N _ _ _ _ h H locs hP hD hS ls (lv_sub hl [1, 0] rfl)
theorem c_M_list (l : Launch) (D : va_G) (cA : ClassId) (zz : zT) (N : Nat) (h_this : Nat) (h_this_tape : Nat) (h_this_list : Nat) (h_this_item : Nat) (h_this_word : Nat) (h_this_text : Nat) (tapeSize_this : Int32) (listSize_this : Int32) (itemSize_this : Int32) (wordSize_this : Int32) (textSize_this : Int32) (a_tape : Nat → Int32) (a_list : Nat → Int32) (res : Int32 × Int32 × Int32 × (Nat → Int32)) (h : p_M_list N tapeSize_this listSize_this a_tape a_list = some res) : MI l D cA zz y_M_list b_M_list 2 .int rm_M_list [.ref h_this] [(h_this, .inr (2, [.ref h_this_tape, .int tapeSize_this, .ref h_this_list, .int listSize_this, .ref h_this_item, .int itemSize_this, .ref h_this_word, .int wordSize_this, .ref h_this_text, .int textSize_this])), (h_this_tape, .inl (cA, 1024, .inl a_tape)), (h_this_list, .inl (cA, 1024, .inl a_list))] (res.1) [(h_this, .inr (2, [.ref h_this_tape, .int res.2.1, .ref h_this_list, .int res.2.2.1, .ref h_this_item, .int itemSize_this, .ref h_this_word, .int wordSize_this, .ref h_this_text, .int textSize_this])), (h_this_tape, .inl (cA, 1024, .inl a_tape)), (h_this_list, .inl (cA, 1024, .inl res.2.2.2))] := by
  unfold p_M_list at h
  exact MI_enter (by decide) (Nat.le_of_ble_eq_true rfl) (fun p e s m below meth c A ls C0 hK hA hZ hP hD hl => t_M_list_0 C0 hK hA hZ N h_this h_this_tape h_this_list h_this_item h_this_word h_this_text itemSize_this wordSize_this textSize_this a_tape res _ _ _ h s.heap [] hP hD va_S.rf ls hl)
-- ListWordsModel.end(I)Z
set_option maxHeartbeats 4000000 in
set_option maxRecDepth 100000 in
theorem t_M_end_0 {p : Program} {l : Launch} {e : Env} {s : State} {m : MethodId} {args : Array Value} {below : List Frame} {meth : Method} {c : Code} {D : va_G} {cA : ClassId} {zz : zT} {A : Nat → Prop} (C0 : Cx p s m args meth c b_M_end R_M 2 (some .boolean)) (hK : va_K D classes [(cA, .int)] s) (hA : ∀ q : Nat, s.heap.size ≤ q → A q) (hZ : ZS zz A s s.heap) (N : Nat) (h_this : Nat) (h_this_tape : Nat) (h_this_list : Nat) (h_this_item : Nat) (h_this_word : Nat) (h_this_text : Nat) (listSize_this : Int32) (itemSize_this : Int32) (wordSize_this : Int32) (textSize_this : Int32) (res : Int32 × Int32) :
    ∀ (tapeSize_this : Int32) (x1 : Int32), p_M_end_0 N tapeSize_this x1 = some res → ∀ (H : Heap) (locs : List Loc), va_P D classes [(h_this, .inr (2, [.ref h_this_tape, .int tapeSize_this, .ref h_this_list, .int listSize_this, .ref h_this_item, .int itemSize_this, .ref h_this_word, .int wordSize_this, .ref h_this_text, .int textSize_this]))] H → va_D A [(h_this, .inr (2, [.ref h_this_tape, .int tapeSize_this, .ref h_this_list, .int listSize_this, .ref h_this_item, .int itemSize_this, .ref h_this_word, .int wordSize_this, .ref h_this_text, .int textSize_this]))] → va_S A s.heap H locs → ∀ (ls : Array Slot), lv_has ls 2 [(0, .ref h_this), (1, .int x1)] → W p l e rm_M_end s m args below meth c H locs 0 0 (QI .boolean below args s D cA A (res.1) [(h_this, .inr (2, [.ref h_this_tape, .int res.2, .ref h_this_list, .int listSize_this, .ref h_this_item, .int itemSize_this, .ref h_this_word, .int wordSize_this, .ref h_this_text, .int textSize_this]))]) (F0 m 0 ls []) := by
  obtain ⟨hx, hb, hr, hml, hown, hG, hlk⟩ := id C0
  intro tapeSize_this x1 h H locs hP hD hS ls hl
  unfold p_M_end_0 at h
  refine lv_iload_n hx hb d_M_end_0 rfl (lv_at hl 1 rfl) ?_
  refine lv_if_lt (tgt := 12) hx hb d_M_end_1 (by decide) (fun c_1 => ?_) (fun c_1 => ?_)
  · have h := iteP c_1 h
    refine lv_iconst (v := (0 : Int32)) hx hb d_M_end_12 (by decide) ?_
    obtain rfl := Option.some.inj h
    exact rI (v := (0 : Int32)) C0 rfl hK hP hD hS d_M_end_13
  · have h := iteN c_1 h
    refine lv_iload_n hx hb d_M_end_4 rfl (lv_at hl 1 rfl) ?_
    refine lv_aload_n hx hb d_M_end_5 rfl (lv_at hl 0 rfl) ?_
    refine va_get (D := D) (ci := 2) (v := .int tapeSize_this) (C := R_M) (T := F_M) (N := 10) hx hb hG i_M hown hK hP 0 rfl rfl 1 (by decide) (hG _ f_M_96) (fun _ h9 => h9) rfl d_M_end_6 ?_
    refine lv_icmp_le (tgt := 14) hx hb d_M_end_9 (by decide) (fun c_9 => ?_) (fun c_9 => ?_)
    · have h := iteP c_9 h
      refine lv_aload_n hx hb d_M_end_14 rfl (lv_at hl 0 rfl) ?_
      refine lv_iload_n hx hb d_M_end_15 rfl (lv_at hl 1 rfl) ?_
      refine va_put (D := D) (ci := 2) (v := .int x1) (ty := .int) (C := R_M) (T := F_M) (N := 10) hx hb hG i_M t_M t_M_ok n_M hown hK hP hD hS 0 rfl rfl 1 (by decide) (hG _ f_M_96) (fun _ h9 => h9) rfl (by decide +kernel) rfl rfl (Nat.le_of_ble_eq_true rfl) d_M_end_16 (fun H locs hP hD hS => ?_)
      have hP : va_P D classes [(h_this, .inr (2, [.ref h_this_tape, .int x1, .ref h_this_list, .int listSize_this, .ref h_this_item, .int itemSize_this, .ref h_this_word, .int wordSize_this, .ref h_this_text, .int textSize_this]))] H := hP
      have hD : va_D A [(h_this, .inr (2, [.ref h_this_tape, .int x1, .ref h_this_list, .int listSize_this, .ref h_this_item, .int itemSize_this, .ref h_this_word, .int wordSize_this, .ref h_this_text, .int textSize_this]))] := hD
      refine lv_iconst (v := (1 : Int32)) hx hb d_M_end_19 (by decide) ?_
      obtain rfl := Option.some.inj h
      exact rI (v := (1 : Int32)) C0 rfl hK hP hD hS d_M_end_20
    · have h := iteN c_9 h
      refine lv_iconst (v := (0 : Int32)) hx hb d_M_end_12 (by decide) ?_
      obtain rfl := Option.some.inj h
      exact rI (v := (0 : Int32)) C0 rfl hK hP hD hS d_M_end_13
theorem c_M_end (l : Launch) (D : va_G) (cA : ClassId) (zz : zT) (N : Nat) (h_this : Nat) (h_this_tape : Nat) (h_this_list : Nat) (h_this_item : Nat) (h_this_word : Nat) (h_this_text : Nat) (tapeSize_this : Int32) (listSize_this : Int32) (itemSize_this : Int32) (wordSize_this : Int32) (textSize_this : Int32) (x1 : Int32) (res : Int32 × Int32) (h : p_M_end N tapeSize_this x1 = some res) : MI l D cA zz y_M_end b_M_end 2 .boolean rm_M_end [.ref h_this, .int x1] [(h_this, .inr (2, [.ref h_this_tape, .int tapeSize_this, .ref h_this_list, .int listSize_this, .ref h_this_item, .int itemSize_this, .ref h_this_word, .int wordSize_this, .ref h_this_text, .int textSize_this]))] (res.1) [(h_this, .inr (2, [.ref h_this_tape, .int res.2, .ref h_this_list, .int listSize_this, .ref h_this_item, .int itemSize_this, .ref h_this_word, .int wordSize_this, .ref h_this_text, .int textSize_this]))] := by
  unfold p_M_end at h
  exact MI_enter (by decide) (Nat.le_of_ble_eq_true rfl) (fun p e s m below meth c A ls C0 hK hA hZ hP hD hl => t_M_end_0 C0 hK hA hZ N h_this h_this_tape h_this_list h_this_item h_this_word h_this_text listSize_this itemSize_this wordSize_this textSize_this res _ _ h s.heap [] hP hD va_S.rf ls hl)
-- ListWordsModel.feed(IIIII)Z
set_option maxHeartbeats 4000000 in
set_option maxRecDepth 100000 in
theorem t_M_feed_71 {p : Program} {l : Launch} {e : Env} {s : State} {m : MethodId} {args : Array Value} {below : List Frame} {meth : Method} {c : Code} {D : va_G} {cA : ClassId} {zz : zT} {A : Nat → Prop} (C0 : Cx p s m args meth c b_M_feed R_M 8 (some .boolean)) (hK : va_K D classes [(cA, .int)] s) (hA : ∀ q : Nat, s.heap.size ≤ q → A q) (hZ : ZS zz A s s.heap) (N : Nat) (h_this : Nat) (h_this_tape : Nat) (h_this_list : Nat) (h_this_item : Nat) (h_this_word : Nat) (h_this_text : Nat) (listSize_this : Int32) (itemSize_this : Int32) (wordSize_this : Int32) (textSize_this : Int32) (res : Int32 × Int32 × (Nat → Int32))
    (k_18 : Int32 → (Nat → Int32) → Int32 → Int32 → Int32 → Int32 → Int32 → Int32 → Option (Int32 × Int32 × (Nat → Int32))) (hk_18 : ∀ (tapeSize_this : Int32) (a_tape : Nat → Int32) (x1 : Int32) (x2 : Int32) (x3 : Int32) (x4 : Int32) (x5 : Int32) (x6 : Int32), k_18 tapeSize_this a_tape x1 x2 x3 x4 x5 x6 = some res → ∀ (H : Heap) (locs : List Loc), va_P D classes [(h_this, .inr (2, [.ref h_this_tape, .int tapeSize_this, .ref h_this_list, .int listSize_this, .ref h_this_item, .int itemSize_this, .ref h_this_word, .int wordSize_this, .ref h_this_text, .int textSize_this])), (h_this_tape, .inl (cA, 1024, .inl a_tape))] H → va_D A [(h_this, .inr (2, [.ref h_this_tape, .int tapeSize_this, .ref h_this_list, .int listSize_this, .ref h_this_item, .int itemSize_this, .ref h_this_word, .int wordSize_this, .ref h_this_text, .int textSize_this])), (h_this_tape, .inl (cA, 1024, .inl a_tape))] → va_S A s.heap H locs → ∀ (ls : Array Slot), lv_has ls 8 [(0, .ref h_this), (1, .int x1), (2, .int x2), (3, .int x3), (4, .int x4), (5, .int x5), (6, .int x6)] → W p l e rm_M_feed s m args below meth c H locs 0 0 (QI .boolean below args s D cA A (res.1) [(h_this, .inr (2, [.ref h_this_tape, .int res.2.1, .ref h_this_list, .int listSize_this, .ref h_this_item, .int itemSize_this, .ref h_this_word, .int wordSize_this, .ref h_this_text, .int textSize_this])), (h_this_tape, .inl (cA, 1024, .inl res.2.2))]) (F0 m 18 ls [])) :
    ∀ (tapeSize_this : Int32) (a_tape : Nat → Int32) (x1 : Int32) (x2 : Int32) (x3 : Int32) (x4 : Int32) (x5 : Int32) (x6 : Int32) (y0 : Int32), p_M_feed_71 N k_18 tapeSize_this a_tape x1 x2 x3 x4 x5 x6 y0 = some res → ∀ (H : Heap) (locs : List Loc), va_P D classes [(h_this, .inr (2, [.ref h_this_tape, .int tapeSize_this, .ref h_this_list, .int listSize_this, .ref h_this_item, .int itemSize_this, .ref h_this_word, .int wordSize_this, .ref h_this_text, .int textSize_this])), (h_this_tape, .inl (cA, 1024, .inl a_tape))] H → va_D A [(h_this, .inr (2, [.ref h_this_tape, .int tapeSize_this, .ref h_this_list, .int listSize_this, .ref h_this_item, .int itemSize_this, .ref h_this_word, .int wordSize_this, .ref h_this_text, .int textSize_this])), (h_this_tape, .inl (cA, 1024, .inl a_tape))] → va_S A s.heap H locs → ∀ (ls : Array Slot), lv_has ls 8 [(0, .ref h_this), (1, .int x1), (2, .int x2), (3, .int x3), (4, .int x4), (5, .int x5), (6, .int x6)] → W p l e rm_M_feed s m args below meth c H locs 0 0 (QI .boolean below args s D cA A (res.1) [(h_this, .inr (2, [.ref h_this_tape, .int res.2.1, .ref h_this_list, .int listSize_this, .ref h_this_item, .int itemSize_this, .ref h_this_word, .int wordSize_this, .ref h_this_text, .int textSize_this])), (h_this_tape, .inl (cA, 1024, .inl res.2.2))]) (F0 m 71 ls [.int y0]) := by
  obtain ⟨hx, hb, hr, hml, hown, hG, hlk⟩ := id C0
  intro tapeSize_this a_tape x1 x2 x3 x4 x5 x6 y0 h H locs hP hD hS ls hl
  unfold p_M_feed_71 at h
  refine lv_istore (lv' := [(7, .int y0), (0, .ref h_this), (1, .int x1), (2, .int x2), (3, .int x3), (4, .int x4), (5, .int x5), (6, .int x6)]) hx hb d_M_feed_71 hl (by decide) rfl (fun ls hl => ?_)
  refine lv_aload_n hx hb d_M_feed_73 rfl (lv_at hl 1 rfl) ?_
  refine va_get (D := D) (ci := 2) (v := .ref h_this_tape) (C := R_M) (T := F_M) (N := 10) hx hb hG i_M hown hK hP 0 rfl rfl 0 (by decide) (hG _ f_M_7) (fun _ h9 => h9) rfl d_M_feed_74 ?_
  refine lv_aload_n hx hb d_M_feed_77 rfl (lv_at hl 1 rfl) ?_
  refine va_get (D := D) (ci := 2) (v := .int tapeSize_this) (C := R_M) (T := F_M) (N := 10) hx hb hG i_M hown hK hP 0 rfl rfl 1 (by decide) (hG _ f_M_96) (fun _ h9 => h9) rfl d_M_feed_78 ?_
  refine lv_iload hx hb d_M_feed_81 (lv_at hl 0 rfl) ?_
  refine lv_bipush (v := (24 : Int32)) hx hb d_M_feed_83 (by decide) ?_
  refine lv_bipush (v := (8 : Int32)) hx hb d_M_feed_85 (by decide) ?_
  refine lv_iload hx hb d_M_feed_87 (lv_at hl 7 rfl) ?_
  refine lv_iconst (v := (4 : Int32)) hx hb d_M_feed_89 (by decide) ?_
  refine lv_irem hx hb d_M_feed_90 (by decide) ?_
  refine lv_imul hx hb d_M_feed_91 ?_
  refine lv_isub hx hb d_M_feed_92 ?_
  refine lv_ishr hx hb d_M_feed_93 ?_
  refine lv_sipush (v := (255 : Int32)) hx hb d_M_feed_94 (by decide) ?_
  refine lv_iand hx hb d_M_feed_97 ?_
  obtain ⟨g_98, h⟩ := guardN h
  refine va_iast hx hb hK hP hD hS 1 0 rfl rfl g_98 d_M_feed_98 (fun H locs hP hD hS => ?_)
  have hP : va_P D classes [(h_this, .inr (2, [.ref h_this_tape, .int tapeSize_this, .ref h_this_list, .int listSize_this, .ref h_this_item, .int itemSize_this, .ref h_this_word, .int wordSize_this, .ref h_this_text, .int textSize_this])), (h_this_tape, .inl (cA, 1024, .inl (upd a_tape tapeSize_this.toNatClampNeg ((y0 >>> (((24 : Int32) - ((8 : Int32) * (x6 - x6 / (4 : Int32) * (4 : Int32)))) &&& 31)) &&& (255 : Int32)))))] H := hP
  have hD : va_D A [(h_this, .inr (2, [.ref h_this_tape, .int tapeSize_this, .ref h_this_list, .int listSize_this, .ref h_this_item, .int itemSize_this, .ref h_this_word, .int wordSize_this, .ref h_this_text, .int textSize_this])), (h_this_tape, .inl (cA, 1024, .inl (upd a_tape tapeSize_this.toNatClampNeg ((y0 >>> (((24 : Int32) - ((8 : Int32) * (x6 - x6 / (4 : Int32) * (4 : Int32)))) &&& 31)) &&& (255 : Int32)))))] := hD
  refine lv_aload_n hx hb d_M_feed_99 rfl (lv_at hl 1 rfl) ?_
  refine lv_dup hx hb d_M_feed_100 rfl ?_
  refine va_get (D := D) (ci := 2) (v := .int tapeSize_this) (C := R_M) (T := F_M) (N := 10) hx hb hG i_M hown hK hP 0 rfl rfl 1 (by decide) (hG _ f_M_96) (fun _ h9 => h9) rfl d_M_feed_101 ?_
  refine lv_iconst (v := (1 : Int32)) hx hb d_M_feed_104 (by decide) ?_
  refine lv_iadd hx hb d_M_feed_105 ?_
  refine va_put (D := D) (ci := 2) (v := .int (tapeSize_this + (1 : Int32))) (ty := .int) (C := R_M) (T := F_M) (N := 10) hx hb hG i_M t_M t_M_ok n_M hown hK hP hD hS 0 rfl rfl 1 (by decide) (hG _ f_M_96) (fun _ h9 => h9) rfl (by decide +kernel) rfl rfl (Nat.le_of_ble_eq_true rfl) d_M_feed_106 (fun H locs hP hD hS => ?_)
  have hP : va_P D classes [(h_this, .inr (2, [.ref h_this_tape, .int (tapeSize_this + (1 : Int32)), .ref h_this_list, .int listSize_this, .ref h_this_item, .int itemSize_this, .ref h_this_word, .int wordSize_this, .ref h_this_text, .int textSize_this])), (h_this_tape, .inl (cA, 1024, .inl (upd a_tape tapeSize_this.toNatClampNeg ((y0 >>> (((24 : Int32) - ((8 : Int32) * (x6 - x6 / (4 : Int32) * (4 : Int32)))) &&& 31)) &&& (255 : Int32)))))] H := hP
  have hD : va_D A [(h_this, .inr (2, [.ref h_this_tape, .int (tapeSize_this + (1 : Int32)), .ref h_this_list, .int listSize_this, .ref h_this_item, .int itemSize_this, .ref h_this_word, .int wordSize_this, .ref h_this_text, .int textSize_this])), (h_this_tape, .inl (cA, 1024, .inl (upd a_tape tapeSize_this.toNatClampNeg ((y0 >>> (((24 : Int32) - ((8 : Int32) * (x6 - x6 / (4 : Int32) * (4 : Int32)))) &&& 31)) &&& (255 : Int32)))))] := hD
  refine lv_iinc (v := (x6 + (1 : Int32))) (lv' := [(6, .int (x6 + (1 : Int32))), (7, .int y0), (0, .ref h_this), (1, .int x1), (2, .int x2), (3, .int x3), (4, .int x4), (5, .int x5)]) hx hb d_M_feed_109 hl (k := 7) rfl rfl (by decide) rfl (fun ls hl => ?_)
  refine lv_goto (tgt := 18) hx hb d_M_feed_112 (by decide) ?_
  exact hk_18 _ _ _ _ _ _ _ _ h H locs hP hD hS ls (lv_sub hl [2, 3, 4, 5, 6, 7, 0] rfl)
set_option maxHeartbeats 4000000 in
set_option maxRecDepth 100000 in
theorem t_M_feed_18 {p : Program} {l : Launch} {e : Env} {s : State} {m : MethodId} {args : Array Value} {below : List Frame} {meth : Method} {c : Code} {D : va_G} {cA : ClassId} {zz : zT} {A : Nat → Prop} (C0 : Cx p s m args meth c b_M_feed R_M 8 (some .boolean)) (hK : va_K D classes [(cA, .int)] s) (hA : ∀ q : Nat, s.heap.size ≤ q → A q) (hZ : ZS zz A s s.heap) (N : Nat) (h_this : Nat) (h_this_tape : Nat) (h_this_list : Nat) (h_this_item : Nat) (h_this_word : Nat) (h_this_text : Nat) (listSize_this : Int32) (itemSize_this : Int32) (wordSize_this : Int32) (textSize_this : Int32) (res : Int32 × Int32 × (Nat → Int32)) :
    ∀ (n : Nat), ∀ (tapeSize_this : Int32) (a_tape : Nat → Int32) (x1 : Int32) (x2 : Int32) (x3 : Int32) (x4 : Int32) (x5 : Int32) (x6 : Int32), p_M_feed_18 N n tapeSize_this a_tape x1 x2 x3 x4 x5 x6 = some res → ∀ (H : Heap) (locs : List Loc), va_P D classes [(h_this, .inr (2, [.ref h_this_tape, .int tapeSize_this, .ref h_this_list, .int listSize_this, .ref h_this_item, .int itemSize_this, .ref h_this_word, .int wordSize_this, .ref h_this_text, .int textSize_this])), (h_this_tape, .inl (cA, 1024, .inl a_tape))] H → va_D A [(h_this, .inr (2, [.ref h_this_tape, .int tapeSize_this, .ref h_this_list, .int listSize_this, .ref h_this_item, .int itemSize_this, .ref h_this_word, .int wordSize_this, .ref h_this_text, .int textSize_this])), (h_this_tape, .inl (cA, 1024, .inl a_tape))] → va_S A s.heap H locs → ∀ (ls : Array Slot), lv_has ls 8 [(0, .ref h_this), (1, .int x1), (2, .int x2), (3, .int x3), (4, .int x4), (5, .int x5), (6, .int x6)] → W p l e rm_M_feed s m args below meth c H locs 0 0 (QI .boolean below args s D cA A (res.1) [(h_this, .inr (2, [.ref h_this_tape, .int res.2.1, .ref h_this_list, .int listSize_this, .ref h_this_item, .int itemSize_this, .ref h_this_word, .int wordSize_this, .ref h_this_text, .int textSize_this])), (h_this_tape, .inl (cA, 1024, .inl res.2.2))]) (F0 m 18 ls []) := by
  obtain ⟨hx, hb, hr, hml, hown, hG, hlk⟩ := id C0
  intro n
  induction n with
  | zero =>
    intro tapeSize_this a_tape x1 x2 x3 x4 x5 x6 h H locs hP hD hS ls hl
    exact absurd h (by simp [p_M_feed_18])
  | succ n ih =>
    intro tapeSize_this a_tape x1 x2 x3 x4 x5 x6 h H locs hP hD hS ls hl
    rw [p_M_feed_18] at h
    refine lv_iload hx hb d_M_feed_18 (lv_at hl 6 rfl) ?_
    refine lv_bipush (v := (20 : Int32)) hx hb d_M_feed_20 (by decide) ?_
    refine lv_icmp_ge (tgt := 115) hx hb d_M_feed_22 (by decide) (fun c_22 => ?_) (fun c_22 => ?_)
    · have h := iteP c_22 h
      refine lv_iconst (v := (1 : Int32)) hx hb d_M_feed_115 (by decide) ?_
      obtain rfl := Option.some.inj h
      exact rI (v := (1 : Int32)) C0 rfl hK hP hD hS d_M_feed_116
    · have h := iteN c_22 h
      refine lv_iload hx hb d_M_feed_25 (lv_at hl 6 rfl) ?_
      refine lv_iconst (v := (4 : Int32)) hx hb d_M_feed_27 (by decide) ?_
      refine lv_icmp_ge (tgt := 35) hx hb d_M_feed_28 (by decide) (fun c_28 => ?_) (fun c_28 => ?_)
      · have h := iteP c_28 h
        refine lv_iload hx hb d_M_feed_35 (lv_at hl 6 rfl) ?_
        refine lv_bipush (v := (8 : Int32)) hx hb d_M_feed_37 (by decide) ?_
        refine lv_icmp_ge (tgt := 46) hx hb d_M_feed_39 (by decide) (fun c_39 => ?_) (fun c_39 => ?_)
        · have h := iteP c_39 h
          refine lv_iload hx hb d_M_feed_46 (lv_at hl 6 rfl) ?_
          refine lv_bipush (v := (12 : Int32)) hx hb d_M_feed_48 (by decide) ?_
          refine lv_icmp_ge (tgt := 57) hx hb d_M_feed_50 (by decide) (fun c_50 => ?_) (fun c_50 => ?_)
          · have h := iteP c_50 h
            refine lv_iload hx hb d_M_feed_57 (lv_at hl 6 rfl) ?_
            refine lv_bipush (v := (16 : Int32)) hx hb d_M_feed_59 (by decide) ?_
            refine lv_icmp_ge (tgt := 69) hx hb d_M_feed_61 (by decide) (fun c_61 => ?_) (fun c_61 => ?_)
            · have h := iteP c_61 h
              refine lv_iload hx hb d_M_feed_69 (lv_at hl 5 rfl) ?_
              exact t_M_feed_71 C0 hK hA hZ N h_this h_this_tape h_this_list h_this_item h_this_word h_this_text listSize_this itemSize_this wordSize_this textSize_this res (p_M_feed_18 N n) ih _ _ _ _ _ _ _ _ _ h H locs hP hD hS ls (lv_sub hl [0, 1, 2, 3, 4, 5, 6] rfl)
            · have h := iteN c_61 h
              refine lv_iload hx hb d_M_feed_64 (lv_at hl 4 rfl) ?_
              refine lv_goto (tgt := 71) hx hb d_M_feed_66 (by decide) ?_
              exact t_M_feed_71 C0 hK hA hZ N h_this h_this_tape h_this_list h_this_item h_this_word h_this_text listSize_this itemSize_this wordSize_this textSize_this res (p_M_feed_18 N n) ih _ _ _ _ _ _ _ _ _ h H locs hP hD hS ls (lv_sub hl [0, 1, 2, 3, 4, 5, 6] rfl)
          · have h := iteN c_50 h
            refine lv_iload_n hx hb d_M_feed_53 rfl (lv_at hl 3 rfl) ?_
            refine lv_goto (tgt := 71) hx hb d_M_feed_54 (by decide) ?_
            exact t_M_feed_71 C0 hK hA hZ N h_this h_this_tape h_this_list h_this_item h_this_word h_this_text listSize_this itemSize_this wordSize_this textSize_this res (p_M_feed_18 N n) ih _ _ _ _ _ _ _ _ _ h H locs hP hD hS ls (lv_sub hl [0, 1, 2, 3, 4, 5, 6] rfl)
        · have h := iteN c_39 h
          refine lv_iload_n hx hb d_M_feed_42 rfl (lv_at hl 2 rfl) ?_
          refine lv_goto (tgt := 71) hx hb d_M_feed_43 (by decide) ?_
          exact t_M_feed_71 C0 hK hA hZ N h_this h_this_tape h_this_list h_this_item h_this_word h_this_text listSize_this itemSize_this wordSize_this textSize_this res (p_M_feed_18 N n) ih _ _ _ _ _ _ _ _ _ h H locs hP hD hS ls (lv_sub hl [0, 1, 2, 3, 4, 5, 6] rfl)
      · have h := iteN c_28 h
        refine lv_iload_n hx hb d_M_feed_31 rfl (lv_at hl 1 rfl) ?_
        refine lv_goto (tgt := 71) hx hb d_M_feed_32 (by decide) ?_
        exact t_M_feed_71 C0 hK hA hZ N h_this h_this_tape h_this_list h_this_item h_this_word h_this_text listSize_this itemSize_this wordSize_this textSize_this res (p_M_feed_18 N n) ih _ _ _ _ _ _ _ _ _ h H locs hP hD hS ls (lv_sub hl [0, 1, 2, 3, 4, 5, 6] rfl)
set_option maxHeartbeats 4000000 in
set_option maxRecDepth 100000 in
theorem t_M_feed_0 {p : Program} {l : Launch} {e : Env} {s : State} {m : MethodId} {args : Array Value} {below : List Frame} {meth : Method} {c : Code} {D : va_G} {cA : ClassId} {zz : zT} {A : Nat → Prop} (C0 : Cx p s m args meth c b_M_feed R_M 8 (some .boolean)) (hK : va_K D classes [(cA, .int)] s) (hA : ∀ q : Nat, s.heap.size ≤ q → A q) (hZ : ZS zz A s s.heap) (N : Nat) (h_this : Nat) (h_this_tape : Nat) (h_this_list : Nat) (h_this_item : Nat) (h_this_word : Nat) (h_this_text : Nat) (listSize_this : Int32) (itemSize_this : Int32) (wordSize_this : Int32) (textSize_this : Int32) (res : Int32 × Int32 × (Nat → Int32)) :
    ∀ (tapeSize_this : Int32) (a_tape : Nat → Int32) (x1 : Int32) (x2 : Int32) (x3 : Int32) (x4 : Int32) (x5 : Int32), p_M_feed_0 N tapeSize_this a_tape x1 x2 x3 x4 x5 = some res → ∀ (H : Heap) (locs : List Loc), va_P D classes [(h_this, .inr (2, [.ref h_this_tape, .int tapeSize_this, .ref h_this_list, .int listSize_this, .ref h_this_item, .int itemSize_this, .ref h_this_word, .int wordSize_this, .ref h_this_text, .int textSize_this])), (h_this_tape, .inl (cA, 1024, .inl a_tape))] H → va_D A [(h_this, .inr (2, [.ref h_this_tape, .int tapeSize_this, .ref h_this_list, .int listSize_this, .ref h_this_item, .int itemSize_this, .ref h_this_word, .int wordSize_this, .ref h_this_text, .int textSize_this])), (h_this_tape, .inl (cA, 1024, .inl a_tape))] → va_S A s.heap H locs → ∀ (ls : Array Slot), lv_has ls 8 [(0, .ref h_this), (1, .int x1), (2, .int x2), (3, .int x3), (4, .int x4), (5, .int x5)] → W p l e rm_M_feed s m args below meth c H locs 0 0 (QI .boolean below args s D cA A (res.1) [(h_this, .inr (2, [.ref h_this_tape, .int res.2.1, .ref h_this_list, .int listSize_this, .ref h_this_item, .int itemSize_this, .ref h_this_word, .int wordSize_this, .ref h_this_text, .int textSize_this])), (h_this_tape, .inl (cA, 1024, .inl res.2.2))]) (F0 m 0 ls []) := by
  obtain ⟨hx, hb, hr, hml, hown, hG, hlk⟩ := id C0
  intro tapeSize_this a_tape x1 x2 x3 x4 x5 h H locs hP hD hS ls hl
  unfold p_M_feed_0 at h
  refine lv_aload_n hx hb d_M_feed_0 rfl (lv_at hl 0 rfl) ?_
  refine va_get (D := D) (ci := 2) (v := .int tapeSize_this) (C := R_M) (T := F_M) (N := 10) hx hb hG i_M hown hK hP 0 rfl rfl 1 (by decide) (hG _ f_M_96) (fun _ h9 => h9) rfl d_M_feed_1 ?_
  refine lv_bipush (v := (20 : Int32)) hx hb d_M_feed_4 (by decide) ?_
  refine lv_iadd hx hb d_M_feed_6 ?_
  refine lv_sipush (v := (1024 : Int32)) hx hb d_M_feed_7 (by decide) ?_
  refine lv_icmp_le (tgt := 15) hx hb d_M_feed_10 (by decide) (fun c_10 => ?_) (fun c_10 => ?_)
  · have h := iteP c_10 h
    refine lv_iconst (v := (0 : Int32)) hx hb d_M_feed_15 (by decide) ?_
    refine lv_istore (lv' := [(6, .int (0 : Int32)), (0, .ref h_this), (1, .int x1), (2, .int x2), (3, .int x3), (4, .int x4), (5, .int x5)]) hx hb d_M_feed_16 hl (by decide) rfl (fun ls hl => ?_)
    exact t_M_feed_18 C0 hK hA hZ N h_this h_this_tape h_this_list h_this_item h_this_word h_this_text listSize_this itemSize_this wordSize_this textSize_this res N _ _ _ _ _ _ _ _ h H locs hP hD hS ls (lv_sub hl [1, 2, 3, 4, 5, 6, 0] rfl)
  · have h := iteN c_10 h
    refine lv_iconst (v := (0 : Int32)) hx hb d_M_feed_13 (by decide) ?_
    obtain rfl := Option.some.inj h
    exact rI (v := (0 : Int32)) C0 rfl hK hP hD hS d_M_feed_14
theorem c_M_feed (l : Launch) (D : va_G) (cA : ClassId) (zz : zT) (N : Nat) (h_this : Nat) (h_this_tape : Nat) (h_this_list : Nat) (h_this_item : Nat) (h_this_word : Nat) (h_this_text : Nat) (tapeSize_this : Int32) (listSize_this : Int32) (itemSize_this : Int32) (wordSize_this : Int32) (textSize_this : Int32) (a_tape : Nat → Int32) (x1 : Int32) (x2 : Int32) (x3 : Int32) (x4 : Int32) (x5 : Int32) (res : Int32 × Int32 × (Nat → Int32)) (h : p_M_feed N tapeSize_this a_tape x1 x2 x3 x4 x5 = some res) : MI l D cA zz y_M_feed b_M_feed 8 .boolean rm_M_feed [.ref h_this, .int x1, .int x2, .int x3, .int x4, .int x5] [(h_this, .inr (2, [.ref h_this_tape, .int tapeSize_this, .ref h_this_list, .int listSize_this, .ref h_this_item, .int itemSize_this, .ref h_this_word, .int wordSize_this, .ref h_this_text, .int textSize_this])), (h_this_tape, .inl (cA, 1024, .inl a_tape))] (res.1) [(h_this, .inr (2, [.ref h_this_tape, .int res.2.1, .ref h_this_list, .int listSize_this, .ref h_this_item, .int itemSize_this, .ref h_this_word, .int wordSize_this, .ref h_this_text, .int textSize_this])), (h_this_tape, .inl (cA, 1024, .inl res.2.2))] := by
  unfold p_M_feed at h
  exact MI_enter (by decide) (Nat.le_of_ble_eq_true rfl) (fun p e s m below meth c A ls C0 hK hA hZ hP hD hl => t_M_feed_0 C0 hK hA hZ N h_this h_this_tape h_this_list h_this_item h_this_word h_this_text listSize_this itemSize_this wordSize_this textSize_this res _ _ _ _ _ _ _ h s.heap [] hP hD va_S.rf ls hl)
