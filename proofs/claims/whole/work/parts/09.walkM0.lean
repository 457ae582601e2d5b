-- ListWordsModel.itemAt(I)I
set_option maxHeartbeats 4000000 in
set_option maxRecDepth 100000 in
theorem t_M_itemAt_0 {p : Program} {l : Launch} {e : Env} {s : State} {m : MethodId} {args : Array Value} {below : List Frame} {meth : Method} {c : Code} {D : va_G} {cA : ClassId} {zz : zT} {A : Nat → Prop} (C0 : Cx p s m args meth c b_M_itemAt R_M 2 (some .int)) (hK : va_K D classes [(cA, .int)] s) (hA : ∀ q : Nat, s.heap.size ≤ q → A q) (hZ : ZS zz A s s.heap) (N : Nat) (h_this : Nat) (h_this_tape : Nat) (h_this_list : Nat) (h_this_item : Nat) (h_this_word : Nat) (h_this_text : Nat) (tapeSize_this : Int32) (listSize_this : Int32) (itemSize_this : Int32) (wordSize_this : Int32) (textSize_this : Int32) (a_item : Nat → Int32) (res : Int32) :
    ∀ (x1 : Int32), p_M_itemAt_0 N itemSize_this a_item x1 = some res → ∀ (H : Heap) (locs : List Loc), va_P D classes [(h_this, .inr (2, [.ref h_this_tape, .int tapeSize_this, .ref h_this_list, .int listSize_this, .ref h_this_item, .int itemSize_this, .ref h_this_word, .int wordSize_this, .ref h_this_text, .int textSize_this])), (h_this_item, .inl (cA, 1024, .inl a_item))] H → va_D A [(h_this, .inr (2, [.ref h_this_tape, .int tapeSize_this, .ref h_this_list, .int listSize_this, .ref h_this_item, .int itemSize_this, .ref h_this_word, .int wordSize_this, .ref h_this_text, .int textSize_this])), (h_this_item, .inl (cA, 1024, .inl a_item))] → va_S A s.heap H locs → ∀ (ls : Array Slot), lv_has ls 2 [(0, .ref h_this), (1, .int x1)] → W p l e rm_M_itemAt s m args below meth c H locs 0 0 (QI .int below args s D cA A (res) [(h_this, .inr (2, [.ref h_this_tape, .int tapeSize_this, .ref h_this_list, .int listSize_this, .ref h_this_item, .int itemSize_this, .ref h_this_word, .int wordSize_this, .ref h_this_text, .int textSize_this])), (h_this_item, .inl (cA, 1024, .inl a_item))]) (F0 m 0 ls []) := by
  obtain ⟨hx, hb, hr, hml, hown, hG, hlk⟩ := id C0
  intro x1 h H locs hP hD hS ls hl
  unfold p_M_itemAt_0 at h
  refine lv_iload_n hx hb d_M_itemAt_0 rfl (lv_at hl 1 rfl) ?_
  refine lv_if_lt (tgt := 21) hx hb d_M_itemAt_1 (by decide) (fun c_1 => ?_) (fun c_1 => ?_)
  · have h := iteP c_1 h
    refine lv_iconst (v := (-1 : Int32)) hx hb d_M_itemAt_21 (by decide) ?_
    obtain rfl := Option.some.inj h
    exact rI (v := (-1 : Int32)) C0 (vp_nar_int _) hK hP hD hS d_M_itemAt_22
  · have h := iteN c_1 h
    refine lv_iload_n hx hb d_M_itemAt_4 rfl (lv_at hl 1 rfl) ?_
    refine lv_aload_n hx hb d_M_itemAt_5 rfl (lv_at hl 0 rfl) ?_
    refine va_get (D := D) (ci := 2) (v := .int itemSize_this) (C := R_M) (T := F_M) (N := 10) hx hb hG i_M hown hK hP 0 rfl rfl 5 (by decide) (hG _ f_M_99) (fun _ h9 => h9) rfl d_M_itemAt_6 ?_
    refine lv_icmp_ge (tgt := 21) hx hb d_M_itemAt_9 (by decide) (fun c_9 => ?_) (fun c_9 => ?_)
    · have h := iteP c_9 h
      refine lv_iconst (v := (-1 : Int32)) hx hb d_M_itemAt_21 (by decide) ?_
      obtain rfl := Option.some.inj h
      exact rI (v := (-1 : Int32)) C0 (vp_nar_int _) hK hP hD hS d_M_itemAt_22
    · have h := iteN c_9 h
      refine lv_aload_n hx hb d_M_itemAt_12 rfl (lv_at hl 0 rfl) ?_
      refine va_get (D := D) (ci := 2) (v := .ref h_this_item) (C := R_M) (T := F_M) (N := 10) hx hb hG i_M hown hK hP 0 rfl rfl 4 (by decide) (hG _ f_M_16) (fun _ h9 => h9) rfl d_M_itemAt_13 ?_
      refine lv_iload_n hx hb d_M_itemAt_16 rfl (lv_at hl 1 rfl) ?_
      obtain ⟨g_17, h⟩ := guardN h
      refine va_iald hx hb hK hP 1 0 rfl rfl g_17 d_M_itemAt_17 ?_
      refine lv_goto (tgt := 22) hx hb d_M_itemAt_18 (by decide) ?_
      obtain rfl := Option.some.inj h
      exact rI (v := (a_item x1.toNatClampNeg)) C0 (vp_nar_int _) hK hP hD hS d_M_itemAt_22
theorem c_M_itemAt (l : Launch) (D : va_G) (cA : ClassId) (zz : zT) (N : Nat) (h_this : Nat) (h_this_tape : Nat) (h_this_list : Nat) (h_this_item : Nat) (h_this_word : Nat) (h_this_text : Nat) (tapeSize_this : Int32) (listSize_this : Int32) (itemSize_this : Int32) (wordSize_this : Int32) (textSize_this : Int32) (a_item : Nat → Int32) (x1 : Int32) (res : Int32) (h : p_M_itemAt N itemSize_this a_item x1 = some res) : MI l D cA zz y_M_itemAt b_M_itemAt 2 .int rm_M_itemAt [.ref h_this, .int x1] [(h_this, .inr (2, [.ref h_this_tape, .int tapeSize_this, .ref h_this_list, .int listSize_this, .ref h_this_item, .int itemSize_this, .ref h_this_word, .int wordSize_this, .ref h_this_text, .int textSize_this])), (h_this_item, .inl (cA, 1024, .inl a_item))] (res) [(h_this, .inr (2, [.ref h_this_tape, .int tapeSize_this, .ref h_this_list, .int listSize_this, .ref h_this_item, .int itemSize_this, .ref h_this_word, .int wordSize_this, .ref h_this_text, .int textSize_this])), (h_this_item, .inl (cA, 1024, .inl a_item))] := by
  unfold p_M_itemAt at h
  exact MI_enter (by decide) (Nat.le_of_ble_eq_true rfl) (fun p e s m below meth c A ls C0 hK hA hZ hP hD hl => t_M_itemAt_0 C0 hK hA hZ N h_this h_this_tape h_this_list h_this_item h_this_word h_this_text tapeSize_this listSize_this itemSize_this wordSize_this textSize_this a_item res _ h s.heap [] hP hD va_S.rf ls hl)
-- ListWordsModel.listAt(I)I
set_option maxHeartbeats 4000000 in
set_option maxRecDepth 100000 in
theorem t_M_listAt_0 {p : Program} {l : Launch} {e : Env} {s : State} {m : MethodId} {args : Array Value} {below : List Frame} {meth : Method} {c : Code} {D : va_G} {cA : ClassId} {zz : zT} {A : Nat → Prop} (C0 : Cx p s m args meth c b_M_listAt R_M 2 (some .int)) (hK : va_K D classes [(cA, .int)] s) (hA : ∀ q : Nat, s.heap.size ≤ q → A q) (hZ : ZS zz A s s.heap) (N : Nat) (h_this : Nat) (h_this_tape : Nat) (h_this_list : Nat) (h_this_item : Nat) (h_this_word : Nat) (h_this_text : Nat) (tapeSize_this : Int32) (listSize_this : Int32) (itemSize_this : Int32) (wordSize_this : Int32) (textSize_this : Int32) (a_list : Nat → Int32) (res : Int32) :
    ∀ (x1 : Int32), p_M_listAt_0 N listSize_this a_list x1 = some res → ∀ (H : Heap) (locs : List Loc), va_P D classes [(h_this, .inr (2, [.ref h_this_tape, .int tapeSize_this, .ref h_this_list, .int listSize_this, .ref h_this_item, .int itemSize_this, .ref h_this_word, .int wordSize_this, .ref h_this_text, .int textSize_this])), (h_this_list, .inl (cA, 1024, .inl a_list))] H → va_D A [(h_this, .inr (2, [.ref h_this_tape, .int tapeSize_this, .ref h_this_list, .int listSize_this, .ref h_this_item, .int itemSize_this, .ref h_this_word, .int wordSize_this, .ref h_this_text, .int textSize_this])), (h_this_list, .inl (cA, 1024, .inl a_list))] → va_S A s.heap H locs → ∀ (ls : Array Slot), lv_has ls 2 [(0, .ref h_this), (1, .int x1)] → W p l e rm_M_listAt s m args below meth c H locs 0 0 (QI .int below args s D cA A (res) [(h_this, .inr (2, [.ref h_this_tape, .int tapeSize_this, .ref h_this_list, .int listSize_this, .ref h_this_item, .int itemSize_this, .ref h_this_word, .int wordSize_this, .ref h_this_text, .int textSize_this])), (h_this_list, .inl (cA, 1024, .inl a_list))]) (F0 m 0 ls []) := by
  obtain ⟨hx, hb, hr, hml, hown, hG, hlk⟩ := id C0
  intro x1 h H locs hP hD hS ls hl
  unfold p_M_listAt_0 at h
  refine lv_iload_n hx hb d_M_listAt_0 rfl (lv_at hl 1 rfl) ?_
  refine lv_if_lt (tgt := 21) hx hb d_M_listAt_1 (by decide) (fun c_1 => ?_) (fun c_1 => ?_)
  · have h := iteP c_1 h
    refine lv_iconst (v := (-1 : Int32)) hx hb d_M_listAt_21 (by decide) ?_
    obtain rfl := Option.some.inj h
    exact rI (v := (-1 : Int32)) C0 (vp_nar_int _) hK hP hD hS d_M_listAt_22
  · have h := iteN c_1 h
    refine lv_iload_n hx hb d_M_listAt_4 rfl (lv_at hl 1 rfl) ?_
    refine lv_aload_n hx hb d_M_listAt_5 rfl (lv_at hl 0 rfl) ?_
    refine va_get (D := D) (ci := 2) (v := .int listSize_this) (C := R_M) (T := F_M) (N := 10) hx hb hG i_M hown hK hP 0 rfl rfl 3 (by decide) (hG _ f_M_25) (fun _ h9 => h9) rfl d_M_listAt_6 ?_
    refine lv_icmp_ge (tgt := 21) hx hb d_M_listAt_9 (by decide) (fun c_9 => ?_) (fun c_9 => ?_)
    · have h := iteP c_9 h
      refine lv_iconst (v := (-1 : Int32)) hx hb d_M_listAt_21 (by decide) ?_
      obtain rfl := Option.some.inj h
      exact rI (v := (-1 : Int32)) C0 (vp_nar_int _) hK hP hD hS d_M_listAt_22
    · have h := iteN c_9 h
      refine lv_aload_n hx hb d_M_listAt_12 rfl (lv_at hl 0 rfl) ?_
      refine va_get (D := D) (ci := 2) (v := .ref h_this_list) (C := R_M) (T := F_M) (N := 10) hx hb hG i_M hown hK hP 0 rfl rfl 2 (by decide) (hG _ f_M_13) (fun _ h9 => h9) rfl d_M_listAt_13 ?_
      refine lv_iload_n hx hb d_M_listAt_16 rfl (lv_at hl 1 rfl) ?_
      obtain ⟨g_17, h⟩ := guardN h
      refine va_iald hx hb hK hP 1 0 rfl rfl g_17 d_M_listAt_17 ?_
      refine lv_goto (tgt := 22) hx hb d_M_listAt_18 (by decide) ?_
      obtain rfl := Option.some.inj h
      exact rI (v := (a_list x1.toNatClampNeg)) C0 (vp_nar_int _) hK hP hD hS d_M_listAt_22
theorem c_M_listAt (l : Launch) (D : va_G) (cA : ClassId) (zz : zT) (N : Nat) (h_this : Nat) (h_this_tape : Nat) (h_this_list : Nat) (h_this_item : Nat) (h_this_word : Nat) (h_this_text : Nat) (tapeSize_this : Int32) (listSize_this : Int32) (itemSize_this : Int32) (wordSize_this : Int32) (textSize_this : Int32) (a_list : Nat → Int32) (x1 : Int32) (res : Int32) (h : p_M_listAt N listSize_this a_list x1 = some res) : MI l D cA zz y_M_listAt b_M_listAt 2 .int rm_M_listAt [.ref h_this, .int x1] [(h_this, .inr (2, [.ref h_this_tape, .int tapeSize_this, .ref h_this_list, .int listSize_this, .ref h_this_item, .int itemSize_this, .ref h_this_word, .int wordSize_this, .ref h_this_text, .int textSize_this])), (h_this_list, .inl (cA, 1024, .inl a_list))] (res) [(h_this, .inr (2, [.ref h_this_tape, .int tapeSize_this, .ref h_this_list, .int listSize_this, .ref h_this_item, .int itemSize_this, .ref h_this_word, .int wordSize_this, .ref h_this_text, .int textSize_this])), (h_this_list, .inl (cA, 1024, .inl a_list))] := by
  unfold p_M_listAt at h
  exact MI_enter (by decide) (Nat.le_of_ble_eq_true rfl) (fun p e s m below meth c A ls C0 hK hA hZ hP hD hl => t_M_listAt_0 C0 hK hA hZ N h_this h_this_tape h_this_list h_this_item h_this_word h_this_text tapeSize_this listSize_this itemSize_this wordSize_this textSize_this a_list res _ h s.heap [] hP hD va_S.rf ls hl)
-- ListWordsModel.wrap()I
set_option maxHeartbeats 4000000 in
set_option maxRecDepth 100000 in
theorem t_M_wrap_2 {p : Program} {l : Launch} {e : Env} {s : State} {m : MethodId} {args : Array Value} {below : List Frame} {meth : Method} {c : Code} {D : va_G} {cA : ClassId} {zz : zT} {A : Nat → Prop} (C0 : Cx p s m args meth c b_M_wrap R_M 2 (some .int)) (hK : va_K D classes [(cA, .int)] s) (hA : ∀ q : Nat, s.heap.size ≤ q → A q) (hZ : ZS zz A s s.heap) (N : Nat) (h_this : Nat) (h_this_tape : Nat) (h_this_list : Nat) (h_this_item : Nat) (h_this_word : Nat) (h_this_text : Nat) (tapeSize_this : Int32) (wordSize_this : Int32) (textSize_this : Int32) (a_list : Nat → Int32) (res : Int32 × Int32 × Int32 × (Nat → Int32)) :
    ∀ (n : Nat), ∀ (listSize_this : Int32) (itemSize_this : Int32) (a_item : Nat → Int32) (x1 : Int32), p_M_wrap_2 N a_list n listSize_this itemSize_this a_item x1 = some res → ∀ (H : Heap) (locs : List Loc), va_P D classes [(h_this, .inr (2, [.ref h_this_tape, .int tapeSize_this, .ref h_this_list, .int listSize_this, .ref h_this_item, .int itemSize_this, .ref h_this_word, .int wordSize_this, .ref h_this_text, .int textSize_this])), (h_this_list, .inl (cA, 1024, .inl a_list)), (h_this_item, .inl (cA, 1024, .inl a_item))] H → va_D A [(h_this, .inr (2, [.ref h_this_tape, .int tapeSize_this, .ref h_this_list, .int listSize_this, .ref h_this_item, .int itemSize_this, .ref h_this_word, .int wordSize_this, .ref h_this_text, .int textSize_this])), (h_this_list, .inl (cA, 1024, .inl a_list)), (h_this_item, .inl (cA, 1024, .inl a_item))] → va_S A s.heap H locs → ∀ (ls : Array Slot), lv_has ls 2 [(0, .ref h_this), (1, .int x1)] → W p l e rm_M_wrap s m args below meth c H locs 0 0 (QI .int below args s D cA A (res.1) [(h_this, .inr (2, [.ref h_this_tape, .int tapeSize_this, .ref h_this_list, .int res.2.1, .ref h_this_item, .int res.2.2.1, .ref h_this_word, .int wordSize_this, .ref h_this_text, .int textSize_this])), (h_this_list, .inl (cA, 1024, .inl a_list)), (h_this_item, .inl (cA, 1024, .inl res.2.2.2))]) (F0 m 2 ls []) := by
  obtain ⟨hx, hb, hr, hml, hown, hG, hlk⟩ := id C0
  intro n
  induction n with
  | zero =>
    intro listSize_this itemSize_this a_item x1 h H locs hP hD hS ls hl
    exact absurd h (by simp [p_M_wrap_2])
  | succ n ih =>
    intro listSize_this itemSize_this a_item x1 h H locs hP hD hS ls hl
    rw [p_M_wrap_2] at h
    refine lv_iload_n hx hb d_M_wrap_2 rfl (lv_at hl 1 rfl) ?_
    refine lv_aload_n hx hb d_M_wrap_3 rfl (lv_at hl 0 rfl) ?_
    refine va_get (D := D) (ci := 2) (v := .int listSize_this) (C := R_M) (T := F_M) (N := 10) hx hb hG i_M hown hK hP 0 rfl rfl 3 (by decide) (hG _ f_M_25) (fun _ h9 => h9) rfl d_M_wrap_4 ?_
    refine lv_icmp_ge (tgt := 28) hx hb d_M_wrap_7 (by decide) (fun c_7 => ?_) (fun c_7 => ?_)
    · have h := iteP c_7 h
      refine lv_aload_n hx hb d_M_wrap_28 rfl (lv_at hl 0 rfl) ?_
      refine lv_aload_n hx hb d_M_wrap_29 rfl (lv_at hl 0 rfl) ?_
      refine va_get (D := D) (ci := 2) (v := .int listSize_this) (C := R_M) (T := F_M) (N := 10) hx hb hG i_M hown hK hP 0 rfl rfl 3 (by decide) (hG _ f_M_25) (fun _ h9 => h9) rfl d_M_wrap_30 ?_
      refine va_put (D := D) (ci := 2) (v := .int listSize_this) (ty := .int) (C := R_M) (T := F_M) (N := 10) hx hb hG i_M t_M t_M_ok n_M hown hK hP hD hS 0 rfl rfl 5 (by decide) (hG _ f_M_99) (fun _ h9 => h9) rfl (by decide +kernel) rfl rfl (Nat.le_of_ble_eq_true rfl) d_M_wrap_33 (fun H locs hP hD hS => ?_)
      have hP : va_P D classes [(h_this, .inr (2, [.ref h_this_tape, .int tapeSize_this, .ref h_this_list, .int listSize_this, .ref h_this_item, .int listSize_this, .ref h_this_word, .int wordSize_this, .ref h_this_text, .int textSize_this])), (h_this_list, .inl (cA, 1024, .inl a_list)), (h_this_item, .inl (cA, 1024, .inl a_item))] H := hP
      have hD : va_D A [(h_this, .inr (2, [.ref h_this_tape, .int tapeSize_this, .ref h_this_list, .int listSize_this, .ref h_this_item, .int listSize_this, .ref h_this_word, .int wordSize_this, .ref h_this_text, .int textSize_this])), (h_this_list, .inl (cA, 1024, .inl a_list)), (h_this_item, .inl (cA, 1024, .inl a_item))] := hD
      refine lv_aload_n hx hb d_M_wrap_36 rfl (lv_at hl 0 rfl) ?_
      refine lv_iconst (v := (0 : Int32)) hx hb d_M_wrap_37 (by decide) ?_
      refine va_put (D := D) (ci := 2) (v := .int (0 : Int32)) (ty := .int) (C := R_M) (T := F_M) (N := 10) hx hb hG i_M t_M t_M_ok n_M hown hK hP hD hS 0 rfl rfl 3 (by decide) (hG _ f_M_25) (fun _ h9 => h9) rfl (by decide +kernel) rfl rfl (Nat.le_of_ble_eq_true rfl) d_M_wrap_38 (fun H locs hP hD hS => ?_)
      have hP : va_P D classes [(h_this, .inr (2, [.ref h_this_tape, .int tapeSize_this, .ref h_this_list, .int (0 : Int32), .ref h_this_item, .int listSize_this, .ref h_this_word, .int wordSize_this, .ref h_this_text, .int textSize_this])), (h_this_list, .inl (cA, 1024, .inl a_list)), (h_this_item, .inl (cA, 1024, .inl a_item))] H := hP
      have hD : va_D A [(h_this, .inr (2, [.ref h_this_tape, .int tapeSize_this, .ref h_this_list, .int (0 : Int32), .ref h_this_item, .int listSize_this, .ref h_this_word, .int wordSize_this, .ref h_this_text, .int textSize_this])), (h_this_list, .inl (cA, 1024, .inl a_list)), (h_this_item, .inl (cA, 1024, .inl a_item))] := hD
      refine lv_aload_n hx hb d_M_wrap_41 rfl (lv_at hl 0 rfl) ?_
      refine va_get (D := D) (ci := 2) (v := .int listSize_this) (C := R_M) (T := F_M) (N := 10) hx hb hG i_M hown hK hP 0 rfl rfl 5 (by decide) (hG _ f_M_99) (fun _ h9 => h9) rfl d_M_wrap_42 ?_
      obtain rfl := Option.some.inj h
      exact rI (v := listSize_this) C0 (vp_nar_int _) hK hP hD hS d_M_wrap_45
    · have h := iteN c_7 h
      refine lv_aload_n hx hb d_M_wrap_10 rfl (lv_at hl 0 rfl) ?_
      refine va_get (D := D) (ci := 2) (v := .ref h_this_item) (C := R_M) (T := F_M) (N := 10) hx hb hG i_M hown hK hP 0 rfl rfl 4 (by decide) (hG _ f_M_16) (fun _ h9 => h9) rfl d_M_wrap_11 ?_
      refine lv_iload_n hx hb d_M_wrap_14 rfl (lv_at hl 1 rfl) ?_
      refine lv_aload_n hx hb d_M_wrap_15 rfl (lv_at hl 0 rfl) ?_
      refine va_get (D := D) (ci := 2) (v := .ref h_this_list) (C := R_M) (T := F_M) (N := 10) hx hb hG i_M hown hK hP 0 rfl rfl 2 (by decide) (hG _ f_M_13) (fun _ h9 => h9) rfl d_M_wrap_16 ?_
      refine lv_iload_n hx hb d_M_wrap_19 rfl (lv_at hl 1 rfl) ?_
      obtain ⟨g_20, h⟩ := guardN h
      refine va_iald hx hb hK hP 1 0 rfl rfl g_20 d_M_wrap_20 ?_
      obtain ⟨g_21, h⟩ := guardN h
      refine va_iast hx hb hK hP hD hS 2 0 rfl rfl g_21 d_M_wrap_21 (fun H locs hP hD hS => ?_)
      have hP : va_P D classes [(h_this, .inr (2, [.ref h_this_tape, .int tapeSize_this, .ref h_this_list, .int listSize_this, .ref h_this_item, .int itemSize_this, .ref h_this_word, .int wordSize_this, .ref h_this_text, .int textSize_this])), (h_this_list, .inl (cA, 1024, .inl a_list)), (h_this_item, .inl (cA, 1024, .inl (upd a_item x1.toNatClampNeg (a_list x1.toNatClampNeg))))] H := hP
      have hD : va_D A [(h_this, .inr (2, [.ref h_this_tape, .int tapeSize_this, .ref h_this_list, .int listSize_this, .ref h_this_item, .int itemSize_this, .ref h_this_word, .int wordSize_this, .ref h_this_text, .int textSize_this])), (h_this_list, .inl (cA, 1024, .inl a_list)), (h_this_item, .inl (cA, 1024, .inl (upd a_item x1.toNatClampNeg (a_list x1.toNatClampNeg))))] := hD
      refine lv_iinc (v := (x1 + (1 : Int32))) (lv' := [(1, .int (x1 + (1 : Int32))), (0, .ref h_this)]) hx hb d_M_wrap_22 hl (k := 1) rfl rfl (by decide) rfl (fun ls hl => ?_)
      refine lv_goto (tgt := 2) hx hb d_M_wrap_25 (by decide) ?_
      exact ih _ _ _ _ h H locs hP hD hS ls (lv_sub hl [1, 0] rfl)
set_option maxHeartbeats 4000000 in
set_option maxRecDepth 100000 in
theorem t_M_wrap_0 {p : Program} {l : Launch} {e : Env} {s : State} {m : MethodId} {args : Array Value} {below : List Frame} {meth : Method} {c : Code} {D : va_G} {cA : ClassId} {zz : zT} {A : Nat → Prop} (C0 : Cx p s m args meth c b_M_wrap R_M 2 (some .int)) (hK : va_K D classes [(cA, .int)] s) (hA : ∀ q : Nat, s.heap.size ≤ q → A q) (hZ : ZS zz A s s.heap) (N : Nat) (h_this : Nat) (h_this_tape : Nat) (h_this_list : Nat) (h_this_item : Nat) (h_this_word : Nat) (h_this_text : Nat) (tapeSize_this : Int32) (wordSize_this : Int32) (textSize_this : Int32) (a_list : Nat → Int32) (res : Int32 × Int32 × Int32 × (Nat → Int32)) :
    ∀ (listSize_this : Int32) (itemSize_this : Int32) (a_item : Nat → Int32), p_M_wrap_0 N a_list listSize_this itemSize_this a_item = some res → ∀ (H : Heap) (locs : List Loc), va_P D classes [(h_this, .inr (2, [.ref h_this_tape, .int tapeSize_this, .ref h_this_list, .int listSize_this, .ref h_this_item, .int itemSize_this, .ref h_this_word, .int wordSize_this, .ref h_this_text, .int textSize_this])), (h_this_list, .inl (cA, 1024, .inl a_list)), (h_this_item, .inl (cA, 1024, .inl a_item))] H → va_D A [(h_this, .inr (2, [.ref h_this_tape, .int tapeSize_this, .ref h_this_list, .int listSize_this, .ref h_this_item, .int itemSize_this, .ref h_this_word, .int wordSize_this, .ref h_this_text, .int textSize_this])), (h_this_list, .inl (cA, 1024, .inl a_list)), (h_this_item, .inl (cA, 1024, .inl a_item))] → va_S A s.heap H locs → ∀ (ls : Array Slot), lv_has ls 2 [(0, .ref h_this)] → W p l e rm_M_wrap s m args below meth c H locs 0 0 (QI .int below args s D cA A (res.1) [(h_this, .inr (2, [.ref h_this_tape, .int tapeSize_this, .ref h_this_list, .int res.2.1, .ref h_this_item, .int res.2.2.1, .ref h_this_word, .int wordSize_this, .ref h_this_text, .int textSize_this])), (h_this_list, .inl (cA, 1024, .inl a_list)), (h_this_item, .inl (cA, 1024, .inl res.2.2.2))]) (F0 m 0 ls []) := by
  obtain ⟨hx, hb, hr, hml, hown, hG, hlk⟩ := id C0
  intro listSize_this itemSize_this a_item h H locs hP hD hS ls hl
  unfold p_M_wrap_0 at h
  refine lv_iconst (v := (0 : Int32)) hx hb d_M_wrap_0 (by decide) ?_
  refine lv_istore_n (lv' := [(1, .int (0 : Int32)), (0, .ref h_this)]) hx hb d_M_wrap_1 rfl hl (by decide) rfl (fun ls hl => ?_)
  exact t_M_wrap_2 C0 hK hA hZ N h_this h_this_tape h_this_list h_this_item h_this_word h_this_text tapeSize_this wordSize_this textSize_this a_list res N _ _ _ _ h H locs hP hD hS ls (lv_sub hl [1, 0] rfl)
theorem c_M_wrap (l : Launch) (D : va_G) (cA : ClassId) (zz : zT) (N : Nat) (h_this : Nat) (h_this_tape : Nat) (h_this_list : Nat) (h_this_item : Nat) (h_this_word : Nat) (h_this_text : Nat) (tapeSize_this : Int32) (listSize_this : Int32) (itemSize_this : Int32) (wordSize_this : Int32) (textSize_this : Int32) (a_list : Nat → Int32) (a_item : Nat → Int32) (res : Int32 × Int32 × Int32 × (Nat → Int32)) (h : p_M_wrap N listSize_this itemSize_this a_list a_item = some res) : MI l D cA zz y_M_wrap b_M_wrap 2 .int rm_M_wrap [.ref h_this] [(h_this, .inr (2, [.ref h_this_tape, .int tapeSize_this, .ref h_this_list, .int listSize_this, .ref h_this_item, .int itemSize_this, .ref h_this_word, .int wordSize_this, .ref h_this_text, .int textSize_this])), (h_this_list, .inl (cA, 1024, .inl a_list)), (h_this_item, .inl (cA, 1024, .inl a_item))] (res.1) [(h_this, .inr (2, [.ref h_this_tape, .int tapeSize_this, .ref h_this_list, .int res.2.1, .ref h_this_item, .int res.2.2.1, .ref h_this_word, .int wordSize_this, .ref h_this_text, .int textSize_this])), (h_this_list, .inl (cA, 1024, .inl a_list)), (h_this_item, .inl (cA, 1024, .inl res.2.2.2))] := by
  unfold p_M_wrap at h
  exact MI_enter (by decide) (Nat.le_of_ble_eq_true rfl) (fun p e s m below meth c A ls C0 hK hA hZ hP hD hl => t_M_wrap_0 C0 hK hA hZ N h_this h_this_tape h_this_list h_this_item h_this_word h_this_text tapeSize_this wordSize_this textSize_this a_list res _ _ _ h s.heap [] hP hD va_S.rf ls hl)
-- ListWordsModel.at(I)I
set_option maxHeartbeats 4000000 in
set_option maxRecDepth 100000 in
theorem t_M_at_0 {p : Program} {l : Launch} {e : Env} {s : State} {m : MethodId} {args : Array Value} {below : List Frame} {meth : Method} {c : Code} {D : va_G} {cA : ClassId} {zz : zT} {A : Nat → Prop} (C0 : Cx p s m args meth c b_M_at R_M 2 (some .int)) (hK : va_K D classes [(cA, .int)] s) (hA : ∀ q : Nat, s.heap.size ≤ q → A q) (hZ : ZS zz A s s.heap) (N : Nat) (h_this : Nat) (h_this_tape : Nat) (h_this_list : Nat) (h_this_item : Nat) (h_this_word : Nat) (h_this_text : Nat) (tapeSize_this : Int32) (listSize_this : Int32) (itemSize_this : Int32) (wordSize_this : Int32) (textSize_this : Int32) (a_list : Nat → Int32) (res : Int32) :
    ∀ (x1 : Int32), p_M_at_0 N listSize_this a_list x1 = some res → ∀ (H : Heap) (locs : List Loc), va_P D classes [(h_this, .inr (2, [.ref h_this_tape, .int tapeSize_this, .ref h_this_list, .int listSize_this, .ref h_this_item, .int itemSize_this, .ref h_this_word, .int wordSize_this, .ref h_this_text, .int textSize_this])), (h_this_list, .inl (cA, 1024, .inl a_list))] H → va_D A [(h_this, .inr (2, [.ref h_this_tape, .int tapeSize_this, .ref h_this_list, .int listSize_this, .ref h_this_item, .int itemSize_this, .ref h_this_word, .int wordSize_this, .ref h_this_text, .int textSize_this])), (h_this_list, .inl (cA, 1024, .inl a_list))] → va_S A s.heap H locs → ∀ (ls : Array Slot), lv_has ls 2 [(0, .ref h_this), (1, .int x1)] → W p l e rm_M_at s m args below meth c H locs 0 0 (QI .int below args s D cA A (res) [(h_this, .inr (2, [.ref h_this_tape, .int tapeSize_this, .ref h_this_list, .int listSize_this, .ref h_this_item, .int itemSize_this, .ref h_this_word, .int wordSize_this, .ref h_this_text, .int textSize_this])), (h_this_list, .inl (cA, 1024, .inl a_list))]) (F0 m 0 ls []) := by
  obtain ⟨hx, hb, hr, hml, hown, hG, hlk⟩ := id C0
  intro x1 h H locs hP hD hS ls hl
  unfold p_M_at_0 at h
  refine lv_iload_n hx hb d_M_at_0 rfl (lv_at hl 1 rfl) ?_
  refine lv_aload_n hx hb d_M_at_1 rfl (lv_at hl 0 rfl) ?_
  refine va_get (D := D) (ci := 2) (v := .int listSize_this) (C := R_M) (T := F_M) (N := 10) hx hb hG i_M hown hK hP 0 rfl rfl 3 (by decide) (hG _ f_M_25) (fun _ h9 => h9) rfl d_M_at_2 ?_
  refine lv_icmp_ge (tgt := 17) hx hb d_M_at_5 (by decide) (fun c_5 => ?_) (fun c_5 => ?_)
  · have h := iteP c_5 h
    refine lv_iconst (v := (-1 : Int32)) hx hb d_M_at_17 (by decide) ?_
    obtain rfl := Option.some.inj h
    exact rI (v := (-1 : Int32)) C0 (vp_nar_int _) hK hP hD hS d_M_at_18
  · have h := iteN c_5 h
    refine lv_aload_n hx hb d_M_at_8 rfl (lv_at hl 0 rfl) ?_
    refine va_get (D := D) (ci := 2) (v := .ref h_this_list) (C := R_M) (T := F_M) (N := 10) hx hb hG i_M hown hK hP 0 rfl rfl 2 (by decide) (hG _ f_M_13) (fun _ h9 => h9) rfl d_M_at_9 ?_
    refine lv_iload_n hx hb d_M_at_12 rfl (lv_at hl 1 rfl) ?_
    obtain ⟨g_13, h⟩ := guardN h
    refine va_iald hx hb hK hP 1 0 rfl rfl g_13 d_M_at_13 ?_
    refine lv_goto (tgt := 18) hx hb d_M_at_14 (by decide) ?_
    obtain rfl := Option.some.inj h
    exact rI (v := (a_list x1.toNatClampNeg)) C0 (vp_nar_int _) hK hP hD hS d_M_at_18
theorem c_M_at (l : Launch) (D : va_G) (cA : ClassId) (zz : zT) (N : Nat) (h_this : Nat) (h_this_tape : Nat) (h_this_list : Nat) (h_this_item : Nat) (h_this_word : Nat) (h_this_text : Nat) (tapeSize_this : Int32) (listSize_this : Int32) (itemSize_this : Int32) (wordSize_this : Int32) (textSize_this : Int32) (a_list : Nat → Int32) (x1 : Int32) (res : Int32) (h : p_M_at N listSize_this a_list x1 = some res) : MI l D cA zz y_M_at b_M_at 2 .int rm_M_at [.ref h_this, .int x1] [(h_this, .inr (2, [.ref h_this_tape, .int tapeSize_this, .ref h_this_list, .int listSize_this, .ref h_this_item, .int itemSize_this, .ref h_this_word, .int wordSize_this, .ref h_this_text, .int textSize_this])), (h_this_list, .inl (cA, 1024, .inl a_list))] (res) [(h_this, .inr (2, [.ref h_this_tape, .int tapeSize_this, .ref h_this_list, .int listSize_this, .ref h_this_item, .int itemSize_this, .ref h_this_word, .int wordSize_this, .ref h_this_text, .int textSize_this])), (h_this_list, .inl (cA, 1024, .inl a_list))] := by
  unfold p_M_at at h
  exact MI_enter (by decide) (Nat.le_of_ble_eq_true rfl) (fun p e s m below meth c A ls C0 hK hA hZ hP hD hl => t_M_at_0 C0 hK hA hZ N h_this h_this_tape h_this_list h_this_item h_this_word h_this_text tapeSize_this listSize_this itemSize_this wordSize_this textSize_this a_list res _ h s.heap [] hP hD va_S.rf ls hl)
-- ListWordsModel.isSpace(I)Z
set_option maxHeartbeats 4000000 in
set_option maxRecDepth 100000 in
theorem t_M_isSpace_0 {p : Program} {l : Launch} {e : Env} {s : State} {m : MethodId} {args : Array Value} {below : List Frame} {meth : Method} {c : Code} {D : va_G} {cA : ClassId} {zz : zT} {A : Nat → Prop} (C0 : Cx p s m args meth c b_M_isSpace R_M 1 (some .boolean)) (hK : va_K D classes [(cA, .int)] s) (hA : ∀ q : Nat, s.heap.size ≤ q → A q) (hZ : ZS zz A s s.heap) (N : Nat) (res : Int32) :
    ∀ (x0 : Int32), p_M_isSpace_0 N x0 = some res → ∀ (H : Heap) (locs : List Loc), va_P D classes [] H → va_D A [] → va_S A s.heap H locs → ∀ (ls : Array Slot), lv_has ls 1 [(0, .int x0)] → W p l e rm_M_isSpace s m args below meth c H locs 0 0 (QI .boolean below args s D cA A (res) []) (F0 m 0 ls []) := by
  obtain ⟨hx, hb, hr, hml, hown, hG, hlk⟩ := id C0
  intro x0 h H locs hP hD hS ls hl
  unfold p_M_isSpace_0 at h
  refine lv_iload_n hx hb d_M_isSpace_0 rfl (lv_at hl 0 rfl) ?_
  refine lv_bipush (v := (32 : Int32)) hx hb d_M_isSpace_1 (by decide) ?_
  refine lv_icmp_eq (tgt := 18) hx hb d_M_isSpace_3 (by decide) (fun c_3 => ?_) (fun c_3 => ?_)
  · have h := iteP c_3 h
    refine lv_iconst (v := (1 : Int32)) hx hb d_M_isSpace_18 (by decide) ?_
    refine lv_goto (tgt := 23) hx hb d_M_isSpace_19 (by decide) ?_
    obtain rfl := Option.some.inj h
    exact rI (v := (1 : Int32)) C0 rfl hK hP hD hS d_M_isSpace_23
  · have h := iteN c_3 h
    refine lv_iload_n hx hb d_M_isSpace_6 rfl (lv_at hl 0 rfl) ?_
    refine lv_bipush (v := (8 : Int32)) hx hb d_M_isSpace_7 (by decide) ?_
    refine lv_icmp_le (tgt := 22) hx hb d_M_isSpace_9 (by decide) (fun c_9 => ?_) (fun c_9 => ?_)
    · have h := iteP c_9 h
      refine lv_iconst (v := (0 : Int32)) hx hb d_M_isSpace_22 (by decide) ?_
      obtain rfl := Option.some.inj h
      exact rI (v := (0 : Int32)) C0 rfl hK hP hD hS d_M_isSpace_23
    · have h := iteN c_9 h
      refine lv_iload_n hx hb d_M_isSpace_12 rfl (lv_at hl 0 rfl) ?_
      refine lv_bipush (v := (14 : Int32)) hx hb d_M_isSpace_13 (by decide) ?_
      refine lv_icmp_ge (tgt := 22) hx hb d_M_isSpace_15 (by decide) (fun c_15 => ?_) (fun c_15 => ?_)
      · have h := iteP c_15 h
        refine lv_iconst (v := (0 : Int32)) hx hb d_M_isSpace_22 (by decide) ?_
        obtain rfl := Option.some.inj h
        exact rI (v := (0 : Int32)) C0 rfl hK hP hD hS d_M_isSpace_23
      · have h := iteN c_15 h
        refine lv_iconst (v := (1 : Int32)) hx hb d_M_isSpace_18 (by decide) ?_
        refine lv_goto (tgt := 23) hx hb d_M_isSpace_19 (by decide) ?_
        obtain rfl := Option.some.inj h
        exact rI (v := (1 : Int32)) C0 rfl hK hP hD hS d_M_isSpace_23
theorem c_M_isSpace (l : Launch) (D : va_G) (cA : ClassId) (zz : zT) (N : Nat)  (x0 : Int32) (res : Int32) (h : p_M_isSpace N x0 = some res) : MI l D cA zz y_M_isSpace b_M_isSpace 1 .boolean rm_M_isSpace [.int x0] [] (res) [] := by
  unfold p_M_isSpace at h
  exact MI_enter (by decide) (Nat.le_of_ble_eq_true rfl) (fun p e s m below meth c A ls C0 hK hA hZ hP hD hl => t_M_isSpace_0 C0 hK hA hZ N res _ h s.heap [] hP hD va_S.rf ls hl)
-- ListWordsModel.skip(I)I
set_option maxHeartbeats 4000000 in
set_option maxRecDepth 100000 in
theorem t_M_skip_2 {p : Program} {l : Launch} {e : Env} {s : State} {m : MethodId} {args : Array Value} {below : List Frame} {meth : Method} {c : Code} {D : va_G} {cA : ClassId} {zz : zT} {A : Nat → Prop} (C0 : Cx p s m args meth c b_M_skip R_M 3 (some .int)) (hK : va_K D classes [(cA, .int)] s) (hA : ∀ q : Nat, s.heap.size ≤ q → A q) (hZ : ZS zz A s s.heap) (N : Nat) (h_this : Nat) (h_this_tape : Nat) (h_this_list : Nat) (h_this_item : Nat) (h_this_word : Nat) (h_this_text : Nat) (tapeSize_this : Int32) (listSize_this : Int32) (itemSize_this : Int32) (wordSize_this : Int32) (textSize_this : Int32) (a_list : Nat → Int32) (res : Int32) :
    ∀ (n : Nat), ∀ (x2 : Int32), p_M_skip_2 N listSize_this a_list n x2 = some res → ∀ (H : Heap) (locs : List Loc), va_P D classes [(h_this, .inr (2, [.ref h_this_tape, .int tapeSize_this, .ref h_this_list, .int listSize_this, .ref h_this_item, .int itemSize_this, .ref h_this_word, .int wordSize_this, .ref h_this_text, .int textSize_this])), (h_this_list, .inl (cA, 1024, .inl a_list))] H → va_D A [(h_this, .inr (2, [.ref h_this_tape, .int tapeSize_this, .ref h_this_list, .int listSize_this, .ref h_this_item, .int itemSize_this, .ref h_this_word, .int wordSize_this, .ref h_this_text, .int textSize_this])), (h_this_list, .inl (cA, 1024, .inl a_list))] → va_S A s.heap H locs → ∀ (ls : Array Slot), lv_has ls 3 [(0, .ref h_this), (2, .int x2)] → W p l e rm_M_skip s m args below meth c H locs 0 0 (QI .int below args s D cA A (res) [(h_this, .inr (2, [.ref h_this_tape, .int tapeSize_this, .ref h_this_list, .int listSize_this, .ref h_this_item, .int itemSize_this, .ref h_this_word, .int wordSize_this, .ref h_this_text, .int textSize_this])), (h_this_list, .inl (cA, 1024, .inl a_list))]) (F0 m 2 ls []) := by
  obtain ⟨hx, hb, hr, hml, hown, hG, hlk⟩ := id C0
  intro n
  induction n with
  | zero =>
    intro x2 h H locs hP hD hS ls hl
    exact absurd h (by simp [p_M_skip_2])
  | succ n ih =>
    intro x2 h H locs hP hD hS ls hl
    rw [p_M_skip_2] at h
    refine lv_iload_n hx hb d_M_skip_2 rfl (lv_at hl 1 rfl) ?_
    refine lv_aload_n hx hb d_M_skip_3 rfl (lv_at hl 0 rfl) ?_
    refine va_get (D := D) (ci := 2) (v := .int listSize_this) (C := R_M) (T := F_M) (N := 10) hx hb hG i_M hown hK hP 0 rfl rfl 3 (by decide) (hG _ f_M_25) (fun _ h9 => h9) rfl d_M_skip_4 ?_
    refine lv_icmp_ge (tgt := 27) hx hb d_M_skip_7 (by decide) (fun c_7 => ?_) (fun c_7 => ?_)
    · have h := iteP c_7 h
      refine lv_iload_n hx hb d_M_skip_27 rfl (lv_at hl 1 rfl) ?_
      obtain rfl := Option.some.inj h
      exact rI (v := x2) C0 (vp_nar_int _) hK hP hD hS d_M_skip_28
    · have h := iteN c_7 h
      refine lv_aload_n hx hb d_M_skip_10 rfl (lv_at hl 0 rfl) ?_
      refine lv_iload_n hx hb d_M_skip_11 rfl (lv_at hl 1 rfl) ?_
      obtain ⟨r_12, h_12, h⟩ := bindS h
      refine call_vi (wr := []) (w1 := [(h_this, .inr (2, [.ref h_this_tape, .int tapeSize_this, .ref h_this_list, .int listSize_this, .ref h_this_item, .int itemSize_this, .ref h_this_word, .int wordSize_this, .ref h_this_text, .int textSize_this])), (h_this_list, .inl (cA, 1024, .inl a_list))]) (wN := [(h_this, .inr (2, [.ref h_this_tape, .int tapeSize_this, .ref h_this_list, .int listSize_this, .ref h_this_item, .int itemSize_this, .ref h_this_word, .int wordSize_this, .ref h_this_text, .int textSize_this])), (h_this_list, .inl (cA, 1024, .inl a_list))]) (rest := []) C0 hK hP hD hS hA hZ (c_M_at l D cA zz N h_this h_this_tape h_this_list h_this_item h_this_word h_this_text tapeSize_this listSize_this itemSize_this wordSize_this textSize_this a_list x2 r_12 h_12) [0, 1] [] [0, 1] rfl rfl rfl rfl (by decide) rfl rfl 0 2 rfl rfl m_M_29 ⟨Nat.le_of_ble_eq_true rfl, Nat.le_of_ble_eq_true rfl⟩ ⟨rfl, rfl⟩ rfl hl.1 rfl (Nat.le_of_ble_eq_true rfl) ⟨Nat.le_of_ble_eq_true rfl, Nat.le_of_ble_eq_true rfl⟩ d_M_skip_12 (fun b_12 H locs hP hD hS => ?_)
      obtain ⟨r_15, h_15, h⟩ := bindS h
      refine call_si (wr := [(h_this, .inr (2, [.ref h_this_tape, .int tapeSize_this, .ref h_this_list, .int listSize_this, .ref h_this_item, .int itemSize_this, .ref h_this_word, .int wordSize_this, .ref h_this_text, .int textSize_this])), (h_this_list, .inl (cA, 1024, .inl a_list))]) (w1 := []) (wN := [(h_this, .inr (2, [.ref h_this_tape, .int tapeSize_this, .ref h_this_list, .int listSize_this, .ref h_this_item, .int itemSize_this, .ref h_this_word, .int wordSize_this, .ref h_this_text, .int textSize_this])), (h_this_list, .inl (cA, 1024, .inl a_list))]) (rest := []) C0 hK hP hD hS hA hZ (c_M_isSpace l D cA zz N r_12 r_15 h_15) [] [0, 1] [0, 1] rfl rfl rfl rfl (by decide) rfl rfl m_M_33 ⟨Nat.le_of_ble_eq_true rfl, Nat.le_of_ble_eq_true rfl⟩ ⟨rfl, rfl⟩ rfl hl.1 rfl (Nat.le_of_ble_eq_true rfl) ⟨Nat.le_of_ble_eq_true rfl, Nat.le_of_ble_eq_true rfl⟩ d_M_skip_15 (fun b_15 H locs hP hD hS => ?_)
      refine lv_if_eq (tgt := 27) hx hb d_M_skip_18 (by decide) (fun c_18 => ?_) (fun c_18 => ?_)
      · have h := iteP c_18 h
        refine lv_iload_n hx hb d_M_skip_27 rfl (lv_at hl 1 rfl) ?_
        obtain rfl := Option.some.inj h
        exact rI (v := x2) C0 (vp_nar_int _) hK hP hD hS d_M_skip_28
      · have h := iteN c_18 h
        refine lv_iinc (v := (x2 + (1 : Int32))) (lv' := [(2, .int (x2 + (1 : Int32))), (0, .ref h_this)]) hx hb d_M_skip_21 hl (k := 1) rfl rfl (by decide) rfl (fun ls hl => ?_)
        refine lv_goto (tgt := 2) hx hb d_M_skip_24 (by decide) ?_
        exact ih _ h H locs hP hD hS ls (lv_sub hl [1, 0] rfl)
set_option maxHeartbeats 4000000 in
set_option maxRecDepth 100000 in
theorem t_M_skip_0 {p : Program} {l : Launch} {e : Env} {s : State} {m : MethodId} {args : Array Value} {below : List Frame} {meth : Method} {c : Code} {D : va_G} {cA : ClassId} {zz : zT} {A : Nat → Prop} (C0 : Cx p s m args meth c b_M_skip R_M 3 (some .int)) (hK : va_K D classes [(cA, .int)] s) (hA : ∀ q : Nat, s.heap.size ≤ q → A q) (hZ : ZS zz A s s.heap) (N : Nat) (h_this : Nat) (h_this_tape : Nat) (h_this_list : Nat) (h_this_item : Nat) (h_this_word : Nat) (h_this_text : Nat) (tapeSize_this : Int32) (listSize_this : Int32) (itemSize_this : Int32) (wordSize_this : Int32) (textSize_this : Int32) (a_list : Nat → Int32) (res : Int32) :
    ∀ (x1 : Int32), p_M_skip_0 N listSize_this a_list x1 = some res → ∀ (H : Heap) (locs : List Loc), va_P D classes [(h_this, .inr (2, [.ref h_this_tape, .int tapeSize_this, .ref h_this_list, .int listSize_this, .ref h_this_item, .int itemSize_this, .ref h_this_word, .int wordSize_this, .ref h_this_text, .int textSize_this])), (h_this_list, .inl (cA, 1024, .inl a_list))] H → va_D A [(h_this, .inr (2, [.ref h_this_tape, .int tapeSize_this, .ref h_this_list, .int listSize_this, .ref h_this_item, .int itemSize_this, .ref h_this_word, .int wordSize_this, .ref h_this_text, .int textSize_this])), (h_this_list, .inl (cA, 1024, .inl a_list))] → va_S A s.heap H locs → ∀ (ls : Array Slot), lv_has ls 3 [(0, .ref h_this), (1, .int x1)] → W p l e rm_M_skip s m args below meth c H locs 0 0 (QI .int below args s D cA A (res) [(h_this, .inr (2, [.ref h_this_tape, .int tapeSize_this, .ref h_this_list, .int listSize_this, .ref h_this_item, .int itemSize_this, .ref h_this_word, .int wordSize_this, .ref h_this_text, .int textSize_this])), (h_this_list, .inl (cA, 1024, .inl a_list))]) (F0 m 0 ls []) := by
  obtain ⟨hx, hb, hr, hml, hown, hG, hlk⟩ := id C0
  intro x1 h H locs hP hD hS ls hl
  unfold p_M_skip_0 at h
  refine lv_iload_n hx hb d_M_skip_0 rfl (lv_at hl 1 rfl) ?_
  refine lv_istore_n (lv' := [(2, .int x1), (0, .ref h_this), (1, .int x1)]) hx hb d_M_skip_1 rfl hl (by decide) rfl (fun ls hl => ?_)
  exact t_M_skip_2 C0 hK hA hZ N h_this h_this_tape h_this_list h_this_item h_this_word h_this_text tapeSize_this listSize_this itemSize_this wordSize_this textSize_this a_list res N _ h H locs hP hD hS ls (lv_sub hl [1, 0] rfl)
theorem c_M_skip (l : Launch) (D : va_G) (cA : ClassId) (zz : zT) (N : Nat) (h_this : Nat) (h_this_tape : Nat) (h_this_list : Nat) (h_this_item : Nat) (h_this_word : Nat) (h_this_text : Nat) (tapeSize_this : Int32) (listSize_this : Int32) (itemSize_this : Int32) (wordSize_this : Int32) (textSize_this : Int32) (a_list : Nat → Int32) (x1 : Int32) (res : Int32) (h : p_M_skip N listSize_this a_list x1 = some res) : MI l D cA zz y_M_skip b_M_skip 3 .int rm_M_skip [.ref h_this, .int x1] [(h_this, .inr (2, [.ref h_this_tape, .int tapeSize_this, .ref h_this_list, .int listSize_this, .ref h_this_item, .int itemSize_this, .ref h_this_word, .int wordSize_this, .ref h_this_text, .int textSize_this])), (h_this_list, .inl (cA, 1024, .inl a_list))] (res) [(h_this, .inr (2, [.ref h_this_tape, .int tapeSize_this, .ref h_this_list, .int listSize_this, .ref h_this_item, .int itemSize_this, .ref h_this_word, .int wordSize_this, .ref h_this_text, .int textSize_this])), (h_this_list, .inl (cA, 1024, .inl a_list))] := by
  unfold p_M_skip at h
  exact MI_enter (by decide) (Nat.le_of_ble_eq_true rfl) (fun p e s m below meth c A ls C0 hK hA hZ hP hD hl => t_M_skip_0 C0 hK hA hZ N h_this h_this_tape h_this_list h_this_item h_this_word h_this_text tapeSize_this listSize_this itemSize_this wordSize_this textSize_this a_list res _ h s.heap [] hP hD va_S.rf ls hl)
-- ListWordsModel.behind(I)I
set_option maxHeartbeats 4000000 in
set_option maxRecDepth 100000 in
theorem t_M_behind_42 {p : Program} {l : Launch} {e : Env} {s : State} {m : MethodId} {args : Array Value} {below : List Frame} {meth : Method} {c : Code} {D : va_G} {cA : ClassId} {zz : zT} {A : Nat → Prop} (C0 : Cx p s m args meth c b_M_behind R_M 3 (some .int)) (hK : va_K D classes [(cA, .int)] s) (hA : ∀ q : Nat, s.heap.size ≤ q → A q) (hZ : ZS zz A s s.heap) (N : Nat) (h_this : Nat) (h_this_tape : Nat) (h_this_list : Nat) (h_this_item : Nat) (h_this_word : Nat) (h_this_text : Nat) (tapeSize_this : Int32) (listSize_this : Int32) (itemSize_this : Int32) (wordSize_this : Int32) (textSize_this : Int32) (a_list : Nat → Int32) (res : Int32) :
    ∀ (x2 : Int32), p_M_behind_42 N listSize_this a_list x2 = some res → ∀ (H : Heap) (locs : List Loc), va_P D classes [(h_this, .inr (2, [.ref h_this_tape, .int tapeSize_this, .ref h_this_list, .int listSize_this, .ref h_this_item, .int itemSize_this, .ref h_this_word, .int wordSize_this, .ref h_this_text, .int textSize_this])), (h_this_list, .inl (cA, 1024, .inl a_list))] H → va_D A [(h_this, .inr (2, [.ref h_this_tape, .int tapeSize_this, .ref h_this_list, .int listSize_this, .ref h_this_item, .int itemSize_this, .ref h_this_word, .int wordSize_this, .ref h_this_text, .int textSize_this])), (h_this_list, .inl (cA, 1024, .inl a_list))] → va_S A s.heap H locs → ∀ (ls : Array Slot), lv_has ls 3 [(0, .ref h_this), (2, .int x2)] → W p l e rm_M_behind s m args below meth c H locs 0 0 (QI .int below args s D cA A (res) [(h_this, .inr (2, [.ref h_this_tape, .int tapeSize_this, .ref h_this_list, .int listSize_this, .ref h_this_item, .int itemSize_this, .ref h_this_word, .int wordSize_this, .ref h_this_text, .int textSize_this])), (h_this_list, .inl (cA, 1024, .inl a_list))]) (F0 m 42 ls []) := by
  obtain ⟨hx, hb, hr, hml, hown, hG, hlk⟩ := id C0
  intro x2 h H locs hP hD hS ls hl
  unfold p_M_behind_42 at h
  refine lv_iload_n hx hb d_M_behind_42 rfl (lv_at hl 1 rfl) ?_
  refine lv_aload_n hx hb d_M_behind_43 rfl (lv_at hl 0 rfl) ?_
  refine va_get (D := D) (ci := 2) (v := .int listSize_this) (C := R_M) (T := F_M) (N := 10) hx hb hG i_M hown hK hP 0 rfl rfl 3 (by decide) (hG _ f_M_25) (fun _ h9 => h9) rfl d_M_behind_44 ?_
  refine lv_icmp_ge (tgt := 54) hx hb d_M_behind_47 (by decide) (fun c_47 => ?_) (fun c_47 => ?_)
  · have h := iteP c_47 h
    refine lv_aload_n hx hb d_M_behind_54 rfl (lv_at hl 0 rfl) ?_
    refine va_get (D := D) (ci := 2) (v := .int listSize_this) (C := R_M) (T := F_M) (N := 10) hx hb hG i_M hown hK hP 0 rfl rfl 3 (by decide) (hG _ f_M_25) (fun _ h9 => h9) rfl d_M_behind_55 ?_
    obtain rfl := Option.some.inj h
    exact rI (v := listSize_this) C0 (vp_nar_int _) hK hP hD hS d_M_behind_58
  · have h := iteN c_47 h
    refine lv_iload_n hx hb d_M_behind_50 rfl (lv_at hl 1 rfl) ?_
    refine lv_goto (tgt := 58) hx hb d_M_behind_51 (by decide) ?_
    obtain rfl := Option.some.inj h
    exact rI (v := x2) C0 (vp_nar_int _) hK hP hD hS d_M_behind_58
set_option maxHeartbeats 4000000 in
set_option maxRecDepth 100000 in
theorem t_M_behind_16 {p : Program} {l : Launch} {e : Env} {s : State} {m : MethodId} {args : Array Value} {below : List Frame} {meth : Method} {c : Code} {D : va_G} {cA : ClassId} {zz : zT} {A : Nat → Prop} (C0 : Cx p s m args meth c b_M_behind R_M 3 (some .int)) (hK : va_K D classes [(cA, .int)] s) (hA : ∀ q : Nat, s.heap.size ≤ q → A q) (hZ : ZS zz A s s.heap) (N : Nat) (h_this : Nat) (h_this_tape : Nat) (h_this_list : Nat) (h_this_item : Nat) (h_this_word : Nat) (h_this_text : Nat) (tapeSize_this : Int32) (listSize_this : Int32) (itemSize_this : Int32) (wordSize_this : Int32) (textSize_this : Int32) (a_list : Nat → Int32) (res : Int32) :
    ∀ (n : Nat), ∀ (x2 : Int32), p_M_behind_16 N listSize_this a_list n x2 = some res → ∀ (H : Heap) (locs : List Loc), va_P D classes [(h_this, .inr (2, [.ref h_this_tape, .int tapeSize_this, .ref h_this_list, .int listSize_this, .ref h_this_item, .int itemSize_this, .ref h_this_word, .int wordSize_this, .ref h_this_text, .int textSize_this])), (h_this_list, .inl (cA, 1024, .inl a_list))] H → va_D A [(h_this, .inr (2, [.ref h_this_tape, .int tapeSize_this, .ref h_this_list, .int listSize_this, .ref h_this_item, .int itemSize_this, .ref h_this_word, .int wordSize_this, .ref h_this_text, .int textSize_this])), (h_this_list, .inl (cA, 1024, .inl a_list))] → va_S A s.heap H locs → ∀ (ls : Array Slot), lv_has ls 3 [(0, .ref h_this), (2, .int x2)] → W p l e rm_M_behind s m args below meth c H locs 0 0 (QI .int below args s D cA A (res) [(h_this, .inr (2, [.ref h_this_tape, .int tapeSize_this, .ref h_this_list, .int listSize_this, .ref h_this_item, .int itemSize_this, .ref h_this_word, .int wordSize_this, .ref h_this_text, .int textSize_this])), (h_this_list, .inl (cA, 1024, .inl a_list))]) (F0 m 16 ls []) := by
  obtain ⟨hx, hb, hr, hml, hown, hG, hlk⟩ := id C0
  intro n
  induction n with
  | zero =>
    intro x2 h H locs hP hD hS ls hl
    exact absurd h (by simp [p_M_behind_16])
  | succ n ih =>
    intro x2 h H locs hP hD hS ls hl
    rw [p_M_behind_16] at h
    refine lv_aload_n hx hb d_M_behind_16 rfl (lv_at hl 0 rfl) ?_
    refine lv_iload_n hx hb d_M_behind_17 rfl (lv_at hl 1 rfl) ?_
    obtain ⟨r_18, h_18, h⟩ := bindS h
    refine call_vi (wr := []) (w1 := [(h_this, .inr (2, [.ref h_this_tape, .int tapeSize_this, .ref h_this_list, .int listSize_this, .ref h_this_item, .int itemSize_this, .ref h_this_word, .int wordSize_this, .ref h_this_text, .int textSize_this])), (h_this_list, .inl (cA, 1024, .inl a_list))]) (wN := [(h_this, .inr (2, [.ref h_this_tape, .int tapeSize_this, .ref h_this_list, .int listSize_this, .ref h_this_item, .int itemSize_this, .ref h_this_word, .int wordSize_this, .ref h_this_text, .int textSize_this])), (h_this_list, .inl (cA, 1024, .inl a_list))]) (rest := []) C0 hK hP hD hS hA hZ (c_M_at l D cA zz N h_this h_this_tape h_this_list h_this_item h_this_word h_this_text tapeSize_this listSize_this itemSize_this wordSize_this textSize_this a_list x2 r_18 h_18) [0, 1] [] [0, 1] rfl rfl rfl rfl (by decide) rfl rfl 0 2 rfl rfl m_M_29 ⟨Nat.le_of_ble_eq_true rfl, Nat.le_of_ble_eq_true rfl⟩ ⟨rfl, rfl⟩ rfl hl.1 rfl (Nat.le_of_ble_eq_true rfl) ⟨Nat.le_of_ble_eq_true rfl, Nat.le_of_ble_eq_true rfl⟩ d_M_behind_18 (fun b_18 H locs hP hD hS => ?_)
    refine lv_bipush (v := (32 : Int32)) hx hb d_M_behind_21 (by decide) ?_
    refine lv_icmp_eq (tgt := 36) hx hb d_M_behind_23 (by decide) (fun c_23 => ?_) (fun c_23 => ?_)
    · have h := iteP c_23 h
      refine lv_iinc (v := (x2 + (1 : Int32))) (lv' := [(2, .int (x2 + (1 : Int32))), (0, .ref h_this)]) hx hb d_M_behind_36 hl (k := 1) rfl rfl (by decide) rfl (fun ls hl => ?_)
      refine lv_goto (tgt := 16) hx hb d_M_behind_39 (by decide) ?_
      exact ih _ h H locs hP hD hS ls (lv_sub hl [1, 0] rfl)
    · have h := iteN c_23 h
      refine lv_aload_n hx hb d_M_behind_26 rfl (lv_at hl 0 rfl) ?_
      refine lv_iload_n hx hb d_M_behind_27 rfl (lv_at hl 1 rfl) ?_
      obtain ⟨r_28, h_28, h⟩ := bindS h
      refine call_vi (wr := []) (w1 := [(h_this, .inr (2, [.ref h_this_tape, .int tapeSize_this, .ref h_this_list, .int listSize_this, .ref h_this_item, .int itemSize_this, .ref h_this_word, .int wordSize_this, .ref h_this_text, .int textSize_this])), (h_this_list, .inl (cA, 1024, .inl a_list))]) (wN := [(h_this, .inr (2, [.ref h_this_tape, .int tapeSize_this, .ref h_this_list, .int listSize_this, .ref h_this_item, .int itemSize_this, .ref h_this_word, .int wordSize_this, .ref h_this_text, .int textSize_this])), (h_this_list, .inl (cA, 1024, .inl a_list))]) (rest := []) C0 hK hP hD hS hA hZ (c_M_at l D cA zz N h_this h_this_tape h_this_list h_this_item h_this_word h_this_text tapeSize_this listSize_this itemSize_this wordSize_this textSize_this a_list x2 r_28 h_28) [0, 1] [] [0, 1] rfl rfl rfl rfl (by decide) rfl rfl 0 2 rfl rfl m_M_29 ⟨Nat.le_of_ble_eq_true rfl, Nat.le_of_ble_eq_true rfl⟩ ⟨rfl, rfl⟩ rfl hl.1 rfl (Nat.le_of_ble_eq_true rfl) ⟨Nat.le_of_ble_eq_true rfl, Nat.le_of_ble_eq_true rfl⟩ d_M_behind_28 (fun b_28 H locs hP hD hS => ?_)
      refine lv_bipush (v := (9 : Int32)) hx hb d_M_behind_31 (by decide) ?_
      refine lv_icmp_ne (tgt := 42) hx hb d_M_behind_33 (by decide) (fun c_33 => ?_) (fun c_33 => ?_)
      · have h := iteN c_33 h
        exact t_M_behind_42 C0 hK hA hZ N h_this h_this_tape h_this_list h_this_item h_this_word h_this_text tapeSize_this listSize_this itemSize_this wordSize_this textSize_this a_list res _ h H locs hP hD hS ls (lv_sub hl [0, 1] rfl)
      · have h := iteP c_33 h
        refine lv_iinc (v := (x2 + (1 : Int32))) (lv' := [(2, .int (x2 + (1 : Int32))), (0, .ref h_this)]) hx hb d_M_behind_36 hl (k := 1) rfl rfl (by decide) rfl (fun ls hl => ?_)
        refine lv_goto (tgt := 16) hx hb d_M_behind_39 (by decide) ?_
        exact ih _ h H locs hP hD hS ls (lv_sub hl [1, 0] rfl)
set_option maxHeartbeats 4000000 in
set_option maxRecDepth 100000 in
theorem t_M_behind_0 {p : Program} {l : Launch} {e : Env} {s : State} {m : MethodId} {args : Array Value} {below : List Frame} {meth : Method} {c : Code} {D : va_G} {cA : ClassId} {zz : zT} {A : Nat → Prop} (C0 : Cx p s m args meth c b_M_behind R_M 3 (some .int)) (hK : va_K D classes [(cA, .int)] s) (hA : ∀ q : Nat, s.heap.size ≤ q → A q) (hZ : ZS zz A s s.heap) (N : Nat) (h_this : Nat) (h_this_tape : Nat) (h_this_list : Nat) (h_this_item : Nat) (h_this_word : Nat) (h_this_text : Nat) (tapeSize_this : Int32) (listSize_this : Int32) (itemSize_this : Int32) (wordSize_this : Int32) (textSize_this : Int32) (a_list : Nat → Int32) (res : Int32) :
    ∀ (x1 : Int32), p_M_behind_0 N listSize_this a_list x1 = some res → ∀ (H : Heap) (locs : List Loc), va_P D classes [(h_this, .inr (2, [.ref h_this_tape, .int tapeSize_this, .ref h_this_list, .int listSize_this, .ref h_this_item, .int itemSize_this, .ref h_this_word, .int wordSize_this, .ref h_this_text, .int textSize_this])), (h_this_list, .inl (cA, 1024, .inl a_list))] H → va_D A [(h_this, .inr (2, [.ref h_this_tape, .int tapeSize_this, .ref h_this_list, .int listSize_this, .ref h_this_item, .int itemSize_this, .ref h_this_word, .int wordSize_this, .ref h_this_text, .int textSize_this])), (h_this_list, .inl (cA, 1024, .inl a_list))] → va_S A s.heap H locs → ∀ (ls : Array Slot), lv_has ls 3 [(0, .ref h_this), (1, .int x1)] → W p l e rm_M_behind s m args below meth c H locs 0 0 (QI .int below args s D cA A (res) [(h_this, .inr (2, [.ref h_this_tape, .int tapeSize_this, .ref h_this_list, .int listSize_this, .ref h_this_item, .int itemSize_this, .ref h_this_word, .int wordSize_this, .ref h_this_text, .int textSize_this])), (h_this_list, .inl (cA, 1024, .inl a_list))]) (F0 m 0 ls []) := by
  obtain ⟨hx, hb, hr, hml, hown, hG, hlk⟩ := id C0
  intro x1 h H locs hP hD hS ls hl
  unfold p_M_behind_0 at h
  refine lv_iload_n hx hb d_M_behind_0 rfl (lv_at hl 1 rfl) ?_
  refine lv_iconst (v := (2 : Int32)) hx hb d_M_behind_1 (by decide) ?_
  refine lv_iadd hx hb d_M_behind_2 ?_
  refine lv_istore_n (lv' := [(2, .int (x1 + (2 : Int32))), (0, .ref h_this), (1, .int x1)]) hx hb d_M_behind_3 rfl hl (by decide) rfl (fun ls hl => ?_)
  refine lv_aload_n hx hb d_M_behind_4 rfl (lv_at hl 1 rfl) ?_
  refine lv_iload_n hx hb d_M_behind_5 rfl (lv_at hl 2 rfl) ?_
  refine lv_iconst (v := (1 : Int32)) hx hb d_M_behind_6 (by decide) ?_
  refine lv_iadd hx hb d_M_behind_7 ?_
  obtain ⟨r_8, h_8, h⟩ := bindS h
  refine call_vi (wr := []) (w1 := [(h_this, .inr (2, [.ref h_this_tape, .int tapeSize_this, .ref h_this_list, .int listSize_this, .ref h_this_item, .int itemSize_this, .ref h_this_word, .int wordSize_this, .ref h_this_text, .int textSize_this])), (h_this_list, .inl (cA, 1024, .inl a_list))]) (wN := [(h_this, .inr (2, [.ref h_this_tape, .int tapeSize_this, .ref h_this_list, .int listSize_this, .ref h_this_item, .int itemSize_this, .ref h_this_word, .int wordSize_this, .ref h_this_text, .int textSize_this])), (h_this_list, .inl (cA, 1024, .inl a_list))]) (rest := []) C0 hK hP hD hS hA hZ (c_M_at l D cA zz N h_this h_this_tape h_this_list h_this_item h_this_word h_this_text tapeSize_this listSize_this itemSize_this wordSize_this textSize_this a_list (x1 + (1 : Int32)) r_8 h_8) [0, 1] [] [0, 1] rfl rfl rfl rfl (by decide) rfl rfl 0 2 rfl rfl m_M_29 ⟨Nat.le_of_ble_eq_true rfl, Nat.le_of_ble_eq_true rfl⟩ ⟨rfl, rfl⟩ rfl hl.1 rfl (Nat.le_of_ble_eq_true rfl) ⟨Nat.le_of_ble_eq_true rfl, Nat.le_of_ble_eq_true rfl⟩ d_M_behind_8 (fun b_8 H locs hP hD hS => ?_)
  refine lv_bipush (v := (10 : Int32)) hx hb d_M_behind_11 (by decide) ?_
  refine lv_icmp_ne (tgt := 42) hx hb d_M_behind_13 (by decide) (fun c_13 => ?_) (fun c_13 => ?_)
  · have h := iteN c_13 h
    exact t_M_behind_42 C0 hK hA hZ N h_this h_this_tape h_this_list h_this_item h_this_word h_this_text tapeSize_this listSize_this itemSize_this wordSize_this textSize_this a_list res _ h H locs hP hD hS ls (lv_sub hl [1, 0] rfl)
  · have h := iteP c_13 h
    exact t_M_behind_16 C0 hK hA hZ N h_this h_this_tape h_this_list h_this_item h_this_word h_this_text tapeSize_this listSize_this itemSize_this wordSize_this textSize_this a_list res N _ h H locs hP hD hS ls (lv_sub hl [1, 0] rfl)
theorem c_M_behind (l : Launch) (D : va_G) (cA : ClassId) (zz : zT) (N : Nat) (h_this : Nat) (h_this_tape : Nat) (h_this_list : Nat) (h_this_item : Nat) (h_this_word : Nat) (h_this_text : Nat) (tapeSize_this : Int32) (listSize_this : Int32) (itemSize_this : Int32) (wordSize_this : Int32) (textSize_this : Int32) (a_list : Nat → Int32) (x1 : Int32) (res : Int32) (h : p_M_behind N listSize_this a_list x1 = some res) : MI l D cA zz y_M_behind b_M_behind 3 .int rm_M_behind [.ref h_this, .int x1] [(h_this, .inr (2, [.ref h_this_tape, .int tapeSize_this, .ref h_this_list, .int listSize_this, .ref h_this_item, .int itemSize_this, .ref h_this_word, .int wordSize_this, .ref h_this_text, .int textSize_this])), (h_this_list, .inl (cA, 1024, .inl a_list))] (res) [(h_this, .inr (2, [.ref h_this_tape, .int tapeSize_this, .ref h_this_list, .int listSize_this, .ref h_this_item, .int itemSize_this, .ref h_this_word, .int wordSize_this, .ref h_this_text, .int textSize_this])), (h_this_list, .inl (cA, 1024, .inl a_list))] := by
  unfold p_M_behind at h
  exact MI_enter (by decide) (Nat.le_of_ble_eq_true rfl) (fun p e s m below meth c A ls C0 hK hA hZ hP hD hl => t_M_behind_0 C0 hK hA hZ N h_this h_this_tape h_this_list h_this_item h_this_word h_this_text tapeSize_this listSize_this itemSize_this wordSize_this textSize_this a_list res _ h s.heap [] hP hD va_S.rf ls hl)
-- ListWordsModel.bare(I)I
set_option maxHeartbeats 4000000 in
set_option maxRecDepth 100000 in
theorem t_M_bare_2 {p : Program} {l : Launch} {e : Env} {s : State} {m : MethodId} {args : Array Value} {below : List Frame} {meth : Method} {c : Code} {D : va_G} {cA : ClassId} {zz : zT} {A : Nat → Prop} (C0 : Cx p s m args meth c b_M_bare R_M 3 (some .int)) (hK : va_K D classes [(cA, .int)] s) (hA : ∀ q : Nat, s.heap.size ≤ q → A q) (hZ : ZS zz A s s.heap) (N : Nat) (h_this : Nat) (h_this_tape : Nat) (h_this_list : Nat) (h_this_item : Nat) (h_this_word : Nat) (h_this_text : Nat) (tapeSize_this : Int32) (listSize_this : Int32) (itemSize_this : Int32) (wordSize_this : Int32) (textSize_this : Int32) (a_list : Nat → Int32) (res : Int32) :
    ∀ (n : Nat), ∀ (x2 : Int32), p_M_bare_2 N listSize_this a_list n x2 = some res → ∀ (H : Heap) (locs : List Loc), va_P D classes [(h_this, .inr (2, [.ref h_this_tape, .int tapeSize_this, .ref h_this_list, .int listSize_this, .ref h_this_item, .int itemSize_this, .ref h_this_word, .int wordSize_this, .ref h_this_text, .int textSize_this])), (h_this_list, .inl (cA, 1024, .inl a_list))] H → va_D A [(h_this, .inr (2, [.ref h_this_tape, .int tapeSize_this, .ref h_this_list, .int listSize_this, .ref h_this_item, .int itemSize_this, .ref h_this_word, .int wordSize_this, .ref h_this_text, .int textSize_this])), (h_this_list, .inl (cA, 1024, .inl a_list))] → va_S A s.heap H locs → ∀ (ls : Array Slot), lv_has ls 3 [(0, .ref h_this), (2, .int x2)] → W p l e rm_M_bare s m args below meth c H locs 0 0 (QI .int below args s D cA A (res) [(h_this, .inr (2, [.ref h_this_tape, .int tapeSize_this, .ref h_this_list, .int listSize_this, .ref h_this_item, .int itemSize_this, .ref h_this_word, .int wordSize_this, .ref h_this_text, .int textSize_this])), (h_this_list, .inl (cA, 1024, .inl a_list))]) (F0 m 2 ls []) := by
  obtain ⟨hx, hb, hr, hml, hown, hG, hlk⟩ := id C0
  intro n
  induction n with
  | zero =>
    intro x2 h H locs hP hD hS ls hl
    exact absurd h (by simp [p_M_bare_2])
  | succ n ih =>
    intro x2 h H locs hP hD hS ls hl
    rw [p_M_bare_2] at h
    refine lv_iload_n hx hb d_M_bare_2 rfl (lv_at hl 1 rfl) ?_
    refine lv_aload_n hx hb d_M_bare_3 rfl (lv_at hl 0 rfl) ?_
    refine va_get (D := D) (ci := 2) (v := .int listSize_this) (C := R_M) (T := F_M) (N := 10) hx hb hG i_M hown hK hP 0 rfl rfl 3 (by decide) (hG _ f_M_25) (fun _ h9 => h9) rfl d_M_bare_4 ?_
    refine lv_icmp_ge (tgt := 46) hx hb d_M_bare_7 (by decide) (fun c_7 => ?_) (fun c_7 => ?_)
    · have h := iteP c_7 h
      refine lv_iload_n hx hb d_M_bare_46 rfl (lv_at hl 1 rfl) ?_
      obtain rfl := Option.some.inj h
      exact rI (v := x2) C0 (vp_nar_int _) hK hP hD hS d_M_bare_47
    · have h := iteN c_7 h
      refine lv_aload_n hx hb d_M_bare_10 rfl (lv_at hl 0 rfl) ?_
      refine lv_iload_n hx hb d_M_bare_11 rfl (lv_at hl 1 rfl) ?_
      obtain ⟨r_12, h_12, h⟩ := bindS h
      refine call_vi (wr := []) (w1 := [(h_this, .inr (2, [.ref h_this_tape, .int tapeSize_this, .ref h_this_list, .int listSize_this, .ref h_this_item, .int itemSize_this, .ref h_this_word, .int wordSize_this, .ref h_this_text, .int textSize_this])), (h_this_list, .inl (cA, 1024, .inl a_list))]) (wN := [(h_this, .inr (2, [.ref h_this_tape, .int tapeSize_this, .ref h_this_list, .int listSize_this, .ref h_this_item, .int itemSize_this, .ref h_this_word, .int wordSize_this, .ref h_this_text, .int textSize_this])), (h_this_list, .inl (cA, 1024, .inl a_list))]) (rest := []) C0 hK hP hD hS hA hZ (c_M_at l D cA zz N h_this h_this_tape h_this_list h_this_item h_this_word h_this_text tapeSize_this listSize_this itemSize_this wordSize_this textSize_this a_list x2 r_12 h_12) [0, 1] [] [0, 1] rfl rfl rfl rfl (by decide) rfl rfl 0 2 rfl rfl m_M_29 ⟨Nat.le_of_ble_eq_true rfl, Nat.le_of_ble_eq_true rfl⟩ ⟨rfl, rfl⟩ rfl hl.1 rfl (Nat.le_of_ble_eq_true rfl) ⟨Nat.le_of_ble_eq_true rfl, Nat.le_of_ble_eq_true rfl⟩ d_M_bare_12 (fun b_12 H locs hP hD hS => ?_)
      obtain ⟨r_15, h_15, h⟩ := bindS h
      refine call_si (wr := [(h_this, .inr (2, [.ref h_this_tape, .int tapeSize_this, .ref h_this_list, .int listSize_this, .ref h_this_item, .int itemSize_this, .ref h_this_word, .int wordSize_this, .ref h_this_text, .int textSize_this])), (h_this_list, .inl (cA, 1024, .inl a_list))]) (w1 := []) (wN := [(h_this, .inr (2, [.ref h_this_tape, .int tapeSize_this, .ref h_this_list, .int listSize_this, .ref h_this_item, .int itemSize_this, .ref h_this_word, .int wordSize_this, .ref h_this_text, .int textSize_this])), (h_this_list, .inl (cA, 1024, .inl a_list))]) (rest := []) C0 hK hP hD hS hA hZ (c_M_isSpace l D cA zz N r_12 r_15 h_15) [] [0, 1] [0, 1] rfl rfl rfl rfl (by decide) rfl rfl m_M_33 ⟨Nat.le_of_ble_eq_true rfl, Nat.le_of_ble_eq_true rfl⟩ ⟨rfl, rfl⟩ rfl hl.1 rfl (Nat.le_of_ble_eq_true rfl) ⟨Nat.le_of_ble_eq_true rfl, Nat.le_of_ble_eq_true rfl⟩ d_M_bare_15 (fun b_15 H locs hP hD hS => ?_)
      refine lv_if_ne (tgt := 46) hx hb d_M_bare_18 (by decide) (fun c_18 => ?_) (fun c_18 => ?_)
      · have h := iteN c_18 h
        refine lv_iload_n hx hb d_M_bare_46 rfl (lv_at hl 1 rfl) ?_
        obtain rfl := Option.some.inj h
        exact rI (v := x2) C0 (vp_nar_int _) hK hP hD hS d_M_bare_47
      · have h := iteP c_18 h
        refine lv_aload_n hx hb d_M_bare_21 rfl (lv_at hl 0 rfl) ?_
        refine lv_iload_n hx hb d_M_bare_22 rfl (lv_at hl 1 rfl) ?_
        obtain ⟨r_23, h_23, h⟩ := bindS h
        refine call_vi (wr := []) (w1 := [(h_this, .inr (2, [.ref h_this_tape, .int tapeSize_this, .ref h_this_list, .int listSize_this, .ref h_this_item, .int itemSize_this, .ref h_this_word, .int wordSize_this, .ref h_this_text, .int textSize_this])), (h_this_list, .inl (cA, 1024, .inl a_list))]) (wN := [(h_this, .inr (2, [.ref h_this_tape, .int tapeSize_this, .ref h_this_list, .int listSize_this, .ref h_this_item, .int itemSize_this, .ref h_this_word, .int wordSize_this, .ref h_this_text, .int textSize_this])), (h_this_list, .inl (cA, 1024, .inl a_list))]) (rest := []) C0 hK hP hD hS hA hZ (c_M_at l D cA zz N h_this h_this_tape h_this_list h_this_item h_this_word h_this_text tapeSize_this listSize_this itemSize_this wordSize_this textSize_this a_list x2 r_23 h_23) [0, 1] [] [0, 1] rfl rfl rfl rfl (by decide) rfl rfl 0 2 rfl rfl m_M_29 ⟨Nat.le_of_ble_eq_true rfl, Nat.le_of_ble_eq_true rfl⟩ ⟨rfl, rfl⟩ rfl hl.1 rfl (Nat.le_of_ble_eq_true rfl) ⟨Nat.le_of_ble_eq_true rfl, Nat.le_of_ble_eq_true rfl⟩ d_M_bare_23 (fun b_23 H locs hP hD hS => ?_)
        refine lv_bipush (v := (92 : Int32)) hx hb d_M_bare_26 (by decide) ?_
        refine lv_icmp_ne (tgt := 39) hx hb d_M_bare_28 (by decide) (fun c_28 => ?_) (fun c_28 => ?_)
        · have h := iteN c_28 h
          refine lv_iload_n hx hb d_M_bare_39 rfl (lv_at hl 1 rfl) ?_
          refine lv_iconst (v := (1 : Int32)) hx hb d_M_bare_40 (by decide) ?_
          refine lv_iadd hx hb d_M_bare_41 ?_
          refine lv_istore_n (lv' := [(2, .int (x2 + (1 : Int32))), (0, .ref h_this)]) hx hb d_M_bare_42 rfl hl (by decide) rfl (fun ls hl => ?_)
          refine lv_goto (tgt := 2) hx hb d_M_bare_43 (by decide) ?_
          exact ih _ h H locs hP hD hS ls (lv_sub hl [1, 0] rfl)
        · have h := iteP c_28 h
          refine lv_aload_n hx hb d_M_bare_31 rfl (lv_at hl 0 rfl) ?_
          refine lv_iload_n hx hb d_M_bare_32 rfl (lv_at hl 1 rfl) ?_
          obtain ⟨r_33, h_33, h⟩ := bindS h
          refine call_vi (wr := []) (w1 := [(h_this, .inr (2, [.ref h_this_tape, .int tapeSize_this, .ref h_this_list, .int listSize_this, .ref h_this_item, .int itemSize_this, .ref h_this_word, .int wordSize_this, .ref h_this_text, .int textSize_this])), (h_this_list, .inl (cA, 1024, .inl a_list))]) (wN := [(h_this, .inr (2, [.ref h_this_tape, .int tapeSize_this, .ref h_this_list, .int listSize_this, .ref h_this_item, .int itemSize_this, .ref h_this_word, .int wordSize_this, .ref h_this_text, .int textSize_this])), (h_this_list, .inl (cA, 1024, .inl a_list))]) (rest := []) C0 hK hP hD hS hA hZ (c_M_behind l D cA zz N h_this h_this_tape h_this_list h_this_item h_this_word h_this_text tapeSize_this listSize_this itemSize_this wordSize_this textSize_this a_list x2 r_33 h_33) [0, 1] [] [0, 1] rfl rfl rfl rfl (by decide) rfl rfl 0 2 rfl rfl m_M_37 ⟨Nat.le_of_ble_eq_true rfl, Nat.le_of_ble_eq_true rfl⟩ ⟨rfl, rfl⟩ rfl hl.1 rfl (Nat.le_of_ble_eq_true rfl) ⟨Nat.le_of_ble_eq_true rfl, Nat.le_of_ble_eq_true rfl⟩ d_M_bare_33 (fun b_33 H locs hP hD hS => ?_)
          refine lv_goto (tgt := 42) hx hb d_M_bare_36 (by decide) ?_
          refine lv_istore_n (lv' := [(2, .int r_33), (0, .ref h_this)]) hx hb d_M_bare_42 rfl hl (by decide) rfl (fun ls hl => ?_)
          refine lv_goto (tgt := 2) hx hb d_M_bare_43 (by decide) ?_
          exact ih _ h H locs hP hD hS ls (lv_sub hl [1, 0] rfl)
set_option maxHeartbeats 4000000 in
set_option maxRecDepth 100000 in
theorem t_M_bare_0 {p : Program} {l : Launch} {e : Env} {s : State} {m : MethodId} {args : Array Value} {below : List Frame} {meth : Method} {c : Code} {D : va_G} {cA : ClassId} {zz : zT} {A : Nat → Prop} (C0 : Cx p s m args meth c b_M_bare R_M 3 (some .int)) (hK : va_K D classes [(cA, .int)] s) (hA : ∀ q : Nat, s.heap.size ≤ q → A q) (hZ : ZS zz A s s.heap) (N : Nat) (h_this : Nat) (h_this_tape : Nat) (h_this_list : Nat) (h_this_item : Nat) (h_this_word : Nat) (h_this_text : Nat) (tapeSize_this : Int32) (listSize_this : Int32) (itemSize_this : Int32) (wordSize_this : Int32) (textSize_this : Int32) (a_list : Nat → Int32) (res : Int32) :
    ∀ (x1 : Int32), p_M_bare_0 N listSize_this a_list x1 = some res → ∀ (H : Heap) (locs : List Loc), va_P D classes [(h_this, .inr (2, [.ref h_this_tape, .int tapeSize_this, .ref h_this_list, .int listSize_this, .ref h_this_item, .int itemSize_this, .ref h_this_word, .int wordSize_this, .ref h_this_text, .int textSize_this])), (h_this_list, .inl (cA, 1024, .inl a_list))] H → va_D A [(h_this, .inr (2, [.ref h_this_tape, .int tapeSize_this, .ref h_this_list, .int listSize_this, .ref h_this_item, .int itemSize_this, .ref h_this_word, .int wordSize_this, .ref h_this_text, .int textSize_this])), (h_this_list, .inl (cA, 1024, .inl a_list))] → va_S A s.heap H locs → ∀ (ls : Array Slot), lv_has ls 3 [(0, .ref h_this), (1, .int x1)] → W p l e rm_M_bare s m args below meth c H locs 0 0 (QI .int below args s D cA A (res) [(h_this, .inr (2, [.ref h_this_tape, .int tapeSize_this, .ref h_this_list, .int listSize_this, .ref h_this_item, .int itemSize_this, .ref h_this_word, .int wordSize_this, .ref h_this_text, .int textSize_this])), (h_this_list, .inl (cA, 1024, .inl a_list))]) (F0 m 0 ls []) := by
  obtain ⟨hx, hb, hr, hml, hown, hG, hlk⟩ := id C0
  intro x1 h H locs hP hD hS ls hl
  unfold p_M_bare_0 at h
  refine lv_iload_n hx hb d_M_bare_0 rfl (lv_at hl 1 rfl) ?_
  refine lv_istore_n (lv' := [(2, .int x1), (0, .ref h_this), (1, .int x1)]) hx hb d_M_bare_1 rfl hl (by decide) rfl (fun ls hl => ?_)
  exact t_M_bare_2 C0 hK hA hZ N h_this h_this_tape h_this_list h_this_item h_this_word h_this_text tapeSize_this listSize_this itemSize_this wordSize_this textSize_this a_list res N _ h H locs hP hD hS ls (lv_sub hl [1, 0] rfl)
theorem c_M_bare (l : Launch) (D : va_G) (cA : ClassId) (zz : zT) (N : Nat) (h_this : Nat) (h_this_tape : Nat) (h_this_list : Nat) (h_this_item : Nat) (h_this_word : Nat) (h_this_text : Nat) (tapeSize_this : Int32) (listSize_this : Int32) (itemSize_this : Int32) (wordSize_this : Int32) (textSize_this : Int32) (a_list : Nat → Int32) (x1 : Int32) (res : Int32) (h : p_M_bare N listSize_this a_list x1 = some res) : MI l D cA zz y_M_bare b_M_bare 3 .int rm_M_bare [.ref h_this, .int x1] [(h_this, .inr (2, [.ref h_this_tape, .int tapeSize_this, .ref h_this_list, .int listSize_this, .ref h_this_item, .int itemSize_this, .ref h_this_word, .int wordSize_this, .ref h_this_text, .int textSize_this])), (h_this_list, .inl (cA, 1024, .inl a_list))] (res) [(h_this, .inr (2, [.ref h_this_tape, .int tapeSize_this, .ref h_this_list, .int listSize_this, .ref h_this_item, .int itemSize_this, .ref h_this_word, .int wordSize_this, .ref h_this_text, .int textSize_this])), (h_this_list, .inl (cA, 1024, .inl a_list))] := by
  unfold p_M_bare at h
  exact MI_enter (by decide) (Nat.le_of_ble_eq_true rfl) (fun p e s m below meth c A ls C0 hK hA hZ hP hD hl => t_M_bare_0 C0 hK hA hZ N h_this h_this_tape h_this_list h_this_item h_this_word h_this_text tapeSize_this listSize_this itemSize_this wordSize_this textSize_this a_list res _ h s.heap [] hP hD va_S.rf ls hl)
-- ListWordsModel.closing(I)I
set_option maxHeartbeats 4000000 in
set_option maxRecDepth 100000 in
theorem t_M_closing_45 {p : Program} {l : Launch} {e : Env} {s : State} {m : MethodId} {args : Array Value} {below : List Frame} {meth : Method} {c : Code} {D : va_G} {cA : ClassId} {zz : zT} {A : Nat → Prop} (C0 : Cx p s m args meth c b_M_closing R_M 5 (some .int)) (hK : va_K D classes [(cA, .int)] s) (hA : ∀ q : Nat, s.heap.size ≤ q → A q) (hZ : ZS zz A s s.heap) (N : Nat) (h_this : Nat) (h_this_tape : Nat) (h_this_list : Nat) (h_this_item : Nat) (h_this_word : Nat) (h_this_text : Nat) (tapeSize_this : Int32) (listSize_this : Int32) (itemSize_this : Int32) (wordSize_this : Int32) (textSize_this : Int32) (a_list : Nat → Int32) (res : Int32)
    (k_6 : Int32 → Int32 → Option (Int32)) (hk_6 : ∀ (x2 : Int32) (x3 : Int32), k_6 x2 x3 = some res → ∀ (H : Heap) (locs : List Loc), va_P D classes [(h_this, .inr (2, [.ref h_this_tape, .int tapeSize_this, .ref h_this_list, .int listSize_this, .ref h_this_item, .int itemSize_this, .ref h_this_word, .int wordSize_this, .ref h_this_text, .int textSize_this])), (h_this_list, .inl (cA, 1024, .inl a_list))] H → va_D A [(h_this, .inr (2, [.ref h_this_tape, .int tapeSize_this, .ref h_this_list, .int listSize_this, .ref h_this_item, .int itemSize_this, .ref h_this_word, .int wordSize_this, .ref h_this_text, .int textSize_this])), (h_this_list, .inl (cA, 1024, .inl a_list))] → va_S A s.heap H locs → ∀ (ls : Array Slot), lv_has ls 5 [(0, .ref h_this), (2, .int x2), (3, .int x3)] → W p l e rm_M_closing s m args below meth c H locs 0 0 (QI .int below args s D cA A (res) [(h_this, .inr (2, [.ref h_this_tape, .int tapeSize_this, .ref h_this_list, .int listSize_this, .ref h_this_item, .int itemSize_this, .ref h_this_word, .int wordSize_this, .ref h_this_text, .int textSize_this])), (h_this_list, .inl (cA, 1024, .inl a_list))]) (F0 m 6 ls [])) :
    ∀ (x3 : Int32) (x4 : Int32) (y0 : Int32) (y1 : Int32), p_M_closing_45 N listSize_this a_list k_6 x3 x4 y0 y1 = some res → ∀ (H : Heap) (locs : List Loc), va_P D classes [(h_this, .inr (2, [.ref h_this_tape, .int tapeSize_this, .ref h_this_list, .int listSize_this, .ref h_this_item, .int itemSize_this, .ref h_this_word, .int wordSize_this, .ref h_this_text, .int textSize_this])), (h_this_list, .inl (cA, 1024, .inl a_list))] H → va_D A [(h_this, .inr (2, [.ref h_this_tape, .int tapeSize_this, .ref h_this_list, .int listSize_this, .ref h_this_item, .int itemSize_this, .ref h_this_word, .int wordSize_this, .ref h_this_text, .int textSize_this])), (h_this_list, .inl (cA, 1024, .inl a_list))] → va_S A s.heap H locs → ∀ (ls : Array Slot), lv_has ls 5 [(0, .ref h_this), (3, .int x3), (4, .int x4)] → W p l e rm_M_closing s m args below meth c H locs 0 0 (QI .int below args s D cA A (res) [(h_this, .inr (2, [.ref h_this_tape, .int tapeSize_this, .ref h_this_list, .int listSize_this, .ref h_this_item, .int itemSize_this, .ref h_this_word, .int wordSize_this, .ref h_this_text, .int textSize_this])), (h_this_list, .inl (cA, 1024, .inl a_list))]) (F0 m 45 ls [.int y0, .int y1]) := by
  obtain ⟨hx, hb, hr, hml, hown, hG, hlk⟩ := id C0
  intro x3 x4 y0 y1 h H locs hP hD hS ls hl
  unfold p_M_closing_45 at h
  refine lv_iadd hx hb d_M_closing_45 ?_
  refine lv_istore_n (lv' := [(2, .int (y1 + y0)), (0, .ref h_this), (3, .int x3), (4, .int x4)]) hx hb d_M_closing_46 rfl hl (by decide) rfl (fun ls hl => ?_)
  refine lv_iload_n hx hb d_M_closing_47 rfl (lv_at hl 0 rfl) ?_
  refine lv_if_ne (tgt := 53) hx hb d_M_closing_48 (by decide) (fun c_48 => ?_) (fun c_48 => ?_)
  · have h := iteN c_48 h
    refine lv_iload_n hx hb d_M_closing_53 rfl (lv_at hl 2 rfl) ?_
    refine lv_iload hx hb d_M_closing_54 (lv_at hl 3 rfl) ?_
    refine lv_bipush (v := (92 : Int32)) hx hb d_M_closing_56 (by decide) ?_
    refine lv_icmp_ne (tgt := 65) hx hb d_M_closing_58 (by decide) (fun c_58 => ?_) (fun c_58 => ?_)
    · have h := iteN c_58 h
      refine lv_iconst (v := (1 : Int32)) hx hb d_M_closing_65 (by decide) ?_
      refine lv_iadd hx hb d_M_closing_66 ?_
      refine lv_istore_n (lv' := [(3, .int (x3 + (1 : Int32))), (2, .int (y1 + y0)), (0, .ref h_this), (4, .int x4)]) hx hb d_M_closing_67 rfl hl (by decide) rfl (fun ls hl => ?_)
      refine lv_goto (tgt := 6) hx hb d_M_closing_68 (by decide) ?_
      exact hk_6 _ _ h H locs hP hD hS ls (lv_sub hl [2, 1, 0] rfl)
    · have h := iteP c_58 h
      refine lv_iconst (v := (2 : Int32)) hx hb d_M_closing_61 (by decide) ?_
      refine lv_goto (tgt := 66) hx hb d_M_closing_62 (by decide) ?_
      refine lv_iadd hx hb d_M_closing_66 ?_
      refine lv_istore_n (lv' := [(3, .int (x3 + (2 : Int32))), (2, .int (y1 + y0)), (0, .ref h_this), (4, .int x4)]) hx hb d_M_closing_67 rfl hl (by decide) rfl (fun ls hl => ?_)
      refine lv_goto (tgt := 6) hx hb d_M_closing_68 (by decide) ?_
      exact hk_6 _ _ h H locs hP hD hS ls (lv_sub hl [2, 1, 0] rfl)
  · have h := iteP c_48 h
    refine lv_iload_n hx hb d_M_closing_51 rfl (lv_at hl 2 rfl) ?_
    obtain rfl := Option.some.inj h
    exact rI (v := x3) C0 (vp_nar_int _) hK hP hD hS d_M_closing_52
set_option maxHeartbeats 4000000 in
set_option maxRecDepth 100000 in
theorem t_M_closing_6 {p : Program} {l : Launch} {e : Env} {s : State} {m : MethodId} {args : Array Value} {below : List Frame} {meth : Method} {c : Code} {D : va_G} {cA : ClassId} {zz : zT} {A : Nat → Prop} (C0 : Cx p s m args meth c b_M_closing R_M 5 (some .int)) (hK : va_K D classes [(cA, .int)] s) (hA : ∀ q : Nat, s.heap.size ≤ q → A q) (hZ : ZS zz A s s.heap) (N : Nat) (h_this : Nat) (h_this_tape : Nat) (h_this_list : Nat) (h_this_item : Nat) (h_this_word : Nat) (h_this_text : Nat) (tapeSize_this : Int32) (listSize_this : Int32) (itemSize_this : Int32) (wordSize_this : Int32) (textSize_this : Int32) (a_list : Nat → Int32) (res : Int32) :
    ∀ (n : Nat), ∀ (x2 : Int32) (x3 : Int32), p_M_closing_6 N listSize_this a_list n x2 x3 = some res → ∀ (H : Heap) (locs : List Loc), va_P D classes [(h_this, .inr (2, [.ref h_this_tape, .int tapeSize_this, .ref h_this_list, .int listSize_this, .ref h_this_item, .int itemSize_this, .ref h_this_word, .int wordSize_this, .ref h_this_text, .int textSize_this])), (h_this_list, .inl (cA, 1024, .inl a_list))] H → va_D A [(h_this, .inr (2, [.ref h_this_tape, .int tapeSize_this, .ref h_this_list, .int listSize_this, .ref h_this_item, .int itemSize_this, .ref h_this_word, .int wordSize_this, .ref h_this_text, .int textSize_this])), (h_this_list, .inl (cA, 1024, .inl a_list))] → va_S A s.heap H locs → ∀ (ls : Array Slot), lv_has ls 5 [(0, .ref h_this), (2, .int x2), (3, .int x3)] → W p l e rm_M_closing s m args below meth c H locs 0 0 (QI .int below args s D cA A (res) [(h_this, .inr (2, [.ref h_this_tape, .int tapeSize_this, .ref h_this_list, .int listSize_this, .ref h_this_item, .int itemSize_this, .ref h_this_word, .int wordSize_this, .ref h_this_text, .int textSize_this])), (h_this_list, .inl (cA, 1024, .inl a_list))]) (F0 m 6 ls []) := by
  obtain ⟨hx, hb, hr, hml, hown, hG, hlk⟩ := id C0
  intro n
  induction n with
  | zero =>
    intro x2 x3 h H locs hP hD hS ls hl
    exact absurd h (by simp [p_M_closing_6])
  | succ n ih =>
    intro x2 x3 h H locs hP hD hS ls hl
    rw [p_M_closing_6] at h
    refine lv_iload_n hx hb d_M_closing_6 rfl (lv_at hl 2 rfl) ?_
    refine lv_aload_n hx hb d_M_closing_7 rfl (lv_at hl 0 rfl) ?_
    refine va_get (D := D) (ci := 2) (v := .int listSize_this) (C := R_M) (T := F_M) (N := 10) hx hb hG i_M hown hK hP 0 rfl rfl 3 (by decide) (hG _ f_M_25) (fun _ h9 => h9) rfl d_M_closing_8 ?_
    refine lv_icmp_ge (tgt := 71) hx hb d_M_closing_11 (by decide) (fun c_11 => ?_) (fun c_11 => ?_)
    · have h := iteP c_11 h
      refine lv_aload_n hx hb d_M_closing_71 rfl (lv_at hl 0 rfl) ?_
      refine va_get (D := D) (ci := 2) (v := .int listSize_this) (C := R_M) (T := F_M) (N := 10) hx hb hG i_M hown hK hP 0 rfl rfl 3 (by decide) (hG _ f_M_25) (fun _ h9 => h9) rfl d_M_closing_72 ?_
      obtain rfl := Option.some.inj h
      exact rI (v := listSize_this) C0 (vp_nar_int _) hK hP hD hS d_M_closing_75
    · have h := iteN c_11 h
      refine lv_aload_n hx hb d_M_closing_14 rfl (lv_at hl 0 rfl) ?_
      refine lv_iload_n hx hb d_M_closing_15 rfl (lv_at hl 2 rfl) ?_
      obtain ⟨r_16, h_16, h⟩ := bindS h
      refine call_vi (wr := []) (w1 := [(h_this, .inr (2, [.ref h_this_tape, .int tapeSize_this, .ref h_this_list, .int listSize_this, .ref h_this_item, .int itemSize_this, .ref h_this_word, .int wordSize_this, .ref h_this_text, .int textSize_this])), (h_this_list, .inl (cA, 1024, .inl a_list))]) (wN := [(h_this, .inr (2, [.ref h_this_tape, .int tapeSize_this, .ref h_this_list, .int listSize_this, .ref h_this_item, .int itemSize_this, .ref h_this_word, .int wordSize_this, .ref h_this_text, .int textSize_this])), (h_this_list, .inl (cA, 1024, .inl a_list))]) (rest := []) C0 hK hP hD hS hA hZ (c_M_at l D cA zz N h_this h_this_tape h_this_list h_this_item h_this_word h_this_text tapeSize_this listSize_this itemSize_this wordSize_this textSize_this a_list x3 r_16 h_16) [0, 1] [] [0, 1] rfl rfl rfl rfl (by decide) rfl rfl 0 2 rfl rfl m_M_29 ⟨Nat.le_of_ble_eq_true rfl, Nat.le_of_ble_eq_true rfl⟩ ⟨rfl, rfl⟩ rfl hl.1 rfl (Nat.le_of_ble_eq_true rfl) ⟨Nat.le_of_ble_eq_true rfl, Nat.le_of_ble_eq_true rfl⟩ d_M_closing_16 (fun b_16 H locs hP hD hS => ?_)
      refine lv_istore (lv' := [(4, .int r_16), (0, .ref h_this), (2, .int x2), (3, .int x3)]) hx hb d_M_closing_19 hl (by decide) rfl (fun ls hl => ?_)
      refine lv_iload_n hx hb d_M_closing_21 rfl (lv_at hl 2 rfl) ?_
      refine lv_iload hx hb d_M_closing_22 (lv_at hl 0 rfl) ?_
      refine lv_bipush (v := (123 : Int32)) hx hb d_M_closing_24 (by decide) ?_
      refine lv_icmp_ne (tgt := 33) hx hb d_M_closing_26 (by decide) (fun c_26 => ?_) (fun c_26 => ?_)
      · have h := iteN c_26 h
        refine lv_iload hx hb d_M_closing_33 (lv_at hl 0 rfl) ?_
        refine lv_bipush (v := (125 : Int32)) hx hb d_M_closing_35 (by decide) ?_
        refine lv_icmp_ne (tgt := 44) hx hb d_M_closing_37 (by decide) (fun c_37 => ?_) (fun c_37 => ?_)
        · have h := iteN c_37 h
          refine lv_iconst (v := (0 : Int32)) hx hb d_M_closing_44 (by decide) ?_
          exact t_M_closing_45 C0 hK hA hZ N h_this h_this_tape h_this_list h_this_item h_this_word h_this_text tapeSize_this listSize_this itemSize_this wordSize_this textSize_this a_list res (p_M_closing_6 N listSize_this a_list n) ih _ _ _ _ h H locs hP hD hS ls (lv_sub hl [1, 3, 0] rfl)
        · have h := iteP c_37 h
          refine lv_iconst (v := (-1 : Int32)) hx hb d_M_closing_40 (by decide) ?_
          refine lv_goto (tgt := 45) hx hb d_M_closing_41 (by decide) ?_
          exact t_M_closing_45 C0 hK hA hZ N h_this h_this_tape h_this_list h_this_item h_this_word h_this_text tapeSize_this listSize_this itemSize_this wordSize_this textSize_this a_list res (p_M_closing_6 N listSize_this a_list n) ih _ _ _ _ h H locs hP hD hS ls (lv_sub hl [1, 3, 0] rfl)
      · have h := iteP c_26 h
        refine lv_iconst (v := (1 : Int32)) hx hb d_M_closing_29 (by decide) ?_
        refine lv_goto (tgt := 45) hx hb d_M_closing_30 (by decide) ?_
        exact t_M_closing_45 C0 hK hA hZ N h_this h_this_tape h_this_list h_this_item h_this_word h_this_text tapeSize_this listSize_this itemSize_this wordSize_this textSize_this a_list res (p_M_closing_6 N listSize_this a_list n) ih _ _ _ _ h H locs hP hD hS ls (lv_sub hl [1, 3, 0] rfl)
set_option maxHeartbeats 4000000 in
set_option maxRecDepth 100000 in
theorem t_M_closing_0 {p : Program} {l : Launch} {e : Env} {s : State} {m : MethodId} {args : Array Value} {below : List Frame} {meth : Method} {c : Code} {D : va_G} {cA : ClassId} {zz : zT} {A : Nat → Prop} (C0 : Cx p s m args meth c b_M_closing R_M 5 (some .int)) (hK : va_K D classes [(cA, .int)] s) (hA : ∀ q : Nat, s.heap.size ≤ q → A q) (hZ : ZS zz A s s.heap) (N : Nat) (h_this : Nat) (h_this_tape : Nat) (h_this_list : Nat) (h_this_item : Nat) (h_this_word : Nat) (h_this_text : Nat) (tapeSize_this : Int32) (listSize_this : Int32) (itemSize_this : Int32) (wordSize_this : Int32) (textSize_this : Int32) (a_list : Nat → Int32) (res : Int32) :
    ∀ (x1 : Int32), p_M_closing_0 N listSize_this a_list x1 = some res → ∀ (H : Heap) (locs : List Loc), va_P D classes [(h_this, .inr (2, [.ref h_this_tape, .int tapeSize_this, .ref h_this_list, .int listSize_this, .ref h_this_item, .int itemSize_this, .ref h_this_word, .int wordSize_this, .ref h_this_text, .int textSize_this])), (h_this_list, .inl (cA, 1024, .inl a_list))] H → va_D A [(h_this, .inr (2, [.ref h_this_tape, .int tapeSize_this, .ref h_this_list, .int listSize_this, .ref h_this_item, .int itemSize_this, .ref h_this_word, .int wordSize_this, .ref h_this_text, .int textSize_this])), (h_this_list, .inl (cA, 1024, .inl a_list))] → va_S A s.heap H locs → ∀ (ls : Array Slot), lv_has ls 5 [(0, .ref h_this), (1, .int x1)] → W p l e rm_M_closing s m args below meth c H locs 0 0 (QI .int below args s D cA A (res) [(h_this, .inr (2, [.ref h_this_tape, .int tapeSize_this, .ref h_this_list, .int listSize_this, .ref h_this_item, .int itemSize_this, .ref h_this_word, .int wordSize_this, .ref h_this_text, .int textSize_this])), (h_this_list, .inl (cA, 1024, .inl a_list))]) (F0 m 0 ls []) := by
  obtain ⟨hx, hb, hr, hml, hown, hG, hlk⟩ := id C0
  intro x1 h H locs hP hD hS ls hl
  unfold p_M_closing_0 at h
  refine lv_iconst (v := (1 : Int32)) hx hb d_M_closing_0 (by decide) ?_
  refine lv_istore_n (lv' := [(2, .int (1 : Int32)), (0, .ref h_this), (1, .int x1)]) hx hb d_M_closing_1 rfl hl (by decide) rfl (fun ls hl => ?_)
  refine lv_iload_n hx hb d_M_closing_2 rfl (lv_at hl 2 rfl) ?_
  refine lv_iconst (v := (1 : Int32)) hx hb d_M_closing_3 (by decide) ?_
  refine lv_iadd hx hb d_M_closing_4 ?_
  refine lv_istore_n (lv' := [(3, .int (x1 + (1 : Int32))), (2, .int (1 : Int32)), (0, .ref h_this), (1, .int x1)]) hx hb d_M_closing_5 rfl hl (by decide) rfl (fun ls hl => ?_)
  exact t_M_closing_6 C0 hK hA hZ N h_this h_this_tape h_this_list h_this_item h_this_word h_this_text tapeSize_this listSize_this itemSize_this wordSize_this textSize_this a_list res N _ _ h H locs hP hD hS ls (lv_sub hl [2, 1, 0] rfl)
theorem c_M_closing (l : Launch) (D : va_G) (cA : ClassId) (zz : zT) (N : Nat) (h_this : Nat) (h_this_tape : Nat) (h_this_list : Nat) (h_this_item : Nat) (h_this_word : Nat) (h_this_text : Nat) (tapeSize_this : Int32) (listSize_this : Int32) (itemSize_this : Int32) (wordSize_this : Int32) (textSize_this : Int32) (a_list : Nat → Int32) (x1 : Int32) (res : Int32) (h : p_M_closing N listSize_this a_list x1 = some res) : MI l D cA zz y_M_closing b_M_closing 5 .int rm_M_closing [.ref h_this, .int x1] [(h_this, .inr (2, [.ref h_this_tape, .int tapeSize_this, .ref h_this_list, .int listSize_this, .ref h_this_item, .int itemSize_this, .ref h_this_word, .int wordSize_this, .ref h_this_text, .int textSize_this])), (h_this_list, .inl (cA, 1024, .inl a_list))] (res) [(h_this, .inr (2, [.ref h_this_tape, .int tapeSize_this, .ref h_this_list, .int listSize_this, .ref h_this_item, .int itemSize_this, .ref h_this_word, .int wordSize_this, .ref h_this_text, .int textSize_this])), (h_this_list, .inl (cA, 1024, .inl a_list))] := by
  unfold p_M_closing at h
  exact MI_enter (by decide) (Nat.le_of_ble_eq_true rfl) (fun p e s m below meth c A ls C0 hK hA hZ hP hD hl => t_M_closing_0 C0 hK hA hZ N h_this h_this_tape h_this_list h_this_item h_this_word h_this_text tapeSize_this listSize_this itemSize_this wordSize_this textSize_this a_list res _ h s.heap [] hP hD va_S.rf ls hl)
-- ListWordsModel.quote(I)I
set_option maxHeartbeats 4000000 in
set_option maxRecDepth 100000 in
theorem t_M_quote_43 {p : Program} {l : Launch} {e : Env} {s : State} {m : MethodId} {args : Array Value} {below : List Frame} {meth : Method} {c : Code} {D : va_G} {cA : ClassId} {zz : zT} {A : Nat → Prop} (C0 : Cx p s m args meth c b_M_quote R_M 3 (some .int)) (hK : va_K D classes [(cA, .int)] s) (hA : ∀ q : Nat, s.heap.size ≤ q → A q) (hZ : ZS zz A s s.heap) (N : Nat) (h_this : Nat) (h_this_tape : Nat) (h_this_list : Nat) (h_this_item : Nat) (h_this_word : Nat) (h_this_text : Nat) (tapeSize_this : Int32) (listSize_this : Int32) (itemSize_this : Int32) (wordSize_this : Int32) (textSize_this : Int32) (a_list : Nat → Int32) (res : Int32) :
    ∀ (x2 : Int32), p_M_quote_43 N listSize_this a_list x2 = some res → ∀ (H : Heap) (locs : List Loc), va_P D classes [(h_this, .inr (2, [.ref h_this_tape, .int tapeSize_this, .ref h_this_list, .int listSize_this, .ref h_this_item, .int itemSize_this, .ref h_this_word, .int wordSize_this, .ref h_this_text, .int textSize_this])), (h_this_list, .inl (cA, 1024, .inl a_list))] H → va_D A [(h_this, .inr (2, [.ref h_this_tape, .int tapeSize_this, .ref h_this_list, .int listSize_this, .ref h_this_item, .int itemSize_this, .ref h_this_word, .int wordSize_this, .ref h_this_text, .int textSize_this])), (h_this_list, .inl (cA, 1024, .inl a_list))] → va_S A s.heap H locs → ∀ (ls : Array Slot), lv_has ls 3 [(0, .ref h_this), (2, .int x2)] → W p l e rm_M_quote s m args below meth c H locs 0 0 (QI .int below args s D cA A (res) [(h_this, .inr (2, [.ref h_this_tape, .int tapeSize_this, .ref h_this_list, .int listSize_this, .ref h_this_item, .int itemSize_this, .ref h_this_word, .int wordSize_this, .ref h_this_text, .int textSize_this])), (h_this_list, .inl (cA, 1024, .inl a_list))]) (F0 m 43 ls []) := by
  obtain ⟨hx, hb, hr, hml, hown, hG, hlk⟩ := id C0
  intro x2 h H locs hP hD hS ls hl
  unfold p_M_quote_43 at h
  refine lv_iload_n hx hb d_M_quote_43 rfl (lv_at hl 1 rfl) ?_
  refine lv_aload_n hx hb d_M_quote_44 rfl (lv_at hl 0 rfl) ?_
  refine va_get (D := D) (ci := 2) (v := .int listSize_this) (C := R_M) (T := F_M) (N := 10) hx hb hG i_M hown hK hP 0 rfl rfl 3 (by decide) (hG _ f_M_25) (fun _ h9 => h9) rfl d_M_quote_45 ?_
  refine lv_icmp_ge (tgt := 55) hx hb d_M_quote_48 (by decide) (fun c_48 => ?_) (fun c_48 => ?_)
  · have h := iteP c_48 h
    refine lv_aload_n hx hb d_M_quote_55 rfl (lv_at hl 0 rfl) ?_
    refine va_get (D := D) (ci := 2) (v := .int listSize_this) (C := R_M) (T := F_M) (N := 10) hx hb hG i_M hown hK hP 0 rfl rfl 3 (by decide) (hG _ f_M_25) (fun _ h9 => h9) rfl d_M_quote_56 ?_
    obtain rfl := Option.some.inj h
    exact rI (v := listSize_this) C0 (vp_nar_int _) hK hP hD hS d_M_quote_59
  · have h := iteN c_48 h
    refine lv_iload_n hx hb d_M_quote_51 rfl (lv_at hl 1 rfl) ?_
    refine lv_goto (tgt := 59) hx hb d_M_quote_52 (by decide) ?_
    obtain rfl := Option.some.inj h
    exact rI (v := x2) C0 (vp_nar_int _) hK hP hD hS d_M_quote_59
set_option maxHeartbeats 4000000 in
set_option maxRecDepth 100000 in
theorem t_M_quote_4 {p : Program} {l : Launch} {e : Env} {s : State} {m : MethodId} {args : Array Value} {below : List Frame} {meth : Method} {c : Code} {D : va_G} {cA : ClassId} {zz : zT} {A : Nat → Prop} (C0 : Cx p s m args meth c b_M_quote R_M 3 (some .int)) (hK : va_K D classes [(cA, .int)] s) (hA : ∀ q : Nat, s.heap.size ≤ q → A q) (hZ : ZS zz A s s.heap) (N : Nat) (h_this : Nat) (h_this_tape : Nat) (h_this_list : Nat) (h_this_item : Nat) (h_this_word : Nat) (h_this_text : Nat) (tapeSize_this : Int32) (listSize_this : Int32) (itemSize_this : Int32) (wordSize_this : Int32) (textSize_this : Int32) (a_list : Nat → Int32) (res : Int32) :
    ∀ (n : Nat), ∀ (x2 : Int32), p_M_quote_4 N listSize_this a_list n x2 = some res → ∀ (H : Heap) (locs : List Loc), va_P D classes [(h_this, .inr (2, [.ref h_this_tape, .int tapeSize_this, .ref h_this_list, .int listSize_this, .ref h_this_item, .int itemSize_this, .ref h_this_word, .int wordSize_this, .ref h_this_text, .int textSize_this])), (h_this_list, .inl (cA, 1024, .inl a_list))] H → va_D A [(h_this, .inr (2, [.ref h_this_tape, .int tapeSize_this, .ref h_this_list, .int listSize_this, .ref h_this_item, .int itemSize_this, .ref h_this_word, .int wordSize_this, .ref h_this_text, .int textSize_this])), (h_this_list, .inl (cA, 1024, .inl a_list))] → va_S A s.heap H locs → ∀ (ls : Array Slot), lv_has ls 3 [(0, .ref h_this), (2, .int x2)] → W p l e rm_M_quote s m args below meth c H locs 0 0 (QI .int below args s D cA A (res) [(h_this, .inr (2, [.ref h_this_tape, .int tapeSize_this, .ref h_this_list, .int listSize_this, .ref h_this_item, .int itemSize_this, .ref h_this_word, .int wordSize_this, .ref h_this_text, .int textSize_this])), (h_this_list, .inl (cA, 1024, .inl a_list))]) (F0 m 4 ls []) := by
  obtain ⟨hx, hb, hr, hml, hown, hG, hlk⟩ := id C0
  intro n
  induction n with
  | zero =>
    intro x2 h H locs hP hD hS ls hl
    exact absurd h (by simp [p_M_quote_4])
  | succ n ih =>
    intro x2 h H locs hP hD hS ls hl
    rw [p_M_quote_4] at h
    refine lv_iload_n hx hb d_M_quote_4 rfl (lv_at hl 1 rfl) ?_
    refine lv_aload_n hx hb d_M_quote_5 rfl (lv_at hl 0 rfl) ?_
    refine va_get (D := D) (ci := 2) (v := .int listSize_this) (C := R_M) (T := F_M) (N := 10) hx hb hG i_M hown hK hP 0 rfl rfl 3 (by decide) (hG _ f_M_25) (fun _ h9 => h9) rfl d_M_quote_6 ?_
    refine lv_icmp_ge (tgt := 43) hx hb d_M_quote_9 (by decide) (fun c_9 => ?_) (fun c_9 => ?_)
    · have h := iteP c_9 h
      exact t_M_quote_43 C0 hK hA hZ N h_this h_this_tape h_this_list h_this_item h_this_word h_this_text tapeSize_this listSize_this itemSize_this wordSize_this textSize_this a_list res _ h H locs hP hD hS ls (lv_sub hl [0, 1] rfl)
    · have h := iteN c_9 h
      refine lv_aload_n hx hb d_M_quote_12 rfl (lv_at hl 0 rfl) ?_
      refine lv_iload_n hx hb d_M_quote_13 rfl (lv_at hl 1 rfl) ?_
      obtain ⟨r_14, h_14, h⟩ := bindS h
      refine call_vi (wr := []) (w1 := [(h_this, .inr (2, [.ref h_this_tape, .int tapeSize_this, .ref h_this_list, .int listSize_this, .ref h_this_item, .int itemSize_this, .ref h_this_word, .int wordSize_this, .ref h_this_text, .int textSize_this])), (h_this_list, .inl (cA, 1024, .inl a_list))]) (wN := [(h_this, .inr (2, [.ref h_this_tape, .int tapeSize_this, .ref h_this_list, .int listSize_this, .ref h_this_item, .int itemSize_this, .ref h_this_word, .int wordSize_this, .ref h_this_text, .int textSize_this])), (h_this_list, .inl (cA, 1024, .inl a_list))]) (rest := []) C0 hK hP hD hS hA hZ (c_M_at l D cA zz N h_this h_this_tape h_this_list h_this_item h_this_word h_this_text tapeSize_this listSize_this itemSize_this wordSize_this textSize_this a_list x2 r_14 h_14) [0, 1] [] [0, 1] rfl rfl rfl rfl (by decide) rfl rfl 0 2 rfl rfl m_M_29 ⟨Nat.le_of_ble_eq_true rfl, Nat.le_of_ble_eq_true rfl⟩ ⟨rfl, rfl⟩ rfl hl.1 rfl (Nat.le_of_ble_eq_true rfl) ⟨Nat.le_of_ble_eq_true rfl, Nat.le_of_ble_eq_true rfl⟩ d_M_quote_14 (fun b_14 H locs hP hD hS => ?_)
      refine lv_bipush (v := (34 : Int32)) hx hb d_M_quote_17 (by decide) ?_
      refine lv_icmp_eq (tgt := 43) hx hb d_M_quote_19 (by decide) (fun c_19 => ?_) (fun c_19 => ?_)
      · have h := iteP c_19 h
        exact t_M_quote_43 C0 hK hA hZ N h_this h_this_tape h_this_list h_this_item h_this_word h_this_text tapeSize_this listSize_this itemSize_this wordSize_this textSize_this a_list res _ h H locs hP hD hS ls (lv_sub hl [0, 1] rfl)
      · have h := iteN c_19 h
        refine lv_iload_n hx hb d_M_quote_22 rfl (lv_at hl 1 rfl) ?_
        refine lv_aload_n hx hb d_M_quote_23 rfl (lv_at hl 0 rfl) ?_
        refine lv_iload_n hx hb d_M_quote_24 rfl (lv_at hl 1 rfl) ?_
        obtain ⟨r_25, h_25, h⟩ := bindS h
        refine call_vi (wr := []) (w1 := [(h_this, .inr (2, [.ref h_this_tape, .int tapeSize_this, .ref h_this_list, .int listSize_this, .ref h_this_item, .int itemSize_this, .ref h_this_word, .int wordSize_this, .ref h_this_text, .int textSize_this])), (h_this_list, .inl (cA, 1024, .inl a_list))]) (wN := [(h_this, .inr (2, [.ref h_this_tape, .int tapeSize_this, .ref h_this_list, .int listSize_this, .ref h_this_item, .int itemSize_this, .ref h_this_word, .int wordSize_this, .ref h_this_text, .int textSize_this])), (h_this_list, .inl (cA, 1024, .inl a_list))]) (rest := [.int x2]) C0 hK hP hD hS hA hZ (c_M_at l D cA zz N h_this h_this_tape h_this_list h_this_item h_this_word h_this_text tapeSize_this listSize_this itemSize_this wordSize_this textSize_this a_list x2 r_25 h_25) [0, 1] [] [0, 1] rfl rfl rfl rfl (by decide) rfl rfl 0 2 rfl rfl m_M_29 ⟨Nat.le_of_ble_eq_true rfl, Nat.le_of_ble_eq_true rfl⟩ ⟨rfl, rfl⟩ rfl hl.1 rfl (Nat.le_of_ble_eq_true rfl) ⟨Nat.le_of_ble_eq_true rfl, Nat.le_of_ble_eq_true rfl⟩ d_M_quote_25 (fun b_25 H locs hP hD hS => ?_)
        refine lv_bipush (v := (92 : Int32)) hx hb d_M_quote_28 (by decide) ?_
        refine lv_icmp_ne (tgt := 37) hx hb d_M_quote_30 (by decide) (fun c_30 => ?_) (fun c_30 => ?_)
        · have h := iteN c_30 h
          refine lv_iconst (v := (1 : Int32)) hx hb d_M_quote_37 (by decide) ?_
          refine lv_iadd hx hb d_M_quote_38 ?_
          refine lv_istore_n (lv' := [(2, .int (x2 + (1 : Int32))), (0, .ref h_this)]) hx hb d_M_quote_39 rfl hl (by decide) rfl (fun ls hl => ?_)
          refine lv_goto (tgt := 4) hx hb d_M_quote_40 (by decide) ?_
          exact ih _ h H locs hP hD hS ls (lv_sub hl [1, 0] rfl)
        · have h := iteP c_30 h
          refine lv_iconst (v := (2 : Int32)) hx hb d_M_quote_33 (by decide) ?_
          refine lv_goto (tgt := 38) hx hb d_M_quote_34 (by decide) ?_
          refine lv_iadd hx hb d_M_quote_38 ?_
          refine lv_istore_n (lv' := [(2, .int (x2 + (2 : Int32))), (0, .ref h_this)]) hx hb d_M_quote_39 rfl hl (by decide) rfl (fun ls hl => ?_)
          refine lv_goto (tgt := 4) hx hb d_M_quote_40 (by decide) ?_
          exact ih _ h H locs hP hD hS ls (lv_sub hl [1, 0] rfl)
set_option maxHeartbeats 4000000 in
set_option maxRecDepth 100000 in
theorem t_M_quote_0 {p : Program} {l : Launch} {e : Env} {s : State} {m : MethodId} {args : Array Value} {below : List Frame} {meth : Method} {c : Code} {D : va_G} {cA : ClassId} {zz : zT} {A : Nat → Prop} (C0 : Cx p s m args meth c b_M_quote R_M 3 (some .int)) (hK : va_K D classes [(cA, .int)] s) (hA : ∀ q : Nat, s.heap.size ≤ q → A q) (hZ : ZS zz A s s.heap) (N : Nat) (h_this : Nat) (h_this_tape : Nat) (h_this_list : Nat) (h_this_item : Nat) (h_this_word : Nat) (h_this_text : Nat) (tapeSize_this : Int32) (listSize_this : Int32) (itemSize_this : Int32) (wordSize_this : Int32) (textSize_this : Int32) (a_list : Nat → Int32) (res : Int32) :
    ∀ (x1 : Int32), p_M_quote_0 N listSize_this a_list x1 = some res → ∀ (H : Heap) (locs : List Loc), va_P D classes [(h_this, .inr (2, [.ref h_this_tape, .int tapeSize_this, .ref h_this_list, .int listSize_this, .ref h_this_item, .int itemSize_this, .ref h_this_word, .int wordSize_this, .ref h_this_text, .int textSize_this])), (h_this_list, .inl (cA, 1024, .inl a_list))] H → va_D A [(h_this, .inr (2, [.ref h_this_tape, .int tapeSize_this, .ref h_this_list, .int listSize_this, .ref h_this_item, .int itemSize_this, .ref h_this_word, .int wordSize_this, .ref h_this_text, .int textSize_this])), (h_this_list, .inl (cA, 1024, .inl a_list))] → va_S A s.heap H locs → ∀ (ls : Array Slot), lv_has ls 3 [(0, .ref h_this), (1, .int x1)] → W p l e rm_M_quote s m args below meth c H locs 0 0 (QI .int below args s D cA A (res) [(h_this, .inr (2, [.ref h_this_tape, .int tapeSize_this, .ref h_this_list, .int listSize_this, .ref h_this_item, .int itemSize_this, .ref h_this_word, .int wordSize_this, .ref h_this_text, .int textSize_this])), (h_this_list, .inl (cA, 1024, .inl a_list))]) (F0 m 0 ls []) := by
  obtain ⟨hx, hb, hr, hml, hown, hG, hlk⟩ := id C0
  intro x1 h H locs hP hD hS ls hl
  unfold p_M_quote_0 at h
  refine lv_iload_n hx hb d_M_quote_0 rfl (lv_at hl 1 rfl) ?_
  refine lv_iconst (v := (1 : Int32)) hx hb d_M_quote_1 (by decide) ?_
  refine lv_iadd hx hb d_M_quote_2 ?_
  refine lv_istore_n (lv' := [(2, .int (x1 + (1 : Int32))), (0, .ref h_this), (1, .int x1)]) hx hb d_M_quote_3 rfl hl (by decide) rfl (fun ls hl => ?_)
  exact t_M_quote_4 C0 hK hA hZ N h_this h_this_tape h_this_list h_this_item h_this_word h_this_text tapeSize_this listSize_this itemSize_this wordSize_this textSize_this a_list res N _ h H locs hP hD hS ls (lv_sub hl [1, 0] rfl)
theorem c_M_quote (l : Launch) (D : va_G) (cA : ClassId) (zz : zT) (N : Nat) (h_this : Nat) (h_this_tape : Nat) (h_this_list : Nat) (h_this_item : Nat) (h_this_word : Nat) (h_this_text : Nat) (tapeSize_this : Int32) (listSize_this : Int32) (itemSize_this : Int32) (wordSize_this : Int32) (textSize_this : Int32) (a_list : Nat → Int32) (x1 : Int32) (res : Int32) (h : p_M_quote N listSize_this a_list x1 = some res) : MI l D cA zz y_M_quote b_M_quote 3 .int rm_M_quote [.ref h_this, .int x1] [(h_this, .inr (2, [.ref h_this_tape, .int tapeSize_this, .ref h_this_list, .int listSize_this, .ref h_this_item, .int itemSize_this, .ref h_this_word, .int wordSize_this, .ref h_this_text, .int textSize_this])), (h_this_list, .inl (cA, 1024, .inl a_list))] (res) [(h_this, .inr (2, [.ref h_this_tape, .int tapeSize_this, .ref h_this_list, .int listSize_this, .ref h_this_item, .int itemSize_this, .ref h_this_word, .int wordSize_this, .ref h_this_text, .int textSize_this])), (h_this_list, .inl (cA, 1024, .inl a_list))] := by
  unfold p_M_quote at h
  exact MI_enter (by decide) (Nat.le_of_ble_eq_true rfl) (fun p e s m below meth c A ls C0 hK hA hZ hP hD hl => t_M_quote_0 C0 hK hA hZ N h_this h_this_tape h_this_list h_this_item h_this_word h_this_text tapeSize_this listSize_this itemSize_this wordSize_this textSize_this a_list res _ h s.heap [] hP hD va_S.rf ls hl)
-- ListWordsModel.ending(I)I
set_option maxHeartbeats 4000000 in
set_option maxRecDepth 100000 in
theorem t_M_ending_80 {p : Program} {l : Launch} {e : Env} {s : State} {m : MethodId} {args : Array Value} {below : List Frame} {meth : Method} {c : Code} {D : va_G} {cA : ClassId} {zz : zT} {A : Nat → Prop} (C0 : Cx p s m args meth c b_M_ending R_M 5 (some .int)) (hK : va_K D classes [(cA, .int)] s) (hA : ∀ q : Nat, s.heap.size ≤ q → A q) (hZ : ZS zz A s s.heap) (N : Nat) (h_this : Nat) (h_this_tape : Nat) (h_this_list : Nat) (h_this_item : Nat) (h_this_word : Nat) (h_this_text : Nat) (tapeSize_this : Int32) (listSize_this : Int32) (itemSize_this : Int32) (wordSize_this : Int32) (textSize_this : Int32) (a_list : Nat → Int32) (res : Int32) :
    ∀ (x3 : Int32) (y0 : Int32), p_M_ending_80 N listSize_this a_list x3 y0 = some res → ∀ (H : Heap) (locs : List Loc), va_P D classes [(h_this, .inr (2, [.ref h_this_tape, .int tapeSize_this, .ref h_this_list, .int listSize_this, .ref h_this_item, .int itemSize_this, .ref h_this_word, .int wordSize_this, .ref h_this_text, .int textSize_this])), (h_this_list, .inl (cA, 1024, .inl a_list))] H → va_D A [(h_this, .inr (2, [.ref h_this_tape, .int tapeSize_this, .ref h_this_list, .int listSize_this, .ref h_this_item, .int itemSize_this, .ref h_this_word, .int wordSize_this, .ref h_this_text, .int textSize_this])), (h_this_list, .inl (cA, 1024, .inl a_list))] → va_S A s.heap H locs → ∀ (ls : Array Slot), lv_has ls 5 [(3, .int x3)] → W p l e rm_M_ending s m args below meth c H locs 0 0 (QI .int below args s D cA A (res) [(h_this, .inr (2, [.ref h_this_tape, .int tapeSize_this, .ref h_this_list, .int listSize_this, .ref h_this_item, .int itemSize_this, .ref h_this_word, .int wordSize_this, .ref h_this_text, .int textSize_this])), (h_this_list, .inl (cA, 1024, .inl a_list))]) (F0 m 80 ls [.int y0]) := by
  obtain ⟨hx, hb, hr, hml, hown, hG, hlk⟩ := id C0
  intro x3 y0 h H locs hP hD hS ls hl
  unfold p_M_ending_80 at h
  refine lv_istore (lv' := [(4, .int y0), (3, .int x3)]) hx hb d_M_ending_80 hl (by decide) rfl (fun ls hl => ?_)
  refine lv_iload hx hb d_M_ending_82 (lv_at hl 0 rfl) ?_
  refine lv_if_eq (tgt := 93) hx hb d_M_ending_84 (by decide) (fun c_84 => ?_) (fun c_84 => ?_)
  · have h := iteP c_84 h
    refine lv_bipush (v := (-2 : Int32)) hx hb d_M_ending_93 (by decide) ?_
    obtain rfl := Option.some.inj h
    exact rI (v := (-2 : Int32)) C0 (vp_nar_int _) hK hP hD hS d_M_ending_95
  · have h := iteN c_84 h
    refine lv_iload_n hx hb d_M_ending_87 rfl (lv_at hl 1 rfl) ?_
    refine lv_iconst (v := (1 : Int32)) hx hb d_M_ending_88 (by decide) ?_
    refine lv_iadd hx hb d_M_ending_89 ?_
    refine lv_goto (tgt := 95) hx hb d_M_ending_90 (by decide) ?_
    obtain rfl := Option.some.inj h
    exact rI (v := (x3 + (1 : Int32))) C0 (vp_nar_int _) hK hP hD hS d_M_ending_95
set_option maxHeartbeats 4000000 in
set_option maxRecDepth 100000 in
theorem t_M_ending_79 {p : Program} {l : Launch} {e : Env} {s : State} {m : MethodId} {args : Array Value} {below : List Frame} {meth : Method} {c : Code} {D : va_G} {cA : ClassId} {zz : zT} {A : Nat → Prop} (C0 : Cx p s m args meth c b_M_ending R_M 5 (some .int)) (hK : va_K D classes [(cA, .int)] s) (hA : ∀ q : Nat, s.heap.size ≤ q → A q) (hZ : ZS zz A s s.heap) (N : Nat) (h_this : Nat) (h_this_tape : Nat) (h_this_list : Nat) (h_this_item : Nat) (h_this_word : Nat) (h_this_text : Nat) (tapeSize_this : Int32) (listSize_this : Int32) (itemSize_this : Int32) (wordSize_this : Int32) (textSize_this : Int32) (a_list : Nat → Int32) (res : Int32) :
    ∀ (x3 : Int32), p_M_ending_79 N listSize_this a_list x3 = some res → ∀ (H : Heap) (locs : List Loc), va_P D classes [(h_this, .inr (2, [.ref h_this_tape, .int tapeSize_this, .ref h_this_list, .int listSize_this, .ref h_this_item, .int itemSize_this, .ref h_this_word, .int wordSize_this, .ref h_this_text, .int textSize_this])), (h_this_list, .inl (cA, 1024, .inl a_list))] H → va_D A [(h_this, .inr (2, [.ref h_this_tape, .int tapeSize_this, .ref h_this_list, .int listSize_this, .ref h_this_item, .int itemSize_this, .ref h_this_word, .int wordSize_this, .ref h_this_text, .int textSize_this])), (h_this_list, .inl (cA, 1024, .inl a_list))] → va_S A s.heap H locs → ∀ (ls : Array Slot), lv_has ls 5 [(3, .int x3)] → W p l e rm_M_ending s m args below meth c H locs 0 0 (QI .int below args s D cA A (res) [(h_this, .inr (2, [.ref h_this_tape, .int tapeSize_this, .ref h_this_list, .int listSize_this, .ref h_this_item, .int itemSize_this, .ref h_this_word, .int wordSize_this, .ref h_this_text, .int textSize_this])), (h_this_list, .inl (cA, 1024, .inl a_list))]) (F0 m 79 ls []) := by
  obtain ⟨hx, hb, hr, hml, hown, hG, hlk⟩ := id C0
  intro x3 h H locs hP hD hS ls hl
  unfold p_M_ending_79 at h
  refine lv_iconst (v := (0 : Int32)) hx hb d_M_ending_79 (by decide) ?_
  exact t_M_ending_80 C0 hK hA hZ N h_this h_this_tape h_this_list h_this_item h_this_word h_this_text tapeSize_this listSize_this itemSize_this wordSize_this textSize_this a_list res _ _ h H locs hP hD hS ls (lv_sub hl [0] rfl)
set_option maxHeartbeats 4000000 in
set_option maxRecDepth 100000 in
theorem t_M_ending_75 {p : Program} {l : Launch} {e : Env} {s : State} {m : MethodId} {args : Array Value} {below : List Frame} {meth : Method} {c : Code} {D : va_G} {cA : ClassId} {zz : zT} {A : Nat → Prop} (C0 : Cx p s m args meth c b_M_ending R_M 5 (some .int)) (hK : va_K D classes [(cA, .int)] s) (hA : ∀ q : Nat, s.heap.size ≤ q → A q) (hZ : ZS zz A s s.heap) (N : Nat) (h_this : Nat) (h_this_tape : Nat) (h_this_list : Nat) (h_this_item : Nat) (h_this_word : Nat) (h_this_text : Nat) (tapeSize_this : Int32) (listSize_this : Int32) (itemSize_this : Int32) (wordSize_this : Int32) (textSize_this : Int32) (a_list : Nat → Int32) (res : Int32) :
    ∀ (x3 : Int32), p_M_ending_75 N listSize_this a_list x3 = some res → ∀ (H : Heap) (locs : List Loc), va_P D classes [(h_this, .inr (2, [.ref h_this_tape, .int tapeSize_this, .ref h_this_list, .int listSize_this, .ref h_this_item, .int itemSize_this, .ref h_this_word, .int wordSize_this, .ref h_this_text, .int textSize_this])), (h_this_list, .inl (cA, 1024, .inl a_list))] H → va_D A [(h_this, .inr (2, [.ref h_this_tape, .int tapeSize_this, .ref h_this_list, .int listSize_this, .ref h_this_item, .int itemSize_this, .ref h_this_word, .int wordSize_this, .ref h_this_text, .int textSize_this])), (h_this_list, .inl (cA, 1024, .inl a_list))] → va_S A s.heap H locs → ∀ (ls : Array Slot), lv_has ls 5 [(3, .int x3)] → W p l e rm_M_ending s m args below meth c H locs 0 0 (QI .int below args s D cA A (res) [(h_this, .inr (2, [.ref h_this_tape, .int tapeSize_this, .ref h_this_list, .int listSize_this, .ref h_this_item, .int itemSize_this, .ref h_this_word, .int wordSize_this, .ref h_this_text, .int textSize_this])), (h_this_list, .inl (cA, 1024, .inl a_list))]) (F0 m 75 ls []) := by
  obtain ⟨hx, hb, hr, hml, hown, hG, hlk⟩ := id C0
  intro x3 h H locs hP hD hS ls hl
  unfold p_M_ending_75 at h
  refine lv_iconst (v := (1 : Int32)) hx hb d_M_ending_75 (by decide) ?_
  refine lv_goto (tgt := 80) hx hb d_M_ending_76 (by decide) ?_
  exact t_M_ending_80 C0 hK hA hZ N h_this h_this_tape h_this_list h_this_item h_this_word h_this_text tapeSize_this listSize_this itemSize_this wordSize_this textSize_this a_list res _ _ h H locs hP hD hS ls (lv_sub hl [0] rfl)
set_option maxHeartbeats 4000000 in
set_option maxRecDepth 100000 in
theorem t_M_ending_43 {p : Program} {l : Launch} {e : Env} {s : State} {m : MethodId} {args : Array Value} {below : List Frame} {meth : Method} {c : Code} {D : va_G} {cA : ClassId} {zz : zT} {A : Nat → Prop} (C0 : Cx p s m args meth c b_M_ending R_M 5 (some .int)) (hK : va_K D classes [(cA, .int)] s) (hA : ∀ q : Nat, s.heap.size ≤ q → A q) (hZ : ZS zz A s s.heap) (N : Nat) (h_this : Nat) (h_this_tape : Nat) (h_this_list : Nat) (h_this_item : Nat) (h_this_word : Nat) (h_this_text : Nat) (tapeSize_this : Int32) (listSize_this : Int32) (itemSize_this : Int32) (wordSize_this : Int32) (textSize_this : Int32) (a_list : Nat → Int32) (res : Int32) :
    ∀ (y0 : Int32), p_M_ending_43 N listSize_this a_list y0 = some res → ∀ (H : Heap) (locs : List Loc), va_P D classes [(h_this, .inr (2, [.ref h_this_tape, .int tapeSize_this, .ref h_this_list, .int listSize_this, .ref h_this_item, .int itemSize_this, .ref h_this_word, .int wordSize_this, .ref h_this_text, .int textSize_this])), (h_this_list, .inl (cA, 1024, .inl a_list))] H → va_D A [(h_this, .inr (2, [.ref h_this_tape, .int tapeSize_this, .ref h_this_list, .int listSize_this, .ref h_this_item, .int itemSize_this, .ref h_this_word, .int wordSize_this, .ref h_this_text, .int textSize_this])), (h_this_list, .inl (cA, 1024, .inl a_list))] → va_S A s.heap H locs → ∀ (ls : Array Slot), lv_has ls 5 [(0, .ref h_this)] → W p l e rm_M_ending s m args below meth c H locs 0 0 (QI .int below args s D cA A (res) [(h_this, .inr (2, [.ref h_this_tape, .int tapeSize_this, .ref h_this_list, .int listSize_this, .ref h_this_item, .int itemSize_this, .ref h_this_word, .int wordSize_this, .ref h_this_text, .int textSize_this])), (h_this_list, .inl (cA, 1024, .inl a_list))]) (F0 m 43 ls [.int y0]) := by
  obtain ⟨hx, hb, hr, hml, hown, hG, hlk⟩ := id C0
  intro y0 h H locs hP hD hS ls hl
  unfold p_M_ending_43 at h
  refine lv_istore_n (lv' := [(3, .int y0), (0, .ref h_this)]) hx hb d_M_ending_43 rfl hl (by decide) rfl (fun ls hl => ?_)
  refine lv_iload_n hx hb d_M_ending_44 rfl (lv_at hl 0 rfl) ?_
  refine lv_aload_n hx hb d_M_ending_45 rfl (lv_at hl 1 rfl) ?_
  refine va_get (D := D) (ci := 2) (v := .int listSize_this) (C := R_M) (T := F_M) (N := 10) hx hb hG i_M hown hK hP 0 rfl rfl 3 (by decide) (hG _ f_M_25) (fun _ h9 => h9) rfl d_M_ending_46 ?_
  refine lv_icmp_ge (tgt := 79) hx hb d_M_ending_49 (by decide) (fun c_49 => ?_) (fun c_49 => ?_)
  · have h := iteP c_49 h
    exact t_M_ending_79 C0 hK hA hZ N h_this h_this_tape h_this_list h_this_item h_this_word h_this_text tapeSize_this listSize_this itemSize_this wordSize_this textSize_this a_list res _ h H locs hP hD hS ls (lv_sub hl [0] rfl)
  · have h := iteN c_49 h
    refine lv_iload_n hx hb d_M_ending_52 rfl (lv_at hl 0 rfl) ?_
    refine lv_iconst (v := (1 : Int32)) hx hb d_M_ending_53 (by decide) ?_
    refine lv_iadd hx hb d_M_ending_54 ?_
    refine lv_aload_n hx hb d_M_ending_55 rfl (lv_at hl 1 rfl) ?_
    refine va_get (D := D) (ci := 2) (v := .int listSize_this) (C := R_M) (T := F_M) (N := 10) hx hb hG i_M hown hK hP 0 rfl rfl 3 (by decide) (hG _ f_M_25) (fun _ h9 => h9) rfl d_M_ending_56 ?_
    refine lv_icmp_eq (tgt := 75) hx hb d_M_ending_59 (by decide) (fun c_59 => ?_) (fun c_59 => ?_)
    · have h := iteP c_59 h
      exact t_M_ending_75 C0 hK hA hZ N h_this h_this_tape h_this_list h_this_item h_this_word h_this_text tapeSize_this listSize_this itemSize_this wordSize_this textSize_this a_list res _ h H locs hP hD hS ls (lv_sub hl [0] rfl)
    · have h := iteN c_59 h
      refine lv_aload_n hx hb d_M_ending_62 rfl (lv_at hl 1 rfl) ?_
      refine lv_iload_n hx hb d_M_ending_63 rfl (lv_at hl 0 rfl) ?_
      refine lv_iconst (v := (1 : Int32)) hx hb d_M_ending_64 (by decide) ?_
      refine lv_iadd hx hb d_M_ending_65 ?_
      obtain ⟨r_66, h_66, h⟩ := bindS h
      refine call_vi (wr := []) (w1 := [(h_this, .inr (2, [.ref h_this_tape, .int tapeSize_this, .ref h_this_list, .int listSize_this, .ref h_this_item, .int itemSize_this, .ref h_this_word, .int wordSize_this, .ref h_this_text, .int textSize_this])), (h_this_list, .inl (cA, 1024, .inl a_list))]) (wN := [(h_this, .inr (2, [.ref h_this_tape, .int tapeSize_this, .ref h_this_list, .int listSize_this, .ref h_this_item, .int itemSize_this, .ref h_this_word, .int wordSize_this, .ref h_this_text, .int textSize_this])), (h_this_list, .inl (cA, 1024, .inl a_list))]) (rest := []) C0 hK hP hD hS hA hZ (c_M_at l D cA zz N h_this h_this_tape h_this_list h_this_item h_this_word h_this_text tapeSize_this listSize_this itemSize_this wordSize_this textSize_this a_list (y0 + (1 : Int32)) r_66 h_66) [0, 1] [] [0, 1] rfl rfl rfl rfl (by decide) rfl rfl 0 2 rfl rfl m_M_29 ⟨Nat.le_of_ble_eq_true rfl, Nat.le_of_ble_eq_true rfl⟩ ⟨rfl, rfl⟩ rfl hl.1 rfl (Nat.le_of_ble_eq_true rfl) ⟨Nat.le_of_ble_eq_true rfl, Nat.le_of_ble_eq_true rfl⟩ d_M_ending_66 (fun b_66 H locs hP hD hS => ?_)
      obtain ⟨r_69, h_69, h⟩ := bindS h
      refine call_si (wr := [(h_this, .inr (2, [.ref h_this_tape, .int tapeSize_this, .ref h_this_list, .int listSize_this, .ref h_this_item, .int itemSize_this, .ref h_this_word, .int wordSize_this, .ref h_this_text, .int textSize_this])), (h_this_list, .inl (cA, 1024, .inl a_list))]) (w1 := []) (wN := [(h_this, .inr (2, [.ref h_this_tape, .int tapeSize_this, .ref h_this_list, .int listSize_this, .ref h_this_item, .int itemSize_this, .ref h_this_word, .int wordSize_this, .ref h_this_text, .int textSize_this])), (h_this_list, .inl (cA, 1024, .inl a_list))]) (rest := []) C0 hK hP hD hS hA hZ (c_M_isSpace l D cA zz N r_66 r_69 h_69) [] [0, 1] [0, 1] rfl rfl rfl rfl (by decide) rfl rfl m_M_33 ⟨Nat.le_of_ble_eq_true rfl, Nat.le_of_ble_eq_true rfl⟩ ⟨rfl, rfl⟩ rfl hl.1 rfl (Nat.le_of_ble_eq_true rfl) ⟨Nat.le_of_ble_eq_true rfl, Nat.le_of_ble_eq_true rfl⟩ d_M_ending_69 (fun b_69 H locs hP hD hS => ?_)
      refine lv_if_eq (tgt := 79) hx hb d_M_ending_72 (by decide) (fun c_72 => ?_) (fun c_72 => ?_)
      · have h := iteP c_72 h
        exact t_M_ending_79 C0 hK hA hZ N h_this h_this_tape h_this_list h_this_item h_this_word h_this_text tapeSize_this listSize_this itemSize_this wordSize_this textSize_this a_list res _ h H locs hP hD hS ls (lv_sub hl [0] rfl)
      · have h := iteN c_72 h
        exact t_M_ending_75 C0 hK hA hZ N h_this h_this_tape h_this_list h_this_item h_this_word h_this_text tapeSize_this listSize_this itemSize_this wordSize_this textSize_this a_list res _ h H locs hP hD hS ls (lv_sub hl [0] rfl)
set_option maxHeartbeats 4000000 in
set_option maxRecDepth 100000 in
theorem t_M_ending_24 {p : Program} {l : Launch} {e : Env} {s : State} {m : MethodId} {args : Array Value} {below : List Frame} {meth : Method} {c : Code} {D : va_G} {cA : ClassId} {zz : zT} {A : Nat → Prop} (C0 : Cx p s m args meth c b_M_ending R_M 5 (some .int)) (hK : va_K D classes [(cA, .int)] s) (hA : ∀ q : Nat, s.heap.size ≤ q → A q) (hZ : ZS zz A s s.heap) (N : Nat) (h_this : Nat) (h_this_tape : Nat) (h_this_list : Nat) (h_this_item : Nat) (h_this_word : Nat) (h_this_text : Nat) (tapeSize_this : Int32) (listSize_this : Int32) (itemSize_this : Int32) (wordSize_this : Int32) (textSize_this : Int32) (a_list : Nat → Int32) (res : Int32) :
    ∀ (x1 : Int32) (x2 : Int32), p_M_ending_24 N listSize_this a_list x1 x2 = some res → ∀ (H : Heap) (locs : List Loc), va_P D classes [(h_this, .inr (2, [.ref h_this_tape, .int tapeSize_this, .ref h_this_list, .int listSize_this, .ref h_this_item, .int itemSize_this, .ref h_this_word, .int wordSize_this, .ref h_this_text, .int textSize_this])), (h_this_list, .inl (cA, 1024, .inl a_list))] H → va_D A [(h_this, .inr (2, [.ref h_this_tape, .int tapeSize_this, .ref h_this_list, .int listSize_this, .ref h_this_item, .int itemSize_this, .ref h_this_word, .int wordSize_this, .ref h_this_text, .int textSize_this])), (h_this_list, .inl (cA, 1024, .inl a_list))] → va_S A s.heap H locs → ∀ (ls : Array Slot), lv_has ls 5 [(0, .ref h_this), (1, .int x1), (2, .int x2)] → W p l e rm_M_ending s m args below meth c H locs 0 0 (QI .int below args s D cA A (res) [(h_this, .inr (2, [.ref h_this_tape, .int tapeSize_this, .ref h_this_list, .int listSize_this, .ref h_this_item, .int itemSize_this, .ref h_this_word, .int wordSize_this, .ref h_this_text, .int textSize_this])), (h_this_list, .inl (cA, 1024, .inl a_list))]) (F0 m 24 ls []) := by
  obtain ⟨hx, hb, hr, hml, hown, hG, hlk⟩ := id C0
  intro x1 x2 h H locs hP hD hS ls hl
  unfold p_M_ending_24 at h
  refine lv_iload_n hx hb d_M_ending_24 rfl (lv_at hl 2 rfl) ?_
  refine lv_bipush (v := (123 : Int32)) hx hb d_M_ending_25 (by decide) ?_
  refine lv_icmp_ne (tgt := 38) hx hb d_M_ending_27 (by decide) (fun c_27 => ?_) (fun c_27 => ?_)
  · have h := iteN c_27 h
    refine lv_aload_n hx hb d_M_ending_38 rfl (lv_at hl 0 rfl) ?_
    refine lv_iload_n hx hb d_M_ending_39 rfl (lv_at hl 1 rfl) ?_
    obtain ⟨r_40, h_40, h⟩ := bindS h
    refine call_vi (wr := []) (w1 := [(h_this, .inr (2, [.ref h_this_tape, .int tapeSize_this, .ref h_this_list, .int listSize_this, .ref h_this_item, .int itemSize_this, .ref h_this_word, .int wordSize_this, .ref h_this_text, .int textSize_this])), (h_this_list, .inl (cA, 1024, .inl a_list))]) (wN := [(h_this, .inr (2, [.ref h_this_tape, .int tapeSize_this, .ref h_this_list, .int listSize_this, .ref h_this_item, .int itemSize_this, .ref h_this_word, .int wordSize_this, .ref h_this_text, .int textSize_this])), (h_this_list, .inl (cA, 1024, .inl a_list))]) (rest := []) C0 hK hP hD hS hA hZ (c_M_quote l D cA zz N h_this h_this_tape h_this_list h_this_item h_this_word h_this_text tapeSize_this listSize_this itemSize_this wordSize_this textSize_this a_list x1 r_40 h_40) [0, 1] [] [0, 1] rfl rfl rfl rfl (by decide) rfl rfl 0 2 rfl rfl m_M_46 ⟨Nat.le_of_ble_eq_true rfl, Nat.le_of_ble_eq_true rfl⟩ ⟨rfl, rfl⟩ rfl hl.1 rfl (Nat.le_of_ble_eq_true rfl) ⟨Nat.le_of_ble_eq_true rfl, Nat.le_of_ble_eq_true rfl⟩ d_M_ending_40 (fun b_40 H locs hP hD hS => ?_)
    exact t_M_ending_43 C0 hK hA hZ N h_this h_this_tape h_this_list h_this_item h_this_word h_this_text tapeSize_this listSize_this itemSize_this wordSize_this textSize_this a_list res _ h H locs hP hD hS ls (lv_sub hl [0] rfl)
  · have h := iteP c_27 h
    refine lv_aload_n hx hb d_M_ending_30 rfl (lv_at hl 0 rfl) ?_
    refine lv_iload_n hx hb d_M_ending_31 rfl (lv_at hl 1 rfl) ?_
    obtain ⟨r_32, h_32, h⟩ := bindS h
    refine call_vi (wr := []) (w1 := [(h_this, .inr (2, [.ref h_this_tape, .int tapeSize_this, .ref h_this_list, .int listSize_this, .ref h_this_item, .int itemSize_this, .ref h_this_word, .int wordSize_this, .ref h_this_text, .int textSize_this])), (h_this_list, .inl (cA, 1024, .inl a_list))]) (wN := [(h_this, .inr (2, [.ref h_this_tape, .int tapeSize_this, .ref h_this_list, .int listSize_this, .ref h_this_item, .int itemSize_this, .ref h_this_word, .int wordSize_this, .ref h_this_text, .int textSize_this])), (h_this_list, .inl (cA, 1024, .inl a_list))]) (rest := []) C0 hK hP hD hS hA hZ (c_M_closing l D cA zz N h_this h_this_tape h_this_list h_this_item h_this_word h_this_text tapeSize_this listSize_this itemSize_this wordSize_this textSize_this a_list x1 r_32 h_32) [0, 1] [] [0, 1] rfl rfl rfl rfl (by decide) rfl rfl 0 2 rfl rfl m_M_43 ⟨Nat.le_of_ble_eq_true rfl, Nat.le_of_ble_eq_true rfl⟩ ⟨rfl, rfl⟩ rfl hl.1 rfl (Nat.le_of_ble_eq_true rfl) ⟨Nat.le_of_ble_eq_true rfl, Nat.le_of_ble_eq_true rfl⟩ d_M_ending_32 (fun b_32 H locs hP hD hS => ?_)
    refine lv_goto (tgt := 43) hx hb d_M_ending_35 (by decide) ?_
    exact t_M_ending_43 C0 hK hA hZ N h_this h_this_tape h_this_list h_this_item h_this_word h_this_text tapeSize_this listSize_this itemSize_this wordSize_this textSize_this a_list res _ h H locs hP hD hS ls (lv_sub hl [0] rfl)
set_option maxHeartbeats 4000000 in
set_option maxRecDepth 100000 in
theorem t_M_ending_0 {p : Program} {l : Launch} {e : Env} {s : State} {m : MethodId} {args : Array Value} {below : List Frame} {meth : Method} {c : Code} {D : va_G} {cA : ClassId} {zz : zT} {A : Nat → Prop} (C0 : Cx p s m args meth c b_M_ending R_M 5 (some .int)) (hK : va_K D classes [(cA, .int)] s) (hA : ∀ q : Nat, s.heap.size ≤ q → A q) (hZ : ZS zz A s s.heap) (N : Nat) (h_this : Nat) (h_this_tape : Nat) (h_this_list : Nat) (h_this_item : Nat) (h_this_word : Nat) (h_this_text : Nat) (tapeSize_this : Int32) (listSize_this : Int32) (itemSize_this : Int32) (wordSize_this : Int32) (textSize_this : Int32) (a_list : Nat → Int32) (res : Int32) :
    ∀ (x1 : Int32), p_M_ending_0 N listSize_this a_list x1 = some res → ∀ (H : Heap) (locs : List Loc), va_P D classes [(h_this, .inr (2, [.ref h_this_tape, .int tapeSize_this, .ref h_this_list, .int listSize_this, .ref h_this_item, .int itemSize_this, .ref h_this_word, .int wordSize_this, .ref h_this_text, .int textSize_this])), (h_this_list, .inl (cA, 1024, .inl a_list))] H → va_D A [(h_this, .inr (2, [.ref h_this_tape, .int tapeSize_this, .ref h_this_list, .int listSize_this, .ref h_this_item, .int itemSize_this, .ref h_this_word, .int wordSize_this, .ref h_this_text, .int textSize_this])), (h_this_list, .inl (cA, 1024, .inl a_list))] → va_S A s.heap H locs → ∀ (ls : Array Slot), lv_has ls 5 [(0, .ref h_this), (1, .int x1)] → W p l e rm_M_ending s m args below meth c H locs 0 0 (QI .int below args s D cA A (res) [(h_this, .inr (2, [.ref h_this_tape, .int tapeSize_this, .ref h_this_list, .int listSize_this, .ref h_this_item, .int itemSize_this, .ref h_this_word, .int wordSize_this, .ref h_this_text, .int textSize_this])), (h_this_list, .inl (cA, 1024, .inl a_list))]) (F0 m 0 ls []) := by
  obtain ⟨hx, hb, hr, hml, hown, hG, hlk⟩ := id C0
  intro x1 h H locs hP hD hS ls hl
  unfold p_M_ending_0 at h
  refine lv_aload_n hx hb d_M_ending_0 rfl (lv_at hl 0 rfl) ?_
  refine lv_iload_n hx hb d_M_ending_1 rfl (lv_at hl 1 rfl) ?_
  obtain ⟨r_2, h_2, h⟩ := bindS h
  refine call_vi (wr := []) (w1 := [(h_this, .inr (2, [.ref h_this_tape, .int tapeSize_this, .ref h_this_list, .int listSize_this, .ref h_this_item, .int itemSize_this, .ref h_this_word, .int wordSize_this, .ref h_this_text, .int textSize_this])), (h_this_list, .inl (cA, 1024, .inl a_list))]) (wN := [(h_this, .inr (2, [.ref h_this_tape, .int tapeSize_this, .ref h_this_list, .int listSize_this, .ref h_this_item, .int itemSize_this, .ref h_this_word, .int wordSize_this, .ref h_this_text, .int textSize_this])), (h_this_list, .inl (cA, 1024, .inl a_list))]) (rest := []) C0 hK hP hD hS hA hZ (c_M_at l D cA zz N h_this h_this_tape h_this_list h_this_item h_this_word h_this_text tapeSize_this listSize_this itemSize_this wordSize_this textSize_this a_list x1 r_2 h_2) [0, 1] [] [0, 1] rfl rfl rfl rfl (by decide) rfl rfl 0 2 rfl rfl m_M_29 ⟨Nat.le_of_ble_eq_true rfl, Nat.le_of_ble_eq_true rfl⟩ ⟨rfl, rfl⟩ rfl hl.1 rfl (Nat.le_of_ble_eq_true rfl) ⟨Nat.le_of_ble_eq_true rfl, Nat.le_of_ble_eq_true rfl⟩ d_M_ending_2 (fun b_2 H locs hP hD hS => ?_)
  refine lv_istore_n (lv' := [(2, .int r_2), (0, .ref h_this), (1, .int x1)]) hx hb d_M_ending_5 rfl hl (by decide) rfl (fun ls hl => ?_)
  refine lv_iload_n hx hb d_M_ending_6 rfl (lv_at hl 0 rfl) ?_
  refine lv_bipush (v := (123 : Int32)) hx hb d_M_ending_7 (by decide) ?_
  refine lv_icmp_eq (tgt := 24) hx hb d_M_ending_9 (by decide) (fun c_9 => ?_) (fun c_9 => ?_)
  · have h := iteP c_9 h
    exact t_M_ending_24 C0 hK hA hZ N h_this h_this_tape h_this_list h_this_item h_this_word h_this_text tapeSize_this listSize_this itemSize_this wordSize_this textSize_this a_list res _ _ h H locs hP hD hS ls (lv_sub hl [1, 2, 0] rfl)
  · have h := iteN c_9 h
    refine lv_iload_n hx hb d_M_ending_12 rfl (lv_at hl 0 rfl) ?_
    refine lv_bipush (v := (34 : Int32)) hx hb d_M_ending_13 (by decide) ?_
    refine lv_icmp_eq (tgt := 24) hx hb d_M_ending_15 (by decide) (fun c_15 => ?_) (fun c_15 => ?_)
    · have h := iteP c_15 h
      exact t_M_ending_24 C0 hK hA hZ N h_this h_this_tape h_this_list h_this_item h_this_word h_this_text tapeSize_this listSize_this itemSize_this wordSize_this textSize_this a_list res _ _ h H locs hP hD hS ls (lv_sub hl [1, 2, 0] rfl)
    · have h := iteN c_15 h
      refine lv_aload_n hx hb d_M_ending_18 rfl (lv_at hl 1 rfl) ?_
      refine lv_iload_n hx hb d_M_ending_19 rfl (lv_at hl 2 rfl) ?_
      obtain ⟨r_20, h_20, h⟩ := bindS h
      refine call_vi (wr := []) (w1 := [(h_this, .inr (2, [.ref h_this_tape, .int tapeSize_this, .ref h_this_list, .int listSize_this, .ref h_this_item, .int itemSize_this, .ref h_this_word, .int wordSize_this, .ref h_this_text, .int textSize_this])), (h_this_list, .inl (cA, 1024, .inl a_list))]) (wN := [(h_this, .inr (2, [.ref h_this_tape, .int tapeSize_this, .ref h_this_list, .int listSize_this, .ref h_this_item, .int itemSize_this, .ref h_this_word, .int wordSize_this, .ref h_this_text, .int textSize_this])), (h_this_list, .inl (cA, 1024, .inl a_list))]) (rest := []) C0 hK hP hD hS hA hZ (c_M_bare l D cA zz N h_this h_this_tape h_this_list h_this_item h_this_word h_this_text tapeSize_this listSize_this itemSize_this wordSize_this textSize_this a_list x1 r_20 h_20) [0, 1] [] [0, 1] rfl rfl rfl rfl (by decide) rfl rfl 0 2 rfl rfl m_M_40 ⟨Nat.le_of_ble_eq_true rfl, Nat.le_of_ble_eq_true rfl⟩ ⟨rfl, rfl⟩ rfl hl.1 rfl (Nat.le_of_ble_eq_true rfl) ⟨Nat.le_of_ble_eq_true rfl, Nat.le_of_ble_eq_true rfl⟩ d_M_ending_20 (fun b_20 H locs hP hD hS => ?_)
      obtain rfl := Option.some.inj h
      exact rI (v := r_20) C0 (vp_nar_int _) hK hP hD hS d_M_ending_23
theorem c_M_ending (l : Launch) (D : va_G) (cA : ClassId) (zz : zT) (N : Nat) (h_this : Nat) (h_this_tape : Nat) (h_this_list : Nat) (h_this_item : Nat) (h_this_word : Nat) (h_this_text : Nat) (tapeSize_this : Int32) (listSize_this : Int32) (itemSize_this : Int32) (wordSize_this : Int32) (textSize_this : Int32) (a_list : Nat → Int32) (x1 : Int32) (res : Int32) (h : p_M_ending N listSize_this a_list x1 = some res) : MI l D cA zz y_M_ending b_M_ending 5 .int rm_M_ending [.ref h_this, .int x1] [(h_this, .inr (2, [.ref h_this_tape, .int tapeSize_this, .ref h_this_list, .int listSize_this, .ref h_this_item, .int itemSize_this, .ref h_this_word, .int wordSize_this, .ref h_this_text, .int textSize_this])), (h_this_list, .inl (cA, 1024, .inl a_list))] (res) [(h_this, .inr (2, [.ref h_this_tape, .int tapeSize_this, .ref h_this_list, .int listSize_this, .ref h_this_item, .int itemSize_this, .ref h_this_word, .int wordSize_this, .ref h_this_text, .int textSize_this])), (h_this_list, .inl (cA, 1024, .inl a_list))] := by
  unfold p_M_ending at h
  exact MI_enter (by decide) (Nat.le_of_ble_eq_true rfl) (fun p e s m below meth c A ls C0 hK hA hZ hP hD hl => t_M_ending_0 C0 hK hA hZ N h_this h_this_tape h_this_list h_this_item h_this_word h_this_text tapeSize_this listSize_this itemSize_this wordSize_this textSize_this a_list res _ h s.heap [] hP hD va_S.rf ls hl)
