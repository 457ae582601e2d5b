-- ListWords.itemAt(I)I
set_option maxHeartbeats 4000000 in
set_option maxRecDepth 100000 in
theorem t_X_itemAt_0 {p : Program} {l : Launch} {e : Env} {s : State} {m : MethodId} {args : Array Value} {below : List Frame} {meth : Method} {c : Code} {D : va_G} {cA : ClassId} {zz : zT} {A : Nat → Prop} (C0 : Cx p s m args meth c b_X_itemAt R_X 2 (some .int)) (hK : va_K D classes [(cA, .int)] s) (hA : ∀ q : Nat, s.heap.size ≤ q → A q) (hZ : ZS zz A s s.heap) (N : Nat) (h_this : Nat) (h_this_tape : Nat) (h_this_list : Nat) (h_this_item : Nat) (h_this_item_bytes : Nat) (h_this_word : Nat) (h_this_written : Nat) (place_this : Int32) (size_item : Int32) (a_item_bytes : Nat → Int32) (res : Int32) :
    ∀ (x1 : Int32), p_X_itemAt_0 N size_item a_item_bytes x1 = some res → ∀ (H : Heap) (locs : List Loc), va_P D classes [(h_this, .inr (1, [.ref h_this_tape, .ref h_this_list, .ref h_this_item, .ref h_this_word, .ref h_this_written, .int place_this])), (h_this_item, .inr (0, [.ref h_this_item_bytes, .int size_item])), (h_this_item_bytes, .inl (cA, 1024, .inl a_item_bytes))] H → va_D A [(h_this, .inr (1, [.ref h_this_tape, .ref h_this_list, .ref h_this_item, .ref h_this_word, .ref h_this_written, .int place_this])), (h_this_item, .inr (0, [.ref h_this_item_bytes, .int size_item])), (h_this_item_bytes, .inl (cA, 1024, .inl a_item_bytes))] → va_S A s.heap H locs → ∀ (ls : Array Slot), lv_has ls 2 [(0, .ref h_this), (1, .int x1)] → W p l e rm_X_itemAt s m args below meth c H locs 0 0 (QI .int below args s D cA A (res) [(h_this, .inr (1, [.ref h_this_tape, .ref h_this_list, .ref h_this_item, .ref h_this_word, .ref h_this_written, .int place_this])), (h_this_item, .inr (0, [.ref h_this_item_bytes, .int size_item])), (h_this_item_bytes, .inl (cA, 1024, .inl a_item_bytes))]) (F0 m 0 ls []) := by
  obtain ⟨hx, hb, hr, hml, hown, hG, hlk⟩ := id C0
  intro x1 h H locs hP hD hS ls hl
  unfold p_X_itemAt_0 at h
  refine lv_aload_n hx hb d_X_itemAt_0 rfl (lv_at hl 0 rfl) ?_
  refine va_get (D := D) (ci := 1) (v := .ref h_this_item) (C := R_X) (T := F_X) (N := 6) hx hb hG i_X hown hK hP 0 rfl rfl 2 (by decide) (hG _ f_X_19) (fun _ h9 => h9) rfl d_X_itemAt_1 ?_
  refine lv_iload_n hx hb d_X_itemAt_4 rfl (lv_at hl 1 rfl) ?_
  obtain ⟨r_5, h_5, h⟩ := bindS h
  refine call_vi (wr := [(h_this, .inr (1, [.ref h_this_tape, .ref h_this_list, .ref h_this_item, .ref h_this_word, .ref h_this_written, .int place_this]))]) (w1 := [(h_this_item, .inr (0, [.ref h_this_item_bytes, .int size_item])), (h_this_item_bytes, .inl (cA, 1024, .inl a_item_bytes))]) (wN := [(h_this, .inr (1, [.ref h_this_tape, .ref h_this_list, .ref h_this_item, .ref h_this_word, .ref h_this_written, .int place_this])), (h_this_item, .inr (0, [.ref h_this_item_bytes, .int size_item])), (h_this_item_bytes, .inl (cA, 1024, .inl a_item_bytes))]) (rest := []) C0 hK hP hD hS hA hZ (c_R_byteAt l D cA zz N h_this_item h_this_item_bytes size_item a_item_bytes x1 r_5 h_5) [1, 2] [0] [0, 1, 2] rfl rfl rfl rfl (by decide) rfl rfl 0 0 rfl rfl m_X_58 ⟨Nat.le_of_ble_eq_true rfl, Nat.le_of_ble_eq_true rfl⟩ ⟨rfl, rfl⟩ rfl hl.1 rfl (Nat.le_of_ble_eq_true rfl) ⟨Nat.le_of_ble_eq_true rfl, Nat.le_of_ble_eq_true rfl⟩ d_X_itemAt_5 (fun b_5 H locs hP hD hS => ?_)
  obtain rfl := Option.some.inj h
  exact rI (v := r_5) C0 (vp_nar_int _) hK hP hD hS d_X_itemAt_8
theorem c_X_itemAt (l : Launch) (D : va_G) (cA : ClassId) (zz : zT) (N : Nat) (h_this : Nat) (h_this_tape : Nat) (h_this_list : Nat) (h_this_item : Nat) (h_this_item_bytes : Nat) (h_this_word : Nat) (h_this_written : Nat) (place_this : Int32) (size_item : Int32) (a_item_bytes : Nat → Int32) (x1 : Int32) (res : Int32) (h : p_X_itemAt N size_item a_item_bytes x1 = some res) : MI l D cA zz y_X_itemAt b_X_itemAt 2 .int rm_X_itemAt [.ref h_this, .int x1] [(h_this, .inr (1, [.ref h_this_tape, .ref h_this_list, .ref h_this_item, .ref h_this_word, .ref h_this_written, .int place_this])), (h_this_item, .inr (0, [.ref h_this_item_bytes, .int size_item])), (h_this_item_bytes, .inl (cA, 1024, .inl a_item_bytes))] (res) [(h_this, .inr (1, [.ref h_this_tape, .ref h_this_list, .ref h_this_item, .ref h_this_word, .ref h_this_written, .int place_this])), (h_this_item, .inr (0, [.ref h_this_item_bytes, .int size_item])), (h_this_item_bytes, .inl (cA, 1024, .inl a_item_bytes))] := by
  unfold p_X_itemAt at h
  exact MI_enter (by decide) (Nat.le_of_ble_eq_true rfl) (fun p e s m below meth c A ls C0 hK hA hZ hP hD hl => t_X_itemAt_0 C0 hK hA hZ N h_this h_this_tape h_this_list h_this_item h_this_item_bytes h_this_word h_this_written place_this size_item a_item_bytes res _ h s.heap [] hP hD va_S.rf ls hl)
-- ListWords.listAt(I)I
set_option maxHeartbeats 4000000 in
set_option maxRecDepth 100000 in
theorem t_X_listAt_0 {p : Program} {l : Launch} {e : Env} {s : State} {m : MethodId} {args : Array Value} {below : List Frame} {meth : Method} {c : Code} {D : va_G} {cA : ClassId} {zz : zT} {A : Nat → Prop} (C0 : Cx p s m args meth c b_X_listAt R_X 2 (some .int)) (hK : va_K D classes [(cA, .int)] s) (hA : ∀ q : Nat, s.heap.size ≤ q → A q) (hZ : ZS zz A s s.heap) (N : Nat) (h_this : Nat) (h_this_tape : Nat) (h_this_list : Nat) (h_this_list_bytes : Nat) (h_this_item : Nat) (h_this_word : Nat) (h_this_written : Nat) (place_this : Int32) (size_list : Int32) (a_list_bytes : Nat → Int32) (res : Int32) :
    ∀ (x1 : Int32), p_X_listAt_0 N size_list a_list_bytes x1 = some res → ∀ (H : Heap) (locs : List Loc), va_P D classes [(h_this, .inr (1, [.ref h_this_tape, .ref h_this_list, .ref h_this_item, .ref h_this_word, .ref h_this_written, .int place_this])), (h_this_list, .inr (0, [.ref h_this_list_bytes, .int size_list])), (h_this_list_bytes, .inl (cA, 1024, .inl a_list_bytes))] H → va_D A [(h_this, .inr (1, [.ref h_this_tape, .ref h_this_list, .ref h_this_item, .ref h_this_word, .ref h_this_written, .int place_this])), (h_this_list, .inr (0, [.ref h_this_list_bytes, .int size_list])), (h_this_list_bytes, .inl (cA, 1024, .inl a_list_bytes))] → va_S A s.heap H locs → ∀ (ls : Array Slot), lv_has ls 2 [(0, .ref h_this), (1, .int x1)] → W p l e rm_X_listAt s m args below meth c H locs 0 0 (QI .int below args s D cA A (res) [(h_this, .inr (1, [.ref h_this_tape, .ref h_this_list, .ref h_this_item, .ref h_this_word, .ref h_this_written, .int place_this])), (h_this_list, .inr (0, [.ref h_this_list_bytes, .int size_list])), (h_this_list_bytes, .inl (cA, 1024, .inl a_list_bytes))]) (F0 m 0 ls []) := by
  obtain ⟨hx, hb, hr, hml, hown, hG, hlk⟩ := id C0
  intro x1 h H locs hP hD hS ls hl
  unfold p_X_listAt_0 at h
  refine lv_aload_n hx hb d_X_listAt_0 rfl (lv_at hl 0 rfl) ?_
  refine va_get (D := D) (ci := 1) (v := .ref h_this_list) (C := R_X) (T := F_X) (N := 6) hx hb hG i_X hown hK hP 0 rfl rfl 1 (by decide) (hG _ f_X_16) (fun _ h9 => h9) rfl d_X_listAt_1 ?_
  refine lv_iload_n hx hb d_X_listAt_4 rfl (lv_at hl 1 rfl) ?_
  obtain ⟨r_5, h_5, h⟩ := bindS h
  refine call_vi (wr := [(h_this, .inr (1, [.ref h_this_tape, .ref h_this_list, .ref h_this_item, .ref h_this_word, .ref h_this_written, .int place_this]))]) (w1 := [(h_this_list, .inr (0, [.ref h_this_list_bytes, .int size_list])), (h_this_list_bytes, .inl (cA, 1024, .inl a_list_bytes))]) (wN := [(h_this, .inr (1, [.ref h_this_tape, .ref h_this_list, .ref h_this_item, .ref h_this_word, .ref h_this_written, .int place_this])), (h_this_list, .inr (0, [.ref h_this_list_bytes, .int size_list])), (h_this_list_bytes, .inl (cA, 1024, .inl a_list_bytes))]) (rest := []) C0 hK hP hD hS hA hZ (c_R_byteAt l D cA zz N h_this_list h_this_list_bytes size_list a_list_bytes x1 r_5 h_5) [1, 2] [0] [0, 1, 2] rfl rfl rfl rfl (by decide) rfl rfl 0 0 rfl rfl m_X_58 ⟨Nat.le_of_ble_eq_true rfl, Nat.le_of_ble_eq_true rfl⟩ ⟨rfl, rfl⟩ rfl hl.1 rfl (Nat.le_of_ble_eq_true rfl) ⟨Nat.le_of_ble_eq_true rfl, Nat.le_of_ble_eq_true rfl⟩ d_X_listAt_5 (fun b_5 H locs hP hD hS => ?_)
  obtain rfl := Option.some.inj h
  exact rI (v := r_5) C0 (vp_nar_int _) hK hP hD hS d_X_listAt_8
theorem c_X_listAt (l : Launch) (D : va_G) (cA : ClassId) (zz : zT) (N : Nat) (h_this : Nat) (h_this_tape : Nat) (h_this_list : Nat) (h_this_list_bytes : Nat) (h_this_item : Nat) (h_this_word : Nat) (h_this_written : Nat) (place_this : Int32) (size_list : Int32) (a_list_bytes : Nat → Int32) (x1 : Int32) (res : Int32) (h : p_X_listAt N size_list a_list_bytes x1 = some res) : MI l D cA zz y_X_listAt b_X_listAt 2 .int rm_X_listAt [.ref h_this, .int x1] [(h_this, .inr (1, [.ref h_this_tape, .ref h_this_list, .ref h_this_item, .ref h_this_word, .ref h_this_written, .int place_this])), (h_this_list, .inr (0, [.ref h_this_list_bytes, .int size_list])), (h_this_list_bytes, .inl (cA, 1024, .inl a_list_bytes))] (res) [(h_this, .inr (1, [.ref h_this_tape, .ref h_this_list, .ref h_this_item, .ref h_this_word, .ref h_this_written, .int place_this])), (h_this_list, .inr (0, [.ref h_this_list_bytes, .int size_list])), (h_this_list_bytes, .inl (cA, 1024, .inl a_list_bytes))] := by
  unfold p_X_listAt at h
  exact MI_enter (by decide) (Nat.le_of_ble_eq_true rfl) (fun p e s m below meth c A ls C0 hK hA hZ hP hD hl => t_X_listAt_0 C0 hK hA hZ N h_this h_this_tape h_this_list h_this_list_bytes h_this_item h_this_word h_this_written place_this size_list a_list_bytes res _ h s.heap [] hP hD va_S.rf ls hl)
-- ListWords.wrap()I
set_option maxHeartbeats 4000000 in
set_option maxRecDepth 100000 in
theorem t_X_wrap_0 {p : Program} {l : Launch} {e : Env} {s : State} {m : MethodId} {args : Array Value} {below : List Frame} {meth : Method} {c : Code} {D : va_G} {cA : ClassId} {zz : zT} {A : Nat → Prop} (C0 : Cx p s m args meth c b_X_wrap R_X 1 (some .int)) (hK : va_K D classes [(cA, .int)] s) (hA : ∀ q : Nat, s.heap.size ≤ q → A q) (hZ : ZS zz A s s.heap) (N : Nat) (h_this : Nat) (h_this_tape : Nat) (h_this_list : Nat) (h_this_list_bytes : Nat) (h_this_item : Nat) (h_this_item_bytes : Nat) (h_this_word : Nat) (h_this_written : Nat) (place_this : Int32) (a_list_bytes : Nat → Int32) (res : Int32 × Int32 × Int32 × (Nat → Int32)) :
    ∀ (size_list : Int32) (size_item : Int32) (a_item_bytes : Nat → Int32), p_X_wrap_0 N a_list_bytes size_list size_item a_item_bytes = some res → ∀ (H : Heap) (locs : List Loc), va_P D classes [(h_this, .inr (1, [.ref h_this_tape, .ref h_this_list, .ref h_this_item, .ref h_this_word, .ref h_this_written, .int place_this])), (h_this_list, .inr (0, [.ref h_this_list_bytes, .int size_list])), (h_this_list_bytes, .inl (cA, 1024, .inl a_list_bytes)), (h_this_item, .inr (0, [.ref h_this_item_bytes, .int size_item])), (h_this_item_bytes, .inl (cA, 1024, .inl a_item_bytes))] H → va_D A [(h_this, .inr (1, [.ref h_this_tape, .ref h_this_list, .ref h_this_item, .ref h_this_word, .ref h_this_written, .int place_this])), (h_this_list, .inr (0, [.ref h_this_list_bytes, .int size_list])), (h_this_list_bytes, .inl (cA, 1024, .inl a_list_bytes)), (h_this_item, .inr (0, [.ref h_this_item_bytes, .int size_item])), (h_this_item_bytes, .inl (cA, 1024, .inl a_item_bytes))] → va_S A s.heap H locs → ∀ (ls : Array Slot), lv_has ls 1 [(0, .ref h_this)] → W p l e rm_X_wrap s m args below meth c H locs 0 0 (QI .int below args s D cA A (res.1) [(h_this, .inr (1, [.ref h_this_tape, .ref h_this_list, .ref h_this_item, .ref h_this_word, .ref h_this_written, .int place_this])), (h_this_list, .inr (0, [.ref h_this_list_bytes, .int res.2.1])), (h_this_list_bytes, .inl (cA, 1024, .inl a_list_bytes)), (h_this_item, .inr (0, [.ref h_this_item_bytes, .int res.2.2.1])), (h_this_item_bytes, .inl (cA, 1024, .inl res.2.2.2))]) (F0 m 0 ls []) := by
  obtain ⟨hx, hb, hr, hml, hown, hG, hlk⟩ := id C0
  intro size_list size_item a_item_bytes h H locs hP hD hS ls hl
  unfold p_X_wrap_0 at h
  refine lv_aload_n hx hb d_X_wrap_0 rfl (lv_at hl 0 rfl) ?_
  refine va_get (D := D) (ci := 1) (v := .ref h_this_item) (C := R_X) (T := F_X) (N := 6) hx hb hG i_X hown hK hP 0 rfl rfl 2 (by decide) (hG _ f_X_19) (fun _ h9 => h9) rfl d_X_wrap_1 ?_
  refine lv_aload_n hx hb d_X_wrap_4 rfl (lv_at hl 0 rfl) ?_
  refine va_get (D := D) (ci := 1) (v := .ref h_this_list) (C := R_X) (T := F_X) (N := 6) hx hb hG i_X hown hK hP 0 rfl rfl 1 (by decide) (hG _ f_X_16) (fun _ h9 => h9) rfl d_X_wrap_5 ?_
  obtain ⟨r_8, h_8, h⟩ := bindS h
  refine call_vi (wr := [(h_this, .inr (1, [.ref h_this_tape, .ref h_this_list, .ref h_this_item, .ref h_this_word, .ref h_this_written, .int place_this]))]) (w1 := [(h_this_item, .inr (0, [.ref h_this_item_bytes, .int r_8.2.1])), (h_this_item_bytes, .inl (cA, 1024, .inl r_8.2.2.1)), (h_this_list, .inr (0, [.ref h_this_list_bytes, .int r_8.2.2.2])), (h_this_list_bytes, .inl (cA, 1024, .inl a_list_bytes))]) (wN := [(h_this, .inr (1, [.ref h_this_tape, .ref h_this_list, .ref h_this_item, .ref h_this_word, .ref h_this_written, .int place_this])), (h_this_list, .inr (0, [.ref h_this_list_bytes, .int r_8.2.2.2])), (h_this_list_bytes, .inl (cA, 1024, .inl a_list_bytes)), (h_this_item, .inr (0, [.ref h_this_item_bytes, .int r_8.2.1])), (h_this_item_bytes, .inl (cA, 1024, .inl r_8.2.2.1))]) (rest := []) C0 hK hP hD hS hA hZ (c_R_takeAll l D cA zz N h_this_item h_this_item_bytes h_this_list h_this_list_bytes size_item a_item_bytes size_list a_list_bytes r_8 h_8) [3, 4, 1, 2] [0] [0, 3, 4, 1, 2] rfl rfl rfl rfl (by decide) rfl rfl 0 0 rfl rfl m_X_44 ⟨Nat.le_of_ble_eq_true rfl, Nat.le_of_ble_eq_true rfl⟩ ⟨rfl, rfl⟩ rfl hl.1 rfl (Nat.le_of_ble_eq_true rfl) ⟨Nat.le_of_ble_eq_true rfl, Nat.le_of_ble_eq_true rfl⟩ d_X_wrap_8 (fun b_8 H locs hP hD hS => ?_)
  obtain rfl := Option.some.inj h
  exact rI (v := r_8.1) C0 (vp_nar_int _) hK hP hD hS d_X_wrap_11
theorem c_X_wrap (l : Launch) (D : va_G) (cA : ClassId) (zz : zT) (N : Nat) (h_this : Nat) (h_this_tape : Nat) (h_this_list : Nat) (h_this_list_bytes : Nat) (h_this_item : Nat) (h_this_item_bytes : Nat) (h_this_word : Nat) (h_this_written : Nat) (place_this : Int32) (size_list : Int32) (a_list_bytes : Nat → Int32) (size_item : Int32) (a_item_bytes : Nat → Int32) (res : Int32 × Int32 × Int32 × (Nat → Int32)) (h : p_X_wrap N size_list a_list_bytes size_item a_item_bytes = some res) : MI l D cA zz y_X_wrap b_X_wrap 1 .int rm_X_wrap [.ref h_this] [(h_this, .inr (1, [.ref h_this_tape, .ref h_this_list, .ref h_this_item, .ref h_this_word, .ref h_this_written, .int place_this])), (h_this_list, .inr (0, [.ref h_this_list_bytes, .int size_list])), (h_this_list_bytes, .inl (cA, 1024, .inl a_list_bytes)), (h_this_item, .inr (0, [.ref h_this_item_bytes, .int size_item])), (h_this_item_bytes, .inl (cA, 1024, .inl a_item_bytes))] (res.1) [(h_this, .inr (1, [.ref h_this_tape, .ref h_this_list, .ref h_this_item, .ref h_this_word, .ref h_this_written, .int place_this])), (h_this_list, .inr (0, [.ref h_this_list_bytes, .int res.2.1])), (h_this_list_bytes, .inl (cA, 1024, .inl a_list_bytes)), (h_this_item, .inr (0, [.ref h_this_item_bytes, .int res.2.2.1])), (h_this_item_bytes, .inl (cA, 1024, .inl res.2.2.2))] := by
  unfold p_X_wrap at h
  exact MI_enter (by decide) (Nat.le_of_ble_eq_true rfl) (fun p e s m below meth c A ls C0 hK hA hZ hP hD hl => t_X_wrap_0 C0 hK hA hZ N h_this h_this_tape h_this_list h_this_list_bytes h_this_item h_this_item_bytes h_this_word h_this_written place_this a_list_bytes res _ _ _ h s.heap [] hP hD va_S.rf ls hl)
-- ListWords.isNamedSpace(I)Z
set_option maxHeartbeats 4000000 in
set_option maxRecDepth 100000 in
theorem t_X_isNamedSpace_0 {p : Program} {l : Launch} {e : Env} {s : State} {m : MethodId} {args : Array Value} {below : List Frame} {meth : Method} {c : Code} {D : va_G} {cA : ClassId} {zz : zT} {A : Nat → Prop} (C0 : Cx p s m args meth c b_X_isNamedSpace R_X 1 (some .boolean)) (hK : va_K D classes [(cA, .int)] s) (hA : ∀ q : Nat, s.heap.size ≤ q → A q) (hZ : ZS zz A s s.heap) (N : Nat) (res : Int32) :
    ∀ (x0 : Int32), p_X_isNamedSpace_0 N x0 = some res → ∀ (H : Heap) (locs : List Loc), va_P D classes [] H → va_D A [] → va_S A s.heap H locs → ∀ (ls : Array Slot), lv_has ls 1 [(0, .int x0)] → W p l e rm_X_isNamedSpace s m args below meth c H locs 0 0 (QI .boolean below args s D cA A (res) []) (F0 m 0 ls []) := by
  obtain ⟨hx, hb, hr, hml, hown, hG, hlk⟩ := id C0
  intro x0 h H locs hP hD hS ls hl
  unfold p_X_isNamedSpace_0 at h
  refine lv_iload_n hx hb d_X_isNamedSpace_0 rfl (lv_at hl 0 rfl) ?_
  refine lv_bipush (v := (9 : Int32)) hx hb d_X_isNamedSpace_1 (by decide) ?_
  refine lv_icmp_lt (tgt := 16) hx hb d_X_isNamedSpace_3 (by decide) (fun c_3 => ?_) (fun c_3 => ?_)
  · have h := iteP c_3 h
    refine lv_iconst (v := (0 : Int32)) hx hb d_X_isNamedSpace_16 (by decide) ?_
    obtain rfl := Option.some.inj h
    exact rI (v := (0 : Int32)) C0 rfl hK hP hD hS d_X_isNamedSpace_17
  · have h := iteN c_3 h
    refine lv_iload_n hx hb d_X_isNamedSpace_6 rfl (lv_at hl 0 rfl) ?_
    refine lv_bipush (v := (13 : Int32)) hx hb d_X_isNamedSpace_7 (by decide) ?_
    refine lv_icmp_gt (tgt := 16) hx hb d_X_isNamedSpace_9 (by decide) (fun c_9 => ?_) (fun c_9 => ?_)
    · have h := iteP c_9 h
      refine lv_iconst (v := (0 : Int32)) hx hb d_X_isNamedSpace_16 (by decide) ?_
      obtain rfl := Option.some.inj h
      exact rI (v := (0 : Int32)) C0 rfl hK hP hD hS d_X_isNamedSpace_17
    · have h := iteN c_9 h
      refine lv_iconst (v := (1 : Int32)) hx hb d_X_isNamedSpace_12 (by decide) ?_
      refine lv_goto (tgt := 17) hx hb d_X_isNamedSpace_13 (by decide) ?_
      obtain rfl := Option.some.inj h
      exact rI (v := (1 : Int32)) C0 rfl hK hP hD hS d_X_isNamedSpace_17
theorem c_X_isNamedSpace (l : Launch) (D : va_G) (cA : ClassId) (zz : zT) (N : Nat)  (x0 : Int32) (res : Int32) (h : p_X_isNamedSpace N x0 = some res) : MI l D cA zz y_X_isNamedSpace b_X_isNamedSpace 1 .boolean rm_X_isNamedSpace [.int x0] [] (res) [] := by
  unfold p_X_isNamedSpace at h
  exact MI_enter (by decide) (Nat.le_of_ble_eq_true rfl) (fun p e s m below meth c A ls C0 hK hA hZ hP hD hl => t_X_isNamedSpace_0 C0 hK hA hZ N res _ h s.heap [] hP hD va_S.rf ls hl)
-- ListWords.isSpace(I)Z
set_option maxHeartbeats 4000000 in
set_option maxRecDepth 100000 in
theorem t_X_isSpace_0 {p : Program} {l : Launch} {e : Env} {s : State} {m : MethodId} {args : Array Value} {below : List Frame} {meth : Method} {c : Code} {D : va_G} {cA : ClassId} {zz : zT} {A : Nat → Prop} (C0 : Cx p s m args meth c b_X_isSpace R_X 1 (some .boolean)) (hK : va_K D classes [(cA, .int)] s) (hA : ∀ q : Nat, s.heap.size ≤ q → A q) (hZ : ZS zz A s s.heap) (N : Nat) (res : Int32) :
    ∀ (x0 : Int32), p_X_isSpace_0 N x0 = some res → ∀ (H : Heap) (locs : List Loc), va_P D classes [] H → va_D A [] → va_S A s.heap H locs → ∀ (ls : Array Slot), lv_has ls 1 [(0, .int x0)] → W p l e rm_X_isSpace s m args below meth c H locs 0 0 (QI .boolean below args s D cA A (res) []) (F0 m 0 ls []) := by
  obtain ⟨hx, hb, hr, hml, hown, hG, hlk⟩ := id C0
  intro x0 h H locs hP hD hS ls hl
  unfold p_X_isSpace_0 at h
  refine lv_iload_n hx hb d_X_isSpace_0 rfl (lv_at hl 0 rfl) ?_
  refine lv_bipush (v := (32 : Int32)) hx hb d_X_isSpace_1 (by decide) ?_
  refine lv_icmp_eq (tgt := 13) hx hb d_X_isSpace_3 (by decide) (fun c_3 => ?_) (fun c_3 => ?_)
  · have h := iteP c_3 h
    refine lv_iconst (v := (1 : Int32)) hx hb d_X_isSpace_13 (by decide) ?_
    refine lv_goto (tgt := 18) hx hb d_X_isSpace_14 (by decide) ?_
    obtain rfl := Option.some.inj h
    exact rI (v := (1 : Int32)) C0 rfl hK hP hD hS d_X_isSpace_18
  · have h := iteN c_3 h
    refine lv_iload_n hx hb d_X_isSpace_6 rfl (lv_at hl 0 rfl) ?_
    obtain ⟨r_7, h_7, h⟩ := bindS h
    refine call_si (wr := []) (w1 := []) (wN := []) (rest := []) C0 hK hP hD hS hA hZ (c_X_isNamedSpace l D cA zz N x0 r_7 h_7) [] [] [] rfl rfl rfl rfl (by decide) rfl rfl m_X_113 ⟨Nat.le_of_ble_eq_true rfl, Nat.le_of_ble_eq_true rfl⟩ ⟨rfl, rfl⟩ rfl hl.1 rfl (Nat.le_of_ble_eq_true rfl) ⟨Nat.le_of_ble_eq_true rfl, Nat.le_of_ble_eq_true rfl⟩ d_X_isSpace_7 (fun b_7 H locs hP hD hS => ?_)
    refine lv_if_eq (tgt := 17) hx hb d_X_isSpace_10 (by decide) (fun c_10 => ?_) (fun c_10 => ?_)
    · have h := iteP c_10 h
      refine lv_iconst (v := (0 : Int32)) hx hb d_X_isSpace_17 (by decide) ?_
      obtain rfl := Option.some.inj h
      exact rI (v := (0 : Int32)) C0 rfl hK hP hD hS d_X_isSpace_18
    · have h := iteN c_10 h
      refine lv_iconst (v := (1 : Int32)) hx hb d_X_isSpace_13 (by decide) ?_
      refine lv_goto (tgt := 18) hx hb d_X_isSpace_14 (by decide) ?_
      obtain rfl := Option.some.inj h
      exact rI (v := (1 : Int32)) C0 rfl hK hP hD hS d_X_isSpace_18
theorem c_X_isSpace (l : Launch) (D : va_G) (cA : ClassId) (zz : zT) (N : Nat)  (x0 : Int32) (res : Int32) (h : p_X_isSpace N x0 = some res) : MI l D cA zz y_X_isSpace b_X_isSpace 1 .boolean rm_X_isSpace [.int x0] [] (res) [] := by
  unfold p_X_isSpace at h
  exact MI_enter (by decide) (Nat.le_of_ble_eq_true rfl) (fun p e s m below meth c A ls C0 hK hA hZ hP hD hl => t_X_isSpace_0 C0 hK hA hZ N res _ h s.heap [] hP hD va_S.rf ls hl)
-- ListWords.behindSpaces(I)I
set_option maxHeartbeats 4000000 in
set_option maxRecDepth 100000 in
theorem t_X_behindSpaces_2 {p : Program} {l : Launch} {e : Env} {s : State} {m : MethodId} {args : Array Value} {below : List Frame} {meth : Method} {c : Code} {D : va_G} {cA : ClassId} {zz : zT} {A : Nat → Prop} (C0 : Cx p s m args meth c b_X_behindSpaces R_X 3 (some .int)) (hK : va_K D classes [(cA, .int)] s) (hA : ∀ q : Nat, s.heap.size ≤ q → A q) (hZ : ZS zz A s s.heap) (N : Nat) (h_this : Nat) (h_this_tape : Nat) (h_this_list : Nat) (h_this_list_bytes : Nat) (h_this_item : Nat) (h_this_word : Nat) (h_this_written : Nat) (place_this : Int32) (size_list : Int32) (a_list_bytes : Nat → Int32) (res : Int32) :
    ∀ (n : Nat), ∀ (x2 : Int32), p_X_behindSpaces_2 N size_list a_list_bytes n x2 = some res → ∀ (H : Heap) (locs : List Loc), va_P D classes [(h_this, .inr (1, [.ref h_this_tape, .ref h_this_list, .ref h_this_item, .ref h_this_word, .ref h_this_written, .int place_this])), (h_this_list, .inr (0, [.ref h_this_list_bytes, .int size_list])), (h_this_list_bytes, .inl (cA, 1024, .inl a_list_bytes))] H → va_D A [(h_this, .inr (1, [.ref h_this_tape, .ref h_this_list, .ref h_this_item, .ref h_this_word, .ref h_this_written, .int place_this])), (h_this_list, .inr (0, [.ref h_this_list_bytes, .int size_list])), (h_this_list_bytes, .inl (cA, 1024, .inl a_list_bytes))] → va_S A s.heap H locs → ∀ (ls : Array Slot), lv_has ls 3 [(0, .ref h_this), (2, .int x2)] → W p l e rm_X_behindSpaces s m args below meth c H locs 0 0 (QI .int below args s D cA A (res) [(h_this, .inr (1, [.ref h_this_tape, .ref h_this_list, .ref h_this_item, .ref h_this_word, .ref h_this_written, .int place_this])), (h_this_list, .inr (0, [.ref h_this_list_bytes, .int size_list])), (h_this_list_bytes, .inl (cA, 1024, .inl a_list_bytes))]) (F0 m 2 ls []) := by
  obtain ⟨hx, hb, hr, hml, hown, hG, hlk⟩ := id C0
  intro n
  induction n with
  | zero =>
    intro x2 h H locs hP hD hS ls hl
    exact absurd h (by simp [p_X_behindSpaces_2])
  | succ n ih =>
    intro x2 h H locs hP hD hS ls hl
    rw [p_X_behindSpaces_2] at h
    refine lv_iload_n hx hb d_X_behindSpaces_2 rfl (lv_at hl 1 rfl) ?_
    refine lv_aload_n hx hb d_X_behindSpaces_3 rfl (lv_at hl 0 rfl) ?_
    refine va_get (D := D) (ci := 1) (v := .ref h_this_list) (C := R_X) (T := F_X) (N := 6) hx hb hG i_X hown hK hP 0 rfl rfl 1 (by decide) (hG _ f_X_16) (fun _ h9 => h9) rfl d_X_behindSpaces_4 ?_
    obtain ⟨r_7, h_7, h⟩ := bindS h
    refine call_vi (wr := [(h_this, .inr (1, [.ref h_this_tape, .ref h_this_list, .ref h_this_item, .ref h_this_word, .ref h_this_written, .int place_this])), (h_this_list_bytes, .inl (cA, 1024, .inl a_list_bytes))]) (w1 := [(h_this_list, .inr (0, [.ref h_this_list_bytes, .int size_list]))]) (wN := [(h_this, .inr (1, [.ref h_this_tape, .ref h_this_list, .ref h_this_item, .ref h_this_word, .ref h_this_written, .int place_this])), (h_this_list, .inr (0, [.ref h_this_list_bytes, .int size_list])), (h_this_list_bytes, .inl (cA, 1024, .inl a_list_bytes))]) (rest := [.int x2]) C0 hK hP hD hS hA hZ (c_R_size l D cA zz N h_this_list h_this_list_bytes size_list r_7 h_7) [1] [0, 2] [0, 2, 1] rfl rfl rfl rfl (by decide) rfl rfl 0 0 rfl rfl m_X_32 ⟨Nat.le_of_ble_eq_true rfl, Nat.le_of_ble_eq_true rfl⟩ ⟨rfl, rfl⟩ rfl hl.1 rfl (Nat.le_of_ble_eq_true rfl) ⟨Nat.le_of_ble_eq_true rfl, Nat.le_of_ble_eq_true rfl⟩ d_X_behindSpaces_7 (fun b_7 H locs hP hD hS => ?_)
    refine lv_icmp_ge (tgt := 33) hx hb d_X_behindSpaces_10 (by decide) (fun c_10 => ?_) (fun c_10 => ?_)
    · have h := iteP c_10 h
      refine lv_iload_n hx hb d_X_behindSpaces_33 rfl (lv_at hl 1 rfl) ?_
      obtain rfl := Option.some.inj h
      exact rI (v := x2) C0 (vp_nar_int _) hK hP hD hS d_X_behindSpaces_34
    · have h := iteN c_10 h
      refine lv_aload_n hx hb d_X_behindSpaces_13 rfl (lv_at hl 0 rfl) ?_
      refine va_get (D := D) (ci := 1) (v := .ref h_this_list) (C := R_X) (T := F_X) (N := 6) hx hb hG i_X hown hK hP 0 rfl rfl 1 (by decide) (hG _ f_X_16) (fun _ h9 => h9) rfl d_X_behindSpaces_14 ?_
      refine lv_iload_n hx hb d_X_behindSpaces_17 rfl (lv_at hl 1 rfl) ?_
      obtain ⟨r_18, h_18, h⟩ := bindS h
      refine call_vi (wr := [(h_this, .inr (1, [.ref h_this_tape, .ref h_this_list, .ref h_this_item, .ref h_this_word, .ref h_this_written, .int place_this]))]) (w1 := [(h_this_list, .inr (0, [.ref h_this_list_bytes, .int size_list])), (h_this_list_bytes, .inl (cA, 1024, .inl a_list_bytes))]) (wN := [(h_this, .inr (1, [.ref h_this_tape, .ref h_this_list, .ref h_this_item, .ref h_this_word, .ref h_this_written, .int place_this])), (h_this_list, .inr (0, [.ref h_this_list_bytes, .int size_list])), (h_this_list_bytes, .inl (cA, 1024, .inl a_list_bytes))]) (rest := []) C0 hK hP hD hS hA hZ (c_R_byteAt l D cA zz N h_this_list h_this_list_bytes size_list a_list_bytes x2 r_18 h_18) [1, 2] [0] [0, 1, 2] rfl rfl rfl rfl (by decide) rfl rfl 0 0 rfl rfl m_X_58 ⟨Nat.le_of_ble_eq_true rfl, Nat.le_of_ble_eq_true rfl⟩ ⟨rfl, rfl⟩ rfl hl.1 rfl (Nat.le_of_ble_eq_true rfl) ⟨Nat.le_of_ble_eq_true rfl, Nat.le_of_ble_eq_true rfl⟩ d_X_behindSpaces_18 (fun b_18 H locs hP hD hS => ?_)
      obtain ⟨r_21, h_21, h⟩ := bindS h
      refine call_si (wr := [(h_this, .inr (1, [.ref h_this_tape, .ref h_this_list, .ref h_this_item, .ref h_this_word, .ref h_this_written, .int place_this])), (h_this_list, .inr (0, [.ref h_this_list_bytes, .int size_list])), (h_this_list_bytes, .inl (cA, 1024, .inl a_list_bytes))]) (w1 := []) (wN := [(h_this, .inr (1, [.ref h_this_tape, .ref h_this_list, .ref h_this_item, .ref h_this_word, .ref h_this_written, .int place_this])), (h_this_list, .inr (0, [.ref h_this_list_bytes, .int size_list])), (h_this_list_bytes, .inl (cA, 1024, .inl a_list_bytes))]) (rest := []) C0 hK hP hD hS hA hZ (c_X_isSpace l D cA zz N r_18 r_21 h_21) [] [0, 1, 2] [0, 1, 2] rfl rfl rfl rfl (by decide) rfl rfl m_X_75 ⟨Nat.le_of_ble_eq_true rfl, Nat.le_of_ble_eq_true rfl⟩ ⟨rfl, rfl⟩ rfl hl.1 rfl (Nat.le_of_ble_eq_true rfl) ⟨Nat.le_of_ble_eq_true rfl, Nat.le_of_ble_eq_true rfl⟩ d_X_behindSpaces_21 (fun b_21 H locs hP hD hS => ?_)
      refine lv_if_eq (tgt := 33) hx hb d_X_behindSpaces_24 (by decide) (fun c_24 => ?_) (fun c_24 => ?_)
      · have h := iteP c_24 h
        refine lv_iload_n hx hb d_X_behindSpaces_33 rfl (lv_at hl 1 rfl) ?_
        obtain rfl := Option.some.inj h
        exact rI (v := x2) C0 (vp_nar_int _) hK hP hD hS d_X_behindSpaces_34
      · have h := iteN c_24 h
        refine lv_iinc (v := (x2 + (1 : Int32))) (lv' := [(2, .int (x2 + (1 : Int32))), (0, .ref h_this)]) hx hb d_X_behindSpaces_27 hl (k := 1) rfl rfl (by decide) rfl (fun ls hl => ?_)
        refine lv_goto (tgt := 2) hx hb d_X_behindSpaces_30 (by decide) ?_
        exact ih _ h H locs hP hD hS ls (lv_sub hl [1, 0] rfl)
set_option maxHeartbeats 4000000 in
set_option maxRecDepth 100000 in
theorem t_X_behindSpaces_0 {p : Program} {l : Launch} {e : Env} {s : State} {m : MethodId} {args : Array Value} {below : List Frame} {meth : Method} {c : Code} {D : va_G} {cA : ClassId} {zz : zT} {A : Nat → Prop} (C0 : Cx p s m args meth c b_X_behindSpaces R_X 3 (some .int)) (hK : va_K D classes [(cA, .int)] s) (hA : ∀ q : Nat, s.heap.size ≤ q → A q) (hZ : ZS zz A s s.heap) (N : Nat) (h_this : Nat) (h_this_tape : Nat) (h_this_list : Nat) (h_this_list_bytes : Nat) (h_this_item : Nat) (h_this_word : Nat) (h_this_written : Nat) (place_this : Int32) (size_list : Int32) (a_list_bytes : Nat → Int32) (res : Int32) :
    ∀ (x1 : Int32), p_X_behindSpaces_0 N size_list a_list_bytes x1 = some res → ∀ (H : Heap) (locs : List Loc), va_P D classes [(h_this, .inr (1, [.ref h_this_tape, .ref h_this_list, .ref h_this_item, .ref h_this_word, .ref h_this_written, .int place_this])), (h_this_list, .inr (0, [.ref h_this_list_bytes, .int size_list])), (h_this_list_bytes, .inl (cA, 1024, .inl a_list_bytes))] H → va_D A [(h_this, .inr (1, [.ref h_this_tape, .ref h_this_list, .ref h_this_item, .ref h_this_word, .ref h_this_written, .int place_this])), (h_this_list, .inr (0, [.ref h_this_list_bytes, .int size_list])), (h_this_list_bytes, .inl (cA, 1024, .inl a_list_bytes))] → va_S A s.heap H locs → ∀ (ls : Array Slot), lv_has ls 3 [(0, .ref h_this), (1, .int x1)] → W p l e rm_X_behindSpaces s m args below meth c H locs 0 0 (QI .int below args s D cA A (res) [(h_this, .inr (1, [.ref h_this_tape, .ref h_this_list, .ref h_this_item, .ref h_this_word, .ref h_this_written, .int place_this])), (h_this_list, .inr (0, [.ref h_this_list_bytes, .int size_list])), (h_this_list_bytes, .inl (cA, 1024, .inl a_list_bytes))]) (F0 m 0 ls []) := by
  obtain ⟨hx, hb, hr, hml, hown, hG, hlk⟩ := id C0
  intro x1 h H locs hP hD hS ls hl
  unfold p_X_behindSpaces_0 at h
  refine lv_iload_n hx hb d_X_behindSpaces_0 rfl (lv_at hl 1 rfl) ?_
  refine lv_istore_n (lv' := [(2, .int x1), (0, .ref h_this), (1, .int x1)]) hx hb d_X_behindSpaces_1 rfl hl (by decide) rfl (fun ls hl => ?_)
  exact t_X_behindSpaces_2 C0 hK hA hZ N h_this h_this_tape h_this_list h_this_list_bytes h_this_item h_this_word h_this_written place_this size_list a_list_bytes res N _ h H locs hP hD hS ls (lv_sub hl [1, 0] rfl)
theorem c_X_behindSpaces (l : Launch) (D : va_G) (cA : ClassId) (zz : zT) (N : Nat) (h_this : Nat) (h_this_tape : Nat) (h_this_list : Nat) (h_this_list_bytes : Nat) (h_this_item : Nat) (h_this_word : Nat) (h_this_written : Nat) (place_this : Int32) (size_list : Int32) (a_list_bytes : Nat → Int32) (x1 : Int32) (res : Int32) (h : p_X_behindSpaces N size_list a_list_bytes x1 = some res) : MI l D cA zz y_X_behindSpaces b_X_behindSpaces 3 .int rm_X_behindSpaces [.ref h_this, .int x1] [(h_this, .inr (1, [.ref h_this_tape, .ref h_this_list, .ref h_this_item, .ref h_this_word, .ref h_this_written, .int place_this])), (h_this_list, .inr (0, [.ref h_this_list_bytes, .int size_list])), (h_this_list_bytes, .inl (cA, 1024, .inl a_list_bytes))] (res) [(h_this, .inr (1, [.ref h_this_tape, .ref h_this_list, .ref h_this_item, .ref h_this_word, .ref h_this_written, .int place_this])), (h_this_list, .inr (0, [.ref h_this_list_bytes, .int size_list])), (h_this_list_bytes, .inl (cA, 1024, .inl a_list_bytes))] := by
  unfold p_X_behindSpaces at h
  exact MI_enter (by decide) (Nat.le_of_ble_eq_true rfl) (fun p e s m below meth c A ls C0 hK hA hZ hP hD hl => t_X_behindSpaces_0 C0 hK hA hZ N h_this h_this_tape h_this_list h_this_list_bytes h_this_item h_this_word h_this_written place_this size_list a_list_bytes res _ h s.heap [] hP hD va_S.rf ls hl)
-- ListWords.readBraced(I)I
set_option maxHeartbeats 4000000 in
set_option maxRecDepth 100000 in
theorem t_X_readBraced_48 {p : Program} {l : Launch} {e : Env} {s : State} {m : MethodId} {args : Array Value} {below : List Frame} {meth : Method} {c : Code} {D : va_G} {cA : ClassId} {zz : zT} {A : Nat → Prop} (C0 : Cx p s m args meth c b_X_readBraced R_X 5 (some .int)) (hK : va_K D classes [(cA, .int)] s) (hA : ∀ q : Nat, s.heap.size ≤ q → A q) (hZ : ZS zz A s s.heap) (N : Nat) (h_this : Nat) (h_this_tape : Nat) (h_this_list : Nat) (h_this_list_bytes : Nat) (h_this_item : Nat) (h_this_word : Nat) (h_this_word_bytes : Nat) (h_this_written : Nat) (place_this : Int32) (size_list : Int32) (a_list_bytes : Nat → Int32) (res : Int32 × Int32 × (Nat → Int32))
    (k_4 : Int32 → (Nat → Int32) → Int32 → Int32 → Option (Int32 × Int32 × (Nat → Int32))) (hk_4 : ∀ (size_word : Int32) (a_word_bytes : Nat → Int32) (x2 : Int32) (x3 : Int32), k_4 size_word a_word_bytes x2 x3 = some res → ∀ (H : Heap) (locs : List Loc), va_P D classes [(h_this, .inr (1, [.ref h_this_tape, .ref h_this_list, .ref h_this_item, .ref h_this_word, .ref h_this_written, .int place_this])), (h_this_list, .inr (0, [.ref h_this_list_bytes, .int size_list])), (h_this_list_bytes, .inl (cA, 1024, .inl a_list_bytes)), (h_this_word, .inr (0, [.ref h_this_word_bytes, .int size_word])), (h_this_word_bytes, .inl (cA, 1024, .inl a_word_bytes))] H → va_D A [(h_this, .inr (1, [.ref h_this_tape, .ref h_this_list, .ref h_this_item, .ref h_this_word, .ref h_this_written, .int place_this])), (h_this_list, .inr (0, [.ref h_this_list_bytes, .int size_list])), (h_this_list_bytes, .inl (cA, 1024, .inl a_list_bytes)), (h_this_word, .inr (0, [.ref h_this_word_bytes, .int size_word])), (h_this_word_bytes, .inl (cA, 1024, .inl a_word_bytes))] → va_S A s.heap H locs → ∀ (ls : Array Slot), lv_has ls 5 [(0, .ref h_this), (2, .int x2), (3, .int x3)] → W p l e rm_X_readBraced s m args below meth c H locs 0 0 (QI .int below args s D cA A (res.1) [(h_this, .inr (1, [.ref h_this_tape, .ref h_this_list, .ref h_this_item, .ref h_this_word, .ref h_this_written, .int place_this])), (h_this_list, .inr (0, [.ref h_this_list_bytes, .int size_list])), (h_this_list_bytes, .inl (cA, 1024, .inl a_list_bytes)), (h_this_word, .inr (0, [.ref h_this_word_bytes, .int res.2.1])), (h_this_word_bytes, .inl (cA, 1024, .inl res.2.2))]) (F0 m 4 ls [])) :
    ∀ (size_word : Int32) (a_word_bytes : Nat → Int32) (x2 : Int32) (x3 : Int32) (x4 : Int32), p_X_readBraced_48 N size_list a_list_bytes k_4 size_word a_word_bytes x2 x3 x4 = some res → ∀ (H : Heap) (locs : List Loc), va_P D classes [(h_this, .inr (1, [.ref h_this_tape, .ref h_this_list, .ref h_this_item, .ref h_this_word, .ref h_this_written, .int place_this])), (h_this_list, .inr (0, [.ref h_this_list_bytes, .int size_list])), (h_this_list_bytes, .inl (cA, 1024, .inl a_list_bytes)), (h_this_word, .inr (0, [.ref h_this_word_bytes, .int size_word])), (h_this_word_bytes, .inl (cA, 1024, .inl a_word_bytes))] H → va_D A [(h_this, .inr (1, [.ref h_this_tape, .ref h_this_list, .ref h_this_item, .ref h_this_word, .ref h_this_written, .int place_this])), (h_this_list, .inr (0, [.ref h_this_list_bytes, .int size_list])), (h_this_list_bytes, .inl (cA, 1024, .inl a_list_bytes)), (h_this_word, .inr (0, [.ref h_this_word_bytes, .int size_word])), (h_this_word_bytes, .inl (cA, 1024, .inl a_word_bytes))] → va_S A s.heap H locs → ∀ (ls : Array Slot), lv_has ls 5 [(0, .ref h_this), (2, .int x2), (3, .int x3), (4, .int x4)] → W p l e rm_X_readBraced s m args below meth c H locs 0 0 (QI .int below args s D cA A (res.1) [(h_this, .inr (1, [.ref h_this_tape, .ref h_this_list, .ref h_this_item, .ref h_this_word, .ref h_this_written, .int place_this])), (h_this_list, .inr (0, [.ref h_this_list_bytes, .int size_list])), (h_this_list_bytes, .inl (cA, 1024, .inl a_list_bytes)), (h_this_word, .inr (0, [.ref h_this_word_bytes, .int res.2.1])), (h_this_word_bytes, .inl (cA, 1024, .inl res.2.2))]) (F0 m 48 ls []) := by
  obtain ⟨hx, hb, hr, hml, hown, hG, hlk⟩ := id C0
  intro size_word a_word_bytes x2 x3 x4 h H locs hP hD hS ls hl
  unfold p_X_readBraced_48 at h
  refine lv_iload_n hx hb d_X_readBraced_48 rfl (lv_at hl 1 rfl) ?_
  refine lv_if_ne (tgt := 54) hx hb d_X_readBraced_49 (by decide) (fun c_49 => ?_) (fun c_49 => ?_)
  · have h := iteN c_49 h
    refine lv_aload_n hx hb d_X_readBraced_54 rfl (lv_at hl 0 rfl) ?_
    refine va_get (D := D) (ci := 1) (v := .ref h_this_word) (C := R_X) (T := F_X) (N := 6) hx hb hG i_X hown hK hP 0 rfl rfl 3 (by decide) (hG _ f_X_22) (fun _ h9 => h9) rfl d_X_readBraced_55 ?_
    refine lv_iload hx hb d_X_readBraced_58 (lv_at hl 3 rfl) ?_
    obtain ⟨r_60, h_60, h⟩ := bindS h
    refine call_vi (wr := [(h_this, .inr (1, [.ref h_this_tape, .ref h_this_list, .ref h_this_item, .ref h_this_word, .ref h_this_written, .int place_this])), (h_this_list, .inr (0, [.ref h_this_list_bytes, .int size_list])), (h_this_list_bytes, .inl (cA, 1024, .inl a_list_bytes))]) (w1 := [(h_this_word, .inr (0, [.ref h_this_word_bytes, .int r_60.2.1])), (h_this_word_bytes, .inl (cA, 1024, .inl r_60.2.2))]) (wN := [(h_this, .inr (1, [.ref h_this_tape, .ref h_this_list, .ref h_this_item, .ref h_this_word, .ref h_this_written, .int place_this])), (h_this_list, .inr (0, [.ref h_this_list_bytes, .int size_list])), (h_this_list_bytes, .inl (cA, 1024, .inl a_list_bytes)), (h_this_word, .inr (0, [.ref h_this_word_bytes, .int r_60.2.1])), (h_this_word_bytes, .inl (cA, 1024, .inl r_60.2.2))]) (rest := []) C0 hK hP hD hS hA hZ (c_R_put l D cA zz N h_this_word h_this_word_bytes size_word a_word_bytes x4 r_60 h_60) [3, 4] [0, 1, 2] [0, 1, 2, 3, 4] rfl rfl rfl rfl (by decide) rfl rfl 0 0 rfl rfl m_X_78 ⟨Nat.le_of_ble_eq_true rfl, Nat.le_of_ble_eq_true rfl⟩ ⟨rfl, rfl⟩ rfl hl.1 rfl (Nat.le_of_ble_eq_true rfl) ⟨Nat.le_of_ble_eq_true rfl, Nat.le_of_ble_eq_true rfl⟩ d_X_readBraced_60 (fun b_60 H locs hP hD hS => ?_)
    refine lv_pop hx hb d_X_readBraced_63 rfl ?_
    refine lv_iload hx hb d_X_readBraced_64 (lv_at hl 3 rfl) ?_
    refine lv_bipush (v := (92 : Int32)) hx hb d_X_readBraced_66 (by decide) ?_
    refine lv_icmp_ne (tgt := 103) hx hb d_X_readBraced_68 (by decide) (fun c_68 => ?_) (fun c_68 => ?_)
    · have h := iteN c_68 h
      refine lv_iinc (v := (x3 + (1 : Int32))) (lv' := [(3, .int (x3 + (1 : Int32))), (0, .ref h_this), (2, .int x2), (4, .int x4)]) hx hb d_X_readBraced_103 hl (k := 2) rfl rfl (by decide) rfl (fun ls hl => ?_)
      refine lv_goto (tgt := 4) hx hb d_X_readBraced_106 (by decide) ?_
      exact hk_4 _ _ _ _ h H locs hP hD hS ls (lv_sub hl [1, 2, 0] rfl)
    · have h := iteP c_68 h
      refine lv_iload_n hx hb d_X_readBraced_71 rfl (lv_at hl 2 rfl) ?_
      refine lv_iconst (v := (1 : Int32)) hx hb d_X_readBraced_72 (by decide) ?_
      refine lv_iadd hx hb d_X_readBraced_73 ?_
      refine lv_aload_n hx hb d_X_readBraced_74 rfl (lv_at hl 0 rfl) ?_
      refine va_get (D := D) (ci := 1) (v := .ref h_this_list) (C := R_X) (T := F_X) (N := 6) hx hb hG i_X hown hK hP 0 rfl rfl 1 (by decide) (hG _ f_X_16) (fun _ h9 => h9) rfl d_X_readBraced_75 ?_
      obtain ⟨r_78, h_78, h⟩ := bindS h
      refine call_vi (wr := [(h_this, .inr (1, [.ref h_this_tape, .ref h_this_list, .ref h_this_item, .ref h_this_word, .ref h_this_written, .int place_this])), (h_this_list_bytes, .inl (cA, 1024, .inl a_list_bytes)), (h_this_word, .inr (0, [.ref h_this_word_bytes, .int r_60.2.1])), (h_this_word_bytes, .inl (cA, 1024, .inl r_60.2.2))]) (w1 := [(h_this_list, .inr (0, [.ref h_this_list_bytes, .int size_list]))]) (wN := [(h_this, .inr (1, [.ref h_this_tape, .ref h_this_list, .ref h_this_item, .ref h_this_word, .ref h_this_written, .int place_this])), (h_this_list, .inr (0, [.ref h_this_list_bytes, .int size_list])), (h_this_list_bytes, .inl (cA, 1024, .inl a_list_bytes)), (h_this_word, .inr (0, [.ref h_this_word_bytes, .int r_60.2.1])), (h_this_word_bytes, .inl (cA, 1024, .inl r_60.2.2))]) (rest := [.int (x3 + (1 : Int32))]) C0 hK hP hD hS hA hZ (c_R_size l D cA zz N h_this_list h_this_list_bytes size_list r_78 h_78) [1] [0, 2, 3, 4] [0, 4, 1, 2, 3] rfl rfl rfl rfl (by decide) rfl rfl 0 0 rfl rfl m_X_32 ⟨Nat.le_of_ble_eq_true rfl, Nat.le_of_ble_eq_true rfl⟩ ⟨rfl, rfl⟩ rfl hl.1 rfl (Nat.le_of_ble_eq_true rfl) ⟨Nat.le_of_ble_eq_true rfl, Nat.le_of_ble_eq_true rfl⟩ d_X_readBraced_78 (fun b_78 H locs hP hD hS => ?_)
      refine lv_icmp_ge (tgt := 103) hx hb d_X_readBraced_81 (by decide) (fun c_81 => ?_) (fun c_81 => ?_)
      · have h := iteP c_81 h
        refine lv_iinc (v := (x3 + (1 : Int32))) (lv' := [(3, .int (x3 + (1 : Int32))), (0, .ref h_this), (2, .int x2), (4, .int x4)]) hx hb d_X_readBraced_103 hl (k := 2) rfl rfl (by decide) rfl (fun ls hl => ?_)
        refine lv_goto (tgt := 4) hx hb d_X_readBraced_106 (by decide) ?_
        exact hk_4 _ _ _ _ h H locs hP hD hS ls (lv_sub hl [1, 2, 0] rfl)
      · have h := iteN c_81 h
        refine lv_iinc (v := (x3 + (1 : Int32))) (lv' := [(3, .int (x3 + (1 : Int32))), (0, .ref h_this), (2, .int x2), (4, .int x4)]) hx hb d_X_readBraced_84 hl (k := 2) rfl rfl (by decide) rfl (fun ls hl => ?_)
        refine lv_aload_n hx hb d_X_readBraced_87 rfl (lv_at hl 1 rfl) ?_
        refine va_get (D := D) (ci := 1) (v := .ref h_this_word) (C := R_X) (T := F_X) (N := 6) hx hb hG i_X hown hK hP 0 rfl rfl 3 (by decide) (hG _ f_X_22) (fun _ h9 => h9) rfl d_X_readBraced_88 ?_
        refine lv_aload_n hx hb d_X_readBraced_91 rfl (lv_at hl 1 rfl) ?_
        refine va_get (D := D) (ci := 1) (v := .ref h_this_list) (C := R_X) (T := F_X) (N := 6) hx hb hG i_X hown hK hP 0 rfl rfl 1 (by decide) (hG _ f_X_16) (fun _ h9 => h9) rfl d_X_readBraced_92 ?_
        refine lv_iload_n hx hb d_X_readBraced_95 rfl (lv_at hl 0 rfl) ?_
        obtain ⟨r_96, h_96, h⟩ := bindS h
        refine call_vi (wr := [(h_this, .inr (1, [.ref h_this_tape, .ref h_this_list, .ref h_this_item, .ref h_this_word, .ref h_this_written, .int place_this])), (h_this_word, .inr (0, [.ref h_this_word_bytes, .int r_60.2.1])), (h_this_word_bytes, .inl (cA, 1024, .inl r_60.2.2))]) (w1 := [(h_this_list, .inr (0, [.ref h_this_list_bytes, .int size_list])), (h_this_list_bytes, .inl (cA, 1024, .inl a_list_bytes))]) (wN := [(h_this, .inr (1, [.ref h_this_tape, .ref h_this_list, .ref h_this_item, .ref h_this_word, .ref h_this_written, .int place_this])), (h_this_list, .inr (0, [.ref h_this_list_bytes, .int size_list])), (h_this_list_bytes, .inl (cA, 1024, .inl a_list_bytes)), (h_this_word, .inr (0, [.ref h_this_word_bytes, .int r_60.2.1])), (h_this_word_bytes, .inl (cA, 1024, .inl r_60.2.2))]) (rest := [.ref h_this_word]) C0 hK hP hD hS hA hZ (c_R_byteAt l D cA zz N h_this_list h_this_list_bytes size_list a_list_bytes (x3 + (1 : Int32)) r_96 h_96) [1, 2] [0, 3, 4] [0, 3, 4, 1, 2] rfl rfl rfl rfl (by decide) rfl rfl 0 0 rfl rfl m_X_58 ⟨Nat.le_of_ble_eq_true rfl, Nat.le_of_ble_eq_true rfl⟩ ⟨rfl, rfl⟩ rfl hl.1 rfl (Nat.le_of_ble_eq_true rfl) ⟨Nat.le_of_ble_eq_true rfl, Nat.le_of_ble_eq_true rfl⟩ d_X_readBraced_96 (fun b_96 H locs hP hD hS => ?_)
        obtain ⟨r_99, h_99, h⟩ := bindS h
        refine call_vi (wr := [(h_this, .inr (1, [.ref h_this_tape, .ref h_this_list, .ref h_this_item, .ref h_this_word, .ref h_this_written, .int place_this])), (h_this_list, .inr (0, [.ref h_this_list_bytes, .int size_list])), (h_this_list_bytes, .inl (cA, 1024, .inl a_list_bytes))]) (w1 := [(h_this_word, .inr (0, [.ref h_this_word_bytes, .int r_99.2.1])), (h_this_word_bytes, .inl (cA, 1024, .inl r_99.2.2))]) (wN := [(h_this, .inr (1, [.ref h_this_tape, .ref h_this_list, .ref h_this_item, .ref h_this_word, .ref h_this_written, .int place_this])), (h_this_list, .inr (0, [.ref h_this_list_bytes, .int size_list])), (h_this_list_bytes, .inl (cA, 1024, .inl a_list_bytes)), (h_this_word, .inr (0, [.ref h_this_word_bytes, .int r_99.2.1])), (h_this_word_bytes, .inl (cA, 1024, .inl r_99.2.2))]) (rest := []) C0 hK hP hD hS hA hZ (c_R_put l D cA zz N h_this_word h_this_word_bytes r_60.2.1 r_60.2.2 r_96 r_99 h_99) [3, 4] [0, 1, 2] [0, 1, 2, 3, 4] rfl rfl rfl rfl (by decide) rfl rfl 0 0 rfl rfl m_X_78 ⟨Nat.le_of_ble_eq_true rfl, Nat.le_of_ble_eq_true rfl⟩ ⟨rfl, rfl⟩ rfl hl.1 rfl (Nat.le_of_ble_eq_true rfl) ⟨Nat.le_of_ble_eq_true rfl, Nat.le_of_ble_eq_true rfl⟩ d_X_readBraced_99 (fun b_99 H locs hP hD hS => ?_)
        refine lv_pop hx hb d_X_readBraced_102 rfl ?_
        refine lv_iinc (v := ((x3 + (1 : Int32)) + (1 : Int32))) (lv' := [(3, .int ((x3 + (1 : Int32)) + (1 : Int32))), (0, .ref h_this), (2, .int x2), (4, .int x4)]) hx hb d_X_readBraced_103 hl (k := 0) rfl rfl (by decide) rfl (fun ls hl => ?_)
        refine lv_goto (tgt := 4) hx hb d_X_readBraced_106 (by decide) ?_
        exact hk_4 _ _ _ _ h H locs hP hD hS ls (lv_sub hl [1, 2, 0] rfl)
  · have h := iteP c_49 h
    refine lv_iload_n hx hb d_X_readBraced_52 rfl (lv_at hl 2 rfl) ?_
    obtain rfl := Option.some.inj h
    exact rI (v := x3) C0 (vp_nar_int _) hK hP hD hS d_X_readBraced_53
set_option maxHeartbeats 4000000 in
set_option maxRecDepth 100000 in
theorem t_X_readBraced_4 {p : Program} {l : Launch} {e : Env} {s : State} {m : MethodId} {args : Array Value} {below : List Frame} {meth : Method} {c : Code} {D : va_G} {cA : ClassId} {zz : zT} {A : Nat → Prop} (C0 : Cx p s m args meth c b_X_readBraced R_X 5 (some .int)) (hK : va_K D classes [(cA, .int)] s) (hA : ∀ q : Nat, s.heap.size ≤ q → A q) (hZ : ZS zz A s s.heap) (N : Nat) (h_this : Nat) (h_this_tape : Nat) (h_this_list : Nat) (h_this_list_bytes : Nat) (h_this_item : Nat) (h_this_word : Nat) (h_this_word_bytes : Nat) (h_this_written : Nat) (place_this : Int32) (size_list : Int32) (a_list_bytes : Nat → Int32) (res : Int32 × Int32 × (Nat → Int32)) :
    ∀ (n : Nat), ∀ (size_word : Int32) (a_word_bytes : Nat → Int32) (x2 : Int32) (x3 : Int32), p_X_readBraced_4 N size_list a_list_bytes n size_word a_word_bytes x2 x3 = some res → ∀ (H : Heap) (locs : List Loc), va_P D classes [(h_this, .inr (1, [.ref h_this_tape, .ref h_this_list, .ref h_this_item, .ref h_this_word, .ref h_this_written, .int place_this])), (h_this_list, .inr (0, [.ref h_this_list_bytes, .int size_list])), (h_this_list_bytes, .inl (cA, 1024, .inl a_list_bytes)), (h_this_word, .inr (0, [.ref h_this_word_bytes, .int size_word])), (h_this_word_bytes, .inl (cA, 1024, .inl a_word_bytes))] H → va_D A [(h_this, .inr (1, [.ref h_this_tape, .ref h_this_list, .ref h_this_item, .ref h_this_word, .ref h_this_written, .int place_this])), (h_this_list, .inr (0, [.ref h_this_list_bytes, .int size_list])), (h_this_list_bytes, .inl (cA, 1024, .inl a_list_bytes)), (h_this_word, .inr (0, [.ref h_this_word_bytes, .int size_word])), (h_this_word_bytes, .inl (cA, 1024, .inl a_word_bytes))] → va_S A s.heap H locs → ∀ (ls : Array Slot), lv_has ls 5 [(0, .ref h_this), (2, .int x2), (3, .int x3)] → W p l e rm_X_readBraced s m args below meth c H locs 0 0 (QI .int below args s D cA A (res.1) [(h_this, .inr (1, [.ref h_this_tape, .ref h_this_list, .ref h_this_item, .ref h_this_word, .ref h_this_written, .int place_this])), (h_this_list, .inr (0, [.ref h_this_list_bytes, .int size_list])), (h_this_list_bytes, .inl (cA, 1024, .inl a_list_bytes)), (h_this_word, .inr (0, [.ref h_this_word_bytes, .int res.2.1])), (h_this_word_bytes, .inl (cA, 1024, .inl res.2.2))]) (F0 m 4 ls []) := by
  obtain ⟨hx, hb, hr, hml, hown, hG, hlk⟩ := id C0
  intro n
  induction n with
  | zero =>
    intro size_word a_word_bytes x2 x3 h H locs hP hD hS ls hl
    exact absurd h (by simp [p_X_readBraced_4])
  | succ n ih =>
    intro size_word a_word_bytes x2 x3 h H locs hP hD hS ls hl
    rw [p_X_readBraced_4] at h
    refine lv_iload_n hx hb d_X_readBraced_4 rfl (lv_at hl 2 rfl) ?_
    refine lv_aload_n hx hb d_X_readBraced_5 rfl (lv_at hl 0 rfl) ?_
    refine va_get (D := D) (ci := 1) (v := .ref h_this_list) (C := R_X) (T := F_X) (N := 6) hx hb hG i_X hown hK hP 0 rfl rfl 1 (by decide) (hG _ f_X_16) (fun _ h9 => h9) rfl d_X_readBraced_6 ?_
    obtain ⟨r_9, h_9, h⟩ := bindS h
    refine call_vi (wr := [(h_this, .inr (1, [.ref h_this_tape, .ref h_this_list, .ref h_this_item, .ref h_this_word, .ref h_this_written, .int place_this])), (h_this_list_bytes, .inl (cA, 1024, .inl a_list_bytes)), (h_this_word, .inr (0, [.ref h_this_word_bytes, .int size_word])), (h_this_word_bytes, .inl (cA, 1024, .inl a_word_bytes))]) (w1 := [(h_this_list, .inr (0, [.ref h_this_list_bytes, .int size_list]))]) (wN := [(h_this, .inr (1, [.ref h_this_tape, .ref h_this_list, .ref h_this_item, .ref h_this_word, .ref h_this_written, .int place_this])), (h_this_list, .inr (0, [.ref h_this_list_bytes, .int size_list])), (h_this_list_bytes, .inl (cA, 1024, .inl a_list_bytes)), (h_this_word, .inr (0, [.ref h_this_word_bytes, .int size_word])), (h_this_word_bytes, .inl (cA, 1024, .inl a_word_bytes))]) (rest := [.int x3]) C0 hK hP hD hS hA hZ (c_R_size l D cA zz N h_this_list h_this_list_bytes size_list r_9 h_9) [1] [0, 2, 3, 4] [0, 4, 1, 2, 3] rfl rfl rfl rfl (by decide) rfl rfl 0 0 rfl rfl m_X_32 ⟨Nat.le_of_ble_eq_true rfl, Nat.le_of_ble_eq_true rfl⟩ ⟨rfl, rfl⟩ rfl hl.1 rfl (Nat.le_of_ble_eq_true rfl) ⟨Nat.le_of_ble_eq_true rfl, Nat.le_of_ble_eq_true rfl⟩ d_X_readBraced_9 (fun b_9 H locs hP hD hS => ?_)
    refine lv_icmp_ge (tgt := 109) hx hb d_X_readBraced_12 (by decide) (fun c_12 => ?_) (fun c_12 => ?_)
    · have h := iteP c_12 h
      refine lv_bipush (v := (-2 : Int32)) hx hb d_X_readBraced_109 (by decide) ?_
      obtain rfl := Option.some.inj h
      exact rI (v := (-2 : Int32)) C0 (vp_nar_int _) hK hP hD hS d_X_readBraced_111
    · have h := iteN c_12 h
      refine lv_aload_n hx hb d_X_readBraced_15 rfl (lv_at hl 0 rfl) ?_
      refine va_get (D := D) (ci := 1) (v := .ref h_this_list) (C := R_X) (T := F_X) (N := 6) hx hb hG i_X hown hK hP 0 rfl rfl 1 (by decide) (hG _ f_X_16) (fun _ h9 => h9) rfl d_X_readBraced_16 ?_
      refine lv_iload_n hx hb d_X_readBraced_19 rfl (lv_at hl 2 rfl) ?_
      obtain ⟨r_20, h_20, h⟩ := bindS h
      refine call_vi (wr := [(h_this, .inr (1, [.ref h_this_tape, .ref h_this_list, .ref h_this_item, .ref h_this_word, .ref h_this_written, .int place_this])), (h_this_word, .inr (0, [.ref h_this_word_bytes, .int size_word])), (h_this_word_bytes, .inl (cA, 1024, .inl a_word_bytes))]) (w1 := [(h_this_list, .inr (0, [.ref h_this_list_bytes, .int size_list])), (h_this_list_bytes, .inl (cA, 1024, .inl a_list_bytes))]) (wN := [(h_this, .inr (1, [.ref h_this_tape, .ref h_this_list, .ref h_this_item, .ref h_this_word, .ref h_this_written, .int place_this])), (h_this_list, .inr (0, [.ref h_this_list_bytes, .int size_list])), (h_this_list_bytes, .inl (cA, 1024, .inl a_list_bytes)), (h_this_word, .inr (0, [.ref h_this_word_bytes, .int size_word])), (h_this_word_bytes, .inl (cA, 1024, .inl a_word_bytes))]) (rest := []) C0 hK hP hD hS hA hZ (c_R_byteAt l D cA zz N h_this_list h_this_list_bytes size_list a_list_bytes x3 r_20 h_20) [1, 2] [0, 3, 4] [0, 3, 4, 1, 2] rfl rfl rfl rfl (by decide) rfl rfl 0 0 rfl rfl m_X_58 ⟨Nat.le_of_ble_eq_true rfl, Nat.le_of_ble_eq_true rfl⟩ ⟨rfl, rfl⟩ rfl hl.1 rfl (Nat.le_of_ble_eq_true rfl) ⟨Nat.le_of_ble_eq_true rfl, Nat.le_of_ble_eq_true rfl⟩ d_X_readBraced_20 (fun b_20 H locs hP hD hS => ?_)
      refine lv_istore (lv' := [(4, .int r_20), (0, .ref h_this), (2, .int x2), (3, .int x3)]) hx hb d_X_readBraced_23 hl (by decide) rfl (fun ls hl => ?_)
      refine lv_iload hx hb d_X_readBraced_25 (lv_at hl 0 rfl) ?_
      refine lv_bipush (v := (123 : Int32)) hx hb d_X_readBraced_27 (by decide) ?_
      refine lv_icmp_ne (tgt := 38) hx hb d_X_readBraced_29 (by decide) (fun c_29 => ?_) (fun c_29 => ?_)
      · have h := iteN c_29 h
        refine lv_iload hx hb d_X_readBraced_38 (lv_at hl 0 rfl) ?_
        refine lv_bipush (v := (125 : Int32)) hx hb d_X_readBraced_40 (by decide) ?_
        refine lv_icmp_ne (tgt := 48) hx hb d_X_readBraced_42 (by decide) (fun c_42 => ?_) (fun c_42 => ?_)
        · have h := iteN c_42 h
          exact t_X_readBraced_48 C0 hK hA hZ N h_this h_this_tape h_this_list h_this_list_bytes h_this_item h_this_word h_this_word_bytes h_this_written place_this size_list a_list_bytes res (p_X_readBraced_4 N size_list a_list_bytes n) ih _ _ _ _ _ h H locs hP hD hS ls (lv_sub hl [1, 2, 3, 0] rfl)
        · have h := iteP c_42 h
          refine lv_iinc (v := (x2 + (-1 : Int32))) (lv' := [(2, .int (x2 + (-1 : Int32))), (4, .int r_20), (0, .ref h_this), (3, .int x3)]) hx hb d_X_readBraced_45 hl (k := 2) rfl rfl (by decide) rfl (fun ls hl => ?_)
          exact t_X_readBraced_48 C0 hK hA hZ N h_this h_this_tape h_this_list h_this_list_bytes h_this_item h_this_word h_this_word_bytes h_this_written place_this size_list a_list_bytes res (p_X_readBraced_4 N size_list a_list_bytes n) ih _ _ _ _ _ h H locs hP hD hS ls (lv_sub hl [2, 0, 3, 1] rfl)
      · have h := iteP c_29 h
        refine lv_iinc (v := (x2 + (1 : Int32))) (lv' := [(2, .int (x2 + (1 : Int32))), (4, .int r_20), (0, .ref h_this), (3, .int x3)]) hx hb d_X_readBraced_32 hl (k := 2) rfl rfl (by decide) rfl (fun ls hl => ?_)
        refine lv_goto (tgt := 48) hx hb d_X_readBraced_35 (by decide) ?_
        exact t_X_readBraced_48 C0 hK hA hZ N h_this h_this_tape h_this_list h_this_list_bytes h_this_item h_this_word h_this_word_bytes h_this_written place_this size_list a_list_bytes res (p_X_readBraced_4 N size_list a_list_bytes n) ih _ _ _ _ _ h H locs hP hD hS ls (lv_sub hl [2, 0, 3, 1] rfl)
set_option maxHeartbeats 4000000 in
set_option maxRecDepth 100000 in
theorem t_X_readBraced_0 {p : Program} {l : Launch} {e : Env} {s : State} {m : MethodId} {args : Array Value} {below : List Frame} {meth : Method} {c : Code} {D : va_G} {cA : ClassId} {zz : zT} {A : Nat → Prop} (C0 : Cx p s m args meth c b_X_readBraced R_X 5 (some .int)) (hK : va_K D classes [(cA, .int)] s) (hA : ∀ q : Nat, s.heap.size ≤ q → A q) (hZ : ZS zz A s s.heap) (N : Nat) (h_this : Nat) (h_this_tape : Nat) (h_this_list : Nat) (h_this_list_bytes : Nat) (h_this_item : Nat) (h_this_word : Nat) (h_this_word_bytes : Nat) (h_this_written : Nat) (place_this : Int32) (size_list : Int32) (a_list_bytes : Nat → Int32) (res : Int32 × Int32 × (Nat → Int32)) :
    ∀ (size_word : Int32) (a_word_bytes : Nat → Int32) (x1 : Int32), p_X_readBraced_0 N size_list a_list_bytes size_word a_word_bytes x1 = some res → ∀ (H : Heap) (locs : List Loc), va_P D classes [(h_this, .inr (1, [.ref h_this_tape, .ref h_this_list, .ref h_this_item, .ref h_this_word, .ref h_this_written, .int place_this])), (h_this_list, .inr (0, [.ref h_this_list_bytes, .int size_list])), (h_this_list_bytes, .inl (cA, 1024, .inl a_list_bytes)), (h_this_word, .inr (0, [.ref h_this_word_bytes, .int size_word])), (h_this_word_bytes, .inl (cA, 1024, .inl a_word_bytes))] H → va_D A [(h_this, .inr (1, [.ref h_this_tape, .ref h_this_list, .ref h_this_item, .ref h_this_word, .ref h_this_written, .int place_this])), (h_this_list, .inr (0, [.ref h_this_list_bytes, .int size_list])), (h_this_list_bytes, .inl (cA, 1024, .inl a_list_bytes)), (h_this_word, .inr (0, [.ref h_this_word_bytes, .int size_word])), (h_this_word_bytes, .inl (cA, 1024, .inl a_word_bytes))] → va_S A s.heap H locs → ∀ (ls : Array Slot), lv_has ls 5 [(0, .ref h_this), (1, .int x1)] → W p l e rm_X_readBraced s m args below meth c H locs 0 0 (QI .int below args s D cA A (res.1) [(h_this, .inr (1, [.ref h_this_tape, .ref h_this_list, .ref h_this_item, .ref h_this_word, .ref h_this_written, .int place_this])), (h_this_list, .inr (0, [.ref h_this_list_bytes, .int size_list])), (h_this_list_bytes, .inl (cA, 1024, .inl a_list_bytes)), (h_this_word, .inr (0, [.ref h_this_word_bytes, .int res.2.1])), (h_this_word_bytes, .inl (cA, 1024, .inl res.2.2))]) (F0 m 0 ls []) := by
  obtain ⟨hx, hb, hr, hml, hown, hG, hlk⟩ := id C0
  intro size_word a_word_bytes x1 h H locs hP hD hS ls hl
  unfold p_X_readBraced_0 at h
  refine lv_iconst (v := (1 : Int32)) hx hb d_X_readBraced_0 (by decide) ?_
  refine lv_istore_n (lv' := [(2, .int (1 : Int32)), (0, .ref h_this), (1, .int x1)]) hx hb d_X_readBraced_1 rfl hl (by decide) rfl (fun ls hl => ?_)
  refine lv_iload_n hx hb d_X_readBraced_2 rfl (lv_at hl 2 rfl) ?_
  refine lv_istore_n (lv' := [(3, .int x1), (2, .int (1 : Int32)), (0, .ref h_this), (1, .int x1)]) hx hb d_X_readBraced_3 rfl hl (by decide) rfl (fun ls hl => ?_)
  exact t_X_readBraced_4 C0 hK hA hZ N h_this h_this_tape h_this_list h_this_list_bytes h_this_item h_this_word h_this_word_bytes h_this_written place_this size_list a_list_bytes res N _ _ _ _ h H locs hP hD hS ls (lv_sub hl [2, 1, 0] rfl)
theorem c_X_readBraced (l : Launch) (D : va_G) (cA : ClassId) (zz : zT) (N : Nat) (h_this : Nat) (h_this_tape : Nat) (h_this_list : Nat) (h_this_list_bytes : Nat) (h_this_item : Nat) (h_this_word : Nat) (h_this_word_bytes : Nat) (h_this_written : Nat) (place_this : Int32) (size_list : Int32) (a_list_bytes : Nat → Int32) (size_word : Int32) (a_word_bytes : Nat → Int32) (x1 : Int32) (res : Int32 × Int32 × (Nat → Int32)) (h : p_X_readBraced N size_list a_list_bytes size_word a_word_bytes x1 = some res) : MI l D cA zz y_X_readBraced b_X_readBraced 5 .int rm_X_readBraced [.ref h_this, .int x1] [(h_this, .inr (1, [.ref h_this_tape, .ref h_this_list, .ref h_this_item, .ref h_this_word, .ref h_this_written, .int place_this])), (h_this_list, .inr (0, [.ref h_this_list_bytes, .int size_list])), (h_this_list_bytes, .inl (cA, 1024, .inl a_list_bytes)), (h_this_word, .inr (0, [.ref h_this_word_bytes, .int size_word])), (h_this_word_bytes, .inl (cA, 1024, .inl a_word_bytes))] (res.1) [(h_this, .inr (1, [.ref h_this_tape, .ref h_this_list, .ref h_this_item, .ref h_this_word, .ref h_this_written, .int place_this])), (h_this_list, .inr (0, [.ref h_this_list_bytes, .int size_list])), (h_this_list_bytes, .inl (cA, 1024, .inl a_list_bytes)), (h_this_word, .inr (0, [.ref h_this_word_bytes, .int res.2.1])), (h_this_word_bytes, .inl (cA, 1024, .inl res.2.2))] := by
  unfold p_X_readBraced at h
  exact MI_enter (by decide) (Nat.le_of_ble_eq_true rfl) (fun p e s m below meth c A ls C0 hK hA hZ hP hD hl => t_X_readBraced_0 C0 hK hA hZ N h_this h_this_tape h_this_list h_this_list_bytes h_this_item h_this_word h_this_word_bytes h_this_written place_this size_list a_list_bytes res _ _ _ h s.heap [] hP hD va_S.rf ls hl)
-- ListWords.behindCloser(I)I
set_option maxHeartbeats 4000000 in
set_option maxRecDepth 100000 in
theorem t_X_behindCloser_0 {p : Program} {l : Launch} {e : Env} {s : State} {m : MethodId} {args : Array Value} {below : List Frame} {meth : Method} {c : Code} {D : va_G} {cA : ClassId} {zz : zT} {A : Nat → Prop} (C0 : Cx p s m args meth c b_X_behindCloser R_X 3 (some .int)) (hK : va_K D classes [(cA, .int)] s) (hA : ∀ q : Nat, s.heap.size ≤ q → A q) (hZ : ZS zz A s s.heap) (N : Nat) (h_this : Nat) (h_this_tape : Nat) (h_this_list : Nat) (h_this_list_bytes : Nat) (h_this_item : Nat) (h_this_word : Nat) (h_this_written : Nat) (place_this : Int32) (size_list : Int32) (a_list_bytes : Nat → Int32) (res : Int32) :
    ∀ (x1 : Int32), p_X_behindCloser_0 N size_list a_list_bytes x1 = some res → ∀ (H : Heap) (locs : List Loc), va_P D classes [(h_this, .inr (1, [.ref h_this_tape, .ref h_this_list, .ref h_this_item, .ref h_this_word, .ref h_this_written, .int place_this])), (h_this_list, .inr (0, [.ref h_this_list_bytes, .int size_list])), (h_this_list_bytes, .inl (cA, 1024, .inl a_list_bytes))] H → va_D A [(h_this, .inr (1, [.ref h_this_tape, .ref h_this_list, .ref h_this_item, .ref h_this_word, .ref h_this_written, .int place_this])), (h_this_list, .inr (0, [.ref h_this_list_bytes, .int size_list])), (h_this_list_bytes, .inl (cA, 1024, .inl a_list_bytes))] → va_S A s.heap H locs → ∀ (ls : Array Slot), lv_has ls 3 [(0, .ref h_this), (1, .int x1)] → W p l e rm_X_behindCloser s m args below meth c H locs 0 0 (QI .int below args s D cA A (res) [(h_this, .inr (1, [.ref h_this_tape, .ref h_this_list, .ref h_this_item, .ref h_this_word, .ref h_this_written, .int place_this])), (h_this_list, .inr (0, [.ref h_this_list_bytes, .int size_list])), (h_this_list_bytes, .inl (cA, 1024, .inl a_list_bytes))]) (F0 m 0 ls []) := by
  obtain ⟨hx, hb, hr, hml, hown, hG, hlk⟩ := id C0
  intro x1 h H locs hP hD hS ls hl
  unfold p_X_behindCloser_0 at h
  refine lv_iload_n hx hb d_X_behindCloser_0 rfl (lv_at hl 1 rfl) ?_
  refine lv_bipush (v := (-2 : Int32)) hx hb d_X_behindCloser_1 (by decide) ?_
  refine lv_icmp_ne (tgt := 9) hx hb d_X_behindCloser_3 (by decide) (fun c_3 => ?_) (fun c_3 => ?_)
  · have h := iteN c_3 h
    refine lv_aload_n hx hb d_X_behindCloser_9 rfl (lv_at hl 0 rfl) ?_
    refine va_get (D := D) (ci := 1) (v := .ref h_this_list) (C := R_X) (T := F_X) (N := 6) hx hb hG i_X hown hK hP 0 rfl rfl 1 (by decide) (hG _ f_X_16) (fun _ h9 => h9) rfl d_X_behindCloser_10 ?_
    refine lv_iload_n hx hb d_X_behindCloser_13 rfl (lv_at hl 1 rfl) ?_
    refine lv_iconst (v := (1 : Int32)) hx hb d_X_behindCloser_14 (by decide) ?_
    refine lv_iadd hx hb d_X_behindCloser_15 ?_
    obtain ⟨r_16, h_16, h⟩ := bindS h
    refine call_vi (wr := [(h_this, .inr (1, [.ref h_this_tape, .ref h_this_list, .ref h_this_item, .ref h_this_word, .ref h_this_written, .int place_this]))]) (w1 := [(h_this_list, .inr (0, [.ref h_this_list_bytes, .int size_list])), (h_this_list_bytes, .inl (cA, 1024, .inl a_list_bytes))]) (wN := [(h_this, .inr (1, [.ref h_this_tape, .ref h_this_list, .ref h_this_item, .ref h_this_word, .ref h_this_written, .int place_this])), (h_this_list, .inr (0, [.ref h_this_list_bytes, .int size_list])), (h_this_list_bytes, .inl (cA, 1024, .inl a_list_bytes))]) (rest := []) C0 hK hP hD hS hA hZ (c_R_byteAt l D cA zz N h_this_list h_this_list_bytes size_list a_list_bytes (x1 + (1 : Int32)) r_16 h_16) [1, 2] [0] [0, 1, 2] rfl rfl rfl rfl (by decide) rfl rfl 0 0 rfl rfl m_X_58 ⟨Nat.le_of_ble_eq_true rfl, Nat.le_of_ble_eq_true rfl⟩ ⟨rfl, rfl⟩ rfl hl.1 rfl (Nat.le_of_ble_eq_true rfl) ⟨Nat.le_of_ble_eq_true rfl, Nat.le_of_ble_eq_true rfl⟩ d_X_behindCloser_16 (fun b_16 H locs hP hD hS => ?_)
    refine lv_istore_n (lv' := [(2, .int r_16), (0, .ref h_this), (1, .int x1)]) hx hb d_X_behindCloser_19 rfl hl (by decide) rfl (fun ls hl => ?_)
    refine lv_iload_n hx hb d_X_behindCloser_20 rfl (lv_at hl 0 rfl) ?_
    refine lv_iconst (v := (-1 : Int32)) hx hb d_X_behindCloser_21 (by decide) ?_
    refine lv_icmp_eq (tgt := 32) hx hb d_X_behindCloser_22 (by decide) (fun c_22 => ?_) (fun c_22 => ?_)
    · have h := iteP c_22 h
      refine lv_iload_n hx hb d_X_behindCloser_32 rfl (lv_at hl 2 rfl) ?_
      refine lv_iconst (v := (1 : Int32)) hx hb d_X_behindCloser_33 (by decide) ?_
      refine lv_iadd hx hb d_X_behindCloser_34 ?_
      refine lv_goto (tgt := 40) hx hb d_X_behindCloser_35 (by decide) ?_
      obtain rfl := Option.some.inj h
      exact rI (v := (x1 + (1 : Int32))) C0 (vp_nar_int _) hK hP hD hS d_X_behindCloser_40
    · have h := iteN c_22 h
      refine lv_iload_n hx hb d_X_behindCloser_25 rfl (lv_at hl 0 rfl) ?_
      obtain ⟨r_26, h_26, h⟩ := bindS h
      refine call_si (wr := [(h_this, .inr (1, [.ref h_this_tape, .ref h_this_list, .ref h_this_item, .ref h_this_word, .ref h_this_written, .int place_this])), (h_this_list, .inr (0, [.ref h_this_list_bytes, .int size_list])), (h_this_list_bytes, .inl (cA, 1024, .inl a_list_bytes))]) (w1 := []) (wN := [(h_this, .inr (1, [.ref h_this_tape, .ref h_this_list, .ref h_this_item, .ref h_this_word, .ref h_this_written, .int place_this])), (h_this_list, .inr (0, [.ref h_this_list_bytes, .int size_list])), (h_this_list_bytes, .inl (cA, 1024, .inl a_list_bytes))]) (rest := []) C0 hK hP hD hS hA hZ (c_X_isSpace l D cA zz N r_16 r_26 h_26) [] [0, 1, 2] [0, 1, 2] rfl rfl rfl rfl (by decide) rfl rfl m_X_75 ⟨Nat.le_of_ble_eq_true rfl, Nat.le_of_ble_eq_true rfl⟩ ⟨rfl, rfl⟩ rfl hl.1 rfl (Nat.le_of_ble_eq_true rfl) ⟨Nat.le_of_ble_eq_true rfl, Nat.le_of_ble_eq_true rfl⟩ d_X_behindCloser_26 (fun b_26 H locs hP hD hS => ?_)
      refine lv_if_eq (tgt := 38) hx hb d_X_behindCloser_29 (by decide) (fun c_29 => ?_) (fun c_29 => ?_)
      · have h := iteP c_29 h
        refine lv_bipush (v := (-2 : Int32)) hx hb d_X_behindCloser_38 (by decide) ?_
        obtain rfl := Option.some.inj h
        exact rI (v := (-2 : Int32)) C0 (vp_nar_int _) hK hP hD hS d_X_behindCloser_40
      · have h := iteN c_29 h
        refine lv_iload_n hx hb d_X_behindCloser_32 rfl (lv_at hl 2 rfl) ?_
        refine lv_iconst (v := (1 : Int32)) hx hb d_X_behindCloser_33 (by decide) ?_
        refine lv_iadd hx hb d_X_behindCloser_34 ?_
        refine lv_goto (tgt := 40) hx hb d_X_behindCloser_35 (by decide) ?_
        obtain rfl := Option.some.inj h
        exact rI (v := (x1 + (1 : Int32))) C0 (vp_nar_int _) hK hP hD hS d_X_behindCloser_40
  · have h := iteP c_3 h
    refine lv_bipush (v := (-2 : Int32)) hx hb d_X_behindCloser_6 (by decide) ?_
    obtain rfl := Option.some.inj h
    exact rI (v := (-2 : Int32)) C0 (vp_nar_int _) hK hP hD hS d_X_behindCloser_8
theorem c_X_behindCloser (l : Launch) (D : va_G) (cA : ClassId) (zz : zT) (N : Nat) (h_this : Nat) (h_this_tape : Nat) (h_this_list : Nat) (h_this_list_bytes : Nat) (h_this_item : Nat) (h_this_word : Nat) (h_this_written : Nat) (place_this : Int32) (size_list : Int32) (a_list_bytes : Nat → Int32) (x1 : Int32) (res : Int32) (h : p_X_behindCloser N size_list a_list_bytes x1 = some res) : MI l D cA zz y_X_behindCloser b_X_behindCloser 3 .int rm_X_behindCloser [.ref h_this, .int x1] [(h_this, .inr (1, [.ref h_this_tape, .ref h_this_list, .ref h_this_item, .ref h_this_word, .ref h_this_written, .int place_this])), (h_this_list, .inr (0, [.ref h_this_list_bytes, .int size_list])), (h_this_list_bytes, .inl (cA, 1024, .inl a_list_bytes))] (res) [(h_this, .inr (1, [.ref h_this_tape, .ref h_this_list, .ref h_this_item, .ref h_this_word, .ref h_this_written, .int place_this])), (h_this_list, .inr (0, [.ref h_this_list_bytes, .int size_list])), (h_this_list_bytes, .inl (cA, 1024, .inl a_list_bytes))] := by
  unfold p_X_behindCloser at h
  exact MI_enter (by decide) (Nat.le_of_ble_eq_true rfl) (fun p e s m below meth c A ls C0 hK hA hZ hP hD hl => t_X_behindCloser_0 C0 hK hA hZ N h_this h_this_tape h_this_list h_this_list_bytes h_this_item h_this_word h_this_written place_this size_list a_list_bytes res _ h s.heap [] hP hD va_S.rf ls hl)
-- ListWords.digitOf(I)I
set_option maxHeartbeats 4000000 in
set_option maxRecDepth 100000 in
theorem t_X_digitOf_37 {p : Program} {l : Launch} {e : Env} {s : State} {m : MethodId} {args : Array Value} {below : List Frame} {meth : Method} {c : Code} {D : va_G} {cA : ClassId} {zz : zT} {A : Nat → Prop} (C0 : Cx p s m args meth c b_X_digitOf R_X 1 (some .int)) (hK : va_K D classes [(cA, .int)] s) (hA : ∀ q : Nat, s.heap.size ≤ q → A q) (hZ : ZS zz A s s.heap) (N : Nat) (res : Int32) :
    ∀ (x0 : Int32), p_X_digitOf_37 N x0 = some res → ∀ (H : Heap) (locs : List Loc), va_P D classes [] H → va_D A [] → va_S A s.heap H locs → ∀ (ls : Array Slot), lv_has ls 1 [(0, .int x0)] → W p l e rm_X_digitOf s m args below meth c H locs 0 0 (QI .int below args s D cA A (res) []) (F0 m 37 ls []) := by
  obtain ⟨hx, hb, hr, hml, hown, hG, hlk⟩ := id C0
  intro x0 h H locs hP hD hS ls hl
  unfold p_X_digitOf_37 at h
  refine lv_iload_n hx hb d_X_digitOf_37 rfl (lv_at hl 0 rfl) ?_
  refine lv_bipush (v := (65 : Int32)) hx hb d_X_digitOf_38 (by decide) ?_
  refine lv_icmp_lt (tgt := 57) hx hb d_X_digitOf_40 (by decide) (fun c_40 => ?_) (fun c_40 => ?_)
  · have h := iteP c_40 h
    refine lv_bipush (v := (16 : Int32)) hx hb d_X_digitOf_57 (by decide) ?_
    obtain rfl := Option.some.inj h
    exact rI (v := (16 : Int32)) C0 (vp_nar_int _) hK hP hD hS d_X_digitOf_59
  · have h := iteN c_40 h
    refine lv_iload_n hx hb d_X_digitOf_43 rfl (lv_at hl 0 rfl) ?_
    refine lv_bipush (v := (70 : Int32)) hx hb d_X_digitOf_44 (by decide) ?_
    refine lv_icmp_gt (tgt := 57) hx hb d_X_digitOf_46 (by decide) (fun c_46 => ?_) (fun c_46 => ?_)
    · have h := iteP c_46 h
      refine lv_bipush (v := (16 : Int32)) hx hb d_X_digitOf_57 (by decide) ?_
      obtain rfl := Option.some.inj h
      exact rI (v := (16 : Int32)) C0 (vp_nar_int _) hK hP hD hS d_X_digitOf_59
    · have h := iteN c_46 h
      refine lv_iload_n hx hb d_X_digitOf_49 rfl (lv_at hl 0 rfl) ?_
      refine lv_bipush (v := (65 : Int32)) hx hb d_X_digitOf_50 (by decide) ?_
      refine lv_isub hx hb d_X_digitOf_52 ?_
      refine lv_bipush (v := (10 : Int32)) hx hb d_X_digitOf_53 (by decide) ?_
      refine lv_iadd hx hb d_X_digitOf_55 ?_
      obtain rfl := Option.some.inj h
      exact rI (v := ((x0 - (65 : Int32)) + (10 : Int32))) C0 (vp_nar_int _) hK hP hD hS d_X_digitOf_56
set_option maxHeartbeats 4000000 in
set_option maxRecDepth 100000 in
theorem t_X_digitOf_17 {p : Program} {l : Launch} {e : Env} {s : State} {m : MethodId} {args : Array Value} {below : List Frame} {meth : Method} {c : Code} {D : va_G} {cA : ClassId} {zz : zT} {A : Nat → Prop} (C0 : Cx p s m args meth c b_X_digitOf R_X 1 (some .int)) (hK : va_K D classes [(cA, .int)] s) (hA : ∀ q : Nat, s.heap.size ≤ q → A q) (hZ : ZS zz A s s.heap) (N : Nat) (res : Int32) :
    ∀ (x0 : Int32), p_X_digitOf_17 N x0 = some res → ∀ (H : Heap) (locs : List Loc), va_P D classes [] H → va_D A [] → va_S A s.heap H locs → ∀ (ls : Array Slot), lv_has ls 1 [(0, .int x0)] → W p l e rm_X_digitOf s m args below meth c H locs 0 0 (QI .int below args s D cA A (res) []) (F0 m 17 ls []) := by
  obtain ⟨hx, hb, hr, hml, hown, hG, hlk⟩ := id C0
  intro x0 h H locs hP hD hS ls hl
  unfold p_X_digitOf_17 at h
  refine lv_iload_n hx hb d_X_digitOf_17 rfl (lv_at hl 0 rfl) ?_
  refine lv_bipush (v := (97 : Int32)) hx hb d_X_digitOf_18 (by decide) ?_
  refine lv_icmp_lt (tgt := 37) hx hb d_X_digitOf_20 (by decide) (fun c_20 => ?_) (fun c_20 => ?_)
  · have h := iteP c_20 h
    exact t_X_digitOf_37 C0 hK hA hZ N res _ h H locs hP hD hS ls (lv_sub hl [0] rfl)
  · have h := iteN c_20 h
    refine lv_iload_n hx hb d_X_digitOf_23 rfl (lv_at hl 0 rfl) ?_
    refine lv_bipush (v := (102 : Int32)) hx hb d_X_digitOf_24 (by decide) ?_
    refine lv_icmp_gt (tgt := 37) hx hb d_X_digitOf_26 (by decide) (fun c_26 => ?_) (fun c_26 => ?_)
    · have h := iteP c_26 h
      exact t_X_digitOf_37 C0 hK hA hZ N res _ h H locs hP hD hS ls (lv_sub hl [0] rfl)
    · have h := iteN c_26 h
      refine lv_iload_n hx hb d_X_digitOf_29 rfl (lv_at hl 0 rfl) ?_
      refine lv_bipush (v := (97 : Int32)) hx hb d_X_digitOf_30 (by decide) ?_
      refine lv_isub hx hb d_X_digitOf_32 ?_
      refine lv_bipush (v := (10 : Int32)) hx hb d_X_digitOf_33 (by decide) ?_
      refine lv_iadd hx hb d_X_digitOf_35 ?_
      obtain rfl := Option.some.inj h
      exact rI (v := ((x0 - (97 : Int32)) + (10 : Int32))) C0 (vp_nar_int _) hK hP hD hS d_X_digitOf_36
set_option maxHeartbeats 4000000 in
set_option maxRecDepth 100000 in
theorem t_X_digitOf_0 {p : Program} {l : Launch} {e : Env} {s : State} {m : MethodId} {args : Array Value} {below : List Frame} {meth : Method} {c : Code} {D : va_G} {cA : ClassId} {zz : zT} {A : Nat → Prop} (C0 : Cx p s m args meth c b_X_digitOf R_X 1 (some .int)) (hK : va_K D classes [(cA, .int)] s) (hA : ∀ q : Nat, s.heap.size ≤ q → A q) (hZ : ZS zz A s s.heap) (N : Nat) (res : Int32) :
    ∀ (x0 : Int32), p_X_digitOf_0 N x0 = some res → ∀ (H : Heap) (locs : List Loc), va_P D classes [] H → va_D A [] → va_S A s.heap H locs → ∀ (ls : Array Slot), lv_has ls 1 [(0, .int x0)] → W p l e rm_X_digitOf s m args below meth c H locs 0 0 (QI .int below args s D cA A (res) []) (F0 m 0 ls []) := by
  obtain ⟨hx, hb, hr, hml, hown, hG, hlk⟩ := id C0
  intro x0 h H locs hP hD hS ls hl
  unfold p_X_digitOf_0 at h
  refine lv_iload_n hx hb d_X_digitOf_0 rfl (lv_at hl 0 rfl) ?_
  refine lv_bipush (v := (48 : Int32)) hx hb d_X_digitOf_1 (by decide) ?_
  refine lv_icmp_lt (tgt := 17) hx hb d_X_digitOf_3 (by decide) (fun c_3 => ?_) (fun c_3 => ?_)
  · have h := iteP c_3 h
    exact t_X_digitOf_17 C0 hK hA hZ N res _ h H locs hP hD hS ls (lv_sub hl [0] rfl)
  · have h := iteN c_3 h
    refine lv_iload_n hx hb d_X_digitOf_6 rfl (lv_at hl 0 rfl) ?_
    refine lv_bipush (v := (57 : Int32)) hx hb d_X_digitOf_7 (by decide) ?_
    refine lv_icmp_gt (tgt := 17) hx hb d_X_digitOf_9 (by decide) (fun c_9 => ?_) (fun c_9 => ?_)
    · have h := iteP c_9 h
      exact t_X_digitOf_17 C0 hK hA hZ N res _ h H locs hP hD hS ls (lv_sub hl [0] rfl)
    · have h := iteN c_9 h
      refine lv_iload_n hx hb d_X_digitOf_12 rfl (lv_at hl 0 rfl) ?_
      refine lv_bipush (v := (48 : Int32)) hx hb d_X_digitOf_13 (by decide) ?_
      refine lv_isub hx hb d_X_digitOf_15 ?_
      obtain rfl := Option.some.inj h
      exact rI (v := (x0 - (48 : Int32))) C0 (vp_nar_int _) hK hP hD hS d_X_digitOf_16
theorem c_X_digitOf (l : Launch) (D : va_G) (cA : ClassId) (zz : zT) (N : Nat)  (x0 : Int32) (res : Int32) (h : p_X_digitOf N x0 = some res) : MI l D cA zz y_X_digitOf b_X_digitOf 1 .int rm_X_digitOf [.int x0] [] (res) [] := by
  unfold p_X_digitOf at h
  exact MI_enter (by decide) (Nat.le_of_ble_eq_true rfl) (fun p e s m below meth c A ls C0 hK hA hZ hP hD hl => t_X_digitOf_0 C0 hK hA hZ N res _ h s.heap [] hP hD va_S.rf ls hl)
-- ListWords.countDigits(III)I
set_option maxHeartbeats 4000000 in
set_option maxRecDepth 100000 in
theorem t_X_countDigits_3 {p : Program} {l : Launch} {e : Env} {s : State} {m : MethodId} {args : Array Value} {below : List Frame} {meth : Method} {c : Code} {D : va_G} {cA : ClassId} {zz : zT} {A : Nat → Prop} (C0 : Cx p s m args meth c b_X_countDigits R_X 5 (some .int)) (hK : va_K D classes [(cA, .int)] s) (hA : ∀ q : Nat, s.heap.size ≤ q → A q) (hZ : ZS zz A s s.heap) (N : Nat) (h_this : Nat) (h_this_tape : Nat) (h_this_list : Nat) (h_this_list_bytes : Nat) (h_this_item : Nat) (h_this_word : Nat) (h_this_written : Nat) (place_this : Int32) (size_list : Int32) (a_list_bytes : Nat → Int32) (res : Int32) :
    ∀ (n : Nat), ∀ (x1 : Int32) (x2 : Int32) (x3 : Int32) (x4 : Int32), p_X_countDigits_3 N size_list a_list_bytes n x1 x2 x3 x4 = some res → ∀ (H : Heap) (locs : List Loc), va_P D classes [(h_this, .inr (1, [.ref h_this_tape, .ref h_this_list, .ref h_this_item, .ref h_this_word, .ref h_this_written, .int place_this])), (h_this_list, .inr (0, [.ref h_this_list_bytes, .int size_list])), (h_this_list_bytes, .inl (cA, 1024, .inl a_list_bytes))] H → va_D A [(h_this, .inr (1, [.ref h_this_tape, .ref h_this_list, .ref h_this_item, .ref h_this_word, .ref h_this_written, .int place_this])), (h_this_list, .inr (0, [.ref h_this_list_bytes, .int size_list])), (h_this_list_bytes, .inl (cA, 1024, .inl a_list_bytes))] → va_S A s.heap H locs → ∀ (ls : Array Slot), lv_has ls 5 [(0, .ref h_this), (1, .int x1), (2, .int x2), (3, .int x3), (4, .int x4)] → W p l e rm_X_countDigits s m args below meth c H locs 0 0 (QI .int below args s D cA A (res) [(h_this, .inr (1, [.ref h_this_tape, .ref h_this_list, .ref h_this_item, .ref h_this_word, .ref h_this_written, .int place_this])), (h_this_list, .inr (0, [.ref h_this_list_bytes, .int size_list])), (h_this_list_bytes, .inl (cA, 1024, .inl a_list_bytes))]) (F0 m 3 ls []) := by
  obtain ⟨hx, hb, hr, hml, hown, hG, hlk⟩ := id C0
  intro n
  induction n with
  | zero =>
    intro x1 x2 x3 x4 h H locs hP hD hS ls hl
    exact absurd h (by simp [p_X_countDigits_3])
  | succ n ih =>
    intro x1 x2 x3 x4 h H locs hP hD hS ls hl
    rw [p_X_countDigits_3] at h
    refine lv_iload hx hb d_X_countDigits_3 (lv_at hl 4 rfl) ?_
    refine lv_iload_n hx hb d_X_countDigits_5 rfl (lv_at hl 2 rfl) ?_
    refine lv_icmp_ge (tgt := 33) hx hb d_X_countDigits_6 (by decide) (fun c_6 => ?_) (fun c_6 => ?_)
    · have h := iteP c_6 h
      refine lv_iload hx hb d_X_countDigits_33 (lv_at hl 4 rfl) ?_
      obtain rfl := Option.some.inj h
      exact rI (v := x4) C0 (vp_nar_int _) hK hP hD hS d_X_countDigits_35
    · have h := iteN c_6 h
      refine lv_aload_n hx hb d_X_countDigits_9 rfl (lv_at hl 0 rfl) ?_
      refine va_get (D := D) (ci := 1) (v := .ref h_this_list) (C := R_X) (T := F_X) (N := 6) hx hb hG i_X hown hK hP 0 rfl rfl 1 (by decide) (hG _ f_X_16) (fun _ h9 => h9) rfl d_X_countDigits_10 ?_
      refine lv_iload_n hx hb d_X_countDigits_13 rfl (lv_at hl 1 rfl) ?_
      refine lv_iload hx hb d_X_countDigits_14 (lv_at hl 4 rfl) ?_
      refine lv_iadd hx hb d_X_countDigits_16 ?_
      obtain ⟨r_17, h_17, h⟩ := bindS h
      refine call_vi (wr := [(h_this, .inr (1, [.ref h_this_tape, .ref h_this_list, .ref h_this_item, .ref h_this_word, .ref h_this_written, .int place_this]))]) (w1 := [(h_this_list, .inr (0, [.ref h_this_list_bytes, .int size_list])), (h_this_list_bytes, .inl (cA, 1024, .inl a_list_bytes))]) (wN := [(h_this, .inr (1, [.ref h_this_tape, .ref h_this_list, .ref h_this_item, .ref h_this_word, .ref h_this_written, .int place_this])), (h_this_list, .inr (0, [.ref h_this_list_bytes, .int size_list])), (h_this_list_bytes, .inl (cA, 1024, .inl a_list_bytes))]) (rest := []) C0 hK hP hD hS hA hZ (c_R_byteAt l D cA zz N h_this_list h_this_list_bytes size_list a_list_bytes (x1 + x4) r_17 h_17) [1, 2] [0] [0, 1, 2] rfl rfl rfl rfl (by decide) rfl rfl 0 0 rfl rfl m_X_58 ⟨Nat.le_of_ble_eq_true rfl, Nat.le_of_ble_eq_true rfl⟩ ⟨rfl, rfl⟩ rfl hl.1 rfl (Nat.le_of_ble_eq_true rfl) ⟨Nat.le_of_ble_eq_true rfl, Nat.le_of_ble_eq_true rfl⟩ d_X_countDigits_17 (fun b_17 H locs hP hD hS => ?_)
      obtain ⟨r_20, h_20, h⟩ := bindS h
      refine call_si (wr := [(h_this, .inr (1, [.ref h_this_tape, .ref h_this_list, .ref h_this_item, .ref h_this_word, .ref h_this_written, .int place_this])), (h_this_list, .inr (0, [.ref h_this_list_bytes, .int size_list])), (h_this_list_bytes, .inl (cA, 1024, .inl a_list_bytes))]) (w1 := []) (wN := [(h_this, .inr (1, [.ref h_this_tape, .ref h_this_list, .ref h_this_item, .ref h_this_word, .ref h_this_written, .int place_this])), (h_this_list, .inr (0, [.ref h_this_list_bytes, .int size_list])), (h_this_list_bytes, .inl (cA, 1024, .inl a_list_bytes))]) (rest := []) C0 hK hP hD hS hA hZ (c_X_digitOf l D cA zz N r_17 r_20 h_20) [] [0, 1, 2] [0, 1, 2] rfl rfl rfl rfl (by decide) rfl rfl m_X_110 ⟨Nat.le_of_ble_eq_true rfl, Nat.le_of_ble_eq_true rfl⟩ ⟨rfl, rfl⟩ rfl hl.1 rfl (Nat.le_of_ble_eq_true rfl) ⟨Nat.le_of_ble_eq_true rfl, Nat.le_of_ble_eq_true rfl⟩ d_X_countDigits_20 (fun b_20 H locs hP hD hS => ?_)
      refine lv_iload_n hx hb d_X_countDigits_23 rfl (lv_at hl 3 rfl) ?_
      refine lv_icmp_ge (tgt := 33) hx hb d_X_countDigits_24 (by decide) (fun c_24 => ?_) (fun c_24 => ?_)
      · have h := iteP c_24 h
        refine lv_iload hx hb d_X_countDigits_33 (lv_at hl 4 rfl) ?_
        obtain rfl := Option.some.inj h
        exact rI (v := x4) C0 (vp_nar_int _) hK hP hD hS d_X_countDigits_35
      · have h := iteN c_24 h
        refine lv_iinc (v := (x4 + (1 : Int32))) (lv' := [(4, .int (x4 + (1 : Int32))), (0, .ref h_this), (1, .int x1), (2, .int x2), (3, .int x3)]) hx hb d_X_countDigits_27 hl (k := 4) rfl rfl (by decide) rfl (fun ls hl => ?_)
        refine lv_goto (tgt := 3) hx hb d_X_countDigits_30 (by decide) ?_
        exact ih _ _ _ _ h H locs hP hD hS ls (lv_sub hl [1, 2, 3, 4, 0] rfl)
set_option maxHeartbeats 4000000 in
set_option maxRecDepth 100000 in
theorem t_X_countDigits_0 {p : Program} {l : Launch} {e : Env} {s : State} {m : MethodId} {args : Array Value} {below : List Frame} {meth : Method} {c : Code} {D : va_G} {cA : ClassId} {zz : zT} {A : Nat → Prop} (C0 : Cx p s m args meth c b_X_countDigits R_X 5 (some .int)) (hK : va_K D classes [(cA, .int)] s) (hA : ∀ q : Nat, s.heap.size ≤ q → A q) (hZ : ZS zz A s s.heap) (N : Nat) (h_this : Nat) (h_this_tape : Nat) (h_this_list : Nat) (h_this_list_bytes : Nat) (h_this_item : Nat) (h_this_word : Nat) (h_this_written : Nat) (place_this : Int32) (size_list : Int32) (a_list_bytes : Nat → Int32) (res : Int32) :
    ∀ (x1 : Int32) (x2 : Int32) (x3 : Int32), p_X_countDigits_0 N size_list a_list_bytes x1 x2 x3 = some res → ∀ (H : Heap) (locs : List Loc), va_P D classes [(h_this, .inr (1, [.ref h_this_tape, .ref h_this_list, .ref h_this_item, .ref h_this_word, .ref h_this_written, .int place_this])), (h_this_list, .inr (0, [.ref h_this_list_bytes, .int size_list])), (h_this_list_bytes, .inl (cA, 1024, .inl a_list_bytes))] H → va_D A [(h_this, .inr (1, [.ref h_this_tape, .ref h_this_list, .ref h_this_item, .ref h_this_word, .ref h_this_written, .int place_this])), (h_this_list, .inr (0, [.ref h_this_list_bytes, .int size_list])), (h_this_list_bytes, .inl (cA, 1024, .inl a_list_bytes))] → va_S A s.heap H locs → ∀ (ls : Array Slot), lv_has ls 5 [(0, .ref h_this), (1, .int x1), (2, .int x2), (3, .int x3)] → W p l e rm_X_countDigits s m args below meth c H locs 0 0 (QI .int below args s D cA A (res) [(h_this, .inr (1, [.ref h_this_tape, .ref h_this_list, .ref h_this_item, .ref h_this_word, .ref h_this_written, .int place_this])), (h_this_list, .inr (0, [.ref h_this_list_bytes, .int size_list])), (h_this_list_bytes, .inl (cA, 1024, .inl a_list_bytes))]) (F0 m 0 ls []) := by
  obtain ⟨hx, hb, hr, hml, hown, hG, hlk⟩ := id C0
  intro x1 x2 x3 h H locs hP hD hS ls hl
  unfold p_X_countDigits_0 at h
  refine lv_iconst (v := (0 : Int32)) hx hb d_X_countDigits_0 (by decide) ?_
  refine lv_istore (lv' := [(4, .int (0 : Int32)), (0, .ref h_this), (1, .int x1), (2, .int x2), (3, .int x3)]) hx hb d_X_countDigits_1 hl (by decide) rfl (fun ls hl => ?_)
  exact t_X_countDigits_3 C0 hK hA hZ N h_this h_this_tape h_this_list h_this_list_bytes h_this_item h_this_word h_this_written place_this size_list a_list_bytes res N _ _ _ _ h H locs hP hD hS ls (lv_sub hl [1, 2, 3, 4, 0] rfl)
theorem c_X_countDigits (l : Launch) (D : va_G) (cA : ClassId) (zz : zT) (N : Nat) (h_this : Nat) (h_this_tape : Nat) (h_this_list : Nat) (h_this_list_bytes : Nat) (h_this_item : Nat) (h_this_word : Nat) (h_this_written : Nat) (place_this : Int32) (size_list : Int32) (a_list_bytes : Nat → Int32) (x1 : Int32) (x2 : Int32) (x3 : Int32) (res : Int32) (h : p_X_countDigits N size_list a_list_bytes x1 x2 x3 = some res) : MI l D cA zz y_X_countDigits b_X_countDigits 5 .int rm_X_countDigits [.ref h_this, .int x1, .int x2, .int x3] [(h_this, .inr (1, [.ref h_this_tape, .ref h_this_list, .ref h_this_item, .ref h_this_word, .ref h_this_written, .int place_this])), (h_this_list, .inr (0, [.ref h_this_list_bytes, .int size_list])), (h_this_list_bytes, .inl (cA, 1024, .inl a_list_bytes))] (res) [(h_this, .inr (1, [.ref h_this_tape, .ref h_this_list, .ref h_this_item, .ref h_this_word, .ref h_this_written, .int place_this])), (h_this_list, .inr (0, [.ref h_this_list_bytes, .int size_list])), (h_this_list_bytes, .inl (cA, 1024, .inl a_list_bytes))] := by
  unfold p_X_countDigits at h
  exact MI_enter (by decide) (Nat.le_of_ble_eq_true rfl) (fun p e s m below meth c A ls C0 hK hA hZ hP hD hl => t_X_countDigits_0 C0 hK hA hZ N h_this h_this_tape h_this_list h_this_list_bytes h_this_item h_this_word h_this_written place_this size_list a_list_bytes res _ _ _ h s.heap [] hP hD va_S.rf ls hl)
-- ListWords.numberAt(III)I
set_option maxHeartbeats 4000000 in
set_option maxRecDepth 100000 in
theorem t_X_numberAt_6 {p : Program} {l : Launch} {e : Env} {s : State} {m : MethodId} {args : Array Value} {below : List Frame} {meth : Method} {c : Code} {D : va_G} {cA : ClassId} {zz : zT} {A : Nat → Prop} (C0 : Cx p s m args meth c b_X_numberAt R_X 6 (some .int)) (hK : va_K D classes [(cA, .int)] s) (hA : ∀ q : Nat, s.heap.size ≤ q → A q) (hZ : ZS zz A s s.heap) (N : Nat) (h_this : Nat) (h_this_tape : Nat) (h_this_list : Nat) (h_this_list_bytes : Nat) (h_this_item : Nat) (h_this_word : Nat) (h_this_written : Nat) (place_this : Int32) (size_list : Int32) (a_list_bytes : Nat → Int32) (res : Int32) :
    ∀ (n : Nat), ∀ (x1 : Int32) (x2 : Int32) (x3 : Int32) (x4 : Int32) (x5 : Int32), p_X_numberAt_6 N size_list a_list_bytes n x1 x2 x3 x4 x5 = some res → ∀ (H : Heap) (locs : List Loc), va_P D classes [(h_this, .inr (1, [.ref h_this_tape, .ref h_this_list, .ref h_this_item, .ref h_this_word, .ref h_this_written, .int place_this])), (h_this_list, .inr (0, [.ref h_this_list_bytes, .int size_list])), (h_this_list_bytes, .inl (cA, 1024, .inl a_list_bytes))] H → va_D A [(h_this, .inr (1, [.ref h_this_tape, .ref h_this_list, .ref h_this_item, .ref h_this_word, .ref h_this_written, .int place_this])), (h_this_list, .inr (0, [.ref h_this_list_bytes, .int size_list])), (h_this_list_bytes, .inl (cA, 1024, .inl a_list_bytes))] → va_S A s.heap H locs → ∀ (ls : Array Slot), lv_has ls 6 [(0, .ref h_this), (1, .int x1), (2, .int x2), (3, .int x3), (4, .int x4), (5, .int x5)] → W p l e rm_X_numberAt s m args below meth c H locs 0 0 (QI .int below args s D cA A (res) [(h_this, .inr (1, [.ref h_this_tape, .ref h_this_list, .ref h_this_item, .ref h_this_word, .ref h_this_written, .int place_this])), (h_this_list, .inr (0, [.ref h_this_list_bytes, .int size_list])), (h_this_list_bytes, .inl (cA, 1024, .inl a_list_bytes))]) (F0 m 6 ls []) := by
  obtain ⟨hx, hb, hr, hml, hown, hG, hlk⟩ := id C0
  intro n
  induction n with
  | zero =>
    intro x1 x2 x3 x4 x5 h H locs hP hD hS ls hl
    exact absurd h (by simp [p_X_numberAt_6])
  | succ n ih =>
    intro x1 x2 x3 x4 x5 h H locs hP hD hS ls hl
    rw [p_X_numberAt_6] at h
    refine lv_iload hx hb d_X_numberAt_6 (lv_at hl 5 rfl) ?_
    refine lv_iload_n hx hb d_X_numberAt_8 rfl (lv_at hl 2 rfl) ?_
    refine lv_icmp_ge (tgt := 39) hx hb d_X_numberAt_9 (by decide) (fun c_9 => ?_) (fun c_9 => ?_)
    · have h := iteP c_9 h
      refine lv_iload hx hb d_X_numberAt_39 (lv_at hl 4 rfl) ?_
      refine lv_sipush (v := (255 : Int32)) hx hb d_X_numberAt_41 (by decide) ?_
      refine lv_iand hx hb d_X_numberAt_44 ?_
      obtain rfl := Option.some.inj h
      exact rI (v := (x4 &&& (255 : Int32))) C0 (vp_nar_int _) hK hP hD hS d_X_numberAt_45
    · have h := iteN c_9 h
      refine lv_iload hx hb d_X_numberAt_12 (lv_at hl 4 rfl) ?_
      refine lv_iload_n hx hb d_X_numberAt_14 rfl (lv_at hl 3 rfl) ?_
      refine lv_imul hx hb d_X_numberAt_15 ?_
      refine lv_aload_n hx hb d_X_numberAt_16 rfl (lv_at hl 0 rfl) ?_
      refine va_get (D := D) (ci := 1) (v := .ref h_this_list) (C := R_X) (T := F_X) (N := 6) hx hb hG i_X hown hK hP 0 rfl rfl 1 (by decide) (hG _ f_X_16) (fun _ h9 => h9) rfl d_X_numberAt_17 ?_
      refine lv_iload_n hx hb d_X_numberAt_20 rfl (lv_at hl 1 rfl) ?_
      refine lv_iload hx hb d_X_numberAt_21 (lv_at hl 5 rfl) ?_
      refine lv_iadd hx hb d_X_numberAt_23 ?_
      obtain ⟨r_24, h_24, h⟩ := bindS h
      refine call_vi (wr := [(h_this, .inr (1, [.ref h_this_tape, .ref h_this_list, .ref h_this_item, .ref h_this_word, .ref h_this_written, .int place_this]))]) (w1 := [(h_this_list, .inr (0, [.ref h_this_list_bytes, .int size_list])), (h_this_list_bytes, .inl (cA, 1024, .inl a_list_bytes))]) (wN := [(h_this, .inr (1, [.ref h_this_tape, .ref h_this_list, .ref h_this_item, .ref h_this_word, .ref h_this_written, .int place_this])), (h_this_list, .inr (0, [.ref h_this_list_bytes, .int size_list])), (h_this_list_bytes, .inl (cA, 1024, .inl a_list_bytes))]) (rest := [.int (x4 * x3)]) C0 hK hP hD hS hA hZ (c_R_byteAt l D cA zz N h_this_list h_this_list_bytes size_list a_list_bytes (x1 + x5) r_24 h_24) [1, 2] [0] [0, 1, 2] rfl rfl rfl rfl (by decide) rfl rfl 0 0 rfl rfl m_X_58 ⟨Nat.le_of_ble_eq_true rfl, Nat.le_of_ble_eq_true rfl⟩ ⟨rfl, rfl⟩ rfl hl.1 rfl (Nat.le_of_ble_eq_true rfl) ⟨Nat.le_of_ble_eq_true rfl, Nat.le_of_ble_eq_true rfl⟩ d_X_numberAt_24 (fun b_24 H locs hP hD hS => ?_)
      obtain ⟨r_27, h_27, h⟩ := bindS h
      refine call_si (wr := [(h_this, .inr (1, [.ref h_this_tape, .ref h_this_list, .ref h_this_item, .ref h_this_word, .ref h_this_written, .int place_this])), (h_this_list, .inr (0, [.ref h_this_list_bytes, .int size_list])), (h_this_list_bytes, .inl (cA, 1024, .inl a_list_bytes))]) (w1 := []) (wN := [(h_this, .inr (1, [.ref h_this_tape, .ref h_this_list, .ref h_this_item, .ref h_this_word, .ref h_this_written, .int place_this])), (h_this_list, .inr (0, [.ref h_this_list_bytes, .int size_list])), (h_this_list_bytes, .inl (cA, 1024, .inl a_list_bytes))]) (rest := [.int (x4 * x3)]) C0 hK hP hD hS hA hZ (c_X_digitOf l D cA zz N r_24 r_27 h_27) [] [0, 1, 2] [0, 1, 2] rfl rfl rfl rfl (by decide) rfl rfl m_X_110 ⟨Nat.le_of_ble_eq_true rfl, Nat.le_of_ble_eq_true rfl⟩ ⟨rfl, rfl⟩ rfl hl.1 rfl (Nat.le_of_ble_eq_true rfl) ⟨Nat.le_of_ble_eq_true rfl, Nat.le_of_ble_eq_true rfl⟩ d_X_numberAt_27 (fun b_27 H locs hP hD hS => ?_)
      refine lv_iadd hx hb d_X_numberAt_30 ?_
      refine lv_istore (lv' := [(4, .int ((x4 * x3) + r_27)), (0, .ref h_this), (1, .int x1), (2, .int x2), (3, .int x3), (5, .int x5)]) hx hb d_X_numberAt_31 hl (by decide) rfl (fun ls hl => ?_)
      refine lv_iinc (v := (x5 + (1 : Int32))) (lv' := [(5, .int (x5 + (1 : Int32))), (4, .int ((x4 * x3) + r_27)), (0, .ref h_this), (1, .int x1), (2, .int x2), (3, .int x3)]) hx hb d_X_numberAt_33 hl (k := 5) rfl rfl (by decide) rfl (fun ls hl => ?_)
      refine lv_goto (tgt := 6) hx hb d_X_numberAt_36 (by decide) ?_
      exact ih _ _ _ _ _ h H locs hP hD hS ls (lv_sub hl [2, 3, 4, 5, 1, 0] rfl)
set_option maxHeartbeats 4000000 in
set_option maxRecDepth 100000 in
theorem t_X_numberAt_0 {p : Program} {l : Launch} {e : Env} {s : State} {m : MethodId} {args : Array Value} {below : List Frame} {meth : Method} {c : Code} {D : va_G} {cA : ClassId} {zz : zT} {A : Nat → Prop} (C0 : Cx p s m args meth c b_X_numberAt R_X 6 (some .int)) (hK : va_K D classes [(cA, .int)] s) (hA : ∀ q : Nat, s.heap.size ≤ q → A q) (hZ : ZS zz A s s.heap) (N : Nat) (h_this : Nat) (h_this_tape : Nat) (h_this_list : Nat) (h_this_list_bytes : Nat) (h_this_item : Nat) (h_this_word : Nat) (h_this_written : Nat) (place_this : Int32) (size_list : Int32) (a_list_bytes : Nat → Int32) (res : Int32) :
    ∀ (x1 : Int32) (x2 : Int32) (x3 : Int32), p_X_numberAt_0 N size_list a_list_bytes x1 x2 x3 = some res → ∀ (H : Heap) (locs : List Loc), va_P D classes [(h_this, .inr (1, [.ref h_this_tape, .ref h_this_list, .ref h_this_item, .ref h_this_word, .ref h_this_written, .int place_this])), (h_this_list, .inr (0, [.ref h_this_list_bytes, .int size_list])), (h_this_list_bytes, .inl (cA, 1024, .inl a_list_bytes))] H → va_D A [(h_this, .inr (1, [.ref h_this_tape, .ref h_this_list, .ref h_this_item, .ref h_this_word, .ref h_this_written, .int place_this])), (h_this_list, .inr (0, [.ref h_this_list_bytes, .int size_list])), (h_this_list_bytes, .inl (cA, 1024, .inl a_list_bytes))] → va_S A s.heap H locs → ∀ (ls : Array Slot), lv_has ls 6 [(0, .ref h_this), (1, .int x1), (2, .int x2), (3, .int x3)] → W p l e rm_X_numberAt s m args below meth c H locs 0 0 (QI .int below args s D cA A (res) [(h_this, .inr (1, [.ref h_this_tape, .ref h_this_list, .ref h_this_item, .ref h_this_word, .ref h_this_written, .int place_this])), (h_this_list, .inr (0, [.ref h_this_list_bytes, .int size_list])), (h_this_list_bytes, .inl (cA, 1024, .inl a_list_bytes))]) (F0 m 0 ls []) := by
  obtain ⟨hx, hb, hr, hml, hown, hG, hlk⟩ := id C0
  intro x1 x2 x3 h H locs hP hD hS ls hl
  unfold p_X_numberAt_0 at h
  refine lv_iconst (v := (0 : Int32)) hx hb d_X_numberAt_0 (by decide) ?_
  refine lv_istore (lv' := [(4, .int (0 : Int32)), (0, .ref h_this), (1, .int x1), (2, .int x2), (3, .int x3)]) hx hb d_X_numberAt_1 hl (by decide) rfl (fun ls hl => ?_)
  refine lv_iconst (v := (0 : Int32)) hx hb d_X_numberAt_3 (by decide) ?_
  refine lv_istore (lv' := [(5, .int (0 : Int32)), (4, .int (0 : Int32)), (0, .ref h_this), (1, .int x1), (2, .int x2), (3, .int x3)]) hx hb d_X_numberAt_4 hl (by decide) rfl (fun ls hl => ?_)
  exact t_X_numberAt_6 C0 hK hA hZ N h_this h_this_tape h_this_list h_this_list_bytes h_this_item h_this_word h_this_written place_this size_list a_list_bytes res N _ _ _ _ _ h H locs hP hD hS ls (lv_sub hl [2, 3, 4, 5, 1, 0] rfl)
theorem c_X_numberAt (l : Launch) (D : va_G) (cA : ClassId) (zz : zT) (N : Nat) (h_this : Nat) (h_this_tape : Nat) (h_this_list : Nat) (h_this_list_bytes : Nat) (h_this_item : Nat) (h_this_word : Nat) (h_this_written : Nat) (place_this : Int32) (size_list : Int32) (a_list_bytes : Nat → Int32) (x1 : Int32) (x2 : Int32) (x3 : Int32) (res : Int32) (h : p_X_numberAt N size_list a_list_bytes x1 x2 x3 = some res) : MI l D cA zz y_X_numberAt b_X_numberAt 6 .int rm_X_numberAt [.ref h_this, .int x1, .int x2, .int x3] [(h_this, .inr (1, [.ref h_this_tape, .ref h_this_list, .ref h_this_item, .ref h_this_word, .ref h_this_written, .int place_this])), (h_this_list, .inr (0, [.ref h_this_list_bytes, .int size_list])), (h_this_list_bytes, .inl (cA, 1024, .inl a_list_bytes))] (res) [(h_this, .inr (1, [.ref h_this_tape, .ref h_this_list, .ref h_this_item, .ref h_this_word, .ref h_this_written, .int place_this])), (h_this_list, .inr (0, [.ref h_this_list_bytes, .int size_list])), (h_this_list_bytes, .inl (cA, 1024, .inl a_list_bytes))] := by
  unfold p_X_numberAt at h
  exact MI_enter (by decide) (Nat.le_of_ble_eq_true rfl) (fun p e s m below meth c A ls C0 hK hA hZ hP hD hl => t_X_numberAt_0 C0 hK hA hZ N h_this h_this_tape h_this_list h_this_list_bytes h_this_item h_this_word h_this_written place_this size_list a_list_bytes res _ _ _ h s.heap [] hP hD va_S.rf ls hl)
-- ListWords.meaningOfBackslash(I)I
set_option maxHeartbeats 4000000 in
set_option maxRecDepth 100000 in
theorem t_X_meaningOfBackslash_0 {p : Program} {l : Launch} {e : Env} {s : State} {m : MethodId} {args : Array Value} {below : List Frame} {meth : Method} {c : Code} {D : va_G} {cA : ClassId} {zz : zT} {A : Nat → Prop} (C0 : Cx p s m args meth c b_X_meaningOfBackslash R_X 5 (some .int)) (hK : va_K D classes [(cA, .int)] s) (hA : ∀ q : Nat, s.heap.size ≤ q → A q) (hZ : ZS zz A s s.heap) (N : Nat) (h_this : Nat) (h_this_tape : Nat) (h_this_list : Nat) (h_this_list_bytes : Nat) (h_this_item : Nat) (h_this_word : Nat) (h_this_written : Nat) (place_this : Int32) (size_list : Int32) (a_list_bytes : Nat → Int32) (res : Int32) :
    ∀ (x1 : Int32), p_X_meaningOfBackslash_0 N size_list a_list_bytes x1 = some res → ∀ (H : Heap) (locs : List Loc), va_P D classes [(h_this, .inr (1, [.ref h_this_tape, .ref h_this_list, .ref h_this_item, .ref h_this_word, .ref h_this_written, .int place_this])), (h_this_list, .inr (0, [.ref h_this_list_bytes, .int size_list])), (h_this_list_bytes, .inl (cA, 1024, .inl a_list_bytes))] H → va_D A [(h_this, .inr (1, [.ref h_this_tape, .ref h_this_list, .ref h_this_item, .ref h_this_word, .ref h_this_written, .int place_this])), (h_this_list, .inr (0, [.ref h_this_list_bytes, .int size_list])), (h_this_list_bytes, .inl (cA, 1024, .inl a_list_bytes))] → va_S A s.heap H locs → ∀ (ls : Array Slot), lv_has ls 5 [(0, .ref h_this), (1, .int x1)] → W p l e rm_X_meaningOfBackslash s m args below meth c H locs 0 0 (QI .int below args s D cA A (res) [(h_this, .inr (1, [.ref h_this_tape, .ref h_this_list, .ref h_this_item, .ref h_this_word, .ref h_this_written, .int place_this])), (h_this_list, .inr (0, [.ref h_this_list_bytes, .int size_list])), (h_this_list_bytes, .inl (cA, 1024, .inl a_list_bytes))]) (F0 m 0 ls []) := by
  obtain ⟨hx, hb, hr, hml, hown, hG, hlk⟩ := id C0
  intro x1 h H locs hP hD hS ls hl
  unfold p_X_meaningOfBackslash_0 at h
  refine lv_aload_n hx hb d_X_meaningOfBackslash_0 rfl (lv_at hl 0 rfl) ?_
  refine va_get (D := D) (ci := 1) (v := .ref h_this_list) (C := R_X) (T := F_X) (N := 6) hx hb hG i_X hown hK hP 0 rfl rfl 1 (by decide) (hG _ f_X_16) (fun _ h9 => h9) rfl d_X_meaningOfBackslash_1 ?_
  refine lv_iload_n hx hb d_X_meaningOfBackslash_4 rfl (lv_at hl 1 rfl) ?_
  refine lv_iconst (v := (1 : Int32)) hx hb d_X_meaningOfBackslash_5 (by decide) ?_
  refine lv_iadd hx hb d_X_meaningOfBackslash_6 ?_
  obtain ⟨r_7, h_7, h⟩ := bindS h
  refine call_vi (wr := [(h_this, .inr (1, [.ref h_this_tape, .ref h_this_list, .ref h_this_item, .ref h_this_word, .ref h_this_written, .int place_this]))]) (w1 := [(h_this_list, .inr (0, [.ref h_this_list_bytes, .int size_list])), (h_this_list_bytes, .inl (cA, 1024, .inl a_list_bytes))]) (wN := [(h_this, .inr (1, [.ref h_this_tape, .ref h_this_list, .ref h_this_item, .ref h_this_word, .ref h_this_written, .int place_this])), (h_this_list, .inr (0, [.ref h_this_list_bytes, .int size_list])), (h_this_list_bytes, .inl (cA, 1024, .inl a_list_bytes))]) (rest := []) C0 hK hP hD hS hA hZ (c_R_byteAt l D cA zz N h_this_list h_this_list_bytes size_list a_list_bytes (x1 + (1 : Int32)) r_7 h_7) [1, 2] [0] [0, 1, 2] rfl rfl rfl rfl (by decide) rfl rfl 0 0 rfl rfl m_X_58 ⟨Nat.le_of_ble_eq_true rfl, Nat.le_of_ble_eq_true rfl⟩ ⟨rfl, rfl⟩ rfl hl.1 rfl (Nat.le_of_ble_eq_true rfl) ⟨Nat.le_of_ble_eq_true rfl, Nat.le_of_ble_eq_true rfl⟩ d_X_meaningOfBackslash_7 (fun b_7 H locs hP hD hS => ?_)
  refine lv_istore_n (lv' := [(2, .int r_7), (0, .ref h_this), (1, .int x1)]) hx hb d_X_meaningOfBackslash_10 rfl hl (by decide) rfl (fun ls hl => ?_)
  refine lv_iload_n hx hb d_X_meaningOfBackslash_11 rfl (lv_at hl 0 rfl) ?_
  refine lv_iconst (v := (-1 : Int32)) hx hb d_X_meaningOfBackslash_12 (by decide) ?_
  refine lv_icmp_ne (tgt := 19) hx hb d_X_meaningOfBackslash_13 (by decide) (fun c_13 => ?_) (fun c_13 => ?_)
  · have h := iteN c_13 h
    refine lv_iload_n hx hb d_X_meaningOfBackslash_19 rfl (lv_at hl 0 rfl) ?_
    refine lv_bipush (v := (10 : Int32)) hx hb d_X_meaningOfBackslash_20 (by decide) ?_
    refine lv_icmp_ne (tgt := 28) hx hb d_X_meaningOfBackslash_22 (by decide) (fun c_22 => ?_) (fun c_22 => ?_)
    · have h := iteN c_22 h
      refine lv_iload_n hx hb d_X_meaningOfBackslash_28 rfl (lv_at hl 0 rfl) ?_
      refine lv_bipush (v := (120 : Int32)) hx hb d_X_meaningOfBackslash_29 (by decide) ?_
      refine lv_icmp_ne (tgt := 65) hx hb d_X_meaningOfBackslash_31 (by decide) (fun c_31 => ?_) (fun c_31 => ?_)
      · have h := iteN c_31 h
        refine lv_aload_n hx hb d_X_meaningOfBackslash_65 rfl (lv_at hl 1 rfl) ?_
        refine lv_iload_n hx hb d_X_meaningOfBackslash_66 rfl (lv_at hl 2 rfl) ?_
        refine lv_iconst (v := (1 : Int32)) hx hb d_X_meaningOfBackslash_67 (by decide) ?_
        refine lv_iadd hx hb d_X_meaningOfBackslash_68 ?_
        refine lv_iconst (v := (3 : Int32)) hx hb d_X_meaningOfBackslash_69 (by decide) ?_
        refine lv_bipush (v := (8 : Int32)) hx hb d_X_meaningOfBackslash_70 (by decide) ?_
        obtain ⟨r_72, h_72, h⟩ := bindS h
        refine call_vi (wr := []) (w1 := [(h_this, .inr (1, [.ref h_this_tape, .ref h_this_list, .ref h_this_item, .ref h_this_word, .ref h_this_written, .int place_this])), (h_this_list, .inr (0, [.ref h_this_list_bytes, .int size_list])), (h_this_list_bytes, .inl (cA, 1024, .inl a_list_bytes))]) (wN := [(h_this, .inr (1, [.ref h_this_tape, .ref h_this_list, .ref h_this_item, .ref h_this_word, .ref h_this_written, .int place_this])), (h_this_list, .inr (0, [.ref h_this_list_bytes, .int size_list])), (h_this_list_bytes, .inl (cA, 1024, .inl a_list_bytes))]) (rest := []) C0 hK hP hD hS hA hZ (c_X_countDigits l D cA zz N h_this h_this_tape h_this_list h_this_list_bytes h_this_item h_this_word h_this_written place_this size_list a_list_bytes (x1 + (1 : Int32)) (3 : Int32) (8 : Int32) r_72 h_72) [0, 1, 2] [] [0, 1, 2] rfl rfl rfl rfl (by decide) rfl rfl 0 1 rfl rfl m_X_87 ⟨Nat.le_of_ble_eq_true rfl, Nat.le_of_ble_eq_true rfl⟩ ⟨rfl, rfl⟩ rfl hl.1 rfl (Nat.le_of_ble_eq_true rfl) ⟨Nat.le_of_ble_eq_true rfl, Nat.le_of_ble_eq_true rfl⟩ d_X_meaningOfBackslash_72 (fun b_72 H locs hP hD hS => ?_)
        refine lv_istore_n (lv' := [(3, .int r_72), (2, .int r_7), (0, .ref h_this), (1, .int x1)]) hx hb d_X_meaningOfBackslash_75 rfl hl (by decide) rfl (fun ls hl => ?_)
        refine lv_iload_n hx hb d_X_meaningOfBackslash_76 rfl (lv_at hl 0 rfl) ?_
        refine lv_if_le (tgt := 91) hx hb d_X_meaningOfBackslash_77 (by decide) (fun c_77 => ?_) (fun c_77 => ?_)
        · have h := iteP c_77 h
          refine va_ldcS (q := zz.1 0) hx hb hown (ZS_ldc0 hZ) d_X_meaningOfBackslash_91 ?_
          refine lv_iload_n hx hb d_X_meaningOfBackslash_93 rfl (lv_at hl 1 rfl) ?_
          refine lv_i2c (v := (r_7.toUInt32 % 65536).toInt32) hx hb d_X_meaningOfBackslash_94 rfl ?_
          obtain ⟨r_95, h_95, h⟩ := bindS h
          refine call_ki (wr := [(h_this, .inr (1, [.ref h_this_tape, .ref h_this_list, .ref h_this_item, .ref h_this_word, .ref h_this_written, .int place_this])), (h_this_list, .inr (0, [.ref h_this_list_bytes, .int size_list])), (h_this_list_bytes, .inl (cA, 1024, .inl a_list_bytes))]) (w1 := []) (wN := [(h_this, .inr (1, [.ref h_this_tape, .ref h_this_list, .ref h_this_item, .ref h_this_word, .ref h_this_written, .int place_this])), (h_this_list, .inr (0, [.ref h_this_list_bytes, .int size_list])), (h_this_list_bytes, .inl (cA, 1024, .inl a_list_bytes))]) (rest := []) C0 hK hP hD hS hA hZ (c_S_indexOf0 l D cA zz N 0 (by decide) (r_7.toUInt32 % 65536).toInt32 r_95 h_95) [] [0, 1, 2] [0, 1, 2] rfl rfl rfl rfl (by decide) rfl rfl (ZS_recv hZ (by decide) hS) m_X_96 ⟨Nat.le_of_ble_eq_true rfl, Nat.le_of_ble_eq_true rfl⟩ ⟨rfl, rfl⟩ rfl hl.1 rfl (Nat.le_of_ble_eq_true rfl) ⟨Nat.le_of_ble_eq_true rfl, Nat.le_of_ble_eq_true rfl⟩ d_X_meaningOfBackslash_95 (fun b_95 H locs hP hD hS => ?_)
          refine lv_istore (lv' := [(4, .int r_95), (3, .int r_72), (2, .int r_7), (0, .ref h_this), (1, .int x1)]) hx hb d_X_meaningOfBackslash_98 hl (by decide) rfl (fun ls hl => ?_)
          refine lv_iload hx hb d_X_meaningOfBackslash_100 (lv_at hl 0 rfl) ?_
          refine lv_if_lt (tgt := 113) hx hb d_X_meaningOfBackslash_102 (by decide) (fun c_102 => ?_) (fun c_102 => ?_)
          · have h := iteP c_102 h
            refine lv_iload_n hx hb d_X_meaningOfBackslash_113 rfl (lv_at hl 2 rfl) ?_
            obtain rfl := Option.some.inj h
            exact rI (v := r_7) C0 (vp_nar_int _) hK hP hD hS d_X_meaningOfBackslash_114
          · have h := iteN c_102 h
            refine lv_bipush (v := (7 : Int32)) hx hb d_X_meaningOfBackslash_105 (by decide) ?_
            refine lv_iload hx hb d_X_meaningOfBackslash_107 (lv_at hl 0 rfl) ?_
            refine lv_iadd hx hb d_X_meaningOfBackslash_109 ?_
            refine lv_goto (tgt := 114) hx hb d_X_meaningOfBackslash_110 (by decide) ?_
            obtain rfl := Option.some.inj h
            exact rI (v := ((7 : Int32) + r_95)) C0 (vp_nar_int _) hK hP hD hS d_X_meaningOfBackslash_114
        · have h := iteN c_77 h
          refine lv_aload_n hx hb d_X_meaningOfBackslash_80 rfl (lv_at hl 2 rfl) ?_
          refine lv_iload_n hx hb d_X_meaningOfBackslash_81 rfl (lv_at hl 3 rfl) ?_
          refine lv_iconst (v := (1 : Int32)) hx hb d_X_meaningOfBackslash_82 (by decide) ?_
          refine lv_iadd hx hb d_X_meaningOfBackslash_83 ?_
          refine lv_iload_n hx hb d_X_meaningOfBackslash_84 rfl (lv_at hl 0 rfl) ?_
          refine lv_bipush (v := (8 : Int32)) hx hb d_X_meaningOfBackslash_85 (by decide) ?_
          obtain ⟨r_87, h_87, h⟩ := bindS h
          refine call_vi (wr := []) (w1 := [(h_this, .inr (1, [.ref h_this_tape, .ref h_this_list, .ref h_this_item, .ref h_this_word, .ref h_this_written, .int place_this])), (h_this_list, .inr (0, [.ref h_this_list_bytes, .int size_list])), (h_this_list_bytes, .inl (cA, 1024, .inl a_list_bytes))]) (wN := [(h_this, .inr (1, [.ref h_this_tape, .ref h_this_list, .ref h_this_item, .ref h_this_word, .ref h_this_written, .int place_this])), (h_this_list, .inr (0, [.ref h_this_list_bytes, .int size_list])), (h_this_list_bytes, .inl (cA, 1024, .inl a_list_bytes))]) (rest := []) C0 hK hP hD hS hA hZ (c_X_numberAt l D cA zz N h_this h_this_tape h_this_list h_this_list_bytes h_this_item h_this_word h_this_written place_this size_list a_list_bytes (x1 + (1 : Int32)) r_72 (8 : Int32) r_87 h_87) [0, 1, 2] [] [0, 1, 2] rfl rfl rfl rfl (by decide) rfl rfl 0 1 rfl rfl m_X_91 ⟨Nat.le_of_ble_eq_true rfl, Nat.le_of_ble_eq_true rfl⟩ ⟨rfl, rfl⟩ rfl hl.1 rfl (Nat.le_of_ble_eq_true rfl) ⟨Nat.le_of_ble_eq_true rfl, Nat.le_of_ble_eq_true rfl⟩ d_X_meaningOfBackslash_87 (fun b_87 H locs hP hD hS => ?_)
          obtain rfl := Option.some.inj h
          exact rI (v := r_87) C0 (vp_nar_int _) hK hP hD hS d_X_meaningOfBackslash_90
      · have h := iteP c_31 h
        refine lv_aload_n hx hb d_X_meaningOfBackslash_34 rfl (lv_at hl 1 rfl) ?_
        refine lv_iload_n hx hb d_X_meaningOfBackslash_35 rfl (lv_at hl 2 rfl) ?_
        refine lv_iconst (v := (2 : Int32)) hx hb d_X_meaningOfBackslash_36 (by decide) ?_
        refine lv_iadd hx hb d_X_meaningOfBackslash_37 ?_
        refine lv_iconst (v := (2 : Int32)) hx hb d_X_meaningOfBackslash_38 (by decide) ?_
        refine lv_bipush (v := (16 : Int32)) hx hb d_X_meaningOfBackslash_39 (by decide) ?_
        obtain ⟨r_41, h_41, h⟩ := bindS h
        refine call_vi (wr := []) (w1 := [(h_this, .inr (1, [.ref h_this_tape, .ref h_this_list, .ref h_this_item, .ref h_this_word, .ref h_this_written, .int place_this])), (h_this_list, .inr (0, [.ref h_this_list_bytes, .int size_list])), (h_this_list_bytes, .inl (cA, 1024, .inl a_list_bytes))]) (wN := [(h_this, .inr (1, [.ref h_this_tape, .ref h_this_list, .ref h_this_item, .ref h_this_word, .ref h_this_written, .int place_this])), (h_this_list, .inr (0, [.ref h_this_list_bytes, .int size_list])), (h_this_list_bytes, .inl (cA, 1024, .inl a_list_bytes))]) (rest := []) C0 hK hP hD hS hA hZ (c_X_countDigits l D cA zz N h_this h_this_tape h_this_list h_this_list_bytes h_this_item h_this_word h_this_written place_this size_list a_list_bytes (x1 + (2 : Int32)) (2 : Int32) (16 : Int32) r_41 h_41) [0, 1, 2] [] [0, 1, 2] rfl rfl rfl rfl (by decide) rfl rfl 0 1 rfl rfl m_X_87 ⟨Nat.le_of_ble_eq_true rfl, Nat.le_of_ble_eq_true rfl⟩ ⟨rfl, rfl⟩ rfl hl.1 rfl (Nat.le_of_ble_eq_true rfl) ⟨Nat.le_of_ble_eq_true rfl, Nat.le_of_ble_eq_true rfl⟩ d_X_meaningOfBackslash_41 (fun b_41 H locs hP hD hS => ?_)
        refine lv_istore_n (lv' := [(3, .int r_41), (2, .int r_7), (0, .ref h_this), (1, .int x1)]) hx hb d_X_meaningOfBackslash_44 rfl hl (by decide) rfl (fun ls hl => ?_)
        refine lv_iload_n hx hb d_X_meaningOfBackslash_45 rfl (lv_at hl 0 rfl) ?_
        refine lv_if_ne (tgt := 54) hx hb d_X_meaningOfBackslash_46 (by decide) (fun c_46 => ?_) (fun c_46 => ?_)
        · have h := iteN c_46 h
          refine lv_aload_n hx hb d_X_meaningOfBackslash_54 rfl (lv_at hl 2 rfl) ?_
          refine lv_iload_n hx hb d_X_meaningOfBackslash_55 rfl (lv_at hl 3 rfl) ?_
          refine lv_iconst (v := (2 : Int32)) hx hb d_X_meaningOfBackslash_56 (by decide) ?_
          refine lv_iadd hx hb d_X_meaningOfBackslash_57 ?_
          refine lv_iload_n hx hb d_X_meaningOfBackslash_58 rfl (lv_at hl 0 rfl) ?_
          refine lv_bipush (v := (16 : Int32)) hx hb d_X_meaningOfBackslash_59 (by decide) ?_
          obtain ⟨r_61, h_61, h⟩ := bindS h
          refine call_vi (wr := []) (w1 := [(h_this, .inr (1, [.ref h_this_tape, .ref h_this_list, .ref h_this_item, .ref h_this_word, .ref h_this_written, .int place_this])), (h_this_list, .inr (0, [.ref h_this_list_bytes, .int size_list])), (h_this_list_bytes, .inl (cA, 1024, .inl a_list_bytes))]) (wN := [(h_this, .inr (1, [.ref h_this_tape, .ref h_this_list, .ref h_this_item, .ref h_this_word, .ref h_this_written, .int place_this])), (h_this_list, .inr (0, [.ref h_this_list_bytes, .int size_list])), (h_this_list_bytes, .inl (cA, 1024, .inl a_list_bytes))]) (rest := []) C0 hK hP hD hS hA hZ (c_X_numberAt l D cA zz N h_this h_this_tape h_this_list h_this_list_bytes h_this_item h_this_word h_this_written place_this size_list a_list_bytes (x1 + (2 : Int32)) r_41 (16 : Int32) r_61 h_61) [0, 1, 2] [] [0, 1, 2] rfl rfl rfl rfl (by decide) rfl rfl 0 1 rfl rfl m_X_91 ⟨Nat.le_of_ble_eq_true rfl, Nat.le_of_ble_eq_true rfl⟩ ⟨rfl, rfl⟩ rfl hl.1 rfl (Nat.le_of_ble_eq_true rfl) ⟨Nat.le_of_ble_eq_true rfl, Nat.le_of_ble_eq_true rfl⟩ d_X_meaningOfBackslash_61 (fun b_61 H locs hP hD hS => ?_)
          obtain rfl := Option.some.inj h
          exact rI (v := r_61) C0 (vp_nar_int _) hK hP hD hS d_X_meaningOfBackslash_64
        · have h := iteP c_46 h
          refine lv_bipush (v := (120 : Int32)) hx hb d_X_meaningOfBackslash_49 (by decide) ?_
          refine lv_goto (tgt := 64) hx hb d_X_meaningOfBackslash_51 (by decide) ?_
          obtain rfl := Option.some.inj h
          exact rI (v := (120 : Int32)) C0 (vp_nar_int _) hK hP hD hS d_X_meaningOfBackslash_64
    · have h := iteP c_22 h
      refine lv_bipush (v := (32 : Int32)) hx hb d_X_meaningOfBackslash_25 (by decide) ?_
      obtain rfl := Option.some.inj h
      exact rI (v := (32 : Int32)) C0 (vp_nar_int _) hK hP hD hS d_X_meaningOfBackslash_27
  · have h := iteP c_13 h
    refine lv_bipush (v := (92 : Int32)) hx hb d_X_meaningOfBackslash_16 (by decide) ?_
    obtain rfl := Option.some.inj h
    exact rI (v := (92 : Int32)) C0 (vp_nar_int _) hK hP hD hS d_X_meaningOfBackslash_18
theorem c_X_meaningOfBackslash (l : Launch) (D : va_G) (cA : ClassId) (zz : zT) (N : Nat) (h_this : Nat) (h_this_tape : Nat) (h_this_list : Nat) (h_this_list_bytes : Nat) (h_this_item : Nat) (h_this_word : Nat) (h_this_written : Nat) (place_this : Int32) (size_list : Int32) (a_list_bytes : Nat → Int32) (x1 : Int32) (res : Int32) (h : p_X_meaningOfBackslash N size_list a_list_bytes x1 = some res) : MI l D cA zz y_X_meaningOfBackslash b_X_meaningOfBackslash 5 .int rm_X_meaningOfBackslash [.ref h_this, .int x1] [(h_this, .inr (1, [.ref h_this_tape, .ref h_this_list, .ref h_this_item, .ref h_this_word, .ref h_this_written, .int place_this])), (h_this_list, .inr (0, [.ref h_this_list_bytes, .int size_list])), (h_this_list_bytes, .inl (cA, 1024, .inl a_list_bytes))] (res) [(h_this, .inr (1, [.ref h_this_tape, .ref h_this_list, .ref h_this_item, .ref h_this_word, .ref h_this_written, .int place_this])), (h_this_list, .inr (0, [.ref h_this_list_bytes, .int size_list])), (h_this_list_bytes, .inl (cA, 1024, .inl a_list_bytes))] := by
  unfold p_X_meaningOfBackslash at h
  exact MI_enter (by decide) (Nat.le_of_ble_eq_true rfl) (fun p e s m below meth c A ls C0 hK hA hZ hP hD hl => t_X_meaningOfBackslash_0 C0 hK hA hZ N h_this h_this_tape h_this_list h_this_list_bytes h_this_item h_this_word h_this_written place_this size_list a_list_bytes res _ h s.heap [] hP hD va_S.rf ls hl)
-- ListWords.countBlanks(I)I
set_option maxHeartbeats 4000000 in
set_option maxRecDepth 100000 in
theorem t_X_countBlanks_2 {p : Program} {l : Launch} {e : Env} {s : State} {m : MethodId} {args : Array Value} {below : List Frame} {meth : Method} {c : Code} {D : va_G} {cA : ClassId} {zz : zT} {A : Nat → Prop} (C0 : Cx p s m args meth c b_X_countBlanks R_X 3 (some .int)) (hK : va_K D classes [(cA, .int)] s) (hA : ∀ q : Nat, s.heap.size ≤ q → A q) (hZ : ZS zz A s s.heap) (N : Nat) (h_this : Nat) (h_this_tape : Nat) (h_this_list : Nat) (h_this_list_bytes : Nat) (h_this_item : Nat) (h_this_word : Nat) (h_this_written : Nat) (place_this : Int32) (size_list : Int32) (a_list_bytes : Nat → Int32) (res : Int32) :
    ∀ (n : Nat), ∀ (x1 : Int32) (x2 : Int32), p_X_countBlanks_2 N size_list a_list_bytes n x1 x2 = some res → ∀ (H : Heap) (locs : List Loc), va_P D classes [(h_this, .inr (1, [.ref h_this_tape, .ref h_this_list, .ref h_this_item, .ref h_this_word, .ref h_this_written, .int place_this])), (h_this_list, .inr (0, [.ref h_this_list_bytes, .int size_list])), (h_this_list_bytes, .inl (cA, 1024, .inl a_list_bytes))] H → va_D A [(h_this, .inr (1, [.ref h_this_tape, .ref h_this_list, .ref h_this_item, .ref h_this_word, .ref h_this_written, .int place_this])), (h_this_list, .inr (0, [.ref h_this_list_bytes, .int size_list])), (h_this_list_bytes, .inl (cA, 1024, .inl a_list_bytes))] → va_S A s.heap H locs → ∀ (ls : Array Slot), lv_has ls 3 [(0, .ref h_this), (1, .int x1), (2, .int x2)] → W p l e rm_X_countBlanks s m args below meth c H locs 0 0 (QI .int below args s D cA A (res) [(h_this, .inr (1, [.ref h_this_tape, .ref h_this_list, .ref h_this_item, .ref h_this_word, .ref h_this_written, .int place_this])), (h_this_list, .inr (0, [.ref h_this_list_bytes, .int size_list])), (h_this_list_bytes, .inl (cA, 1024, .inl a_list_bytes))]) (F0 m 2 ls []) := by
  obtain ⟨hx, hb, hr, hml, hown, hG, hlk⟩ := id C0
  intro n
  induction n with
  | zero =>
    intro x1 x2 h H locs hP hD hS ls hl
    exact absurd h (by simp [p_X_countBlanks_2])
  | succ n ih =>
    intro x1 x2 h H locs hP hD hS ls hl
    rw [p_X_countBlanks_2] at h
    refine lv_iload_n hx hb d_X_countBlanks_2 rfl (lv_at hl 2 rfl) ?_
    refine lv_aload_n hx hb d_X_countBlanks_3 rfl (lv_at hl 0 rfl) ?_
    refine va_get (D := D) (ci := 1) (v := .ref h_this_list) (C := R_X) (T := F_X) (N := 6) hx hb hG i_X hown hK hP 0 rfl rfl 1 (by decide) (hG _ f_X_16) (fun _ h9 => h9) rfl d_X_countBlanks_4 ?_
    obtain ⟨r_7, h_7, h⟩ := bindS h
    refine call_vi (wr := [(h_this, .inr (1, [.ref h_this_tape, .ref h_this_list, .ref h_this_item, .ref h_this_word, .ref h_this_written, .int place_this])), (h_this_list_bytes, .inl (cA, 1024, .inl a_list_bytes))]) (w1 := [(h_this_list, .inr (0, [.ref h_this_list_bytes, .int size_list]))]) (wN := [(h_this, .inr (1, [.ref h_this_tape, .ref h_this_list, .ref h_this_item, .ref h_this_word, .ref h_this_written, .int place_this])), (h_this_list, .inr (0, [.ref h_this_list_bytes, .int size_list])), (h_this_list_bytes, .inl (cA, 1024, .inl a_list_bytes))]) (rest := [.int x2]) C0 hK hP hD hS hA hZ (c_R_size l D cA zz N h_this_list h_this_list_bytes size_list r_7 h_7) [1] [0, 2] [0, 2, 1] rfl rfl rfl rfl (by decide) rfl rfl 0 0 rfl rfl m_X_32 ⟨Nat.le_of_ble_eq_true rfl, Nat.le_of_ble_eq_true rfl⟩ ⟨rfl, rfl⟩ rfl hl.1 rfl (Nat.le_of_ble_eq_true rfl) ⟨Nat.le_of_ble_eq_true rfl, Nat.le_of_ble_eq_true rfl⟩ d_X_countBlanks_7 (fun b_7 H locs hP hD hS => ?_)
    refine lv_icmp_ge (tgt := 45) hx hb d_X_countBlanks_10 (by decide) (fun c_10 => ?_) (fun c_10 => ?_)
    · have h := iteP c_10 h
      refine lv_iload_n hx hb d_X_countBlanks_45 rfl (lv_at hl 2 rfl) ?_
      refine lv_iload_n hx hb d_X_countBlanks_46 rfl (lv_at hl 1 rfl) ?_
      refine lv_isub hx hb d_X_countBlanks_47 ?_
      obtain rfl := Option.some.inj h
      exact rI (v := (x2 - x1)) C0 (vp_nar_int _) hK hP hD hS d_X_countBlanks_48
    · have h := iteN c_10 h
      refine lv_aload_n hx hb d_X_countBlanks_13 rfl (lv_at hl 0 rfl) ?_
      refine va_get (D := D) (ci := 1) (v := .ref h_this_list) (C := R_X) (T := F_X) (N := 6) hx hb hG i_X hown hK hP 0 rfl rfl 1 (by decide) (hG _ f_X_16) (fun _ h9 => h9) rfl d_X_countBlanks_14 ?_
      refine lv_iload_n hx hb d_X_countBlanks_17 rfl (lv_at hl 2 rfl) ?_
      obtain ⟨r_18, h_18, h⟩ := bindS h
      refine call_vi (wr := [(h_this, .inr (1, [.ref h_this_tape, .ref h_this_list, .ref h_this_item, .ref h_this_word, .ref h_this_written, .int place_this]))]) (w1 := [(h_this_list, .inr (0, [.ref h_this_list_bytes, .int size_list])), (h_this_list_bytes, .inl (cA, 1024, .inl a_list_bytes))]) (wN := [(h_this, .inr (1, [.ref h_this_tape, .ref h_this_list, .ref h_this_item, .ref h_this_word, .ref h_this_written, .int place_this])), (h_this_list, .inr (0, [.ref h_this_list_bytes, .int size_list])), (h_this_list_bytes, .inl (cA, 1024, .inl a_list_bytes))]) (rest := []) C0 hK hP hD hS hA hZ (c_R_byteAt l D cA zz N h_this_list h_this_list_bytes size_list a_list_bytes x2 r_18 h_18) [1, 2] [0] [0, 1, 2] rfl rfl rfl rfl (by decide) rfl rfl 0 0 rfl rfl m_X_58 ⟨Nat.le_of_ble_eq_true rfl, Nat.le_of_ble_eq_true rfl⟩ ⟨rfl, rfl⟩ rfl hl.1 rfl (Nat.le_of_ble_eq_true rfl) ⟨Nat.le_of_ble_eq_true rfl, Nat.le_of_ble_eq_true rfl⟩ d_X_countBlanks_18 (fun b_18 H locs hP hD hS => ?_)
      refine lv_bipush (v := (32 : Int32)) hx hb d_X_countBlanks_21 (by decide) ?_
      refine lv_icmp_eq (tgt := 39) hx hb d_X_countBlanks_23 (by decide) (fun c_23 => ?_) (fun c_23 => ?_)
      · have h := iteP c_23 h
        refine lv_iinc (v := (x2 + (1 : Int32))) (lv' := [(2, .int (x2 + (1 : Int32))), (0, .ref h_this), (1, .int x1)]) hx hb d_X_countBlanks_39 hl (k := 2) rfl rfl (by decide) rfl (fun ls hl => ?_)
        refine lv_goto (tgt := 2) hx hb d_X_countBlanks_42 (by decide) ?_
        exact ih _ _ h H locs hP hD hS ls (lv_sub hl [1, 2, 0] rfl)
      · have h := iteN c_23 h
        refine lv_aload_n hx hb d_X_countBlanks_26 rfl (lv_at hl 0 rfl) ?_
        refine va_get (D := D) (ci := 1) (v := .ref h_this_list) (C := R_X) (T := F_X) (N := 6) hx hb hG i_X hown hK hP 0 rfl rfl 1 (by decide) (hG _ f_X_16) (fun _ h9 => h9) rfl d_X_countBlanks_27 ?_
        refine lv_iload_n hx hb d_X_countBlanks_30 rfl (lv_at hl 2 rfl) ?_
        obtain ⟨r_31, h_31, h⟩ := bindS h
        refine call_vi (wr := [(h_this, .inr (1, [.ref h_this_tape, .ref h_this_list, .ref h_this_item, .ref h_this_word, .ref h_this_written, .int place_this]))]) (w1 := [(h_this_list, .inr (0, [.ref h_this_list_bytes, .int size_list])), (h_this_list_bytes, .inl (cA, 1024, .inl a_list_bytes))]) (wN := [(h_this, .inr (1, [.ref h_this_tape, .ref h_this_list, .ref h_this_item, .ref h_this_word, .ref h_this_written, .int place_this])), (h_this_list, .inr (0, [.ref h_this_list_bytes, .int size_list])), (h_this_list_bytes, .inl (cA, 1024, .inl a_list_bytes))]) (rest := []) C0 hK hP hD hS hA hZ (c_R_byteAt l D cA zz N h_this_list h_this_list_bytes size_list a_list_bytes x2 r_31 h_31) [1, 2] [0] [0, 1, 2] rfl rfl rfl rfl (by decide) rfl rfl 0 0 rfl rfl m_X_58 ⟨Nat.le_of_ble_eq_true rfl, Nat.le_of_ble_eq_true rfl⟩ ⟨rfl, rfl⟩ rfl hl.1 rfl (Nat.le_of_ble_eq_true rfl) ⟨Nat.le_of_ble_eq_true rfl, Nat.le_of_ble_eq_true rfl⟩ d_X_countBlanks_31 (fun b_31 H locs hP hD hS => ?_)
        refine lv_bipush (v := (9 : Int32)) hx hb d_X_countBlanks_34 (by decide) ?_
        refine lv_icmp_ne (tgt := 45) hx hb d_X_countBlanks_36 (by decide) (fun c_36 => ?_) (fun c_36 => ?_)
        · have h := iteN c_36 h
          refine lv_iload_n hx hb d_X_countBlanks_45 rfl (lv_at hl 2 rfl) ?_
          refine lv_iload_n hx hb d_X_countBlanks_46 rfl (lv_at hl 1 rfl) ?_
          refine lv_isub hx hb d_X_countBlanks_47 ?_
          obtain rfl := Option.some.inj h
          exact rI (v := (x2 - x1)) C0 (vp_nar_int _) hK hP hD hS d_X_countBlanks_48
        · have h := iteP c_36 h
          refine lv_iinc (v := (x2 + (1 : Int32))) (lv' := [(2, .int (x2 + (1 : Int32))), (0, .ref h_this), (1, .int x1)]) hx hb d_X_countBlanks_39 hl (k := 2) rfl rfl (by decide) rfl (fun ls hl => ?_)
          refine lv_goto (tgt := 2) hx hb d_X_countBlanks_42 (by decide) ?_
          exact ih _ _ h H locs hP hD hS ls (lv_sub hl [1, 2, 0] rfl)
set_option maxHeartbeats 4000000 in
set_option maxRecDepth 100000 in
theorem t_X_countBlanks_0 {p : Program} {l : Launch} {e : Env} {s : State} {m : MethodId} {args : Array Value} {below : List Frame} {meth : Method} {c : Code} {D : va_G} {cA : ClassId} {zz : zT} {A : Nat → Prop} (C0 : Cx p s m args meth c b_X_countBlanks R_X 3 (some .int)) (hK : va_K D classes [(cA, .int)] s) (hA : ∀ q : Nat, s.heap.size ≤ q → A q) (hZ : ZS zz A s s.heap) (N : Nat) (h_this : Nat) (h_this_tape : Nat) (h_this_list : Nat) (h_this_list_bytes : Nat) (h_this_item : Nat) (h_this_word : Nat) (h_this_written : Nat) (place_this : Int32) (size_list : Int32) (a_list_bytes : Nat → Int32) (res : Int32) :
    ∀ (x1 : Int32), p_X_countBlanks_0 N size_list a_list_bytes x1 = some res → ∀ (H : Heap) (locs : List Loc), va_P D classes [(h_this, .inr (1, [.ref h_this_tape, .ref h_this_list, .ref h_this_item, .ref h_this_word, .ref h_this_written, .int place_this])), (h_this_list, .inr (0, [.ref h_this_list_bytes, .int size_list])), (h_this_list_bytes, .inl (cA, 1024, .inl a_list_bytes))] H → va_D A [(h_this, .inr (1, [.ref h_this_tape, .ref h_this_list, .ref h_this_item, .ref h_this_word, .ref h_this_written, .int place_this])), (h_this_list, .inr (0, [.ref h_this_list_bytes, .int size_list])), (h_this_list_bytes, .inl (cA, 1024, .inl a_list_bytes))] → va_S A s.heap H locs → ∀ (ls : Array Slot), lv_has ls 3 [(0, .ref h_this), (1, .int x1)] → W p l e rm_X_countBlanks s m args below meth c H locs 0 0 (QI .int below args s D cA A (res) [(h_this, .inr (1, [.ref h_this_tape, .ref h_this_list, .ref h_this_item, .ref h_this_word, .ref h_this_written, .int place_this])), (h_this_list, .inr (0, [.ref h_this_list_bytes, .int size_list])), (h_this_list_bytes, .inl (cA, 1024, .inl a_list_bytes))]) (F0 m 0 ls []) := by
  obtain ⟨hx, hb, hr, hml, hown, hG, hlk⟩ := id C0
  intro x1 h H locs hP hD hS ls hl
  unfold p_X_countBlanks_0 at h
  refine lv_iload_n hx hb d_X_countBlanks_0 rfl (lv_at hl 1 rfl) ?_
  refine lv_istore_n (lv' := [(2, .int x1), (0, .ref h_this), (1, .int x1)]) hx hb d_X_countBlanks_1 rfl hl (by decide) rfl (fun ls hl => ?_)
  exact t_X_countBlanks_2 C0 hK hA hZ N h_this h_this_tape h_this_list h_this_list_bytes h_this_item h_this_word h_this_written place_this size_list a_list_bytes res N _ _ h H locs hP hD hS ls (lv_sub hl [1, 2, 0] rfl)
theorem c_X_countBlanks (l : Launch) (D : va_G) (cA : ClassId) (zz : zT) (N : Nat) (h_this : Nat) (h_this_tape : Nat) (h_this_list : Nat) (h_this_list_bytes : Nat) (h_this_item : Nat) (h_this_word : Nat) (h_this_written : Nat) (place_this : Int32) (size_list : Int32) (a_list_bytes : Nat → Int32) (x1 : Int32) (res : Int32) (h : p_X_countBlanks N size_list a_list_bytes x1 = some res) : MI l D cA zz y_X_countBlanks b_X_countBlanks 3 .int rm_X_countBlanks [.ref h_this, .int x1] [(h_this, .inr (1, [.ref h_this_tape, .ref h_this_list, .ref h_this_item, .ref h_this_word, .ref h_this_written, .int place_this])), (h_this_list, .inr (0, [.ref h_this_list_bytes, .int size_list])), (h_this_list_bytes, .inl (cA, 1024, .inl a_list_bytes))] (res) [(h_this, .inr (1, [.ref h_this_tape, .ref h_this_list, .ref h_this_item, .ref h_this_word, .ref h_this_written, .int place_this])), (h_this_list, .inr (0, [.ref h_this_list_bytes, .int size_list])), (h_this_list_bytes, .inl (cA, 1024, .inl a_list_bytes))] := by
  unfold p_X_countBlanks at h
  exact MI_enter (by decide) (Nat.le_of_ble_eq_true rfl) (fun p e s m below meth c A ls C0 hK hA hZ hP hD hl => t_X_countBlanks_0 C0 hK hA hZ N h_this h_this_tape h_this_list h_this_list_bytes h_this_item h_this_word h_this_written place_this size_list a_list_bytes res _ h s.heap [] hP hD va_S.rf ls hl)
