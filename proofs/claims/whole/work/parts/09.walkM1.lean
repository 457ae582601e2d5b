-- ListWordsModel.add(I)V
set_option maxHeartbeats 4000000 in
set_option maxRecDepth 100000 in
theorem t_M_add_0 {p : Program} {l : Launch} {e : Env} {s : State} {m : MethodId} {args : Array Value} {below : List Frame} {meth : Method} {c : Code} {D : va_G} {cA : ClassId} {zz : zT} {A : Nat → Prop} (C0 : Cx p s m args meth c b_M_add R_M 2 none) (hK : va_K D classes [(cA, .int)] s) (hA : ∀ q : Nat, s.heap.size ≤ q → A q) (hZ : ZS zz A s s.heap) (N : Nat) (h_this : Nat) (h_this_tape : Nat) (h_this_list : Nat) (h_this_item : Nat) (h_this_word : Nat) (h_this_text : Nat) (tapeSize_this : Int32) (listSize_this : Int32) (itemSize_this : Int32) (textSize_this : Int32) (res : Int32 × (Nat → Int32)) :
    ∀ (wordSize_this : Int32) (a_word : Nat → Int32) (x1 : Int32), p_M_add_0 N wordSize_this a_word x1 = some res → ∀ (H : Heap) (locs : List Loc), va_P D classes [(h_this, .inr (2, [.ref h_this_tape, .int tapeSize_this, .ref h_this_list, .int listSize_this, .ref h_this_item, .int itemSize_this, .ref h_this_word, .int wordSize_this, .ref h_this_text, .int textSize_this])), (h_this_word, .inl (cA, 1024, .inl a_word))] H → va_D A [(h_this, .inr (2, [.ref h_this_tape, .int tapeSize_this, .ref h_this_list, .int listSize_this, .ref h_this_item, .int itemSize_this, .ref h_this_word, .int wordSize_this, .ref h_this_text, .int textSize_this])), (h_this_word, .inl (cA, 1024, .inl a_word))] → va_S A s.heap H locs → ∀ (ls : Array Slot), lv_has ls 2 [(0, .ref h_this), (1, .int x1)] → W p l e rm_M_add s m args below meth c H locs 0 0 (QV below args s D cA A [(h_this, .inr (2, [.ref h_this_tape, .int tapeSize_this, .ref h_this_list, .int listSize_this, .ref h_this_item, .int itemSize_this, .ref h_this_word, .int res.1, .ref h_this_text, .int textSize_this])), (h_this_word, .inl (cA, 1024, .inl res.2))]) (F0 m 0 ls []) := by
  obtain ⟨hx, hb, hr, hml, hown, hG, hlk⟩ := id C0
  intro wordSize_this a_word x1 h H locs hP hD hS ls hl
  unfold p_M_add_0 at h
  refine lv_aload_n hx hb d_M_add_0 rfl (lv_at hl 0 rfl) ?_
  refine va_get (D := D) (ci := 2) (v := .ref h_this_word) (C := R_M) (T := F_M) (N := 10) hx hb hG i_M hown hK hP 0 rfl rfl 6 (by decide) (hG _ f_M_19) (fun _ h9 => h9) rfl d_M_add_1 ?_
  refine lv_aload_n hx hb d_M_add_4 rfl (lv_at hl 0 rfl) ?_
  refine va_get (D := D) (ci := 2) (v := .int wordSize_this) (C := R_M) (T := F_M) (N := 10) hx hb hG i_M hown hK hP 0 rfl rfl 7 (by decide) (hG _ f_M_49) (fun _ h9 => h9) rfl d_M_add_5 ?_
  refine lv_iload_n hx hb d_M_add_8 rfl (lv_at hl 1 rfl) ?_
  obtain ⟨g_9, h⟩ := guardN h
  refine va_iast hx hb hK hP hD hS 1 0 rfl rfl g_9 d_M_add_9 (fun H locs hP hD hS => ?_)
  have hP : va_P D classes [(h_this, .inr (2, [.ref h_this_tape, .int tapeSize_this, .ref h_this_list, .int listSize_this, .ref h_this_item, .int itemSize_this, .ref h_this_word, .int wordSize_this, .ref h_this_text, .int textSize_this])), (h_this_word, .inl (cA, 1024, .inl (upd a_word wordSize_this.toNatClampNeg x1)))] H := hP
  have hD : va_D A [(h_this, .inr (2, [.ref h_this_tape, .int tapeSize_this, .ref h_this_list, .int listSize_this, .ref h_this_item, .int itemSize_this, .ref h_this_word, .int wordSize_this, .ref h_this_text, .int textSize_this])), (h_this_word, .inl (cA, 1024, .inl (upd a_word wordSize_this.toNatClampNeg x1)))] := hD
  refine lv_aload_n hx hb d_M_add_10 rfl (lv_at hl 0 rfl) ?_
  refine lv_dup hx hb d_M_add_11 rfl ?_
  refine va_get (D := D) (ci := 2) (v := .int wordSize_this) (C := R_M) (T := F_M) (N := 10) hx hb hG i_M hown hK hP 0 rfl rfl 7 (by decide) (hG _ f_M_49) (fun _ h9 => h9) rfl d_M_add_12 ?_
  refine lv_iconst (v := (1 : Int32)) hx hb d_M_add_15 (by decide) ?_
  refine lv_iadd hx hb d_M_add_16 ?_
  refine va_put (D := D) (ci := 2) (v := .int (wordSize_this + (1 : Int32))) (ty := .int) (C := R_M) (T := F_M) (N := 10) hx hb hG i_M t_M t_M_ok n_M hown hK hP hD hS 0 rfl rfl 7 (by decide) (hG _ f_M_49) (fun _ h9 => h9) rfl (by decide +kernel) rfl rfl (Nat.le_of_ble_eq_true rfl) d_M_add_17 (fun H locs hP hD hS => ?_)
  have hP : va_P D classes [(h_this, .inr (2, [.ref h_this_tape, .int tapeSize_this, .ref h_this_list, .int listSize_this, .ref h_this_item, .int itemSize_this, .ref h_this_word, .int (wordSize_this + (1 : Int32)), .ref h_this_text, .int textSize_this])), (h_this_word, .inl (cA, 1024, .inl (upd a_word wordSize_this.toNatClampNeg x1)))] H := hP
  have hD : va_D A [(h_this, .inr (2, [.ref h_this_tape, .int tapeSize_this, .ref h_this_list, .int listSize_this, .ref h_this_item, .int itemSize_this, .ref h_this_word, .int (wordSize_this + (1 : Int32)), .ref h_this_text, .int textSize_this])), (h_this_word, .inl (cA, 1024, .inl (upd a_word wordSize_this.toNatClampNeg x1)))] := hD
  obtain rfl := Option.some.inj h
  exact rV C0 hK hP hD hS d_M_add_20
theorem c_M_add (l : Launch) (D : va_G) (cA : ClassId) (zz : zT) (N : Nat) (h_this : Nat) (h_this_tape : Nat) (h_this_list : Nat) (h_this_item : Nat) (h_this_word : Nat) (h_this_text : Nat) (tapeSize_this : Int32) (listSize_this : Int32) (itemSize_this : Int32) (wordSize_this : Int32) (textSize_this : Int32) (a_word : Nat → Int32) (x1 : Int32) (res : Int32 × (Nat → Int32)) (h : p_M_add N wordSize_this a_word x1 = some res) : MV l D cA zz y_M_add b_M_add 2 rm_M_add [.ref h_this, .int x1] [(h_this, .inr (2, [.ref h_this_tape, .int tapeSize_this, .ref h_this_list, .int listSize_this, .ref h_this_item, .int itemSize_this, .ref h_this_word, .int wordSize_this, .ref h_this_text, .int textSize_this])), (h_this_word, .inl (cA, 1024, .inl a_word))] [(h_this, .inr (2, [.ref h_this_tape, .int tapeSize_this, .ref h_this_list, .int listSize_this, .ref h_this_item, .int itemSize_this, .ref h_this_word, .int res.1, .ref h_this_text, .int textSize_this])), (h_this_word, .inl (cA, 1024, .inl res.2))] := by
  unfold p_M_add at h
  exact MV_enter (by decide) (Nat.le_of_ble_eq_true rfl) (fun p e s m below meth c A ls C0 hK hA hZ hP hD hl => t_M_add_0 C0 hK hA hZ N h_this h_this_tape h_this_list h_this_item h_this_word h_this_text tapeSize_this listSize_this itemSize_this textSize_this res _ _ _ h s.heap [] hP hD va_S.rf ls hl)
-- ListWordsModel.digit(I)I
set_option maxHeartbeats 4000000 in
set_option maxRecDepth 100000 in
theorem t_M_digit_41 {p : Program} {l : Launch} {e : Env} {s : State} {m : MethodId} {args : Array Value} {below : List Frame} {meth : Method} {c : Code} {D : va_G} {cA : ClassId} {zz : zT} {A : Nat → Prop} (C0 : Cx p s m args meth c b_M_digit R_M 2 (some .int)) (hK : va_K D classes [(cA, .int)] s) (hA : ∀ q : Nat, s.heap.size ≤ q → A q) (hZ : ZS zz A s s.heap) (N : Nat) (res : Int32) :
    ∀ (x0 : Int32), p_M_digit_41 N x0 = some res → ∀ (H : Heap) (locs : List Loc), va_P D classes [] H → va_D A [] → va_S A s.heap H locs → ∀ (ls : Array Slot), lv_has ls 2 [(0, .int x0)] → W p l e rm_M_digit s m args below meth c H locs 0 0 (QI .int below args s D cA A (res) []) (F0 m 41 ls []) := by
  obtain ⟨hx, hb, hr, hml, hown, hG, hlk⟩ := id C0
  intro x0 h H locs hP hD hS ls hl
  unfold p_M_digit_41 at h
  refine lv_iload_n hx hb d_M_digit_41 rfl (lv_at hl 0 rfl) ?_
  refine lv_bipush (v := (65 : Int32)) hx hb d_M_digit_42 (by decide) ?_
  refine lv_icmp_lt (tgt := 63) hx hb d_M_digit_44 (by decide) (fun c_44 => ?_) (fun c_44 => ?_)
  · have h := iteP c_44 h
    refine lv_bipush (v := (99 : Int32)) hx hb d_M_digit_63 (by decide) ?_
    refine lv_istore_n (lv' := [(1, .int (99 : Int32)), (0, .int x0)]) hx hb d_M_digit_65 rfl hl (by decide) rfl (fun ls hl => ?_)
    refine lv_iload_n hx hb d_M_digit_66 rfl (lv_at hl 0 rfl) ?_
    obtain rfl := Option.some.inj h
    exact rI (v := (99 : Int32)) C0 (vp_nar_int _) hK hP hD hS d_M_digit_67
  · have h := iteN c_44 h
    refine lv_iload_n hx hb d_M_digit_47 rfl (lv_at hl 0 rfl) ?_
    refine lv_bipush (v := (70 : Int32)) hx hb d_M_digit_48 (by decide) ?_
    refine lv_icmp_gt (tgt := 63) hx hb d_M_digit_50 (by decide) (fun c_50 => ?_) (fun c_50 => ?_)
    · have h := iteP c_50 h
      refine lv_bipush (v := (99 : Int32)) hx hb d_M_digit_63 (by decide) ?_
      refine lv_istore_n (lv' := [(1, .int (99 : Int32)), (0, .int x0)]) hx hb d_M_digit_65 rfl hl (by decide) rfl (fun ls hl => ?_)
      refine lv_iload_n hx hb d_M_digit_66 rfl (lv_at hl 0 rfl) ?_
      obtain rfl := Option.some.inj h
      exact rI (v := (99 : Int32)) C0 (vp_nar_int _) hK hP hD hS d_M_digit_67
    · have h := iteN c_50 h
      refine lv_iload_n hx hb d_M_digit_53 rfl (lv_at hl 0 rfl) ?_
      refine lv_bipush (v := (65 : Int32)) hx hb d_M_digit_54 (by decide) ?_
      refine lv_isub hx hb d_M_digit_56 ?_
      refine lv_bipush (v := (10 : Int32)) hx hb d_M_digit_57 (by decide) ?_
      refine lv_iadd hx hb d_M_digit_59 ?_
      refine lv_goto (tgt := 65) hx hb d_M_digit_60 (by decide) ?_
      refine lv_istore_n (lv' := [(1, .int ((x0 - (65 : Int32)) + (10 : Int32))), (0, .int x0)]) hx hb d_M_digit_65 rfl hl (by decide) rfl (fun ls hl => ?_)
      refine lv_iload_n hx hb d_M_digit_66 rfl (lv_at hl 0 rfl) ?_
      obtain rfl := Option.some.inj h
      exact rI (v := ((x0 - (65 : Int32)) + (10 : Int32))) C0 (vp_nar_int _) hK hP hD hS d_M_digit_67
set_option maxHeartbeats 4000000 in
set_option maxRecDepth 100000 in
theorem t_M_digit_19 {p : Program} {l : Launch} {e : Env} {s : State} {m : MethodId} {args : Array Value} {below : List Frame} {meth : Method} {c : Code} {D : va_G} {cA : ClassId} {zz : zT} {A : Nat → Prop} (C0 : Cx p s m args meth c b_M_digit R_M 2 (some .int)) (hK : va_K D classes [(cA, .int)] s) (hA : ∀ q : Nat, s.heap.size ≤ q → A q) (hZ : ZS zz A s s.heap) (N : Nat) (res : Int32) :
    ∀ (x0 : Int32), p_M_digit_19 N x0 = some res → ∀ (H : Heap) (locs : List Loc), va_P D classes [] H → va_D A [] → va_S A s.heap H locs → ∀ (ls : Array Slot), lv_has ls 2 [(0, .int x0)] → W p l e rm_M_digit s m args below meth c H locs 0 0 (QI .int below args s D cA A (res) []) (F0 m 19 ls []) := by
  obtain ⟨hx, hb, hr, hml, hown, hG, hlk⟩ := id C0
  intro x0 h H locs hP hD hS ls hl
  unfold p_M_digit_19 at h
  refine lv_iload_n hx hb d_M_digit_19 rfl (lv_at hl 0 rfl) ?_
  refine lv_bipush (v := (97 : Int32)) hx hb d_M_digit_20 (by decide) ?_
  refine lv_icmp_lt (tgt := 41) hx hb d_M_digit_22 (by decide) (fun c_22 => ?_) (fun c_22 => ?_)
  · have h := iteP c_22 h
    exact t_M_digit_41 C0 hK hA hZ N res _ h H locs hP hD hS ls (lv_sub hl [0] rfl)
  · have h := iteN c_22 h
    refine lv_iload_n hx hb d_M_digit_25 rfl (lv_at hl 0 rfl) ?_
    refine lv_bipush (v := (102 : Int32)) hx hb d_M_digit_26 (by decide) ?_
    refine lv_icmp_gt (tgt := 41) hx hb d_M_digit_28 (by decide) (fun c_28 => ?_) (fun c_28 => ?_)
    · have h := iteP c_28 h
      exact t_M_digit_41 C0 hK hA hZ N res _ h H locs hP hD hS ls (lv_sub hl [0] rfl)
    · have h := iteN c_28 h
      refine lv_iload_n hx hb d_M_digit_31 rfl (lv_at hl 0 rfl) ?_
      refine lv_bipush (v := (97 : Int32)) hx hb d_M_digit_32 (by decide) ?_
      refine lv_isub hx hb d_M_digit_34 ?_
      refine lv_bipush (v := (10 : Int32)) hx hb d_M_digit_35 (by decide) ?_
      refine lv_iadd hx hb d_M_digit_37 ?_
      refine lv_goto (tgt := 65) hx hb d_M_digit_38 (by decide) ?_
      refine lv_istore_n (lv' := [(1, .int ((x0 - (97 : Int32)) + (10 : Int32))), (0, .int x0)]) hx hb d_M_digit_65 rfl hl (by decide) rfl (fun ls hl => ?_)
      refine lv_iload_n hx hb d_M_digit_66 rfl (lv_at hl 0 rfl) ?_
      obtain rfl := Option.some.inj h
      exact rI (v := ((x0 - (97 : Int32)) + (10 : Int32))) C0 (vp_nar_int _) hK hP hD hS d_M_digit_67
set_option maxHeartbeats 4000000 in
set_option maxRecDepth 100000 in
theorem t_M_digit_0 {p : Program} {l : Launch} {e : Env} {s : State} {m : MethodId} {args : Array Value} {below : List Frame} {meth : Method} {c : Code} {D : va_G} {cA : ClassId} {zz : zT} {A : Nat → Prop} (C0 : Cx p s m args meth c b_M_digit R_M 2 (some .int)) (hK : va_K D classes [(cA, .int)] s) (hA : ∀ q : Nat, s.heap.size ≤ q → A q) (hZ : ZS zz A s s.heap) (N : Nat) (res : Int32) :
    ∀ (x0 : Int32), p_M_digit_0 N x0 = some res → ∀ (H : Heap) (locs : List Loc), va_P D classes [] H → va_D A [] → va_S A s.heap H locs → ∀ (ls : Array Slot), lv_has ls 2 [(0, .int x0)] → W p l e rm_M_digit s m args below meth c H locs 0 0 (QI .int below args s D cA A (res) []) (F0 m 0 ls []) := by
  obtain ⟨hx, hb, hr, hml, hown, hG, hlk⟩ := id C0
  intro x0 h H locs hP hD hS ls hl
  unfold p_M_digit_0 at h
  refine lv_iload_n hx hb d_M_digit_0 rfl (lv_at hl 0 rfl) ?_
  refine lv_bipush (v := (48 : Int32)) hx hb d_M_digit_1 (by decide) ?_
  refine lv_icmp_lt (tgt := 19) hx hb d_M_digit_3 (by decide) (fun c_3 => ?_) (fun c_3 => ?_)
  · have h := iteP c_3 h
    exact t_M_digit_19 C0 hK hA hZ N res _ h H locs hP hD hS ls (lv_sub hl [0] rfl)
  · have h := iteN c_3 h
    refine lv_iload_n hx hb d_M_digit_6 rfl (lv_at hl 0 rfl) ?_
    refine lv_bipush (v := (57 : Int32)) hx hb d_M_digit_7 (by decide) ?_
    refine lv_icmp_gt (tgt := 19) hx hb d_M_digit_9 (by decide) (fun c_9 => ?_) (fun c_9 => ?_)
    · have h := iteP c_9 h
      exact t_M_digit_19 C0 hK hA hZ N res _ h H locs hP hD hS ls (lv_sub hl [0] rfl)
    · have h := iteN c_9 h
      refine lv_iload_n hx hb d_M_digit_12 rfl (lv_at hl 0 rfl) ?_
      refine lv_bipush (v := (48 : Int32)) hx hb d_M_digit_13 (by decide) ?_
      refine lv_isub hx hb d_M_digit_15 ?_
      refine lv_goto (tgt := 65) hx hb d_M_digit_16 (by decide) ?_
      refine lv_istore_n (lv' := [(1, .int (x0 - (48 : Int32))), (0, .int x0)]) hx hb d_M_digit_65 rfl hl (by decide) rfl (fun ls hl => ?_)
      refine lv_iload_n hx hb d_M_digit_66 rfl (lv_at hl 0 rfl) ?_
      obtain rfl := Option.some.inj h
      exact rI (v := (x0 - (48 : Int32))) C0 (vp_nar_int _) hK hP hD hS d_M_digit_67
theorem c_M_digit (l : Launch) (D : va_G) (cA : ClassId) (zz : zT) (N : Nat)  (x0 : Int32) (res : Int32) (h : p_M_digit N x0 = some res) : MI l D cA zz y_M_digit b_M_digit 2 .int rm_M_digit [.int x0] [] (res) [] := by
  unfold p_M_digit at h
  exact MI_enter (by decide) (Nat.le_of_ble_eq_true rfl) (fun p e s m below meth c A ls C0 hK hA hZ hP hD hl => t_M_digit_0 C0 hK hA hZ N res _ h s.heap [] hP hD va_S.rf ls hl)
-- ListWordsModel.letter(I)I
set_option maxHeartbeats 4000000 in
set_option maxRecDepth 100000 in
theorem t_M_letter_0 {p : Program} {l : Launch} {e : Env} {s : State} {m : MethodId} {args : Array Value} {below : List Frame} {meth : Method} {c : Code} {D : va_G} {cA : ClassId} {zz : zT} {A : Nat → Prop} (C0 : Cx p s m args meth c b_M_letter R_M 1 (some .int)) (hK : va_K D classes [(cA, .int)] s) (hA : ∀ q : Nat, s.heap.size ≤ q → A q) (hZ : ZS zz A s s.heap) (N : Nat) (res : Int32) :
    ∀ (x0 : Int32), p_M_letter_0 N x0 = some res → ∀ (H : Heap) (locs : List Loc), va_P D classes [] H → va_D A [] → va_S A s.heap H locs → ∀ (ls : Array Slot), lv_has ls 1 [(0, .int x0)] → W p l e rm_M_letter s m args below meth c H locs 0 0 (QI .int below args s D cA A (res) []) (F0 m 0 ls []) := by
  obtain ⟨hx, hb, hr, hml, hown, hG, hlk⟩ := id C0
  intro x0 h H locs hP hD hS ls hl
  unfold p_M_letter_0 at h
  refine lv_iload_n hx hb d_M_letter_0 rfl (lv_at hl 0 rfl) ?_
  by_cases c_1_97 : x0 = (97 : Int32)
  · have h := iteP c_1_97 h
    refine lv_tableIn (off := 103) (tgt := 104) hx hb d_M_letter_1 (by rw [c_1_97]; decide) (by rw [c_1_97]; decide) (by rw [c_1_97]; decide) (by decide) ?_
    refine lv_bipush (v := (7 : Int32)) hx hb d_M_letter_104 (by decide) ?_
    obtain rfl := Option.some.inj h
    exact rI (v := (7 : Int32)) C0 (vp_nar_int _) hK hP hD hS d_M_letter_106
  have h := iteN c_1_97 h
  by_cases c_1_98 : x0 = (98 : Int32)
  · have h := iteP c_1_98 h
    refine lv_tableIn (off := 106) (tgt := 107) hx hb d_M_letter_1 (by rw [c_1_98]; decide) (by rw [c_1_98]; decide) (by rw [c_1_98]; decide) (by decide) ?_
    refine lv_bipush (v := (8 : Int32)) hx hb d_M_letter_107 (by decide) ?_
    obtain rfl := Option.some.inj h
    exact rI (v := (8 : Int32)) C0 (vp_nar_int _) hK hP hD hS d_M_letter_109
  have h := iteN c_1_98 h
  by_cases c_1_102 : x0 = (102 : Int32)
  · have h := iteP c_1_102 h
    refine lv_tableIn (off := 118) (tgt := 119) hx hb d_M_letter_1 (by rw [c_1_102]; decide) (by rw [c_1_102]; decide) (by rw [c_1_102]; decide) (by decide) ?_
    refine lv_bipush (v := (12 : Int32)) hx hb d_M_letter_119 (by decide) ?_
    obtain rfl := Option.some.inj h
    exact rI (v := (12 : Int32)) C0 (vp_nar_int _) hK hP hD hS d_M_letter_121
  have h := iteN c_1_102 h
  by_cases c_1_110 : x0 = (110 : Int32)
  · have h := iteP c_1_110 h
    refine lv_tableIn (off := 112) (tgt := 113) hx hb d_M_letter_1 (by rw [c_1_110]; decide) (by rw [c_1_110]; decide) (by rw [c_1_110]; decide) (by decide) ?_
    refine lv_bipush (v := (10 : Int32)) hx hb d_M_letter_113 (by decide) ?_
    obtain rfl := Option.some.inj h
    exact rI (v := (10 : Int32)) C0 (vp_nar_int _) hK hP hD hS d_M_letter_115
  have h := iteN c_1_110 h
  by_cases c_1_114 : x0 = (114 : Int32)
  · have h := iteP c_1_114 h
    refine lv_tableIn (off := 121) (tgt := 122) hx hb d_M_letter_1 (by rw [c_1_114]; decide) (by rw [c_1_114]; decide) (by rw [c_1_114]; decide) (by decide) ?_
    refine lv_bipush (v := (13 : Int32)) hx hb d_M_letter_122 (by decide) ?_
    obtain rfl := Option.some.inj h
    exact rI (v := (13 : Int32)) C0 (vp_nar_int _) hK hP hD hS d_M_letter_124
  have h := iteN c_1_114 h
  by_cases c_1_116 : x0 = (116 : Int32)
  · have h := iteP c_1_116 h
    refine lv_tableIn (off := 109) (tgt := 110) hx hb d_M_letter_1 (by rw [c_1_116]; decide) (by rw [c_1_116]; decide) (by rw [c_1_116]; decide) (by decide) ?_
    refine lv_bipush (v := (9 : Int32)) hx hb d_M_letter_110 (by decide) ?_
    obtain rfl := Option.some.inj h
    exact rI (v := (9 : Int32)) C0 (vp_nar_int _) hK hP hD hS d_M_letter_112
  have h := iteN c_1_116 h
  by_cases c_1_118 : x0 = (118 : Int32)
  · have h := iteP c_1_118 h
    refine lv_tableIn (off := 115) (tgt := 116) hx hb d_M_letter_1 (by rw [c_1_118]; decide) (by rw [c_1_118]; decide) (by rw [c_1_118]; decide) (by decide) ?_
    refine lv_bipush (v := (11 : Int32)) hx hb d_M_letter_116 (by decide) ?_
    obtain rfl := Option.some.inj h
    exact rI (v := (11 : Int32)) C0 (vp_nar_int _) hK hP hD hS d_M_letter_118
  have h := iteN c_1_118 h
  have e_1_97 := lv_neT (a := 97) c_1_97 (by decide)
  have e_1_98 := lv_neT (a := 98) c_1_98 (by decide)
  have e_1_102 := lv_neT (a := 102) c_1_102 (by decide)
  have e_1_110 := lv_neT (a := 110) c_1_110 (by decide)
  have e_1_114 := lv_neT (a := 114) c_1_114 (by decide)
  have e_1_116 := lv_neT (a := 116) c_1_116 (by decide)
  have e_1_118 := lv_neT (a := 118) c_1_118 (by decide)
  by_cases ho_1 : x0.toInt < 97 ∨ 118 < x0.toInt
  · refine lv_tableOut (tgt := 125) hx hb d_M_letter_1 ho_1 (by decide) ?_
    refine lv_iload_n hx hb d_M_letter_125 rfl (lv_at hl 0 rfl) ?_
    obtain rfl := Option.some.inj h
    exact rI (v := x0) C0 (vp_nar_int _) hK hP hD hS d_M_letter_126
  · refine lv_tableIn (off := 124) (tgt := 125) hx hb d_M_letter_1 (fun q => ho_1 (Or.inl q)) (fun q => ho_1 (Or.inr q)) (sw_def (n := 22) [0, 1, 5, 13, 17, 19, 21] (by decide) (by intro j hj; simp only [List.mem_cons, List.not_mem_nil, or_false] at hj; omega) (by omega) (by omega)) (by decide) ?_
    refine lv_iload_n hx hb d_M_letter_125 rfl (lv_at hl 0 rfl) ?_
    obtain rfl := Option.some.inj h
    exact rI (v := x0) C0 (vp_nar_int _) hK hP hD hS d_M_letter_126
theorem c_M_letter (l : Launch) (D : va_G) (cA : ClassId) (zz : zT) (N : Nat)  (x0 : Int32) (res : Int32) (h : p_M_letter N x0 = some res) : MI l D cA zz y_M_letter b_M_letter 1 .int rm_M_letter [.int x0] [] (res) [] := by
  unfold p_M_letter at h
  exact MI_enter (by decide) (Nat.le_of_ble_eq_true rfl) (fun p e s m below meth c A ls C0 hK hA hZ hP hD hl => t_M_letter_0 C0 hK hA hZ N res _ h s.heap [] hP hD va_S.rf ls hl)
-- ListWordsModel.meaning(II)I
set_option maxHeartbeats 4000000 in
set_option maxRecDepth 100000 in
theorem t_M_meaning_157 {p : Program} {l : Launch} {e : Env} {s : State} {m : MethodId} {args : Array Value} {below : List Frame} {meth : Method} {c : Code} {D : va_G} {cA : ClassId} {zz : zT} {A : Nat → Prop} (C0 : Cx p s m args meth c b_M_meaning R_M 10 (some .int)) (hK : va_K D classes [(cA, .int)] s) (hA : ∀ q : Nat, s.heap.size ≤ q → A q) (hZ : ZS zz A s s.heap) (N : Nat) (h_this : Nat) (h_this_tape : Nat) (h_this_list : Nat) (h_this_item : Nat) (h_this_word : Nat) (h_this_text : Nat) (tapeSize_this : Int32) (listSize_this : Int32) (itemSize_this : Int32) (textSize_this : Int32) (a_list : Nat → Int32) (res : Int32 × Int32 × (Nat → Int32)) :
    ∀ (wordSize_this : Int32) (a_word : Nat → Int32) (x1 : Int32) (x3 : Int32) (x6 : Int32) (x8 : Int32) (x9 : Int32), p_M_meaning_157 N listSize_this a_list wordSize_this a_word x1 x3 x6 x8 x9 = some res → ∀ (H : Heap) (locs : List Loc), va_P D classes [(h_this, .inr (2, [.ref h_this_tape, .int tapeSize_this, .ref h_this_list, .int listSize_this, .ref h_this_item, .int itemSize_this, .ref h_this_word, .int wordSize_this, .ref h_this_text, .int textSize_this])), (h_this_list, .inl (cA, 1024, .inl a_list)), (h_this_word, .inl (cA, 1024, .inl a_word))] H → va_D A [(h_this, .inr (2, [.ref h_this_tape, .int tapeSize_this, .ref h_this_list, .int listSize_this, .ref h_this_item, .int itemSize_this, .ref h_this_word, .int wordSize_this, .ref h_this_text, .int textSize_this])), (h_this_list, .inl (cA, 1024, .inl a_list)), (h_this_word, .inl (cA, 1024, .inl a_word))] → va_S A s.heap H locs → ∀ (ls : Array Slot), lv_has ls 10 [(0, .ref h_this), (1, .int x1), (3, .int x3), (6, .int x6), (8, .int x8), (9, .int x9)] → W p l e rm_M_meaning s m args below meth c H locs 0 0 (QI .int below args s D cA A (res.1) [(h_this, .inr (2, [.ref h_this_tape, .int tapeSize_this, .ref h_this_list, .int listSize_this, .ref h_this_item, .int itemSize_this, .ref h_this_word, .int res.2.1, .ref h_this_text, .int textSize_this])), (h_this_list, .inl (cA, 1024, .inl a_list)), (h_this_word, .inl (cA, 1024, .inl res.2.2))]) (F0 m 157 ls []) := by
  obtain ⟨hx, hb, hr, hml, hown, hG, hlk⟩ := id C0
  intro wordSize_this a_word x1 x3 x6 x8 x9 h H locs hP hD hS ls hl
  unfold p_M_meaning_157 at h
  refine lv_iload hx hb d_M_meaning_157 (lv_at hl 5 rfl) ?_
  refine lv_if_le (tgt := 175) hx hb d_M_meaning_159 (by decide) (fun c_159 => ?_) (fun c_159 => ?_)
  · have h := iteP c_159 h
    refine lv_aload_n hx hb d_M_meaning_175 rfl (lv_at hl 0 rfl) ?_
    refine lv_iload_n hx hb d_M_meaning_176 rfl (lv_at hl 2 rfl) ?_
    obtain ⟨r_177, h_177, h⟩ := bindS h
    refine call_si (wr := [(h_this, .inr (2, [.ref h_this_tape, .int tapeSize_this, .ref h_this_list, .int listSize_this, .ref h_this_item, .int itemSize_this, .ref h_this_word, .int wordSize_this, .ref h_this_text, .int textSize_this])), (h_this_list, .inl (cA, 1024, .inl a_list)), (h_this_word, .inl (cA, 1024, .inl a_word))]) (w1 := []) (wN := [(h_this, .inr (2, [.ref h_this_tape, .int tapeSize_this, .ref h_this_list, .int listSize_this, .ref h_this_item, .int itemSize_this, .ref h_this_word, .int wordSize_this, .ref h_this_text, .int textSize_this])), (h_this_list, .inl (cA, 1024, .inl a_list)), (h_this_word, .inl (cA, 1024, .inl a_word))]) (rest := [.ref h_this]) C0 hK hP hD hS hA hZ (c_M_letter l D cA zz N x3 r_177 h_177) [] [0, 1, 2] [0, 1, 2] rfl rfl rfl rfl (by decide) rfl rfl m_M_59 ⟨Nat.le_of_ble_eq_true rfl, Nat.le_of_ble_eq_true rfl⟩ ⟨rfl, rfl⟩ rfl hl.1 rfl (Nat.le_of_ble_eq_true rfl) ⟨Nat.le_of_ble_eq_true rfl, Nat.le_of_ble_eq_true rfl⟩ d_M_meaning_177 (fun b_177 H locs hP hD hS => ?_)
    obtain ⟨r_180, h_180, h⟩ := bindS h
    refine call_vv (wr := [(h_this_list, .inl (cA, 1024, .inl a_list))]) (w1 := [(h_this, .inr (2, [.ref h_this_tape, .int tapeSize_this, .ref h_this_list, .int listSize_this, .ref h_this_item, .int itemSize_this, .ref h_this_word, .int r_180.1, .ref h_this_text, .int textSize_this])), (h_this_word, .inl (cA, 1024, .inl r_180.2))]) (wN := [(h_this, .inr (2, [.ref h_this_tape, .int tapeSize_this, .ref h_this_list, .int listSize_this, .ref h_this_item, .int itemSize_this, .ref h_this_word, .int r_180.1, .ref h_this_text, .int textSize_this])), (h_this_list, .inl (cA, 1024, .inl a_list)), (h_this_word, .inl (cA, 1024, .inl r_180.2))]) (rest := []) C0 hK hP hD hS hA hZ (c_M_add l D cA zz N h_this h_this_tape h_this_list h_this_item h_this_word h_this_text tapeSize_this listSize_this itemSize_this wordSize_this textSize_this a_word r_177 r_180 h_180) [0, 2] [1] [1, 0, 2] rfl rfl rfl rfl (by decide) rfl rfl 0 2 rfl rfl m_M_52 ⟨Nat.le_of_ble_eq_true rfl, Nat.le_of_ble_eq_true rfl⟩ ⟨rfl, rfl⟩ rfl hl.1 rfl (Nat.le_of_ble_eq_true rfl) ⟨Nat.le_of_ble_eq_true rfl, Nat.le_of_ble_eq_true rfl⟩ d_M_meaning_180 (fun H locs hP hD hS => ?_)
    refine lv_iload_n hx hb d_M_meaning_183 rfl (lv_at hl 1 rfl) ?_
    refine lv_iconst (v := (2 : Int32)) hx hb d_M_meaning_184 (by decide) ?_
    refine lv_iadd hx hb d_M_meaning_185 ?_
    obtain rfl := Option.some.inj h
    exact rI (v := (x1 + (2 : Int32))) C0 (vp_nar_int _) hK hP hD hS d_M_meaning_186
  · have h := iteN c_159 h
    refine lv_aload_n hx hb d_M_meaning_162 rfl (lv_at hl 0 rfl) ?_
    refine lv_iload hx hb d_M_meaning_163 (lv_at hl 4 rfl) ?_
    refine lv_sipush (v := (255 : Int32)) hx hb d_M_meaning_165 (by decide) ?_
    refine lv_iand hx hb d_M_meaning_168 ?_
    obtain ⟨r_169, h_169, h⟩ := bindS h
    refine call_vv (wr := [(h_this_list, .inl (cA, 1024, .inl a_list))]) (w1 := [(h_this, .inr (2, [.ref h_this_tape, .int tapeSize_this, .ref h_this_list, .int listSize_this, .ref h_this_item, .int itemSize_this, .ref h_this_word, .int r_169.1, .ref h_this_text, .int textSize_this])), (h_this_word, .inl (cA, 1024, .inl r_169.2))]) (wN := [(h_this, .inr (2, [.ref h_this_tape, .int tapeSize_this, .ref h_this_list, .int listSize_this, .ref h_this_item, .int itemSize_this, .ref h_this_word, .int r_169.1, .ref h_this_text, .int textSize_this])), (h_this_list, .inl (cA, 1024, .inl a_list)), (h_this_word, .inl (cA, 1024, .inl r_169.2))]) (rest := []) C0 hK hP hD hS hA hZ (c_M_add l D cA zz N h_this h_this_tape h_this_list h_this_item h_this_word h_this_text tapeSize_this listSize_this itemSize_this wordSize_this textSize_this a_word (x8 &&& (255 : Int32)) r_169 h_169) [0, 2] [1] [1, 0, 2] rfl rfl rfl rfl (by decide) rfl rfl 0 2 rfl rfl m_M_52 ⟨Nat.le_of_ble_eq_true rfl, Nat.le_of_ble_eq_true rfl⟩ ⟨rfl, rfl⟩ rfl hl.1 rfl (Nat.le_of_ble_eq_true rfl) ⟨Nat.le_of_ble_eq_true rfl, Nat.le_of_ble_eq_true rfl⟩ d_M_meaning_169 (fun H locs hP hD hS => ?_)
    refine lv_iload hx hb d_M_meaning_172 (lv_at hl 3 rfl) ?_
    obtain rfl := Option.some.inj h
    exact rI (v := x6) C0 (vp_nar_int _) hK hP hD hS d_M_meaning_174
set_option maxHeartbeats 4000000 in
set_option maxRecDepth 100000 in
theorem t_M_meaning_104 {p : Program} {l : Launch} {e : Env} {s : State} {m : MethodId} {args : Array Value} {below : List Frame} {meth : Method} {c : Code} {D : va_G} {cA : ClassId} {zz : zT} {A : Nat → Prop} (C0 : Cx p s m args meth c b_M_meaning R_M 10 (some .int)) (hK : va_K D classes [(cA, .int)] s) (hA : ∀ q : Nat, s.heap.size ≤ q → A q) (hZ : ZS zz A s s.heap) (N : Nat) (h_this : Nat) (h_this_tape : Nat) (h_this_list : Nat) (h_this_item : Nat) (h_this_word : Nat) (h_this_text : Nat) (tapeSize_this : Int32) (listSize_this : Int32) (itemSize_this : Int32) (textSize_this : Int32) (a_list : Nat → Int32) (res : Int32 × Int32 × (Nat → Int32)) :
    ∀ (n : Nat), ∀ (wordSize_this : Int32) (a_word : Nat → Int32) (x1 : Int32) (x2 : Int32) (x3 : Int32) (x5 : Int32) (x6 : Int32) (x7 : Int32) (x8 : Int32) (x9 : Int32), p_M_meaning_104 N listSize_this a_list n wordSize_this a_word x1 x2 x3 x5 x6 x7 x8 x9 = some res → ∀ (H : Heap) (locs : List Loc), va_P D classes [(h_this, .inr (2, [.ref h_this_tape, .int tapeSize_this, .ref h_this_list, .int listSize_this, .ref h_this_item, .int itemSize_this, .ref h_this_word, .int wordSize_this, .ref h_this_text, .int textSize_this])), (h_this_list, .inl (cA, 1024, .inl a_list)), (h_this_word, .inl (cA, 1024, .inl a_word))] H → va_D A [(h_this, .inr (2, [.ref h_this_tape, .int tapeSize_this, .ref h_this_list, .int listSize_this, .ref h_this_item, .int itemSize_this, .ref h_this_word, .int wordSize_this, .ref h_this_text, .int textSize_this])), (h_this_list, .inl (cA, 1024, .inl a_list)), (h_this_word, .inl (cA, 1024, .inl a_word))] → va_S A s.heap H locs → ∀ (ls : Array Slot), lv_has ls 10 [(0, .ref h_this), (1, .int x1), (2, .int x2), (3, .int x3), (5, .int x5), (6, .int x6), (7, .int x7), (8, .int x8), (9, .int x9)] → W p l e rm_M_meaning s m args below meth c H locs 0 0 (QI .int below args s D cA A (res.1) [(h_this, .inr (2, [.ref h_this_tape, .int tapeSize_this, .ref h_this_list, .int listSize_this, .ref h_this_item, .int itemSize_this, .ref h_this_word, .int res.2.1, .ref h_this_text, .int textSize_this])), (h_this_list, .inl (cA, 1024, .inl a_list)), (h_this_word, .inl (cA, 1024, .inl res.2.2))]) (F0 m 104 ls []) := by
  obtain ⟨hx, hb, hr, hml, hown, hG, hlk⟩ := id C0
  intro n
  induction n with
  | zero =>
    intro wordSize_this a_word x1 x2 x3 x5 x6 x7 x8 x9 h H locs hP hD hS ls hl
    exact absurd h (by simp [p_M_meaning_104])
  | succ n ih =>
    intro wordSize_this a_word x1 x2 x3 x5 x6 x7 x8 x9 h H locs hP hD hS ls hl
    rw [p_M_meaning_104] at h
    refine lv_iload hx hb d_M_meaning_104 (lv_at hl 8 rfl) ?_
    refine lv_iload hx hb d_M_meaning_106 (lv_at hl 6 rfl) ?_
    refine lv_icmp_ge (tgt := 157) hx hb d_M_meaning_108 (by decide) (fun c_108 => ?_) (fun c_108 => ?_)
    · have h := iteP c_108 h
      exact t_M_meaning_157 C0 hK hA hZ N h_this h_this_tape h_this_list h_this_item h_this_word h_this_text tapeSize_this listSize_this itemSize_this textSize_this a_list res _ _ _ _ _ _ _ h H locs hP hD hS ls (lv_sub hl [0, 1, 3, 5, 7, 8] rfl)
    · have h := iteN c_108 h
      refine lv_iload hx hb d_M_meaning_111 (lv_at hl 5 rfl) ?_
      refine lv_iload_n hx hb d_M_meaning_113 rfl (lv_at hl 2 rfl) ?_
      refine lv_icmp_ge (tgt := 157) hx hb d_M_meaning_114 (by decide) (fun c_114 => ?_) (fun c_114 => ?_)
      · have h := iteP c_114 h
        exact t_M_meaning_157 C0 hK hA hZ N h_this h_this_tape h_this_list h_this_item h_this_word h_this_text tapeSize_this listSize_this itemSize_this textSize_this a_list res _ _ _ _ _ _ _ h H locs hP hD hS ls (lv_sub hl [0, 1, 3, 5, 7, 8] rfl)
      · have h := iteN c_114 h
        refine lv_aload_n hx hb d_M_meaning_117 rfl (lv_at hl 0 rfl) ?_
        refine lv_iload hx hb d_M_meaning_118 (lv_at hl 5 rfl) ?_
        obtain ⟨r_120, h_120, h⟩ := bindS h
        refine call_vi (wr := [(h_this_word, .inl (cA, 1024, .inl a_word))]) (w1 := [(h_this, .inr (2, [.ref h_this_tape, .int tapeSize_this, .ref h_this_list, .int listSize_this, .ref h_this_item, .int itemSize_this, .ref h_this_word, .int wordSize_this, .ref h_this_text, .int textSize_this])), (h_this_list, .inl (cA, 1024, .inl a_list))]) (wN := [(h_this, .inr (2, [.ref h_this_tape, .int tapeSize_this, .ref h_this_list, .int listSize_this, .ref h_this_item, .int itemSize_this, .ref h_this_word, .int wordSize_this, .ref h_this_text, .int textSize_this])), (h_this_list, .inl (cA, 1024, .inl a_list)), (h_this_word, .inl (cA, 1024, .inl a_word))]) (rest := []) C0 hK hP hD hS hA hZ (c_M_at l D cA zz N h_this h_this_tape h_this_list h_this_item h_this_word h_this_text tapeSize_this listSize_this itemSize_this wordSize_this textSize_this a_list x6 r_120 h_120) [0, 1] [2] [1, 2, 0] rfl rfl rfl rfl (by decide) rfl rfl 0 2 rfl rfl m_M_29 ⟨Nat.le_of_ble_eq_true rfl, Nat.le_of_ble_eq_true rfl⟩ ⟨rfl, rfl⟩ rfl hl.1 rfl (Nat.le_of_ble_eq_true rfl) ⟨Nat.le_of_ble_eq_true rfl, Nat.le_of_ble_eq_true rfl⟩ d_M_meaning_120 (fun b_120 H locs hP hD hS => ?_)
        obtain ⟨r_123, h_123, h⟩ := bindS h
        refine call_si (wr := [(h_this, .inr (2, [.ref h_this_tape, .int tapeSize_this, .ref h_this_list, .int listSize_this, .ref h_this_item, .int itemSize_this, .ref h_this_word, .int wordSize_this, .ref h_this_text, .int textSize_this])), (h_this_list, .inl (cA, 1024, .inl a_list)), (h_this_word, .inl (cA, 1024, .inl a_word))]) (w1 := []) (wN := [(h_this, .inr (2, [.ref h_this_tape, .int tapeSize_this, .ref h_this_list, .int listSize_this, .ref h_this_item, .int itemSize_this, .ref h_this_word, .int wordSize_this, .ref h_this_text, .int textSize_this])), (h_this_list, .inl (cA, 1024, .inl a_list)), (h_this_word, .inl (cA, 1024, .inl a_word))]) (rest := []) C0 hK hP hD hS hA hZ (c_M_digit l D cA zz N r_120 r_123 h_123) [] [0, 1, 2] [0, 1, 2] rfl rfl rfl rfl (by decide) rfl rfl m_M_56 ⟨Nat.le_of_ble_eq_true rfl, Nat.le_of_ble_eq_true rfl⟩ ⟨rfl, rfl⟩ rfl hl.1 rfl (Nat.le_of_ble_eq_true rfl) ⟨Nat.le_of_ble_eq_true rfl, Nat.le_of_ble_eq_true rfl⟩ d_M_meaning_123 (fun b_123 H locs hP hD hS => ?_)
        refine lv_iload hx hb d_M_meaning_126 (lv_at hl 4 rfl) ?_
        refine lv_icmp_ge (tgt := 157) hx hb d_M_meaning_128 (by decide) (fun c_128 => ?_) (fun c_128 => ?_)
        · have h := iteP c_128 h
          exact t_M_meaning_157 C0 hK hA hZ N h_this h_this_tape h_this_list h_this_item h_this_word h_this_text tapeSize_this listSize_this itemSize_this textSize_this a_list res _ _ _ _ _ _ _ h H locs hP hD hS ls (lv_sub hl [0, 1, 3, 5, 7, 8] rfl)
        · have h := iteN c_128 h
          refine lv_iload hx hb d_M_meaning_131 (lv_at hl 4 rfl) ?_
          refine lv_iload hx hb d_M_meaning_133 (lv_at hl 7 rfl) ?_
          refine lv_imul hx hb d_M_meaning_135 ?_
          refine lv_aload_n hx hb d_M_meaning_136 rfl (lv_at hl 0 rfl) ?_
          refine lv_iload hx hb d_M_meaning_137 (lv_at hl 5 rfl) ?_
          obtain ⟨r_139, h_139, h⟩ := bindS h
          refine call_vi (wr := [(h_this_word, .inl (cA, 1024, .inl a_word))]) (w1 := [(h_this, .inr (2, [.ref h_this_tape, .int tapeSize_this, .ref h_this_list, .int listSize_this, .ref h_this_item, .int itemSize_this, .ref h_this_word, .int wordSize_this, .ref h_this_text, .int textSize_this])), (h_this_list, .inl (cA, 1024, .inl a_list))]) (wN := [(h_this, .inr (2, [.ref h_this_tape, .int tapeSize_this, .ref h_this_list, .int listSize_this, .ref h_this_item, .int itemSize_this, .ref h_this_word, .int wordSize_this, .ref h_this_text, .int textSize_this])), (h_this_list, .inl (cA, 1024, .inl a_list)), (h_this_word, .inl (cA, 1024, .inl a_word))]) (rest := [.int (x5 * x8)]) C0 hK hP hD hS hA hZ (c_M_at l D cA zz N h_this h_this_tape h_this_list h_this_item h_this_word h_this_text tapeSize_this listSize_this itemSize_this wordSize_this textSize_this a_list x6 r_139 h_139) [0, 1] [2] [1, 2, 0] rfl rfl rfl rfl (by decide) rfl rfl 0 2 rfl rfl m_M_29 ⟨Nat.le_of_ble_eq_true rfl, Nat.le_of_ble_eq_true rfl⟩ ⟨rfl, rfl⟩ rfl hl.1 rfl (Nat.le_of_ble_eq_true rfl) ⟨Nat.le_of_ble_eq_true rfl, Nat.le_of_ble_eq_true rfl⟩ d_M_meaning_139 (fun b_139 H locs hP hD hS => ?_)
          obtain ⟨r_142, h_142, h⟩ := bindS h
          refine call_si (wr := [(h_this, .inr (2, [.ref h_this_tape, .int tapeSize_this, .ref h_this_list, .int listSize_this, .ref h_this_item, .int itemSize_this, .ref h_this_word, .int wordSize_this, .ref h_this_text, .int textSize_this])), (h_this_list, .inl (cA, 1024, .inl a_list)), (h_this_word, .inl (cA, 1024, .inl a_word))]) (w1 := []) (wN := [(h_this, .inr (2, [.ref h_this_tape, .int tapeSize_this, .ref h_this_list, .int listSize_this, .ref h_this_item, .int itemSize_this, .ref h_this_word, .int wordSize_this, .ref h_this_text, .int textSize_this])), (h_this_list, .inl (cA, 1024, .inl a_list)), (h_this_word, .inl (cA, 1024, .inl a_word))]) (rest := [.int (x5 * x8)]) C0 hK hP hD hS hA hZ (c_M_digit l D cA zz N r_139 r_142 h_142) [] [0, 1, 2] [0, 1, 2] rfl rfl rfl rfl (by decide) rfl rfl m_M_56 ⟨Nat.le_of_ble_eq_true rfl, Nat.le_of_ble_eq_true rfl⟩ ⟨rfl, rfl⟩ rfl hl.1 rfl (Nat.le_of_ble_eq_true rfl) ⟨Nat.le_of_ble_eq_true rfl, Nat.le_of_ble_eq_true rfl⟩ d_M_meaning_142 (fun b_142 H locs hP hD hS => ?_)
          refine lv_iadd hx hb d_M_meaning_145 ?_
          refine lv_istore (lv' := [(8, .int ((x5 * x8) + r_142)), (0, .ref h_this), (1, .int x1), (2, .int x2), (3, .int x3), (5, .int x5), (6, .int x6), (7, .int x7), (9, .int x9)]) hx hb d_M_meaning_146 hl (by decide) rfl (fun ls hl => ?_)
          refine lv_iinc (v := (x6 + (1 : Int32))) (lv' := [(6, .int (x6 + (1 : Int32))), (8, .int ((x5 * x8) + r_142)), (0, .ref h_this), (1, .int x1), (2, .int x2), (3, .int x3), (5, .int x5), (7, .int x7), (9, .int x9)]) hx hb d_M_meaning_148 hl (k := 6) rfl rfl (by decide) rfl (fun ls hl => ?_)
          refine lv_iinc (v := (x9 + (1 : Int32))) (lv' := [(9, .int (x9 + (1 : Int32))), (6, .int (x6 + (1 : Int32))), (8, .int ((x5 * x8) + r_142)), (0, .ref h_this), (1, .int x1), (2, .int x2), (3, .int x3), (5, .int x5), (7, .int x7)]) hx hb d_M_meaning_151 hl (k := 8) rfl rfl (by decide) rfl (fun ls hl => ?_)
          refine lv_goto (tgt := 104) hx hb d_M_meaning_154 (by decide) ?_
          exact ih _ _ _ _ _ _ _ _ _ _ h H locs hP hD hS ls (lv_sub hl [3, 4, 5, 6, 7, 1, 8, 2, 0] rfl)
set_option maxHeartbeats 4000000 in
set_option maxRecDepth 100000 in
theorem t_M_meaning_84 {p : Program} {l : Launch} {e : Env} {s : State} {m : MethodId} {args : Array Value} {below : List Frame} {meth : Method} {c : Code} {D : va_G} {cA : ClassId} {zz : zT} {A : Nat → Prop} (C0 : Cx p s m args meth c b_M_meaning R_M 10 (some .int)) (hK : va_K D classes [(cA, .int)] s) (hA : ∀ q : Nat, s.heap.size ≤ q → A q) (hZ : ZS zz A s s.heap) (N : Nat) (h_this : Nat) (h_this_tape : Nat) (h_this_list : Nat) (h_this_item : Nat) (h_this_word : Nat) (h_this_text : Nat) (tapeSize_this : Int32) (listSize_this : Int32) (itemSize_this : Int32) (textSize_this : Int32) (a_list : Nat → Int32) (res : Int32 × Int32 × (Nat → Int32)) :
    ∀ (wordSize_this : Int32) (a_word : Nat → Int32) (x1 : Int32) (x2 : Int32) (x3 : Int32) (x4 : Int32) (x5 : Int32) (y0 : Int32), p_M_meaning_84 N listSize_this a_list wordSize_this a_word x1 x2 x3 x4 x5 y0 = some res → ∀ (H : Heap) (locs : List Loc), va_P D classes [(h_this, .inr (2, [.ref h_this_tape, .int tapeSize_this, .ref h_this_list, .int listSize_this, .ref h_this_item, .int itemSize_this, .ref h_this_word, .int wordSize_this, .ref h_this_text, .int textSize_this])), (h_this_list, .inl (cA, 1024, .inl a_list)), (h_this_word, .inl (cA, 1024, .inl a_word))] H → va_D A [(h_this, .inr (2, [.ref h_this_tape, .int tapeSize_this, .ref h_this_list, .int listSize_this, .ref h_this_item, .int itemSize_this, .ref h_this_word, .int wordSize_this, .ref h_this_text, .int textSize_this])), (h_this_list, .inl (cA, 1024, .inl a_list)), (h_this_word, .inl (cA, 1024, .inl a_word))] → va_S A s.heap H locs → ∀ (ls : Array Slot), lv_has ls 10 [(0, .ref h_this), (1, .int x1), (2, .int x2), (3, .int x3), (4, .int x4), (5, .int x5)] → W p l e rm_M_meaning s m args below meth c H locs 0 0 (QI .int below args s D cA A (res.1) [(h_this, .inr (2, [.ref h_this_tape, .int tapeSize_this, .ref h_this_list, .int listSize_this, .ref h_this_item, .int itemSize_this, .ref h_this_word, .int res.2.1, .ref h_this_text, .int textSize_this])), (h_this_list, .inl (cA, 1024, .inl a_list)), (h_this_word, .inl (cA, 1024, .inl res.2.2))]) (F0 m 84 ls [.int y0]) := by
  obtain ⟨hx, hb, hr, hml, hown, hG, hlk⟩ := id C0
  intro wordSize_this a_word x1 x2 x3 x4 x5 y0 h H locs hP hD hS ls hl
  unfold p_M_meaning_84 at h
  refine lv_istore (lv' := [(6, .int y0), (0, .ref h_this), (1, .int x1), (2, .int x2), (3, .int x3), (4, .int x4), (5, .int x5)]) hx hb d_M_meaning_84 hl (by decide) rfl (fun ls hl => ?_)
  refine lv_iload hx hb d_M_meaning_86 (lv_at hl 5 rfl) ?_
  refine lv_if_eq (tgt := 95) hx hb d_M_meaning_88 (by decide) (fun c_88 => ?_) (fun c_88 => ?_)
  · have h := iteP c_88 h
    refine lv_iconst (v := (3 : Int32)) hx hb d_M_meaning_95 (by decide) ?_
    refine lv_istore (lv' := [(7, .int (3 : Int32)), (6, .int y0), (0, .ref h_this), (1, .int x1), (2, .int x2), (3, .int x3), (4, .int x4), (5, .int x5)]) hx hb d_M_meaning_96 hl (by decide) rfl (fun ls hl => ?_)
    refine lv_iconst (v := (0 : Int32)) hx hb d_M_meaning_98 (by decide) ?_
    refine lv_istore (lv' := [(8, .int (0 : Int32)), (7, .int (3 : Int32)), (6, .int y0), (0, .ref h_this), (1, .int x1), (2, .int x2), (3, .int x3), (4, .int x4), (5, .int x5)]) hx hb d_M_meaning_99 hl (by decide) rfl (fun ls hl => ?_)
    refine lv_iconst (v := (0 : Int32)) hx hb d_M_meaning_101 (by decide) ?_
    refine lv_istore (lv' := [(9, .int (0 : Int32)), (8, .int (0 : Int32)), (7, .int (3 : Int32)), (6, .int y0), (0, .ref h_this), (1, .int x1), (2, .int x2), (3, .int x3), (4, .int x4), (5, .int x5)]) hx hb d_M_meaning_102 hl (by decide) rfl (fun ls hl => ?_)
    exact t_M_meaning_104 C0 hK hA hZ N h_this h_this_tape h_this_list h_this_item h_this_word h_this_text tapeSize_this listSize_this itemSize_this textSize_this a_list res N _ _ _ _ _ _ _ _ _ _ h H locs hP hD hS ls (lv_sub hl [4, 5, 6, 7, 9, 3, 2, 1, 0] rfl)
  · have h := iteN c_88 h
    refine lv_iconst (v := (2 : Int32)) hx hb d_M_meaning_91 (by decide) ?_
    refine lv_goto (tgt := 96) hx hb d_M_meaning_92 (by decide) ?_
    refine lv_istore (lv' := [(7, .int (2 : Int32)), (6, .int y0), (0, .ref h_this), (1, .int x1), (2, .int x2), (3, .int x3), (4, .int x4), (5, .int x5)]) hx hb d_M_meaning_96 hl (by decide) rfl (fun ls hl => ?_)
    refine lv_iconst (v := (0 : Int32)) hx hb d_M_meaning_98 (by decide) ?_
    refine lv_istore (lv' := [(8, .int (0 : Int32)), (7, .int (2 : Int32)), (6, .int y0), (0, .ref h_this), (1, .int x1), (2, .int x2), (3, .int x3), (4, .int x4), (5, .int x5)]) hx hb d_M_meaning_99 hl (by decide) rfl (fun ls hl => ?_)
    refine lv_iconst (v := (0 : Int32)) hx hb d_M_meaning_101 (by decide) ?_
    refine lv_istore (lv' := [(9, .int (0 : Int32)), (8, .int (0 : Int32)), (7, .int (2 : Int32)), (6, .int y0), (0, .ref h_this), (1, .int x1), (2, .int x2), (3, .int x3), (4, .int x4), (5, .int x5)]) hx hb d_M_meaning_102 hl (by decide) rfl (fun ls hl => ?_)
    exact t_M_meaning_104 C0 hK hA hZ N h_this h_this_tape h_this_list h_this_item h_this_word h_this_text tapeSize_this listSize_this itemSize_this textSize_this a_list res N _ _ _ _ _ _ _ _ _ _ h H locs hP hD hS ls (lv_sub hl [4, 5, 6, 7, 9, 3, 2, 1, 0] rfl)
set_option maxHeartbeats 4000000 in
set_option maxRecDepth 100000 in
theorem t_M_meaning_68 {p : Program} {l : Launch} {e : Env} {s : State} {m : MethodId} {args : Array Value} {below : List Frame} {meth : Method} {c : Code} {D : va_G} {cA : ClassId} {zz : zT} {A : Nat → Prop} (C0 : Cx p s m args meth c b_M_meaning R_M 10 (some .int)) (hK : va_K D classes [(cA, .int)] s) (hA : ∀ q : Nat, s.heap.size ≤ q → A q) (hZ : ZS zz A s s.heap) (N : Nat) (h_this : Nat) (h_this_tape : Nat) (h_this_list : Nat) (h_this_item : Nat) (h_this_word : Nat) (h_this_text : Nat) (tapeSize_this : Int32) (listSize_this : Int32) (itemSize_this : Int32) (textSize_this : Int32) (a_list : Nat → Int32) (res : Int32 × Int32 × (Nat → Int32)) :
    ∀ (wordSize_this : Int32) (a_word : Nat → Int32) (x1 : Int32) (x2 : Int32) (x3 : Int32) (x4 : Int32) (y0 : Int32), p_M_meaning_68 N listSize_this a_list wordSize_this a_word x1 x2 x3 x4 y0 = some res → ∀ (H : Heap) (locs : List Loc), va_P D classes [(h_this, .inr (2, [.ref h_this_tape, .int tapeSize_this, .ref h_this_list, .int listSize_this, .ref h_this_item, .int itemSize_this, .ref h_this_word, .int wordSize_this, .ref h_this_text, .int textSize_this])), (h_this_list, .inl (cA, 1024, .inl a_list)), (h_this_word, .inl (cA, 1024, .inl a_word))] H → va_D A [(h_this, .inr (2, [.ref h_this_tape, .int tapeSize_this, .ref h_this_list, .int listSize_this, .ref h_this_item, .int itemSize_this, .ref h_this_word, .int wordSize_this, .ref h_this_text, .int textSize_this])), (h_this_list, .inl (cA, 1024, .inl a_list)), (h_this_word, .inl (cA, 1024, .inl a_word))] → va_S A s.heap H locs → ∀ (ls : Array Slot), lv_has ls 10 [(0, .ref h_this), (1, .int x1), (2, .int x2), (3, .int x3), (4, .int x4)] → W p l e rm_M_meaning s m args below meth c H locs 0 0 (QI .int below args s D cA A (res.1) [(h_this, .inr (2, [.ref h_this_tape, .int tapeSize_this, .ref h_this_list, .int listSize_this, .ref h_this_item, .int itemSize_this, .ref h_this_word, .int res.2.1, .ref h_this_text, .int textSize_this])), (h_this_list, .inl (cA, 1024, .inl a_list)), (h_this_word, .inl (cA, 1024, .inl res.2.2))]) (F0 m 68 ls [.int y0]) := by
  obtain ⟨hx, hb, hr, hml, hown, hG, hlk⟩ := id C0
  intro wordSize_this a_word x1 x2 x3 x4 y0 h H locs hP hD hS ls hl
  unfold p_M_meaning_68 at h
  refine lv_istore (lv' := [(5, .int y0), (0, .ref h_this), (1, .int x1), (2, .int x2), (3, .int x3), (4, .int x4)]) hx hb d_M_meaning_68 hl (by decide) rfl (fun ls hl => ?_)
  refine lv_iload hx hb d_M_meaning_70 (lv_at hl 5 rfl) ?_
  refine lv_if_eq (tgt := 81) hx hb d_M_meaning_72 (by decide) (fun c_72 => ?_) (fun c_72 => ?_)
  · have h := iteP c_72 h
    refine lv_iload_n hx hb d_M_meaning_81 rfl (lv_at hl 2 rfl) ?_
    refine lv_iconst (v := (1 : Int32)) hx hb d_M_meaning_82 (by decide) ?_
    refine lv_iadd hx hb d_M_meaning_83 ?_
    exact t_M_meaning_84 C0 hK hA hZ N h_this h_this_tape h_this_list h_this_item h_this_word h_this_text tapeSize_this listSize_this itemSize_this textSize_this a_list res _ _ _ _ _ _ _ _ h H locs hP hD hS ls (lv_sub hl [1, 2, 3, 4, 5, 0] rfl)
  · have h := iteN c_72 h
    refine lv_iload_n hx hb d_M_meaning_75 rfl (lv_at hl 2 rfl) ?_
    refine lv_iconst (v := (2 : Int32)) hx hb d_M_meaning_76 (by decide) ?_
    refine lv_iadd hx hb d_M_meaning_77 ?_
    refine lv_goto (tgt := 84) hx hb d_M_meaning_78 (by decide) ?_
    exact t_M_meaning_84 C0 hK hA hZ N h_this h_this_tape h_this_list h_this_item h_this_word h_this_text tapeSize_this listSize_this itemSize_this textSize_this a_list res _ _ _ _ _ _ _ _ h H locs hP hD hS ls (lv_sub hl [1, 2, 3, 4, 5, 0] rfl)
set_option maxHeartbeats 4000000 in
set_option maxRecDepth 100000 in
theorem t_M_meaning_54 {p : Program} {l : Launch} {e : Env} {s : State} {m : MethodId} {args : Array Value} {below : List Frame} {meth : Method} {c : Code} {D : va_G} {cA : ClassId} {zz : zT} {A : Nat → Prop} (C0 : Cx p s m args meth c b_M_meaning R_M 10 (some .int)) (hK : va_K D classes [(cA, .int)] s) (hA : ∀ q : Nat, s.heap.size ≤ q → A q) (hZ : ZS zz A s s.heap) (N : Nat) (h_this : Nat) (h_this_tape : Nat) (h_this_list : Nat) (h_this_item : Nat) (h_this_word : Nat) (h_this_text : Nat) (tapeSize_this : Int32) (listSize_this : Int32) (itemSize_this : Int32) (textSize_this : Int32) (a_list : Nat → Int32) (res : Int32 × Int32 × (Nat → Int32)) :
    ∀ (wordSize_this : Int32) (a_word : Nat → Int32) (x1 : Int32) (x2 : Int32) (x3 : Int32) (y0 : Int32), p_M_meaning_54 N listSize_this a_list wordSize_this a_word x1 x2 x3 y0 = some res → ∀ (H : Heap) (locs : List Loc), va_P D classes [(h_this, .inr (2, [.ref h_this_tape, .int tapeSize_this, .ref h_this_list, .int listSize_this, .ref h_this_item, .int itemSize_this, .ref h_this_word, .int wordSize_this, .ref h_this_text, .int textSize_this])), (h_this_list, .inl (cA, 1024, .inl a_list)), (h_this_word, .inl (cA, 1024, .inl a_word))] H → va_D A [(h_this, .inr (2, [.ref h_this_tape, .int tapeSize_this, .ref h_this_list, .int listSize_this, .ref h_this_item, .int itemSize_this, .ref h_this_word, .int wordSize_this, .ref h_this_text, .int textSize_this])), (h_this_list, .inl (cA, 1024, .inl a_list)), (h_this_word, .inl (cA, 1024, .inl a_word))] → va_S A s.heap H locs → ∀ (ls : Array Slot), lv_has ls 10 [(0, .ref h_this), (1, .int x1), (2, .int x2), (3, .int x3)] → W p l e rm_M_meaning s m args below meth c H locs 0 0 (QI .int below args s D cA A (res.1) [(h_this, .inr (2, [.ref h_this_tape, .int tapeSize_this, .ref h_this_list, .int listSize_this, .ref h_this_item, .int itemSize_this, .ref h_this_word, .int res.2.1, .ref h_this_text, .int textSize_this])), (h_this_list, .inl (cA, 1024, .inl a_list)), (h_this_word, .inl (cA, 1024, .inl res.2.2))]) (F0 m 54 ls [.int y0]) := by
  obtain ⟨hx, hb, hr, hml, hown, hG, hlk⟩ := id C0
  intro wordSize_this a_word x1 x2 x3 y0 h H locs hP hD hS ls hl
  unfold p_M_meaning_54 at h
  refine lv_istore (lv' := [(4, .int y0), (0, .ref h_this), (1, .int x1), (2, .int x2), (3, .int x3)]) hx hb d_M_meaning_54 hl (by decide) rfl (fun ls hl => ?_)
  refine lv_iload hx hb d_M_meaning_56 (lv_at hl 0 rfl) ?_
  refine lv_if_eq (tgt := 66) hx hb d_M_meaning_58 (by decide) (fun c_58 => ?_) (fun c_58 => ?_)
  · have h := iteP c_58 h
    refine lv_bipush (v := (8 : Int32)) hx hb d_M_meaning_66 (by decide) ?_
    exact t_M_meaning_68 C0 hK hA hZ N h_this h_this_tape h_this_list h_this_item h_this_word h_this_text tapeSize_this listSize_this itemSize_this textSize_this a_list res _ _ _ _ _ _ _ h H locs hP hD hS ls (lv_sub hl [1, 2, 3, 4, 0] rfl)
  · have h := iteN c_58 h
    refine lv_bipush (v := (16 : Int32)) hx hb d_M_meaning_61 (by decide) ?_
    refine lv_goto (tgt := 68) hx hb d_M_meaning_63 (by decide) ?_
    exact t_M_meaning_68 C0 hK hA hZ N h_this h_this_tape h_this_list h_this_item h_this_word h_this_text tapeSize_this listSize_this itemSize_this textSize_this a_list res _ _ _ _ _ _ _ h H locs hP hD hS ls (lv_sub hl [1, 2, 3, 4, 0] rfl)
set_option maxHeartbeats 4000000 in
set_option maxRecDepth 100000 in
theorem t_M_meaning_0 {p : Program} {l : Launch} {e : Env} {s : State} {m : MethodId} {args : Array Value} {below : List Frame} {meth : Method} {c : Code} {D : va_G} {cA : ClassId} {zz : zT} {A : Nat → Prop} (C0 : Cx p s m args meth c b_M_meaning R_M 10 (some .int)) (hK : va_K D classes [(cA, .int)] s) (hA : ∀ q : Nat, s.heap.size ≤ q → A q) (hZ : ZS zz A s s.heap) (N : Nat) (h_this : Nat) (h_this_tape : Nat) (h_this_list : Nat) (h_this_item : Nat) (h_this_word : Nat) (h_this_text : Nat) (tapeSize_this : Int32) (listSize_this : Int32) (itemSize_this : Int32) (textSize_this : Int32) (a_list : Nat → Int32) (res : Int32 × Int32 × (Nat → Int32)) :
    ∀ (wordSize_this : Int32) (a_word : Nat → Int32) (x1 : Int32) (x2 : Int32), p_M_meaning_0 N listSize_this a_list wordSize_this a_word x1 x2 = some res → ∀ (H : Heap) (locs : List Loc), va_P D classes [(h_this, .inr (2, [.ref h_this_tape, .int tapeSize_this, .ref h_this_list, .int listSize_this, .ref h_this_item, .int itemSize_this, .ref h_this_word, .int wordSize_this, .ref h_this_text, .int textSize_this])), (h_this_list, .inl (cA, 1024, .inl a_list)), (h_this_word, .inl (cA, 1024, .inl a_word))] H → va_D A [(h_this, .inr (2, [.ref h_this_tape, .int tapeSize_this, .ref h_this_list, .int listSize_this, .ref h_this_item, .int itemSize_this, .ref h_this_word, .int wordSize_this, .ref h_this_text, .int textSize_this])), (h_this_list, .inl (cA, 1024, .inl a_list)), (h_this_word, .inl (cA, 1024, .inl a_word))] → va_S A s.heap H locs → ∀ (ls : Array Slot), lv_has ls 10 [(0, .ref h_this), (1, .int x1), (2, .int x2)] → W p l e rm_M_meaning s m args below meth c H locs 0 0 (QI .int below args s D cA A (res.1) [(h_this, .inr (2, [.ref h_this_tape, .int tapeSize_this, .ref h_this_list, .int listSize_this, .ref h_this_item, .int itemSize_this, .ref h_this_word, .int res.2.1, .ref h_this_text, .int textSize_this])), (h_this_list, .inl (cA, 1024, .inl a_list)), (h_this_word, .inl (cA, 1024, .inl res.2.2))]) (F0 m 0 ls []) := by
  obtain ⟨hx, hb, hr, hml, hown, hG, hlk⟩ := id C0
  intro wordSize_this a_word x1 x2 h H locs hP hD hS ls hl
  unfold p_M_meaning_0 at h
  refine lv_iload_n hx hb d_M_meaning_0 rfl (lv_at hl 1 rfl) ?_
  refine lv_iconst (v := (1 : Int32)) hx hb d_M_meaning_1 (by decide) ?_
  refine lv_iadd hx hb d_M_meaning_2 ?_
  refine lv_iload_n hx hb d_M_meaning_3 rfl (lv_at hl 2 rfl) ?_
  refine lv_icmp_lt (tgt := 17) hx hb d_M_meaning_4 (by decide) (fun c_4 => ?_) (fun c_4 => ?_)
  · have h := iteP c_4 h
    refine lv_aload_n hx hb d_M_meaning_17 rfl (lv_at hl 0 rfl) ?_
    refine lv_iload_n hx hb d_M_meaning_18 rfl (lv_at hl 1 rfl) ?_
    refine lv_iconst (v := (1 : Int32)) hx hb d_M_meaning_19 (by decide) ?_
    refine lv_iadd hx hb d_M_meaning_20 ?_
    obtain ⟨r_21, h_21, h⟩ := bindS h
    refine call_vi (wr := [(h_this_word, .inl (cA, 1024, .inl a_word))]) (w1 := [(h_this, .inr (2, [.ref h_this_tape, .int tapeSize_this, .ref h_this_list, .int listSize_this, .ref h_this_item, .int itemSize_this, .ref h_this_word, .int wordSize_this, .ref h_this_text, .int textSize_this])), (h_this_list, .inl (cA, 1024, .inl a_list))]) (wN := [(h_this, .inr (2, [.ref h_this_tape, .int tapeSize_this, .ref h_this_list, .int listSize_this, .ref h_this_item, .int itemSize_this, .ref h_this_word, .int wordSize_this, .ref h_this_text, .int textSize_this])), (h_this_list, .inl (cA, 1024, .inl a_list)), (h_this_word, .inl (cA, 1024, .inl a_word))]) (rest := []) C0 hK hP hD hS hA hZ (c_M_at l D cA zz N h_this h_this_tape h_this_list h_this_item h_this_word h_this_text tapeSize_this listSize_this itemSize_this wordSize_this textSize_this a_list (x1 + (1 : Int32)) r_21 h_21) [0, 1] [2] [1, 2, 0] rfl rfl rfl rfl (by decide) rfl rfl 0 2 rfl rfl m_M_29 ⟨Nat.le_of_ble_eq_true rfl, Nat.le_of_ble_eq_true rfl⟩ ⟨rfl, rfl⟩ rfl hl.1 rfl (Nat.le_of_ble_eq_true rfl) ⟨Nat.le_of_ble_eq_true rfl, Nat.le_of_ble_eq_true rfl⟩ d_M_meaning_21 (fun b_21 H locs hP hD hS => ?_)
    refine lv_istore_n (lv' := [(3, .int r_21), (0, .ref h_this), (1, .int x1), (2, .int x2)]) hx hb d_M_meaning_24 rfl hl (by decide) rfl (fun ls hl => ?_)
    refine lv_iload_n hx hb d_M_meaning_25 rfl (lv_at hl 0 rfl) ?_
    refine lv_bipush (v := (10 : Int32)) hx hb d_M_meaning_26 (by decide) ?_
    refine lv_icmp_ne (tgt := 43) hx hb d_M_meaning_28 (by decide) (fun c_28 => ?_) (fun c_28 => ?_)
    · have h := iteN c_28 h
      refine lv_iload_n hx hb d_M_meaning_43 rfl (lv_at hl 0 rfl) ?_
      refine lv_bipush (v := (120 : Int32)) hx hb d_M_meaning_44 (by decide) ?_
      refine lv_icmp_ne (tgt := 53) hx hb d_M_meaning_46 (by decide) (fun c_46 => ?_) (fun c_46 => ?_)
      · have h := iteN c_46 h
        refine lv_iconst (v := (0 : Int32)) hx hb d_M_meaning_53 (by decide) ?_
        exact t_M_meaning_54 C0 hK hA hZ N h_this h_this_tape h_this_list h_this_item h_this_word h_this_text tapeSize_this listSize_this itemSize_this textSize_this a_list res _ _ _ _ _ _ h H locs hP hD hS ls (lv_sub hl [1, 2, 3, 0] rfl)
      · have h := iteP c_46 h
        refine lv_iconst (v := (1 : Int32)) hx hb d_M_meaning_49 (by decide) ?_
        refine lv_goto (tgt := 54) hx hb d_M_meaning_50 (by decide) ?_
        exact t_M_meaning_54 C0 hK hA hZ N h_this h_this_tape h_this_list h_this_item h_this_word h_this_text tapeSize_this listSize_this itemSize_this textSize_this a_list res _ _ _ _ _ _ h H locs hP hD hS ls (lv_sub hl [1, 2, 3, 0] rfl)
    · have h := iteP c_28 h
      refine lv_aload_n hx hb d_M_meaning_31 rfl (lv_at hl 1 rfl) ?_
      refine lv_bipush (v := (32 : Int32)) hx hb d_M_meaning_32 (by decide) ?_
      obtain ⟨r_34, h_34, h⟩ := bindS h
      refine call_vv (wr := [(h_this_list, .inl (cA, 1024, .inl a_list))]) (w1 := [(h_this, .inr (2, [.ref h_this_tape, .int tapeSize_this, .ref h_this_list, .int listSize_this, .ref h_this_item, .int itemSize_this, .ref h_this_word, .int r_34.1, .ref h_this_text, .int textSize_this])), (h_this_word, .inl (cA, 1024, .inl r_34.2))]) (wN := [(h_this, .inr (2, [.ref h_this_tape, .int tapeSize_this, .ref h_this_list, .int listSize_this, .ref h_this_item, .int itemSize_this, .ref h_this_word, .int r_34.1, .ref h_this_text, .int textSize_this])), (h_this_list, .inl (cA, 1024, .inl a_list)), (h_this_word, .inl (cA, 1024, .inl r_34.2))]) (rest := []) C0 hK hP hD hS hA hZ (c_M_add l D cA zz N h_this h_this_tape h_this_list h_this_item h_this_word h_this_text tapeSize_this listSize_this itemSize_this wordSize_this textSize_this a_word (32 : Int32) r_34 h_34) [0, 2] [1] [1, 0, 2] rfl rfl rfl rfl (by decide) rfl rfl 0 2 rfl rfl m_M_52 ⟨Nat.le_of_ble_eq_true rfl, Nat.le_of_ble_eq_true rfl⟩ ⟨rfl, rfl⟩ rfl hl.1 rfl (Nat.le_of_ble_eq_true rfl) ⟨Nat.le_of_ble_eq_true rfl, Nat.le_of_ble_eq_true rfl⟩ d_M_meaning_34 (fun H locs hP hD hS => ?_)
      refine lv_aload_n hx hb d_M_meaning_37 rfl (lv_at hl 1 rfl) ?_
      refine lv_iload_n hx hb d_M_meaning_38 rfl (lv_at hl 2 rfl) ?_
      obtain ⟨r_39, h_39, h⟩ := bindS h
      refine call_vi (wr := [(h_this_word, .inl (cA, 1024, .inl r_34.2))]) (w1 := [(h_this, .inr (2, [.ref h_this_tape, .int tapeSize_this, .ref h_this_list, .int listSize_this, .ref h_this_item, .int itemSize_this, .ref h_this_word, .int r_34.1, .ref h_this_text, .int textSize_this])), (h_this_list, .inl (cA, 1024, .inl a_list))]) (wN := [(h_this, .inr (2, [.ref h_this_tape, .int tapeSize_this, .ref h_this_list, .int listSize_this, .ref h_this_item, .int itemSize_this, .ref h_this_word, .int r_34.1, .ref h_this_text, .int textSize_this])), (h_this_list, .inl (cA, 1024, .inl a_list)), (h_this_word, .inl (cA, 1024, .inl r_34.2))]) (rest := []) C0 hK hP hD hS hA hZ (c_M_behind l D cA zz N h_this h_this_tape h_this_list h_this_item h_this_word h_this_text tapeSize_this listSize_this itemSize_this r_34.1 textSize_this a_list x1 r_39 h_39) [0, 1] [2] [1, 2, 0] rfl rfl rfl rfl (by decide) rfl rfl 0 2 rfl rfl m_M_37 ⟨Nat.le_of_ble_eq_true rfl, Nat.le_of_ble_eq_true rfl⟩ ⟨rfl, rfl⟩ rfl hl.1 rfl (Nat.le_of_ble_eq_true rfl) ⟨Nat.le_of_ble_eq_true rfl, Nat.le_of_ble_eq_true rfl⟩ d_M_meaning_39 (fun b_39 H locs hP hD hS => ?_)
      obtain rfl := Option.some.inj h
      exact rI (v := r_39) C0 (vp_nar_int _) hK hP hD hS d_M_meaning_42
  · have h := iteN c_4 h
    refine lv_aload_n hx hb d_M_meaning_7 rfl (lv_at hl 0 rfl) ?_
    refine lv_bipush (v := (92 : Int32)) hx hb d_M_meaning_8 (by decide) ?_
    obtain ⟨r_10, h_10, h⟩ := bindS h
    refine call_vv (wr := [(h_this_list, .inl (cA, 1024, .inl a_list))]) (w1 := [(h_this, .inr (2, [.ref h_this_tape, .int tapeSize_this, .ref h_this_list, .int listSize_this, .ref h_this_item, .int itemSize_this, .ref h_this_word, .int r_10.1, .ref h_this_text, .int textSize_this])), (h_this_word, .inl (cA, 1024, .inl r_10.2))]) (wN := [(h_this, .inr (2, [.ref h_this_tape, .int tapeSize_this, .ref h_this_list, .int listSize_this, .ref h_this_item, .int itemSize_this, .ref h_this_word, .int r_10.1, .ref h_this_text, .int textSize_this])), (h_this_list, .inl (cA, 1024, .inl a_list)), (h_this_word, .inl (cA, 1024, .inl r_10.2))]) (rest := []) C0 hK hP hD hS hA hZ (c_M_add l D cA zz N h_this h_this_tape h_this_list h_this_item h_this_word h_this_text tapeSize_this listSize_this itemSize_this wordSize_this textSize_this a_word (92 : Int32) r_10 h_10) [0, 2] [1] [1, 0, 2] rfl rfl rfl rfl (by decide) rfl rfl 0 2 rfl rfl m_M_52 ⟨Nat.le_of_ble_eq_true rfl, Nat.le_of_ble_eq_true rfl⟩ ⟨rfl, rfl⟩ rfl hl.1 rfl (Nat.le_of_ble_eq_true rfl) ⟨Nat.le_of_ble_eq_true rfl, Nat.le_of_ble_eq_true rfl⟩ d_M_meaning_10 (fun H locs hP hD hS => ?_)
    refine lv_iload_n hx hb d_M_meaning_13 rfl (lv_at hl 1 rfl) ?_
    refine lv_iconst (v := (1 : Int32)) hx hb d_M_meaning_14 (by decide) ?_
    refine lv_iadd hx hb d_M_meaning_15 ?_
    obtain rfl := Option.some.inj h
    exact rI (v := (x1 + (1 : Int32))) C0 (vp_nar_int _) hK hP hD hS d_M_meaning_16
theorem c_M_meaning (l : Launch) (D : va_G) (cA : ClassId) (zz : zT) (N : Nat) (h_this : Nat) (h_this_tape : Nat) (h_this_list : Nat) (h_this_item : Nat) (h_this_word : Nat) (h_this_text : Nat) (tapeSize_this : Int32) (listSize_this : Int32) (itemSize_this : Int32) (wordSize_this : Int32) (textSize_this : Int32) (a_list : Nat → Int32) (a_word : Nat → Int32) (x1 : Int32) (x2 : Int32) (res : Int32 × Int32 × (Nat → Int32)) (h : p_M_meaning N listSize_this wordSize_this a_list a_word x1 x2 = some res) : MI l D cA zz y_M_meaning b_M_meaning 10 .int rm_M_meaning [.ref h_this, .int x1, .int x2] [(h_this, .inr (2, [.ref h_this_tape, .int tapeSize_this, .ref h_this_list, .int listSize_this, .ref h_this_item, .int itemSize_this, .ref h_this_word, .int wordSize_this, .ref h_this_text, .int textSize_this])), (h_this_list, .inl (cA, 1024, .inl a_list)), (h_this_word, .inl (cA, 1024, .inl a_word))] (res.1) [(h_this, .inr (2, [.ref h_this_tape, .int tapeSize_this, .ref h_this_list, .int listSize_this, .ref h_this_item, .int itemSize_this, .ref h_this_word, .int res.2.1, .ref h_this_text, .int textSize_this])), (h_this_list, .inl (cA, 1024, .inl a_list)), (h_this_word, .inl (cA, 1024, .inl res.2.2))] := by
  unfold p_M_meaning at h
  exact MI_enter (by decide) (Nat.le_of_ble_eq_true rfl) (fun p e s m below meth c A ls C0 hK hA hZ hP hD hl => t_M_meaning_0 C0 hK hA hZ N h_this h_this_tape h_this_list h_this_item h_this_word h_this_text tapeSize_this listSize_this itemSize_this textSize_this a_list res _ _ _ _ h s.heap [] hP hD va_S.rf ls hl)
-- ListWordsModel.read(II)V
set_option maxHeartbeats 4000000 in
set_option maxRecDepth 100000 in
theorem t_M_read_94 {p : Program} {l : Launch} {e : Env} {s : State} {m : MethodId} {args : Array Value} {below : List Frame} {meth : Method} {c : Code} {D : va_G} {cA : ClassId} {zz : zT} {A : Nat → Prop} (C0 : Cx p s m args meth c b_M_read R_M 7 none) (hK : va_K D classes [(cA, .int)] s) (hA : ∀ q : Nat, s.heap.size ≤ q → A q) (hZ : ZS zz A s s.heap) (N : Nat) (h_this : Nat) (h_this_tape : Nat) (h_this_list : Nat) (h_this_item : Nat) (h_this_word : Nat) (h_this_text : Nat) (tapeSize_this : Int32) (listSize_this : Int32) (itemSize_this : Int32) (textSize_this : Int32) (a_list : Nat → Int32) (res : Int32 × (Nat → Int32))
    (k_57 : Int32 → (Nat → Int32) → Int32 → Int32 → Int32 → Option (Int32 × (Nat → Int32))) (hk_57 : ∀ (wordSize_this : Int32) (a_word : Nat → Int32) (x3 : Int32) (x5 : Int32) (x6 : Int32), k_57 wordSize_this a_word x3 x5 x6 = some res → ∀ (H : Heap) (locs : List Loc), va_P D classes [(h_this, .inr (2, [.ref h_this_tape, .int tapeSize_this, .ref h_this_list, .int listSize_this, .ref h_this_item, .int itemSize_this, .ref h_this_word, .int wordSize_this, .ref h_this_text, .int textSize_this])), (h_this_list, .inl (cA, 1024, .inl a_list)), (h_this_word, .inl (cA, 1024, .inl a_word))] H → va_D A [(h_this, .inr (2, [.ref h_this_tape, .int tapeSize_this, .ref h_this_list, .int listSize_this, .ref h_this_item, .int itemSize_this, .ref h_this_word, .int wordSize_this, .ref h_this_text, .int textSize_this])), (h_this_list, .inl (cA, 1024, .inl a_list)), (h_this_word, .inl (cA, 1024, .inl a_word))] → va_S A s.heap H locs → ∀ (ls : Array Slot), lv_has ls 7 [(0, .ref h_this), (3, .int x3), (5, .int x5), (6, .int x6)] → W p l e rm_M_read s m args below meth c H locs 0 0 (QV below args s D cA A [(h_this, .inr (2, [.ref h_this_tape, .int tapeSize_this, .ref h_this_list, .int listSize_this, .ref h_this_item, .int itemSize_this, .ref h_this_word, .int res.1, .ref h_this_text, .int textSize_this])), (h_this_list, .inl (cA, 1024, .inl a_list)), (h_this_word, .inl (cA, 1024, .inl res.2))]) (F0 m 57 ls [])) :
    ∀ (wordSize_this : Int32) (a_word : Nat → Int32) (x3 : Int32) (x5 : Int32) (x6 : Int32), p_M_read_94 N listSize_this a_list k_57 wordSize_this a_word x3 x5 x6 = some res → ∀ (H : Heap) (locs : List Loc), va_P D classes [(h_this, .inr (2, [.ref h_this_tape, .int tapeSize_this, .ref h_this_list, .int listSize_this, .ref h_this_item, .int itemSize_this, .ref h_this_word, .int wordSize_this, .ref h_this_text, .int textSize_this])), (h_this_list, .inl (cA, 1024, .inl a_list)), (h_this_word, .inl (cA, 1024, .inl a_word))] H → va_D A [(h_this, .inr (2, [.ref h_this_tape, .int tapeSize_this, .ref h_this_list, .int listSize_this, .ref h_this_item, .int itemSize_this, .ref h_this_word, .int wordSize_this, .ref h_this_text, .int textSize_this])), (h_this_list, .inl (cA, 1024, .inl a_list)), (h_this_word, .inl (cA, 1024, .inl a_word))] → va_S A s.heap H locs → ∀ (ls : Array Slot), lv_has ls 7 [(0, .ref h_this), (3, .int x3), (5, .int x5), (6, .int x6)] → W p l e rm_M_read s m args below meth c H locs 0 0 (QV below args s D cA A [(h_this, .inr (2, [.ref h_this_tape, .int tapeSize_this, .ref h_this_list, .int listSize_this, .ref h_this_item, .int itemSize_this, .ref h_this_word, .int res.1, .ref h_this_text, .int textSize_this])), (h_this_list, .inl (cA, 1024, .inl a_list)), (h_this_word, .inl (cA, 1024, .inl res.2))]) (F0 m 94 ls []) := by
  obtain ⟨hx, hb, hr, hml, hown, hG, hlk⟩ := id C0
  intro wordSize_this a_word x3 x5 x6 h H locs hP hD hS ls hl
  unfold p_M_read_94 at h
  refine lv_aload_n hx hb d_M_read_94 rfl (lv_at hl 0 rfl) ?_
  refine lv_aload_n hx hb d_M_read_95 rfl (lv_at hl 0 rfl) ?_
  refine lv_iload hx hb d_M_read_96 (lv_at hl 3 rfl) ?_
  obtain ⟨r_98, h_98, h⟩ := bindS h
  refine call_vi (wr := [(h_this_word, .inl (cA, 1024, .inl a_word))]) (w1 := [(h_this, .inr (2, [.ref h_this_tape, .int tapeSize_this, .ref h_this_list, .int listSize_this, .ref h_this_item, .int itemSize_this, .ref h_this_word, .int wordSize_this, .ref h_this_text, .int textSize_this])), (h_this_list, .inl (cA, 1024, .inl a_list))]) (wN := [(h_this, .inr (2, [.ref h_this_tape, .int tapeSize_this, .ref h_this_list, .int listSize_this, .ref h_this_item, .int itemSize_this, .ref h_this_word, .int wordSize_this, .ref h_this_text, .int textSize_this])), (h_this_list, .inl (cA, 1024, .inl a_list)), (h_this_word, .inl (cA, 1024, .inl a_word))]) (rest := [.ref h_this]) C0 hK hP hD hS hA hZ (c_M_at l D cA zz N h_this h_this_tape h_this_list h_this_item h_this_word h_this_text tapeSize_this listSize_this itemSize_this wordSize_this textSize_this a_list x6 r_98 h_98) [0, 1] [2] [1, 2, 0] rfl rfl rfl rfl (by decide) rfl rfl 0 2 rfl rfl m_M_29 ⟨Nat.le_of_ble_eq_true rfl, Nat.le_of_ble_eq_true rfl⟩ ⟨rfl, rfl⟩ rfl hl.1 rfl (Nat.le_of_ble_eq_true rfl) ⟨Nat.le_of_ble_eq_true rfl, Nat.le_of_ble_eq_true rfl⟩ d_M_read_98 (fun b_98 H locs hP hD hS => ?_)
  obtain ⟨r_101, h_101, h⟩ := bindS h
  refine call_vv (wr := [(h_this_list, .inl (cA, 1024, .inl a_list))]) (w1 := [(h_this, .inr (2, [.ref h_this_tape, .int tapeSize_this, .ref h_this_list, .int listSize_this, .ref h_this_item, .int itemSize_this, .ref h_this_word, .int r_101.1, .ref h_this_text, .int textSize_this])), (h_this_word, .inl (cA, 1024, .inl r_101.2))]) (wN := [(h_this, .inr (2, [.ref h_this_tape, .int tapeSize_this, .ref h_this_list, .int listSize_this, .ref h_this_item, .int itemSize_this, .ref h_this_word, .int r_101.1, .ref h_this_text, .int textSize_this])), (h_this_list, .inl (cA, 1024, .inl a_list)), (h_this_word, .inl (cA, 1024, .inl r_101.2))]) (rest := []) C0 hK hP hD hS hA hZ (c_M_add l D cA zz N h_this h_this_tape h_this_list h_this_item h_this_word h_this_text tapeSize_this listSize_this itemSize_this wordSize_this textSize_this a_word r_98 r_101 h_101) [0, 2] [1] [1, 0, 2] rfl rfl rfl rfl (by decide) rfl rfl 0 2 rfl rfl m_M_52 ⟨Nat.le_of_ble_eq_true rfl, Nat.le_of_ble_eq_true rfl⟩ ⟨rfl, rfl⟩ rfl hl.1 rfl (Nat.le_of_ble_eq_true rfl) ⟨Nat.le_of_ble_eq_true rfl, Nat.le_of_ble_eq_true rfl⟩ d_M_read_101 (fun H locs hP hD hS => ?_)
  refine lv_iinc (v := (x6 + (1 : Int32))) (lv' := [(6, .int (x6 + (1 : Int32))), (0, .ref h_this), (3, .int x3), (5, .int x5)]) hx hb d_M_read_104 hl (k := 3) rfl rfl (by decide) rfl (fun ls hl => ?_)
  refine lv_goto (tgt := 57) hx hb d_M_read_107 (by decide) ?_
  exact hk_57 _ _ _ _ _ h H locs hP hD hS ls (lv_sub hl [1, 2, 3, 0] rfl)
set_option maxHeartbeats 4000000 in
set_option maxRecDepth 100000 in
theorem t_M_read_57 {p : Program} {l : Launch} {e : Env} {s : State} {m : MethodId} {args : Array Value} {below : List Frame} {meth : Method} {c : Code} {D : va_G} {cA : ClassId} {zz : zT} {A : Nat → Prop} (C0 : Cx p s m args meth c b_M_read R_M 7 none) (hK : va_K D classes [(cA, .int)] s) (hA : ∀ q : Nat, s.heap.size ≤ q → A q) (hZ : ZS zz A s s.heap) (N : Nat) (h_this : Nat) (h_this_tape : Nat) (h_this_list : Nat) (h_this_item : Nat) (h_this_word : Nat) (h_this_text : Nat) (tapeSize_this : Int32) (listSize_this : Int32) (itemSize_this : Int32) (textSize_this : Int32) (a_list : Nat → Int32) (res : Int32 × (Nat → Int32)) :
    ∀ (n : Nat), ∀ (wordSize_this : Int32) (a_word : Nat → Int32) (x3 : Int32) (x5 : Int32) (x6 : Int32), p_M_read_57 N listSize_this a_list n wordSize_this a_word x3 x5 x6 = some res → ∀ (H : Heap) (locs : List Loc), va_P D classes [(h_this, .inr (2, [.ref h_this_tape, .int tapeSize_this, .ref h_this_list, .int listSize_this, .ref h_this_item, .int itemSize_this, .ref h_this_word, .int wordSize_this, .ref h_this_text, .int textSize_this])), (h_this_list, .inl (cA, 1024, .inl a_list)), (h_this_word, .inl (cA, 1024, .inl a_word))] H → va_D A [(h_this, .inr (2, [.ref h_this_tape, .int tapeSize_this, .ref h_this_list, .int listSize_this, .ref h_this_item, .int itemSize_this, .ref h_this_word, .int wordSize_this, .ref h_this_text, .int textSize_this])), (h_this_list, .inl (cA, 1024, .inl a_list)), (h_this_word, .inl (cA, 1024, .inl a_word))] → va_S A s.heap H locs → ∀ (ls : Array Slot), lv_has ls 7 [(0, .ref h_this), (3, .int x3), (5, .int x5), (6, .int x6)] → W p l e rm_M_read s m args below meth c H locs 0 0 (QV below args s D cA A [(h_this, .inr (2, [.ref h_this_tape, .int tapeSize_this, .ref h_this_list, .int listSize_this, .ref h_this_item, .int itemSize_this, .ref h_this_word, .int res.1, .ref h_this_text, .int textSize_this])), (h_this_list, .inl (cA, 1024, .inl a_list)), (h_this_word, .inl (cA, 1024, .inl res.2))]) (F0 m 57 ls []) := by
  obtain ⟨hx, hb, hr, hml, hown, hG, hlk⟩ := id C0
  intro n
  induction n with
  | zero =>
    intro wordSize_this a_word x3 x5 x6 h H locs hP hD hS ls hl
    exact absurd h (by simp [p_M_read_57])
  | succ n ih =>
    intro wordSize_this a_word x3 x5 x6 h H locs hP hD hS ls hl
    rw [p_M_read_57] at h
    refine lv_iload hx hb d_M_read_57 (lv_at hl 3 rfl) ?_
    refine lv_iload hx hb d_M_read_59 (lv_at hl 2 rfl) ?_
    refine lv_icmp_ge (tgt := 110) hx hb d_M_read_61 (by decide) (fun c_61 => ?_) (fun c_61 => ?_)
    · have h := iteP c_61 h
      obtain rfl := Option.some.inj h
      exact rV C0 hK hP hD hS d_M_read_110
    · have h := iteN c_61 h
      refine lv_iload_n hx hb d_M_read_64 rfl (lv_at hl 1 rfl) ?_
      refine lv_bipush (v := (123 : Int32)) hx hb d_M_read_65 (by decide) ?_
      refine lv_icmp_eq (tgt := 94) hx hb d_M_read_67 (by decide) (fun c_67 => ?_) (fun c_67 => ?_)
      · have h := iteP c_67 h
        exact t_M_read_94 C0 hK hA hZ N h_this h_this_tape h_this_list h_this_item h_this_word h_this_text tapeSize_this listSize_this itemSize_this textSize_this a_list res (p_M_read_57 N listSize_this a_list n) ih _ _ _ _ _ h H locs hP hD hS ls (lv_sub hl [0, 1, 2, 3] rfl)
      · have h := iteN c_67 h
        refine lv_aload_n hx hb d_M_read_70 rfl (lv_at hl 0 rfl) ?_
        refine lv_iload hx hb d_M_read_71 (lv_at hl 3 rfl) ?_
        obtain ⟨r_73, h_73, h⟩ := bindS h
        refine call_vi (wr := [(h_this_word, .inl (cA, 1024, .inl a_word))]) (w1 := [(h_this, .inr (2, [.ref h_this_tape, .int tapeSize_this, .ref h_this_list, .int listSize_this, .ref h_this_item, .int itemSize_this, .ref h_this_word, .int wordSize_this, .ref h_this_text, .int textSize_this])), (h_this_list, .inl (cA, 1024, .inl a_list))]) (wN := [(h_this, .inr (2, [.ref h_this_tape, .int tapeSize_this, .ref h_this_list, .int listSize_this, .ref h_this_item, .int itemSize_this, .ref h_this_word, .int wordSize_this, .ref h_this_text, .int textSize_this])), (h_this_list, .inl (cA, 1024, .inl a_list)), (h_this_word, .inl (cA, 1024, .inl a_word))]) (rest := []) C0 hK hP hD hS hA hZ (c_M_at l D cA zz N h_this h_this_tape h_this_list h_this_item h_this_word h_this_text tapeSize_this listSize_this itemSize_this wordSize_this textSize_this a_list x6 r_73 h_73) [0, 1] [2] [1, 2, 0] rfl rfl rfl rfl (by decide) rfl rfl 0 2 rfl rfl m_M_29 ⟨Nat.le_of_ble_eq_true rfl, Nat.le_of_ble_eq_true rfl⟩ ⟨rfl, rfl⟩ rfl hl.1 rfl (Nat.le_of_ble_eq_true rfl) ⟨Nat.le_of_ble_eq_true rfl, Nat.le_of_ble_eq_true rfl⟩ d_M_read_73 (fun b_73 H locs hP hD hS => ?_)
        refine lv_bipush (v := (92 : Int32)) hx hb d_M_read_76 (by decide) ?_
        refine lv_icmp_ne (tgt := 94) hx hb d_M_read_78 (by decide) (fun c_78 => ?_) (fun c_78 => ?_)
        · have h := iteN c_78 h
          exact t_M_read_94 C0 hK hA hZ N h_this h_this_tape h_this_list h_this_item h_this_word h_this_text tapeSize_this listSize_this itemSize_this textSize_this a_list res (p_M_read_57 N listSize_this a_list n) ih _ _ _ _ _ h H locs hP hD hS ls (lv_sub hl [0, 1, 2, 3] rfl)
        · have h := iteP c_78 h
          refine lv_aload_n hx hb d_M_read_81 rfl (lv_at hl 0 rfl) ?_
          refine lv_iload hx hb d_M_read_82 (lv_at hl 3 rfl) ?_
          refine lv_iload hx hb d_M_read_84 (lv_at hl 2 rfl) ?_
          obtain ⟨r_86, h_86, h⟩ := bindS h
          refine call_vi (wr := []) (w1 := [(h_this, .inr (2, [.ref h_this_tape, .int tapeSize_this, .ref h_this_list, .int listSize_this, .ref h_this_item, .int itemSize_this, .ref h_this_word, .int r_86.2.1, .ref h_this_text, .int textSize_this])), (h_this_list, .inl (cA, 1024, .inl a_list)), (h_this_word, .inl (cA, 1024, .inl r_86.2.2))]) (wN := [(h_this, .inr (2, [.ref h_this_tape, .int tapeSize_this, .ref h_this_list, .int listSize_this, .ref h_this_item, .int itemSize_this, .ref h_this_word, .int r_86.2.1, .ref h_this_text, .int textSize_this])), (h_this_list, .inl (cA, 1024, .inl a_list)), (h_this_word, .inl (cA, 1024, .inl r_86.2.2))]) (rest := []) C0 hK hP hD hS hA hZ (c_M_meaning l D cA zz N h_this h_this_tape h_this_list h_this_item h_this_word h_this_text tapeSize_this listSize_this itemSize_this wordSize_this textSize_this a_list a_word x6 x5 r_86 h_86) [0, 1, 2] [] [0, 1, 2] rfl rfl rfl rfl (by decide) rfl rfl 0 2 rfl rfl m_M_62 ⟨Nat.le_of_ble_eq_true rfl, Nat.le_of_ble_eq_true rfl⟩ ⟨rfl, rfl⟩ rfl hl.1 rfl (Nat.le_of_ble_eq_true rfl) ⟨Nat.le_of_ble_eq_true rfl, Nat.le_of_ble_eq_true rfl⟩ d_M_read_86 (fun b_86 H locs hP hD hS => ?_)
          refine lv_istore (lv' := [(6, .int r_86.1), (0, .ref h_this), (3, .int x3), (5, .int x5)]) hx hb d_M_read_89 hl (by decide) rfl (fun ls hl => ?_)
          refine lv_goto (tgt := 57) hx hb d_M_read_91 (by decide) ?_
          exact ih _ _ _ _ _ h H locs hP hD hS ls (lv_sub hl [1, 2, 3, 0] rfl)
set_option maxHeartbeats 4000000 in
set_option maxRecDepth 100000 in
theorem t_M_read_39 {p : Program} {l : Launch} {e : Env} {s : State} {m : MethodId} {args : Array Value} {below : List Frame} {meth : Method} {c : Code} {D : va_G} {cA : ClassId} {zz : zT} {A : Nat → Prop} (C0 : Cx p s m args meth c b_M_read R_M 7 none) (hK : va_K D classes [(cA, .int)] s) (hA : ∀ q : Nat, s.heap.size ≤ q → A q) (hZ : ZS zz A s s.heap) (N : Nat) (h_this : Nat) (h_this_tape : Nat) (h_this_list : Nat) (h_this_item : Nat) (h_this_word : Nat) (h_this_text : Nat) (tapeSize_this : Int32) (listSize_this : Int32) (itemSize_this : Int32) (textSize_this : Int32) (a_list : Nat → Int32) (res : Int32 × (Nat → Int32)) :
    ∀ (wordSize_this : Int32) (a_word : Nat → Int32) (x2 : Int32) (x3 : Int32) (x4 : Int32), p_M_read_39 N listSize_this a_list wordSize_this a_word x2 x3 x4 = some res → ∀ (H : Heap) (locs : List Loc), va_P D classes [(h_this, .inr (2, [.ref h_this_tape, .int tapeSize_this, .ref h_this_list, .int listSize_this, .ref h_this_item, .int itemSize_this, .ref h_this_word, .int wordSize_this, .ref h_this_text, .int textSize_this])), (h_this_list, .inl (cA, 1024, .inl a_list)), (h_this_word, .inl (cA, 1024, .inl a_word))] H → va_D A [(h_this, .inr (2, [.ref h_this_tape, .int tapeSize_this, .ref h_this_list, .int listSize_this, .ref h_this_item, .int itemSize_this, .ref h_this_word, .int wordSize_this, .ref h_this_text, .int textSize_this])), (h_this_list, .inl (cA, 1024, .inl a_list)), (h_this_word, .inl (cA, 1024, .inl a_word))] → va_S A s.heap H locs → ∀ (ls : Array Slot), lv_has ls 7 [(0, .ref h_this), (2, .int x2), (3, .int x3), (4, .int x4)] → W p l e rm_M_read s m args below meth c H locs 0 0 (QV below args s D cA A [(h_this, .inr (2, [.ref h_this_tape, .int tapeSize_this, .ref h_this_list, .int listSize_this, .ref h_this_item, .int itemSize_this, .ref h_this_word, .int res.1, .ref h_this_text, .int textSize_this])), (h_this_list, .inl (cA, 1024, .inl a_list)), (h_this_word, .inl (cA, 1024, .inl res.2))]) (F0 m 39 ls []) := by
  obtain ⟨hx, hb, hr, hml, hown, hG, hlk⟩ := id C0
  intro wordSize_this a_word x2 x3 x4 h H locs hP hD hS ls hl
  unfold p_M_read_39 at h
  refine lv_iload_n hx hb d_M_read_39 rfl (lv_at hl 1 rfl) ?_
  refine lv_iconst (v := (1 : Int32)) hx hb d_M_read_40 (by decide) ?_
  refine lv_isub hx hb d_M_read_41 ?_
  refine lv_goto (tgt := 46) hx hb d_M_read_42 (by decide) ?_
  refine lv_istore (lv' := [(5, .int (x2 - (1 : Int32))), (0, .ref h_this), (2, .int x2), (3, .int x3), (4, .int x4)]) hx hb d_M_read_46 hl (by decide) rfl (fun ls hl => ?_)
  refine lv_aload_n hx hb d_M_read_48 rfl (lv_at hl 1 rfl) ?_
  refine lv_iconst (v := (0 : Int32)) hx hb d_M_read_49 (by decide) ?_
  refine va_put (D := D) (ci := 2) (v := .int (0 : Int32)) (ty := .int) (C := R_M) (T := F_M) (N := 10) hx hb hG i_M t_M t_M_ok n_M hown hK hP hD hS 0 rfl rfl 7 (by decide) (hG _ f_M_49) (fun _ h9 => h9) rfl (by decide +kernel) rfl rfl (Nat.le_of_ble_eq_true rfl) d_M_read_50 (fun H locs hP hD hS => ?_)
  have hP : va_P D classes [(h_this, .inr (2, [.ref h_this_tape, .int tapeSize_this, .ref h_this_list, .int listSize_this, .ref h_this_item, .int itemSize_this, .ref h_this_word, .int (0 : Int32), .ref h_this_text, .int textSize_this])), (h_this_list, .inl (cA, 1024, .inl a_list)), (h_this_word, .inl (cA, 1024, .inl a_word))] H := hP
  have hD : va_D A [(h_this, .inr (2, [.ref h_this_tape, .int tapeSize_this, .ref h_this_list, .int listSize_this, .ref h_this_item, .int itemSize_this, .ref h_this_word, .int (0 : Int32), .ref h_this_text, .int textSize_this])), (h_this_list, .inl (cA, 1024, .inl a_list)), (h_this_word, .inl (cA, 1024, .inl a_word))] := hD
  refine lv_iload hx hb d_M_read_53 (lv_at hl 4 rfl) ?_
  refine lv_istore (lv' := [(6, .int x4), (5, .int (x2 - (1 : Int32))), (0, .ref h_this), (2, .int x2), (3, .int x3), (4, .int x4)]) hx hb d_M_read_55 hl (by decide) rfl (fun ls hl => ?_)
  exact t_M_read_57 C0 hK hA hZ N h_this h_this_tape h_this_list h_this_item h_this_word h_this_text tapeSize_this listSize_this itemSize_this textSize_this a_list res N _ _ _ _ _ h H locs hP hD hS ls (lv_sub hl [2, 4, 1, 0] rfl)
set_option maxHeartbeats 4000000 in
set_option maxRecDepth 100000 in
theorem t_M_read_25 {p : Program} {l : Launch} {e : Env} {s : State} {m : MethodId} {args : Array Value} {below : List Frame} {meth : Method} {c : Code} {D : va_G} {cA : ClassId} {zz : zT} {A : Nat → Prop} (C0 : Cx p s m args meth c b_M_read R_M 7 none) (hK : va_K D classes [(cA, .int)] s) (hA : ∀ q : Nat, s.heap.size ≤ q → A q) (hZ : ZS zz A s s.heap) (N : Nat) (h_this : Nat) (h_this_tape : Nat) (h_this_list : Nat) (h_this_item : Nat) (h_this_word : Nat) (h_this_text : Nat) (tapeSize_this : Int32) (listSize_this : Int32) (itemSize_this : Int32) (textSize_this : Int32) (a_list : Nat → Int32) (res : Int32 × (Nat → Int32)) :
    ∀ (wordSize_this : Int32) (a_word : Nat → Int32) (x2 : Int32) (x3 : Int32) (y0 : Int32), p_M_read_25 N listSize_this a_list wordSize_this a_word x2 x3 y0 = some res → ∀ (H : Heap) (locs : List Loc), va_P D classes [(h_this, .inr (2, [.ref h_this_tape, .int tapeSize_this, .ref h_this_list, .int listSize_this, .ref h_this_item, .int itemSize_this, .ref h_this_word, .int wordSize_this, .ref h_this_text, .int textSize_this])), (h_this_list, .inl (cA, 1024, .inl a_list)), (h_this_word, .inl (cA, 1024, .inl a_word))] H → va_D A [(h_this, .inr (2, [.ref h_this_tape, .int tapeSize_this, .ref h_this_list, .int listSize_this, .ref h_this_item, .int itemSize_this, .ref h_this_word, .int wordSize_this, .ref h_this_text, .int textSize_this])), (h_this_list, .inl (cA, 1024, .inl a_list)), (h_this_word, .inl (cA, 1024, .inl a_word))] → va_S A s.heap H locs → ∀ (ls : Array Slot), lv_has ls 7 [(0, .ref h_this), (2, .int x2), (3, .int x3)] → W p l e rm_M_read s m args below meth c H locs 0 0 (QV below args s D cA A [(h_this, .inr (2, [.ref h_this_tape, .int tapeSize_this, .ref h_this_list, .int listSize_this, .ref h_this_item, .int itemSize_this, .ref h_this_word, .int res.1, .ref h_this_text, .int textSize_this])), (h_this_list, .inl (cA, 1024, .inl a_list)), (h_this_word, .inl (cA, 1024, .inl res.2))]) (F0 m 25 ls [.int y0]) := by
  obtain ⟨hx, hb, hr, hml, hown, hG, hlk⟩ := id C0
  intro wordSize_this a_word x2 x3 y0 h H locs hP hD hS ls hl
  unfold p_M_read_25 at h
  refine lv_istore (lv' := [(4, .int y0), (0, .ref h_this), (2, .int x2), (3, .int x3)]) hx hb d_M_read_25 hl (by decide) rfl (fun ls hl => ?_)
  refine lv_iload_n hx hb d_M_read_27 rfl (lv_at hl 3 rfl) ?_
  refine lv_bipush (v := (123 : Int32)) hx hb d_M_read_28 (by decide) ?_
  refine lv_icmp_eq (tgt := 39) hx hb d_M_read_30 (by decide) (fun c_30 => ?_) (fun c_30 => ?_)
  · have h := iteP c_30 h
    exact t_M_read_39 C0 hK hA hZ N h_this h_this_tape h_this_list h_this_item h_this_word h_this_text tapeSize_this listSize_this itemSize_this textSize_this a_list res _ _ _ _ _ h H locs hP hD hS ls (lv_sub hl [1, 2, 3, 0] rfl)
  · have h := iteN c_30 h
    refine lv_iload_n hx hb d_M_read_33 rfl (lv_at hl 3 rfl) ?_
    refine lv_bipush (v := (34 : Int32)) hx hb d_M_read_34 (by decide) ?_
    refine lv_icmp_ne (tgt := 45) hx hb d_M_read_36 (by decide) (fun c_36 => ?_) (fun c_36 => ?_)
    · have h := iteN c_36 h
      refine lv_iload_n hx hb d_M_read_45 rfl (lv_at hl 2 rfl) ?_
      refine lv_istore (lv' := [(5, .int x2), (4, .int y0), (0, .ref h_this), (2, .int x2), (3, .int x3)]) hx hb d_M_read_46 hl (by decide) rfl (fun ls hl => ?_)
      refine lv_aload_n hx hb d_M_read_48 rfl (lv_at hl 2 rfl) ?_
      refine lv_iconst (v := (0 : Int32)) hx hb d_M_read_49 (by decide) ?_
      refine va_put (D := D) (ci := 2) (v := .int (0 : Int32)) (ty := .int) (C := R_M) (T := F_M) (N := 10) hx hb hG i_M t_M t_M_ok n_M hown hK hP hD hS 0 rfl rfl 7 (by decide) (hG _ f_M_49) (fun _ h9 => h9) rfl (by decide +kernel) rfl rfl (Nat.le_of_ble_eq_true rfl) d_M_read_50 (fun H locs hP hD hS => ?_)
      have hP : va_P D classes [(h_this, .inr (2, [.ref h_this_tape, .int tapeSize_this, .ref h_this_list, .int listSize_this, .ref h_this_item, .int itemSize_this, .ref h_this_word, .int (0 : Int32), .ref h_this_text, .int textSize_this])), (h_this_list, .inl (cA, 1024, .inl a_list)), (h_this_word, .inl (cA, 1024, .inl a_word))] H := hP
      have hD : va_D A [(h_this, .inr (2, [.ref h_this_tape, .int tapeSize_this, .ref h_this_list, .int listSize_this, .ref h_this_item, .int itemSize_this, .ref h_this_word, .int (0 : Int32), .ref h_this_text, .int textSize_this])), (h_this_list, .inl (cA, 1024, .inl a_list)), (h_this_word, .inl (cA, 1024, .inl a_word))] := hD
      refine lv_iload hx hb d_M_read_53 (lv_at hl 1 rfl) ?_
      refine lv_istore (lv' := [(6, .int y0), (5, .int x2), (4, .int y0), (0, .ref h_this), (2, .int x2), (3, .int x3)]) hx hb d_M_read_55 hl (by decide) rfl (fun ls hl => ?_)
      exact t_M_read_57 C0 hK hA hZ N h_this h_this_tape h_this_list h_this_item h_this_word h_this_text tapeSize_this listSize_this itemSize_this textSize_this a_list res N _ _ _ _ _ h H locs hP hD hS ls (lv_sub hl [3, 5, 1, 0] rfl)
    · have h := iteP c_36 h
      exact t_M_read_39 C0 hK hA hZ N h_this h_this_tape h_this_list h_this_item h_this_word h_this_text tapeSize_this listSize_this itemSize_this textSize_this a_list res _ _ _ _ _ h H locs hP hD hS ls (lv_sub hl [1, 2, 3, 0] rfl)
set_option maxHeartbeats 4000000 in
set_option maxRecDepth 100000 in
theorem t_M_read_18 {p : Program} {l : Launch} {e : Env} {s : State} {m : MethodId} {args : Array Value} {below : List Frame} {meth : Method} {c : Code} {D : va_G} {cA : ClassId} {zz : zT} {A : Nat → Prop} (C0 : Cx p s m args meth c b_M_read R_M 7 none) (hK : va_K D classes [(cA, .int)] s) (hA : ∀ q : Nat, s.heap.size ≤ q → A q) (hZ : ZS zz A s s.heap) (N : Nat) (h_this : Nat) (h_this_tape : Nat) (h_this_list : Nat) (h_this_item : Nat) (h_this_word : Nat) (h_this_text : Nat) (tapeSize_this : Int32) (listSize_this : Int32) (itemSize_this : Int32) (textSize_this : Int32) (a_list : Nat → Int32) (res : Int32 × (Nat → Int32)) :
    ∀ (wordSize_this : Int32) (a_word : Nat → Int32) (x1 : Int32) (x2 : Int32) (x3 : Int32), p_M_read_18 N listSize_this a_list wordSize_this a_word x1 x2 x3 = some res → ∀ (H : Heap) (locs : List Loc), va_P D classes [(h_this, .inr (2, [.ref h_this_tape, .int tapeSize_this, .ref h_this_list, .int listSize_this, .ref h_this_item, .int itemSize_this, .ref h_this_word, .int wordSize_this, .ref h_this_text, .int textSize_this])), (h_this_list, .inl (cA, 1024, .inl a_list)), (h_this_word, .inl (cA, 1024, .inl a_word))] H → va_D A [(h_this, .inr (2, [.ref h_this_tape, .int tapeSize_this, .ref h_this_list, .int listSize_this, .ref h_this_item, .int itemSize_this, .ref h_this_word, .int wordSize_this, .ref h_this_text, .int textSize_this])), (h_this_list, .inl (cA, 1024, .inl a_list)), (h_this_word, .inl (cA, 1024, .inl a_word))] → va_S A s.heap H locs → ∀ (ls : Array Slot), lv_has ls 7 [(0, .ref h_this), (1, .int x1), (2, .int x2), (3, .int x3)] → W p l e rm_M_read s m args below meth c H locs 0 0 (QV below args s D cA A [(h_this, .inr (2, [.ref h_this_tape, .int tapeSize_this, .ref h_this_list, .int listSize_this, .ref h_this_item, .int itemSize_this, .ref h_this_word, .int res.1, .ref h_this_text, .int textSize_this])), (h_this_list, .inl (cA, 1024, .inl a_list)), (h_this_word, .inl (cA, 1024, .inl res.2))]) (F0 m 18 ls []) := by
  obtain ⟨hx, hb, hr, hml, hown, hG, hlk⟩ := id C0
  intro wordSize_this a_word x1 x2 x3 h H locs hP hD hS ls hl
  unfold p_M_read_18 at h
  refine lv_iload_n hx hb d_M_read_18 rfl (lv_at hl 1 rfl) ?_
  refine lv_iconst (v := (1 : Int32)) hx hb d_M_read_19 (by decide) ?_
  refine lv_iadd hx hb d_M_read_20 ?_
  refine lv_goto (tgt := 25) hx hb d_M_read_21 (by decide) ?_
  exact t_M_read_25 C0 hK hA hZ N h_this h_this_tape h_this_list h_this_item h_this_word h_this_text tapeSize_this listSize_this itemSize_this textSize_this a_list res _ _ _ _ _ h H locs hP hD hS ls (lv_sub hl [0, 2, 3] rfl)
set_option maxHeartbeats 4000000 in
set_option maxRecDepth 100000 in
theorem t_M_read_0 {p : Program} {l : Launch} {e : Env} {s : State} {m : MethodId} {args : Array Value} {below : List Frame} {meth : Method} {c : Code} {D : va_G} {cA : ClassId} {zz : zT} {A : Nat → Prop} (C0 : Cx p s m args meth c b_M_read R_M 7 none) (hK : va_K D classes [(cA, .int)] s) (hA : ∀ q : Nat, s.heap.size ≤ q → A q) (hZ : ZS zz A s s.heap) (N : Nat) (h_this : Nat) (h_this_tape : Nat) (h_this_list : Nat) (h_this_item : Nat) (h_this_word : Nat) (h_this_text : Nat) (tapeSize_this : Int32) (listSize_this : Int32) (itemSize_this : Int32) (textSize_this : Int32) (a_list : Nat → Int32) (res : Int32 × (Nat → Int32)) :
    ∀ (wordSize_this : Int32) (a_word : Nat → Int32) (x1 : Int32) (x2 : Int32), p_M_read_0 N listSize_this a_list wordSize_this a_word x1 x2 = some res → ∀ (H : Heap) (locs : List Loc), va_P D classes [(h_this, .inr (2, [.ref h_this_tape, .int tapeSize_this, .ref h_this_list, .int listSize_this, .ref h_this_item, .int itemSize_this, .ref h_this_word, .int wordSize_this, .ref h_this_text, .int textSize_this])), (h_this_list, .inl (cA, 1024, .inl a_list)), (h_this_word, .inl (cA, 1024, .inl a_word))] H → va_D A [(h_this, .inr (2, [.ref h_this_tape, .int tapeSize_this, .ref h_this_list, .int listSize_this, .ref h_this_item, .int itemSize_this, .ref h_this_word, .int wordSize_this, .ref h_this_text, .int textSize_this])), (h_this_list, .inl (cA, 1024, .inl a_list)), (h_this_word, .inl (cA, 1024, .inl a_word))] → va_S A s.heap H locs → ∀ (ls : Array Slot), lv_has ls 7 [(0, .ref h_this), (1, .int x1), (2, .int x2)] → W p l e rm_M_read s m args below meth c H locs 0 0 (QV below args s D cA A [(h_this, .inr (2, [.ref h_this_tape, .int tapeSize_this, .ref h_this_list, .int listSize_this, .ref h_this_item, .int itemSize_this, .ref h_this_word, .int res.1, .ref h_this_text, .int textSize_this])), (h_this_list, .inl (cA, 1024, .inl a_list)), (h_this_word, .inl (cA, 1024, .inl res.2))]) (F0 m 0 ls []) := by
  obtain ⟨hx, hb, hr, hml, hown, hG, hlk⟩ := id C0
  intro wordSize_this a_word x1 x2 h H locs hP hD hS ls hl
  unfold p_M_read_0 at h
  refine lv_aload_n hx hb d_M_read_0 rfl (lv_at hl 0 rfl) ?_
  refine lv_iload_n hx hb d_M_read_1 rfl (lv_at hl 1 rfl) ?_
  obtain ⟨r_2, h_2, h⟩ := bindS h
  refine call_vi (wr := [(h_this_word, .inl (cA, 1024, .inl a_word))]) (w1 := [(h_this, .inr (2, [.ref h_this_tape, .int tapeSize_this, .ref h_this_list, .int listSize_this, .ref h_this_item, .int itemSize_this, .ref h_this_word, .int wordSize_this, .ref h_this_text, .int textSize_this])), (h_this_list, .inl (cA, 1024, .inl a_list))]) (wN := [(h_this, .inr (2, [.ref h_this_tape, .int tapeSize_this, .ref h_this_list, .int listSize_this, .ref h_this_item, .int itemSize_this, .ref h_this_word, .int wordSize_this, .ref h_this_text, .int textSize_this])), (h_this_list, .inl (cA, 1024, .inl a_list)), (h_this_word, .inl (cA, 1024, .inl a_word))]) (rest := []) C0 hK hP hD hS hA hZ (c_M_at l D cA zz N h_this h_this_tape h_this_list h_this_item h_this_word h_this_text tapeSize_this listSize_this itemSize_this wordSize_this textSize_this a_list x1 r_2 h_2) [0, 1] [2] [1, 2, 0] rfl rfl rfl rfl (by decide) rfl rfl 0 2 rfl rfl m_M_29 ⟨Nat.le_of_ble_eq_true rfl, Nat.le_of_ble_eq_true rfl⟩ ⟨rfl, rfl⟩ rfl hl.1 rfl (Nat.le_of_ble_eq_true rfl) ⟨Nat.le_of_ble_eq_true rfl, Nat.le_of_ble_eq_true rfl⟩ d_M_read_2 (fun b_2 H locs hP hD hS => ?_)
  refine lv_istore_n (lv' := [(3, .int r_2), (0, .ref h_this), (1, .int x1), (2, .int x2)]) hx hb d_M_read_5 rfl hl (by decide) rfl (fun ls hl => ?_)
  refine lv_iload_n hx hb d_M_read_6 rfl (lv_at hl 0 rfl) ?_
  refine lv_bipush (v := (123 : Int32)) hx hb d_M_read_7 (by decide) ?_
  refine lv_icmp_eq (tgt := 18) hx hb d_M_read_9 (by decide) (fun c_9 => ?_) (fun c_9 => ?_)
  · have h := iteP c_9 h
    exact t_M_read_18 C0 hK hA hZ N h_this h_this_tape h_this_list h_this_item h_this_word h_this_text tapeSize_this listSize_this itemSize_this textSize_this a_list res _ _ _ _ _ h H locs hP hD hS ls (lv_sub hl [1, 2, 3, 0] rfl)
  · have h := iteN c_9 h
    refine lv_iload_n hx hb d_M_read_12 rfl (lv_at hl 0 rfl) ?_
    refine lv_bipush (v := (34 : Int32)) hx hb d_M_read_13 (by decide) ?_
    refine lv_icmp_ne (tgt := 24) hx hb d_M_read_15 (by decide) (fun c_15 => ?_) (fun c_15 => ?_)
    · have h := iteN c_15 h
      refine lv_iload_n hx hb d_M_read_24 rfl (lv_at hl 2 rfl) ?_
      exact t_M_read_25 C0 hK hA hZ N h_this h_this_tape h_this_list h_this_item h_this_word h_this_text tapeSize_this listSize_this itemSize_this textSize_this a_list res _ _ _ _ _ h H locs hP hD hS ls (lv_sub hl [1, 3, 0] rfl)
    · have h := iteP c_15 h
      exact t_M_read_18 C0 hK hA hZ N h_this h_this_tape h_this_list h_this_item h_this_word h_this_text tapeSize_this listSize_this itemSize_this textSize_this a_list res _ _ _ _ _ h H locs hP hD hS ls (lv_sub hl [1, 2, 3, 0] rfl)
theorem c_M_read (l : Launch) (D : va_G) (cA : ClassId) (zz : zT) (N : Nat) (h_this : Nat) (h_this_tape : Nat) (h_this_list : Nat) (h_this_item : Nat) (h_this_word : Nat) (h_this_text : Nat) (tapeSize_this : Int32) (listSize_this : Int32) (itemSize_this : Int32) (wordSize_this : Int32) (textSize_this : Int32) (a_list : Nat → Int32) (a_word : Nat → Int32) (x1 : Int32) (x2 : Int32) (res : Int32 × (Nat → Int32)) (h : p_M_read N listSize_this wordSize_this a_list a_word x1 x2 = some res) : MV l D cA zz y_M_read b_M_read 7 rm_M_read [.ref h_this, .int x1, .int x2] [(h_this, .inr (2, [.ref h_this_tape, .int tapeSize_this, .ref h_this_list, .int listSize_this, .ref h_this_item, .int itemSize_this, .ref h_this_word, .int wordSize_this, .ref h_this_text, .int textSize_this])), (h_this_list, .inl (cA, 1024, .inl a_list)), (h_this_word, .inl (cA, 1024, .inl a_word))] [(h_this, .inr (2, [.ref h_this_tape, .int tapeSize_this, .ref h_this_list, .int listSize_this, .ref h_this_item, .int itemSize_this, .ref h_this_word, .int res.1, .ref h_this_text, .int textSize_this])), (h_this_list, .inl (cA, 1024, .inl a_list)), (h_this_word, .inl (cA, 1024, .inl res.2))] := by
  unfold p_M_read at h
  exact MV_enter (by decide) (Nat.le_of_ble_eq_true rfl) (fun p e s m below meth c A ls C0 hK hA hZ hP hD hl => t_M_read_0 C0 hK hA hZ N h_this h_this_tape h_this_list h_this_item h_this_word h_this_text tapeSize_this listSize_this itemSize_this textSize_this a_list res _ _ _ _ h s.heap [] hP hD va_S.rf ls hl)
-- ListWordsModel.goOver(I)I
set_option maxHeartbeats 4000000 in
set_option maxRecDepth 100000 in
theorem t_M_goOver_50 {p : Program} {l : Launch} {e : Env} {s : State} {m : MethodId} {args : Array Value} {below : List Frame} {meth : Method} {c : Code} {D : va_G} {cA : ClassId} {zz : zT} {A : Nat → Prop} (C0 : Cx p s m args meth c b_M_goOver R_M 5 (some .int)) (hK : va_K D classes [(cA, .int)] s) (hA : ∀ q : Nat, s.heap.size ≤ q → A q) (hZ : ZS zz A s s.heap) (N : Nat) (h_this : Nat) (h_this_tape : Nat) (h_this_list : Nat) (h_this_item : Nat) (h_this_word : Nat) (h_this_text : Nat) (tapeSize_this : Int32) (listSize_this : Int32) (itemSize_this : Int32) (textSize_this : Int32) (a_list : Nat → Int32) (res : Int32 × Int32 × (Nat → Int32))
    (k_8 : Int32 → (Nat → Int32) → Int32 → Int32 → Int32 → Option (Int32 × Int32 × (Nat → Int32))) (hk_8 : ∀ (wordSize_this : Int32) (a_word : Nat → Int32) (x1 : Int32) (x2 : Int32) (x3 : Int32), k_8 wordSize_this a_word x1 x2 x3 = some res → ∀ (H : Heap) (locs : List Loc), va_P D classes [(h_this, .inr (2, [.ref h_this_tape, .int tapeSize_this, .ref h_this_list, .int listSize_this, .ref h_this_item, .int itemSize_this, .ref h_this_word, .int wordSize_this, .ref h_this_text, .int textSize_this])), (h_this_list, .inl (cA, 1024, .inl a_list)), (h_this_word, .inl (cA, 1024, .inl a_word))] H → va_D A [(h_this, .inr (2, [.ref h_this_tape, .int tapeSize_this, .ref h_this_list, .int listSize_this, .ref h_this_item, .int itemSize_this, .ref h_this_word, .int wordSize_this, .ref h_this_text, .int textSize_this])), (h_this_list, .inl (cA, 1024, .inl a_list)), (h_this_word, .inl (cA, 1024, .inl a_word))] → va_S A s.heap H locs → ∀ (ls : Array Slot), lv_has ls 5 [(0, .ref h_this), (1, .int x1), (2, .int x2), (3, .int x3)] → W p l e rm_M_goOver s m args below meth c H locs 0 0 (QI .int below args s D cA A (res.1) [(h_this, .inr (2, [.ref h_this_tape, .int tapeSize_this, .ref h_this_list, .int listSize_this, .ref h_this_item, .int itemSize_this, .ref h_this_word, .int res.2.1, .ref h_this_text, .int textSize_this])), (h_this_list, .inl (cA, 1024, .inl a_list)), (h_this_word, .inl (cA, 1024, .inl res.2.2))]) (F0 m 8 ls [])) :
    ∀ (wordSize_this : Int32) (a_word : Nat → Int32) (x1 : Int32) (x2 : Int32) (x4 : Int32), p_M_goOver_50 N listSize_this a_list k_8 wordSize_this a_word x1 x2 x4 = some res → ∀ (H : Heap) (locs : List Loc), va_P D classes [(h_this, .inr (2, [.ref h_this_tape, .int tapeSize_this, .ref h_this_list, .int listSize_this, .ref h_this_item, .int itemSize_this, .ref h_this_word, .int wordSize_this, .ref h_this_text, .int textSize_this])), (h_this_list, .inl (cA, 1024, .inl a_list)), (h_this_word, .inl (cA, 1024, .inl a_word))] H → va_D A [(h_this, .inr (2, [.ref h_this_tape, .int tapeSize_this, .ref h_this_list, .int listSize_this, .ref h_this_item, .int itemSize_this, .ref h_this_word, .int wordSize_this, .ref h_this_text, .int textSize_this])), (h_this_list, .inl (cA, 1024, .inl a_list)), (h_this_word, .inl (cA, 1024, .inl a_word))] → va_S A s.heap H locs → ∀ (ls : Array Slot), lv_has ls 5 [(0, .ref h_this), (1, .int x1), (2, .int x2), (4, .int x4)] → W p l e rm_M_goOver s m args below meth c H locs 0 0 (QI .int below args s D cA A (res.1) [(h_this, .inr (2, [.ref h_this_tape, .int tapeSize_this, .ref h_this_list, .int listSize_this, .ref h_this_item, .int itemSize_this, .ref h_this_word, .int res.2.1, .ref h_this_text, .int textSize_this])), (h_this_list, .inl (cA, 1024, .inl a_list)), (h_this_word, .inl (cA, 1024, .inl res.2.2))]) (F0 m 50 ls []) := by
  obtain ⟨hx, hb, hr, hml, hown, hG, hlk⟩ := id C0
  intro wordSize_this a_word x1 x2 x4 h H locs hP hD hS ls hl
  unfold p_M_goOver_50 at h
  refine lv_iinc (v := (x2 + (1 : Int32))) (lv' := [(2, .int (x2 + (1 : Int32))), (0, .ref h_this), (1, .int x1), (4, .int x4)]) hx hb d_M_goOver_50 hl (k := 2) rfl rfl (by decide) rfl (fun ls hl => ?_)
  refine lv_aload_n hx hb d_M_goOver_53 rfl (lv_at hl 1 rfl) ?_
  refine lv_iload hx hb d_M_goOver_54 (lv_at hl 3 rfl) ?_
  obtain ⟨r_56, h_56, h⟩ := bindS h
  refine call_vi (wr := [(h_this_word, .inl (cA, 1024, .inl a_word))]) (w1 := [(h_this, .inr (2, [.ref h_this_tape, .int tapeSize_this, .ref h_this_list, .int listSize_this, .ref h_this_item, .int itemSize_this, .ref h_this_word, .int wordSize_this, .ref h_this_text, .int textSize_this])), (h_this_list, .inl (cA, 1024, .inl a_list))]) (wN := [(h_this, .inr (2, [.ref h_this_tape, .int tapeSize_this, .ref h_this_list, .int listSize_this, .ref h_this_item, .int itemSize_this, .ref h_this_word, .int wordSize_this, .ref h_this_text, .int textSize_this])), (h_this_list, .inl (cA, 1024, .inl a_list)), (h_this_word, .inl (cA, 1024, .inl a_word))]) (rest := []) C0 hK hP hD hS hA hZ (c_M_skip l D cA zz N h_this h_this_tape h_this_list h_this_item h_this_word h_this_text tapeSize_this listSize_this itemSize_this wordSize_this textSize_this a_list x4 r_56 h_56) [0, 1] [2] [1, 2, 0] rfl rfl rfl rfl (by decide) rfl rfl 0 2 rfl rfl m_M_66 ⟨Nat.le_of_ble_eq_true rfl, Nat.le_of_ble_eq_true rfl⟩ ⟨rfl, rfl⟩ rfl hl.1 rfl (Nat.le_of_ble_eq_true rfl) ⟨Nat.le_of_ble_eq_true rfl, Nat.le_of_ble_eq_true rfl⟩ d_M_goOver_56 (fun b_56 H locs hP hD hS => ?_)
  refine lv_istore_n (lv' := [(3, .int r_56), (2, .int (x2 + (1 : Int32))), (0, .ref h_this), (1, .int x1), (4, .int x4)]) hx hb d_M_goOver_59 rfl hl (by decide) rfl (fun ls hl => ?_)
  refine lv_goto (tgt := 8) hx hb d_M_goOver_60 (by decide) ?_
  exact hk_8 _ _ _ _ _ h H locs hP hD hS ls (lv_sub hl [2, 3, 1, 0] rfl)
set_option maxHeartbeats 4000000 in
set_option maxRecDepth 100000 in
theorem t_M_goOver_8 {p : Program} {l : Launch} {e : Env} {s : State} {m : MethodId} {args : Array Value} {below : List Frame} {meth : Method} {c : Code} {D : va_G} {cA : ClassId} {zz : zT} {A : Nat → Prop} (C0 : Cx p s m args meth c b_M_goOver R_M 5 (some .int)) (hK : va_K D classes [(cA, .int)] s) (hA : ∀ q : Nat, s.heap.size ≤ q → A q) (hZ : ZS zz A s s.heap) (N : Nat) (h_this : Nat) (h_this_tape : Nat) (h_this_list : Nat) (h_this_item : Nat) (h_this_word : Nat) (h_this_text : Nat) (tapeSize_this : Int32) (listSize_this : Int32) (itemSize_this : Int32) (textSize_this : Int32) (a_list : Nat → Int32) (res : Int32 × Int32 × (Nat → Int32)) :
    ∀ (n : Nat), ∀ (wordSize_this : Int32) (a_word : Nat → Int32) (x1 : Int32) (x2 : Int32) (x3 : Int32), p_M_goOver_8 N listSize_this a_list n wordSize_this a_word x1 x2 x3 = some res → ∀ (H : Heap) (locs : List Loc), va_P D classes [(h_this, .inr (2, [.ref h_this_tape, .int tapeSize_this, .ref h_this_list, .int listSize_this, .ref h_this_item, .int itemSize_this, .ref h_this_word, .int wordSize_this, .ref h_this_text, .int textSize_this])), (h_this_list, .inl (cA, 1024, .inl a_list)), (h_this_word, .inl (cA, 1024, .inl a_word))] H → va_D A [(h_this, .inr (2, [.ref h_this_tape, .int tapeSize_this, .ref h_this_list, .int listSize_this, .ref h_this_item, .int itemSize_this, .ref h_this_word, .int wordSize_this, .ref h_this_text, .int textSize_this])), (h_this_list, .inl (cA, 1024, .inl a_list)), (h_this_word, .inl (cA, 1024, .inl a_word))] → va_S A s.heap H locs → ∀ (ls : Array Slot), lv_has ls 5 [(0, .ref h_this), (1, .int x1), (2, .int x2), (3, .int x3)] → W p l e rm_M_goOver s m args below meth c H locs 0 0 (QI .int below args s D cA A (res.1) [(h_this, .inr (2, [.ref h_this_tape, .int tapeSize_this, .ref h_this_list, .int listSize_this, .ref h_this_item, .int itemSize_this, .ref h_this_word, .int res.2.1, .ref h_this_text, .int textSize_this])), (h_this_list, .inl (cA, 1024, .inl a_list)), (h_this_word, .inl (cA, 1024, .inl res.2.2))]) (F0 m 8 ls []) := by
  obtain ⟨hx, hb, hr, hml, hown, hG, hlk⟩ := id C0
  intro n
  induction n with
  | zero =>
    intro wordSize_this a_word x1 x2 x3 h H locs hP hD hS ls hl
    exact absurd h (by simp [p_M_goOver_8])
  | succ n ih =>
    intro wordSize_this a_word x1 x2 x3 h H locs hP hD hS ls hl
    rw [p_M_goOver_8] at h
    refine lv_iload_n hx hb d_M_goOver_8 rfl (lv_at hl 3 rfl) ?_
    refine lv_aload_n hx hb d_M_goOver_9 rfl (lv_at hl 0 rfl) ?_
    refine va_get (D := D) (ci := 2) (v := .int listSize_this) (C := R_M) (T := F_M) (N := 10) hx hb hG i_M hown hK hP 0 rfl rfl 3 (by decide) (hG _ f_M_25) (fun _ h9 => h9) rfl d_M_goOver_10 ?_
    refine lv_icmp_ge (tgt := 63) hx hb d_M_goOver_13 (by decide) (fun c_13 => ?_) (fun c_13 => ?_)
    · have h := iteP c_13 h
      refine lv_iload_n hx hb d_M_goOver_63 rfl (lv_at hl 2 rfl) ?_
      obtain rfl := Option.some.inj h
      exact rI (v := x2) C0 (vp_nar_int _) hK hP hD hS d_M_goOver_64
    · have h := iteN c_13 h
      refine lv_iload_n hx hb d_M_goOver_16 rfl (lv_at hl 2 rfl) ?_
      refine lv_iload_n hx hb d_M_goOver_17 rfl (lv_at hl 1 rfl) ?_
      refine lv_icmp_gt (tgt := 63) hx hb d_M_goOver_18 (by decide) (fun c_18 => ?_) (fun c_18 => ?_)
      · have h := iteP c_18 h
        refine lv_iload_n hx hb d_M_goOver_63 rfl (lv_at hl 2 rfl) ?_
        obtain rfl := Option.some.inj h
        exact rI (v := x2) C0 (vp_nar_int _) hK hP hD hS d_M_goOver_64
      · have h := iteN c_18 h
        refine lv_aload_n hx hb d_M_goOver_21 rfl (lv_at hl 0 rfl) ?_
        refine lv_iload_n hx hb d_M_goOver_22 rfl (lv_at hl 3 rfl) ?_
        obtain ⟨r_23, h_23, h⟩ := bindS h
        refine call_vi (wr := [(h_this_word, .inl (cA, 1024, .inl a_word))]) (w1 := [(h_this, .inr (2, [.ref h_this_tape, .int tapeSize_this, .ref h_this_list, .int listSize_this, .ref h_this_item, .int itemSize_this, .ref h_this_word, .int wordSize_this, .ref h_this_text, .int textSize_this])), (h_this_list, .inl (cA, 1024, .inl a_list))]) (wN := [(h_this, .inr (2, [.ref h_this_tape, .int tapeSize_this, .ref h_this_list, .int listSize_this, .ref h_this_item, .int itemSize_this, .ref h_this_word, .int wordSize_this, .ref h_this_text, .int textSize_this])), (h_this_list, .inl (cA, 1024, .inl a_list)), (h_this_word, .inl (cA, 1024, .inl a_word))]) (rest := []) C0 hK hP hD hS hA hZ (c_M_ending l D cA zz N h_this h_this_tape h_this_list h_this_item h_this_word h_this_text tapeSize_this listSize_this itemSize_this wordSize_this textSize_this a_list x3 r_23 h_23) [0, 1] [2] [1, 2, 0] rfl rfl rfl rfl (by decide) rfl rfl 0 2 rfl rfl m_M_69 ⟨Nat.le_of_ble_eq_true rfl, Nat.le_of_ble_eq_true rfl⟩ ⟨rfl, rfl⟩ rfl hl.1 rfl (Nat.le_of_ble_eq_true rfl) ⟨Nat.le_of_ble_eq_true rfl, Nat.le_of_ble_eq_true rfl⟩ d_M_goOver_23 (fun b_23 H locs hP hD hS => ?_)
        refine lv_istore (lv' := [(4, .int r_23), (0, .ref h_this), (1, .int x1), (2, .int x2), (3, .int x3)]) hx hb d_M_goOver_26 hl (by decide) rfl (fun ls hl => ?_)
        refine lv_iload hx hb d_M_goOver_28 (lv_at hl 0 rfl) ?_
        refine lv_bipush (v := (-2 : Int32)) hx hb d_M_goOver_30 (by decide) ?_
        refine lv_icmp_ne (tgt := 38) hx hb d_M_goOver_32 (by decide) (fun c_32 => ?_) (fun c_32 => ?_)
        · have h := iteN c_32 h
          refine lv_iload_n hx hb d_M_goOver_38 rfl (lv_at hl 3 rfl) ?_
          refine lv_iload_n hx hb d_M_goOver_39 rfl (lv_at hl 2 rfl) ?_
          refine lv_icmp_ne (tgt := 50) hx hb d_M_goOver_40 (by decide) (fun c_40 => ?_) (fun c_40 => ?_)
          · have h := iteN c_40 h
            exact t_M_goOver_50 C0 hK hA hZ N h_this h_this_tape h_this_list h_this_item h_this_word h_this_text tapeSize_this listSize_this itemSize_this textSize_this a_list res (p_M_goOver_8 N listSize_this a_list n) ih _ _ _ _ _ h H locs hP hD hS ls (lv_sub hl [1, 2, 3, 0] rfl)
          · have h := iteP c_40 h
            refine lv_aload_n hx hb d_M_goOver_43 rfl (lv_at hl 1 rfl) ?_
            refine lv_iload_n hx hb d_M_goOver_44 rfl (lv_at hl 4 rfl) ?_
            refine lv_iload hx hb d_M_goOver_45 (lv_at hl 0 rfl) ?_
            obtain ⟨r_47, h_47, h⟩ := bindS h
            refine call_vv (wr := []) (w1 := [(h_this, .inr (2, [.ref h_this_tape, .int tapeSize_this, .ref h_this_list, .int listSize_this, .ref h_this_item, .int itemSize_this, .ref h_this_word, .int r_47.1, .ref h_this_text, .int textSize_this])), (h_this_list, .inl (cA, 1024, .inl a_list)), (h_this_word, .inl (cA, 1024, .inl r_47.2))]) (wN := [(h_this, .inr (2, [.ref h_this_tape, .int tapeSize_this, .ref h_this_list, .int listSize_this, .ref h_this_item, .int itemSize_this, .ref h_this_word, .int r_47.1, .ref h_this_text, .int textSize_this])), (h_this_list, .inl (cA, 1024, .inl a_list)), (h_this_word, .inl (cA, 1024, .inl r_47.2))]) (rest := []) C0 hK hP hD hS hA hZ (c_M_read l D cA zz N h_this h_this_tape h_this_list h_this_item h_this_word h_this_text tapeSize_this listSize_this itemSize_this wordSize_this textSize_this a_list a_word x3 r_23 r_47 h_47) [0, 1, 2] [] [0, 1, 2] rfl rfl rfl rfl (by decide) rfl rfl 0 2 rfl rfl m_M_72 ⟨Nat.le_of_ble_eq_true rfl, Nat.le_of_ble_eq_true rfl⟩ ⟨rfl, rfl⟩ rfl hl.1 rfl (Nat.le_of_ble_eq_true rfl) ⟨Nat.le_of_ble_eq_true rfl, Nat.le_of_ble_eq_true rfl⟩ d_M_goOver_47 (fun H locs hP hD hS => ?_)
            exact t_M_goOver_50 C0 hK hA hZ N h_this h_this_tape h_this_list h_this_item h_this_word h_this_text tapeSize_this listSize_this itemSize_this textSize_this a_list res (p_M_goOver_8 N listSize_this a_list n) ih _ _ _ _ _ h H locs hP hD hS ls (lv_sub hl [1, 2, 3, 0] rfl)
        · have h := iteP c_32 h
          refine lv_bipush (v := (-2 : Int32)) hx hb d_M_goOver_35 (by decide) ?_
          obtain rfl := Option.some.inj h
          exact rI (v := (-2 : Int32)) C0 (vp_nar_int _) hK hP hD hS d_M_goOver_37
set_option maxHeartbeats 4000000 in
set_option maxRecDepth 100000 in
theorem t_M_goOver_0 {p : Program} {l : Launch} {e : Env} {s : State} {m : MethodId} {args : Array Value} {below : List Frame} {meth : Method} {c : Code} {D : va_G} {cA : ClassId} {zz : zT} {A : Nat → Prop} (C0 : Cx p s m args meth c b_M_goOver R_M 5 (some .int)) (hK : va_K D classes [(cA, .int)] s) (hA : ∀ q : Nat, s.heap.size ≤ q → A q) (hZ : ZS zz A s s.heap) (N : Nat) (h_this : Nat) (h_this_tape : Nat) (h_this_list : Nat) (h_this_item : Nat) (h_this_word : Nat) (h_this_text : Nat) (tapeSize_this : Int32) (listSize_this : Int32) (itemSize_this : Int32) (textSize_this : Int32) (a_list : Nat → Int32) (res : Int32 × Int32 × (Nat → Int32)) :
    ∀ (wordSize_this : Int32) (a_word : Nat → Int32) (x1 : Int32), p_M_goOver_0 N listSize_this a_list wordSize_this a_word x1 = some res → ∀ (H : Heap) (locs : List Loc), va_P D classes [(h_this, .inr (2, [.ref h_this_tape, .int tapeSize_this, .ref h_this_list, .int listSize_this, .ref h_this_item, .int itemSize_this, .ref h_this_word, .int wordSize_this, .ref h_this_text, .int textSize_this])), (h_this_list, .inl (cA, 1024, .inl a_list)), (h_this_word, .inl (cA, 1024, .inl a_word))] H → va_D A [(h_this, .inr (2, [.ref h_this_tape, .int tapeSize_this, .ref h_this_list, .int listSize_this, .ref h_this_item, .int itemSize_this, .ref h_this_word, .int wordSize_this, .ref h_this_text, .int textSize_this])), (h_this_list, .inl (cA, 1024, .inl a_list)), (h_this_word, .inl (cA, 1024, .inl a_word))] → va_S A s.heap H locs → ∀ (ls : Array Slot), lv_has ls 5 [(0, .ref h_this), (1, .int x1)] → W p l e rm_M_goOver s m args below meth c H locs 0 0 (QI .int below args s D cA A (res.1) [(h_this, .inr (2, [.ref h_this_tape, .int tapeSize_this, .ref h_this_list, .int listSize_this, .ref h_this_item, .int itemSize_this, .ref h_this_word, .int res.2.1, .ref h_this_text, .int textSize_this])), (h_this_list, .inl (cA, 1024, .inl a_list)), (h_this_word, .inl (cA, 1024, .inl res.2.2))]) (F0 m 0 ls []) := by
  obtain ⟨hx, hb, hr, hml, hown, hG, hlk⟩ := id C0
  intro wordSize_this a_word x1 h H locs hP hD hS ls hl
  unfold p_M_goOver_0 at h
  refine lv_iconst (v := (0 : Int32)) hx hb d_M_goOver_0 (by decide) ?_
  refine lv_istore_n (lv' := [(2, .int (0 : Int32)), (0, .ref h_this), (1, .int x1)]) hx hb d_M_goOver_1 rfl hl (by decide) rfl (fun ls hl => ?_)
  refine lv_aload_n hx hb d_M_goOver_2 rfl (lv_at hl 1 rfl) ?_
  refine lv_iconst (v := (0 : Int32)) hx hb d_M_goOver_3 (by decide) ?_
  obtain ⟨r_4, h_4, h⟩ := bindS h
  refine call_vi (wr := [(h_this_word, .inl (cA, 1024, .inl a_word))]) (w1 := [(h_this, .inr (2, [.ref h_this_tape, .int tapeSize_this, .ref h_this_list, .int listSize_this, .ref h_this_item, .int itemSize_this, .ref h_this_word, .int wordSize_this, .ref h_this_text, .int textSize_this])), (h_this_list, .inl (cA, 1024, .inl a_list))]) (wN := [(h_this, .inr (2, [.ref h_this_tape, .int tapeSize_this, .ref h_this_list, .int listSize_this, .ref h_this_item, .int itemSize_this, .ref h_this_word, .int wordSize_this, .ref h_this_text, .int textSize_this])), (h_this_list, .inl (cA, 1024, .inl a_list)), (h_this_word, .inl (cA, 1024, .inl a_word))]) (rest := []) C0 hK hP hD hS hA hZ (c_M_skip l D cA zz N h_this h_this_tape h_this_list h_this_item h_this_word h_this_text tapeSize_this listSize_this itemSize_this wordSize_this textSize_this a_list (0 : Int32) r_4 h_4) [0, 1] [2] [1, 2, 0] rfl rfl rfl rfl (by decide) rfl rfl 0 2 rfl rfl m_M_66 ⟨Nat.le_of_ble_eq_true rfl, Nat.le_of_ble_eq_true rfl⟩ ⟨rfl, rfl⟩ rfl hl.1 rfl (Nat.le_of_ble_eq_true rfl) ⟨Nat.le_of_ble_eq_true rfl, Nat.le_of_ble_eq_true rfl⟩ d_M_goOver_4 (fun b_4 H locs hP hD hS => ?_)
  refine lv_istore_n (lv' := [(3, .int r_4), (2, .int (0 : Int32)), (0, .ref h_this), (1, .int x1)]) hx hb d_M_goOver_7 rfl hl (by decide) rfl (fun ls hl => ?_)
  exact t_M_goOver_8 C0 hK hA hZ N h_this h_this_tape h_this_list h_this_item h_this_word h_this_text tapeSize_this listSize_this itemSize_this textSize_this a_list res N _ _ _ _ _ h H locs hP hD hS ls (lv_sub hl [2, 3, 1, 0] rfl)
theorem c_M_goOver (l : Launch) (D : va_G) (cA : ClassId) (zz : zT) (N : Nat) (h_this : Nat) (h_this_tape : Nat) (h_this_list : Nat) (h_this_item : Nat) (h_this_word : Nat) (h_this_text : Nat) (tapeSize_this : Int32) (listSize_this : Int32) (itemSize_this : Int32) (wordSize_this : Int32) (textSize_this : Int32) (a_list : Nat → Int32) (a_word : Nat → Int32) (x1 : Int32) (res : Int32 × Int32 × (Nat → Int32)) (h : p_M_goOver N listSize_this wordSize_this a_list a_word x1 = some res) : MI l D cA zz y_M_goOver b_M_goOver 5 .int rm_M_goOver [.ref h_this, .int x1] [(h_this, .inr (2, [.ref h_this_tape, .int tapeSize_this, .ref h_this_list, .int listSize_this, .ref h_this_item, .int itemSize_this, .ref h_this_word, .int wordSize_this, .ref h_this_text, .int textSize_this])), (h_this_list, .inl (cA, 1024, .inl a_list)), (h_this_word, .inl (cA, 1024, .inl a_word))] (res.1) [(h_this, .inr (2, [.ref h_this_tape, .int tapeSize_this, .ref h_this_list, .int listSize_this, .ref h_this_item, .int itemSize_this, .ref h_this_word, .int res.2.1, .ref h_this_text, .int textSize_this])), (h_this_list, .inl (cA, 1024, .inl a_list)), (h_this_word, .inl (cA, 1024, .inl res.2.2))] := by
  unfold p_M_goOver at h
  exact MI_enter (by decide) (Nat.le_of_ble_eq_true rfl) (fun p e s m below meth c A ls C0 hK hA hZ hP hD hl => t_M_goOver_0 C0 hK hA hZ N h_this h_this_tape h_this_list h_this_item h_this_word h_this_text tapeSize_this listSize_this itemSize_this textSize_this a_list res _ _ _ h s.heap [] hP hD va_S.rf ls hl)
-- ListWordsModel.put(I)V
set_option maxHeartbeats 4000000 in
set_option maxRecDepth 100000 in
theorem t_M_put_0 {p : Program} {l : Launch} {e : Env} {s : State} {m : MethodId} {args : Array Value} {below : List Frame} {meth : Method} {c : Code} {D : va_G} {cA : ClassId} {zz : zT} {A : Nat → Prop} (C0 : Cx p s m args meth c b_M_put R_M 2 none) (hK : va_K D classes [(cA, .int)] s) (hA : ∀ q : Nat, s.heap.size ≤ q → A q) (hZ : ZS zz A s s.heap) (N : Nat) (h_this : Nat) (h_this_tape : Nat) (h_this_list : Nat) (h_this_item : Nat) (h_this_word : Nat) (h_this_text : Nat) (tapeSize_this : Int32) (listSize_this : Int32) (itemSize_this : Int32) (wordSize_this : Int32) (res : Int32 × (Nat → Int32)) :
    ∀ (textSize_this : Int32) (a_text : Nat → Int32) (x1 : Int32), p_M_put_0 N textSize_this a_text x1 = some res → ∀ (H : Heap) (locs : List Loc), va_P D classes [(h_this, .inr (2, [.ref h_this_tape, .int tapeSize_this, .ref h_this_list, .int listSize_this, .ref h_this_item, .int itemSize_this, .ref h_this_word, .int wordSize_this, .ref h_this_text, .int textSize_this])), (h_this_text, .inl (cA, 4200, .inl a_text))] H → va_D A [(h_this, .inr (2, [.ref h_this_tape, .int tapeSize_this, .ref h_this_list, .int listSize_this, .ref h_this_item, .int itemSize_this, .ref h_this_word, .int wordSize_this, .ref h_this_text, .int textSize_this])), (h_this_text, .inl (cA, 4200, .inl a_text))] → va_S A s.heap H locs → ∀ (ls : Array Slot), lv_has ls 2 [(0, .ref h_this), (1, .int x1)] → W p l e rm_M_put s m args below meth c H locs 0 0 (QV below args s D cA A [(h_this, .inr (2, [.ref h_this_tape, .int tapeSize_this, .ref h_this_list, .int listSize_this, .ref h_this_item, .int itemSize_this, .ref h_this_word, .int wordSize_this, .ref h_this_text, .int res.1])), (h_this_text, .inl (cA, 4200, .inl res.2))]) (F0 m 0 ls []) := by
  obtain ⟨hx, hb, hr, hml, hown, hG, hlk⟩ := id C0
  intro textSize_this a_text x1 h H locs hP hD hS ls hl
  unfold p_M_put_0 at h
  refine lv_aload_n hx hb d_M_put_0 rfl (lv_at hl 0 rfl) ?_
  refine va_get (D := D) (ci := 2) (v := .ref h_this_text) (C := R_M) (T := F_M) (N := 10) hx hb hG i_M hown hK hP 0 rfl rfl 8 (by decide) (hG _ f_M_22) (fun _ h9 => h9) rfl d_M_put_1 ?_
  refine lv_aload_n hx hb d_M_put_4 rfl (lv_at hl 0 rfl) ?_
  refine va_get (D := D) (ci := 2) (v := .int textSize_this) (C := R_M) (T := F_M) (N := 10) hx hb hG i_M hown hK hP 0 rfl rfl 9 (by decide) (hG _ f_M_76) (fun _ h9 => h9) rfl d_M_put_5 ?_
  refine lv_iload_n hx hb d_M_put_8 rfl (lv_at hl 1 rfl) ?_
  obtain ⟨g_9, h⟩ := guardN h
  refine va_iast hx hb hK hP hD hS 1 0 rfl rfl g_9 d_M_put_9 (fun H locs hP hD hS => ?_)
  have hP : va_P D classes [(h_this, .inr (2, [.ref h_this_tape, .int tapeSize_this, .ref h_this_list, .int listSize_this, .ref h_this_item, .int itemSize_this, .ref h_this_word, .int wordSize_this, .ref h_this_text, .int textSize_this])), (h_this_text, .inl (cA, 4200, .inl (upd a_text textSize_this.toNatClampNeg x1)))] H := hP
  have hD : va_D A [(h_this, .inr (2, [.ref h_this_tape, .int tapeSize_this, .ref h_this_list, .int listSize_this, .ref h_this_item, .int itemSize_this, .ref h_this_word, .int wordSize_this, .ref h_this_text, .int textSize_this])), (h_this_text, .inl (cA, 4200, .inl (upd a_text textSize_this.toNatClampNeg x1)))] := hD
  refine lv_aload_n hx hb d_M_put_10 rfl (lv_at hl 0 rfl) ?_
  refine lv_dup hx hb d_M_put_11 rfl ?_
  refine va_get (D := D) (ci := 2) (v := .int textSize_this) (C := R_M) (T := F_M) (N := 10) hx hb hG i_M hown hK hP 0 rfl rfl 9 (by decide) (hG _ f_M_76) (fun _ h9 => h9) rfl d_M_put_12 ?_
  refine lv_iconst (v := (1 : Int32)) hx hb d_M_put_15 (by decide) ?_
  refine lv_iadd hx hb d_M_put_16 ?_
  refine va_put (D := D) (ci := 2) (v := .int (textSize_this + (1 : Int32))) (ty := .int) (C := R_M) (T := F_M) (N := 10) hx hb hG i_M t_M t_M_ok n_M hown hK hP hD hS 0 rfl rfl 9 (by decide) (hG _ f_M_76) (fun _ h9 => h9) rfl (by decide +kernel) rfl rfl (Nat.le_of_ble_eq_true rfl) d_M_put_17 (fun H locs hP hD hS => ?_)
  have hP : va_P D classes [(h_this, .inr (2, [.ref h_this_tape, .int tapeSize_this, .ref h_this_list, .int listSize_this, .ref h_this_item, .int itemSize_this, .ref h_this_word, .int wordSize_this, .ref h_this_text, .int (textSize_this + (1 : Int32))])), (h_this_text, .inl (cA, 4200, .inl (upd a_text textSize_this.toNatClampNeg x1)))] H := hP
  have hD : va_D A [(h_this, .inr (2, [.ref h_this_tape, .int tapeSize_this, .ref h_this_list, .int listSize_this, .ref h_this_item, .int itemSize_this, .ref h_this_word, .int wordSize_this, .ref h_this_text, .int (textSize_this + (1 : Int32))])), (h_this_text, .inl (cA, 4200, .inl (upd a_text textSize_this.toNatClampNeg x1)))] := hD
  obtain rfl := Option.some.inj h
  exact rV C0 hK hP hD hS d_M_put_20
theorem c_M_put (l : Launch) (D : va_G) (cA : ClassId) (zz : zT) (N : Nat) (h_this : Nat) (h_this_tape : Nat) (h_this_list : Nat) (h_this_item : Nat) (h_this_word : Nat) (h_this_text : Nat) (tapeSize_this : Int32) (listSize_this : Int32) (itemSize_this : Int32) (wordSize_this : Int32) (textSize_this : Int32) (a_text : Nat → Int32) (x1 : Int32) (res : Int32 × (Nat → Int32)) (h : p_M_put N textSize_this a_text x1 = some res) : MV l D cA zz y_M_put b_M_put 2 rm_M_put [.ref h_this, .int x1] [(h_this, .inr (2, [.ref h_this_tape, .int tapeSize_this, .ref h_this_list, .int listSize_this, .ref h_this_item, .int itemSize_this, .ref h_this_word, .int wordSize_this, .ref h_this_text, .int textSize_this])), (h_this_text, .inl (cA, 4200, .inl a_text))] [(h_this, .inr (2, [.ref h_this_tape, .int tapeSize_this, .ref h_this_list, .int listSize_this, .ref h_this_item, .int itemSize_this, .ref h_this_word, .int wordSize_this, .ref h_this_text, .int res.1])), (h_this_text, .inl (cA, 4200, .inl res.2))] := by
  unfold p_M_put at h
  exact MV_enter (by decide) (Nat.le_of_ble_eq_true rfl) (fun p e s m below meth c A ls C0 hK hA hZ hP hD hl => t_M_put_0 C0 hK hA hZ N h_this h_this_tape h_this_list h_this_item h_this_word h_this_text tapeSize_this listSize_this itemSize_this wordSize_this res _ _ _ h s.heap [] hP hD va_S.rf ls hl)
-- ListWordsModel.isSpecial(I)Z
set_option maxHeartbeats 4000000 in
set_option maxRecDepth 100000 in
theorem t_M_isSpecial_0 {p : Program} {l : Launch} {e : Env} {s : State} {m : MethodId} {args : Array Value} {below : List Frame} {meth : Method} {c : Code} {D : va_G} {cA : ClassId} {zz : zT} {A : Nat → Prop} (C0 : Cx p s m args meth c b_M_isSpecial R_M 1 (some .boolean)) (hK : va_K D classes [(cA, .int)] s) (hA : ∀ q : Nat, s.heap.size ≤ q → A q) (hZ : ZS zz A s s.heap) (N : Nat) (res : Int32) :
    ∀ (x0 : Int32), p_M_isSpecial_0 N x0 = some res → ∀ (H : Heap) (locs : List Loc), va_P D classes [] H → va_D A [] → va_S A s.heap H locs → ∀ (ls : Array Slot), lv_has ls 1 [(0, .int x0)] → W p l e rm_M_isSpecial s m args below meth c H locs 0 0 (QI .boolean below args s D cA A (res) []) (F0 m 0 ls []) := by
  obtain ⟨hx, hb, hr, hml, hown, hG, hlk⟩ := id C0
  intro x0 h H locs hP hD hS ls hl
  unfold p_M_isSpecial_0 at h
  refine lv_iload_n hx hb d_M_isSpecial_0 rfl (lv_at hl 0 rfl) ?_
  obtain ⟨r_1, h_1, h⟩ := bindS h
  refine call_si (wr := []) (w1 := []) (wN := []) (rest := []) C0 hK hP hD hS hA hZ (c_M_isSpace l D cA zz N x0 r_1 h_1) [] [] [] rfl rfl rfl rfl (by decide) rfl rfl m_M_33 ⟨Nat.le_of_ble_eq_true rfl, Nat.le_of_ble_eq_true rfl⟩ ⟨rfl, rfl⟩ rfl hl.1 rfl (Nat.le_of_ble_eq_true rfl) ⟨Nat.le_of_ble_eq_true rfl, Nat.le_of_ble_eq_true rfl⟩ d_M_isSpecial_1 (fun b_1 H locs hP hD hS => ?_)
  refine lv_if_ne (tgt := 55) hx hb d_M_isSpecial_4 (by decide) (fun c_4 => ?_) (fun c_4 => ?_)
  · have h := iteN c_4 h
    refine lv_iconst (v := (1 : Int32)) hx hb d_M_isSpecial_55 (by decide) ?_
    refine lv_goto (tgt := 60) hx hb d_M_isSpecial_56 (by decide) ?_
    obtain rfl := Option.some.inj h
    exact rI (v := (1 : Int32)) C0 rfl hK hP hD hS d_M_isSpecial_60
  · have h := iteP c_4 h
    refine lv_iload_n hx hb d_M_isSpecial_7 rfl (lv_at hl 0 rfl) ?_
    refine lv_bipush (v := (34 : Int32)) hx hb d_M_isSpecial_8 (by decide) ?_
    refine lv_icmp_eq (tgt := 55) hx hb d_M_isSpecial_10 (by decide) (fun c_10 => ?_) (fun c_10 => ?_)
    · have h := iteP c_10 h
      refine lv_iconst (v := (1 : Int32)) hx hb d_M_isSpecial_55 (by decide) ?_
      refine lv_goto (tgt := 60) hx hb d_M_isSpecial_56 (by decide) ?_
      obtain rfl := Option.some.inj h
      exact rI (v := (1 : Int32)) C0 rfl hK hP hD hS d_M_isSpecial_60
    · have h := iteN c_10 h
      refine lv_iload_n hx hb d_M_isSpecial_13 rfl (lv_at hl 0 rfl) ?_
      refine lv_bipush (v := (36 : Int32)) hx hb d_M_isSpecial_14 (by decide) ?_
      refine lv_icmp_eq (tgt := 55) hx hb d_M_isSpecial_16 (by decide) (fun c_16 => ?_) (fun c_16 => ?_)
      · have h := iteP c_16 h
        refine lv_iconst (v := (1 : Int32)) hx hb d_M_isSpecial_55 (by decide) ?_
        refine lv_goto (tgt := 60) hx hb d_M_isSpecial_56 (by decide) ?_
        obtain rfl := Option.some.inj h
        exact rI (v := (1 : Int32)) C0 rfl hK hP hD hS d_M_isSpecial_60
      · have h := iteN c_16 h
        refine lv_iload_n hx hb d_M_isSpecial_19 rfl (lv_at hl 0 rfl) ?_
        refine lv_bipush (v := (59 : Int32)) hx hb d_M_isSpecial_20 (by decide) ?_
        refine lv_icmp_eq (tgt := 55) hx hb d_M_isSpecial_22 (by decide) (fun c_22 => ?_) (fun c_22 => ?_)
        · have h := iteP c_22 h
          refine lv_iconst (v := (1 : Int32)) hx hb d_M_isSpecial_55 (by decide) ?_
          refine lv_goto (tgt := 60) hx hb d_M_isSpecial_56 (by decide) ?_
          obtain rfl := Option.some.inj h
          exact rI (v := (1 : Int32)) C0 rfl hK hP hD hS d_M_isSpecial_60
        · have h := iteN c_22 h
          refine lv_iload_n hx hb d_M_isSpecial_25 rfl (lv_at hl 0 rfl) ?_
          refine lv_bipush (v := (91 : Int32)) hx hb d_M_isSpecial_26 (by decide) ?_
          refine lv_icmp_eq (tgt := 55) hx hb d_M_isSpecial_28 (by decide) (fun c_28 => ?_) (fun c_28 => ?_)
          · have h := iteP c_28 h
            refine lv_iconst (v := (1 : Int32)) hx hb d_M_isSpecial_55 (by decide) ?_
            refine lv_goto (tgt := 60) hx hb d_M_isSpecial_56 (by decide) ?_
            obtain rfl := Option.some.inj h
            exact rI (v := (1 : Int32)) C0 rfl hK hP hD hS d_M_isSpecial_60
          · have h := iteN c_28 h
            refine lv_iload_n hx hb d_M_isSpecial_31 rfl (lv_at hl 0 rfl) ?_
            refine lv_bipush (v := (92 : Int32)) hx hb d_M_isSpecial_32 (by decide) ?_
            refine lv_icmp_eq (tgt := 55) hx hb d_M_isSpecial_34 (by decide) (fun c_34 => ?_) (fun c_34 => ?_)
            · have h := iteP c_34 h
              refine lv_iconst (v := (1 : Int32)) hx hb d_M_isSpecial_55 (by decide) ?_
              refine lv_goto (tgt := 60) hx hb d_M_isSpecial_56 (by decide) ?_
              obtain rfl := Option.some.inj h
              exact rI (v := (1 : Int32)) C0 rfl hK hP hD hS d_M_isSpecial_60
            · have h := iteN c_34 h
              refine lv_iload_n hx hb d_M_isSpecial_37 rfl (lv_at hl 0 rfl) ?_
              refine lv_bipush (v := (93 : Int32)) hx hb d_M_isSpecial_38 (by decide) ?_
              refine lv_icmp_eq (tgt := 55) hx hb d_M_isSpecial_40 (by decide) (fun c_40 => ?_) (fun c_40 => ?_)
              · have h := iteP c_40 h
                refine lv_iconst (v := (1 : Int32)) hx hb d_M_isSpecial_55 (by decide) ?_
                refine lv_goto (tgt := 60) hx hb d_M_isSpecial_56 (by decide) ?_
                obtain rfl := Option.some.inj h
                exact rI (v := (1 : Int32)) C0 rfl hK hP hD hS d_M_isSpecial_60
              · have h := iteN c_40 h
                refine lv_iload_n hx hb d_M_isSpecial_43 rfl (lv_at hl 0 rfl) ?_
                refine lv_bipush (v := (123 : Int32)) hx hb d_M_isSpecial_44 (by decide) ?_
                refine lv_icmp_eq (tgt := 55) hx hb d_M_isSpecial_46 (by decide) (fun c_46 => ?_) (fun c_46 => ?_)
                · have h := iteP c_46 h
                  refine lv_iconst (v := (1 : Int32)) hx hb d_M_isSpecial_55 (by decide) ?_
                  refine lv_goto (tgt := 60) hx hb d_M_isSpecial_56 (by decide) ?_
                  obtain rfl := Option.some.inj h
                  exact rI (v := (1 : Int32)) C0 rfl hK hP hD hS d_M_isSpecial_60
                · have h := iteN c_46 h
                  refine lv_iload_n hx hb d_M_isSpecial_49 rfl (lv_at hl 0 rfl) ?_
                  refine lv_bipush (v := (125 : Int32)) hx hb d_M_isSpecial_50 (by decide) ?_
                  refine lv_icmp_ne (tgt := 59) hx hb d_M_isSpecial_52 (by decide) (fun c_52 => ?_) (fun c_52 => ?_)
                  · have h := iteN c_52 h
                    refine lv_iconst (v := (0 : Int32)) hx hb d_M_isSpecial_59 (by decide) ?_
                    obtain rfl := Option.some.inj h
                    exact rI (v := (0 : Int32)) C0 rfl hK hP hD hS d_M_isSpecial_60
                  · have h := iteP c_52 h
                    refine lv_iconst (v := (1 : Int32)) hx hb d_M_isSpecial_55 (by decide) ?_
                    refine lv_goto (tgt := 60) hx hb d_M_isSpecial_56 (by decide) ?_
                    obtain rfl := Option.some.inj h
                    exact rI (v := (1 : Int32)) C0 rfl hK hP hD hS d_M_isSpecial_60
theorem c_M_isSpecial (l : Launch) (D : va_G) (cA : ClassId) (zz : zT) (N : Nat)  (x0 : Int32) (res : Int32) (h : p_M_isSpecial N x0 = some res) : MI l D cA zz y_M_isSpecial b_M_isSpecial 1 .boolean rm_M_isSpecial [.int x0] [] (res) [] := by
  unfold p_M_isSpecial at h
  exact MI_enter (by decide) (Nat.le_of_ble_eq_true rfl) (fun p e s m below meth c A ls C0 hK hA hZ hP hD hl => t_M_isSpecial_0 C0 hK hA hZ N res _ h s.heap [] hP hD va_S.rf ls hl)
