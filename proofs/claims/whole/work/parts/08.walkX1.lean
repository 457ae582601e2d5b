-- ListWords.bytesBehindBackslash(I)I
set_option maxHeartbeats 4000000 in
set_option maxRecDepth 100000 in
theorem t_X_bytesBehindBackslash_0 {p : Program} {l : Launch} {e : Env} {s : State} {m : MethodId} {args : Array Value} {below : List Frame} {meth : Method} {c : Code} {D : va_G} {cA : ClassId} {zz : zT} {A : Nat → Prop} (C0 : Cx p s m args meth c b_X_bytesBehindBackslash R_X 3 (some .int)) (hK : va_K D classes [(cA, .int)] s) (hA : ∀ q : Nat, s.heap.size ≤ q → A q) (hZ : ZS zz A s s.heap) (N : Nat) (h_this : Nat) (h_this_tape : Nat) (h_this_list : Nat) (h_this_list_bytes : Nat) (h_this_item : Nat) (h_this_word : Nat) (h_this_written : Nat) (place_this : Int32) (size_list : Int32) (a_list_bytes : Nat → Int32) (res : Int32) :
    ∀ (x1 : Int32), p_X_bytesBehindBackslash_0 N size_list a_list_bytes x1 = some res → ∀ (H : Heap) (locs : List Loc), va_P D classes [(h_this, .inr (1, [.ref h_this_tape, .ref h_this_list, .ref h_this_item, .ref h_this_word, .ref h_this_written, .int place_this])), (h_this_list, .inr (0, [.ref h_this_list_bytes, .int size_list])), (h_this_list_bytes, .inl (cA, 1024, .inl a_list_bytes))] H → va_D A [(h_this, .inr (1, [.ref h_this_tape, .ref h_this_list, .ref h_this_item, .ref h_this_word, .ref h_this_written, .int place_this])), (h_this_list, .inr (0, [.ref h_this_list_bytes, .int size_list])), (h_this_list_bytes, .inl (cA, 1024, .inl a_list_bytes))] → va_S A s.heap H locs → ∀ (ls : Array Slot), lv_has ls 3 [(0, .ref h_this), (1, .int x1)] → W p l e rm_X_bytesBehindBackslash s m args below meth c H locs 0 0 (QI .int below args s D cA A (res) [(h_this, .inr (1, [.ref h_this_tape, .ref h_this_list, .ref h_this_item, .ref h_this_word, .ref h_this_written, .int place_this])), (h_this_list, .inr (0, [.ref h_this_list_bytes, .int size_list])), (h_this_list_bytes, .inl (cA, 1024, .inl a_list_bytes))]) (F0 m 0 ls []) := by
  obtain ⟨hx, hb, hr, hml, hown, hG, hlk⟩ := id C0
  intro x1 h H locs hP hD hS ls hl
  unfold p_X_bytesBehindBackslash_0 at h
  refine lv_aload_n hx hb d_X_bytesBehindBackslash_0 rfl (lv_at hl 0 rfl) ?_
  refine va_get (D := D) (ci := 1) (v := .ref h_this_list) (C := R_X) (T := F_X) (N := 6) hx hb hG i_X hown hK hP 0 rfl rfl 1 (by decide) (hG _ f_X_16) (fun _ h9 => h9) rfl d_X_bytesBehindBackslash_1 ?_
  refine lv_iload_n hx hb d_X_bytesBehindBackslash_4 rfl (lv_at hl 1 rfl) ?_
  refine lv_iconst (v := (1 : Int32)) hx hb d_X_bytesBehindBackslash_5 (by decide) ?_
  refine lv_iadd hx hb d_X_bytesBehindBackslash_6 ?_
  obtain ⟨r_7, h_7, h⟩ := bindS h
  refine call_vi (wr := [(h_this, .inr (1, [.ref h_this_tape, .ref h_this_list, .ref h_this_item, .ref h_this_word, .ref h_this_written, .int place_this]))]) (w1 := [(h_this_list, .inr (0, [.ref h_this_list_bytes, .int size_list])), (h_this_list_bytes, .inl (cA, 1024, .inl a_list_bytes))]) (wN := [(h_this, .inr (1, [.ref h_this_tape, .ref h_this_list, .ref h_this_item, .ref h_this_word, .ref h_this_written, .int place_this])), (h_this_list, .inr (0, [.ref h_this_list_bytes, .int size_list])), (h_this_list_bytes, .inl (cA, 1024, .inl a_list_bytes))]) (rest := []) C0 hK hP hD hS hA hZ (c_R_byteAt l D cA zz N h_this_list h_this_list_bytes size_list a_list_bytes (x1 + (1 : Int32)) r_7 h_7) [1, 2] [0] [0, 1, 2] rfl rfl rfl rfl (by decide) rfl rfl 0 0 rfl rfl m_X_58 ⟨Nat.le_of_ble_eq_true rfl, Nat.le_of_ble_eq_true rfl⟩ ⟨rfl, rfl⟩ rfl hl.1 rfl (Nat.le_of_ble_eq_true rfl) ⟨Nat.le_of_ble_eq_true rfl, Nat.le_of_ble_eq_true rfl⟩ d_X_bytesBehindBackslash_7 (fun b_7 H locs hP hD hS => ?_)
  refine lv_istore_n (lv' := [(2, .int r_7), (0, .ref h_this), (1, .int x1)]) hx hb d_X_bytesBehindBackslash_10 rfl hl (by decide) rfl (fun ls hl => ?_)
  refine lv_aload_n hx hb d_X_bytesBehindBackslash_11 rfl (lv_at hl 1 rfl) ?_
  refine va_get (D := D) (ci := 1) (v := .ref h_this_list) (C := R_X) (T := F_X) (N := 6) hx hb hG i_X hown hK hP 0 rfl rfl 1 (by decide) (hG _ f_X_16) (fun _ h9 => h9) rfl d_X_bytesBehindBackslash_12 ?_
  refine lv_iload_n hx hb d_X_bytesBehindBackslash_15 rfl (lv_at hl 2 rfl) ?_
  obtain ⟨r_16, h_16, h⟩ := bindS h
  refine call_vi (wr := [(h_this, .inr (1, [.ref h_this_tape, .ref h_this_list, .ref h_this_item, .ref h_this_word, .ref h_this_written, .int place_this]))]) (w1 := [(h_this_list, .inr (0, [.ref h_this_list_bytes, .int size_list])), (h_this_list_bytes, .inl (cA, 1024, .inl a_list_bytes))]) (wN := [(h_this, .inr (1, [.ref h_this_tape, .ref h_this_list, .ref h_this_item, .ref h_this_word, .ref h_this_written, .int place_this])), (h_this_list, .inr (0, [.ref h_this_list_bytes, .int size_list])), (h_this_list_bytes, .inl (cA, 1024, .inl a_list_bytes))]) (rest := []) C0 hK hP hD hS hA hZ (c_R_byteAt l D cA zz N h_this_list h_this_list_bytes size_list a_list_bytes x1 r_16 h_16) [1, 2] [0] [0, 1, 2] rfl rfl rfl rfl (by decide) rfl rfl 0 0 rfl rfl m_X_58 ⟨Nat.le_of_ble_eq_true rfl, Nat.le_of_ble_eq_true rfl⟩ ⟨rfl, rfl⟩ rfl hl.1 rfl (Nat.le_of_ble_eq_true rfl) ⟨Nat.le_of_ble_eq_true rfl, Nat.le_of_ble_eq_true rfl⟩ d_X_bytesBehindBackslash_16 (fun b_16 H locs hP hD hS => ?_)
  refine lv_bipush (v := (92 : Int32)) hx hb d_X_bytesBehindBackslash_19 (by decide) ?_
  refine lv_icmp_ne (tgt := 29) hx hb d_X_bytesBehindBackslash_21 (by decide) (fun c_21 => ?_) (fun c_21 => ?_)
  · have h := iteN c_21 h
    refine lv_iconst (v := (0 : Int32)) hx hb d_X_bytesBehindBackslash_29 (by decide) ?_
    obtain rfl := Option.some.inj h
    exact rI (v := (0 : Int32)) C0 (vp_nar_int _) hK hP hD hS d_X_bytesBehindBackslash_30
  · have h := iteP c_21 h
    refine lv_iload_n hx hb d_X_bytesBehindBackslash_24 rfl (lv_at hl 0 rfl) ?_
    refine lv_iconst (v := (-1 : Int32)) hx hb d_X_bytesBehindBackslash_25 (by decide) ?_
    refine lv_icmp_ne (tgt := 31) hx hb d_X_bytesBehindBackslash_26 (by decide) (fun c_26 => ?_) (fun c_26 => ?_)
    · have h := iteN c_26 h
      refine lv_iload_n hx hb d_X_bytesBehindBackslash_31 rfl (lv_at hl 0 rfl) ?_
      refine lv_bipush (v := (10 : Int32)) hx hb d_X_bytesBehindBackslash_32 (by decide) ?_
      refine lv_icmp_ne (tgt := 47) hx hb d_X_bytesBehindBackslash_34 (by decide) (fun c_34 => ?_) (fun c_34 => ?_)
      · have h := iteN c_34 h
        refine lv_iload_n hx hb d_X_bytesBehindBackslash_47 rfl (lv_at hl 0 rfl) ?_
        refine lv_bipush (v := (120 : Int32)) hx hb d_X_bytesBehindBackslash_48 (by decide) ?_
        refine lv_icmp_ne (tgt := 66) hx hb d_X_bytesBehindBackslash_50 (by decide) (fun c_50 => ?_) (fun c_50 => ?_)
        · have h := iteN c_50 h
          refine lv_iconst (v := (1 : Int32)) hx hb d_X_bytesBehindBackslash_66 (by decide) ?_
          refine lv_aload_n hx hb d_X_bytesBehindBackslash_67 rfl (lv_at hl 1 rfl) ?_
          refine lv_iload_n hx hb d_X_bytesBehindBackslash_68 rfl (lv_at hl 2 rfl) ?_
          refine lv_iconst (v := (1 : Int32)) hx hb d_X_bytesBehindBackslash_69 (by decide) ?_
          refine lv_iadd hx hb d_X_bytesBehindBackslash_70 ?_
          refine lv_iconst (v := (3 : Int32)) hx hb d_X_bytesBehindBackslash_71 (by decide) ?_
          refine lv_bipush (v := (8 : Int32)) hx hb d_X_bytesBehindBackslash_72 (by decide) ?_
          obtain ⟨r_74, h_74, h⟩ := bindS h
          refine call_vi (wr := []) (w1 := [(h_this, .inr (1, [.ref h_this_tape, .ref h_this_list, .ref h_this_item, .ref h_this_word, .ref h_this_written, .int place_this])), (h_this_list, .inr (0, [.ref h_this_list_bytes, .int size_list])), (h_this_list_bytes, .inl (cA, 1024, .inl a_list_bytes))]) (wN := [(h_this, .inr (1, [.ref h_this_tape, .ref h_this_list, .ref h_this_item, .ref h_this_word, .ref h_this_written, .int place_this])), (h_this_list, .inr (0, [.ref h_this_list_bytes, .int size_list])), (h_this_list_bytes, .inl (cA, 1024, .inl a_list_bytes))]) (rest := [.int (1 : Int32)]) C0 hK hP hD hS hA hZ (c_X_countDigits l D cA zz N h_this h_this_tape h_this_list h_this_list_bytes h_this_item h_this_word h_this_written place_this size_list a_list_bytes (x1 + (1 : Int32)) (3 : Int32) (8 : Int32) r_74 h_74) [0, 1, 2] [] [0, 1, 2] rfl rfl rfl rfl (by decide) rfl rfl 0 1 rfl rfl m_X_87 ⟨Nat.le_of_ble_eq_true rfl, Nat.le_of_ble_eq_true rfl⟩ ⟨rfl, rfl⟩ rfl hl.1 rfl (Nat.le_of_ble_eq_true rfl) ⟨Nat.le_of_ble_eq_true rfl, Nat.le_of_ble_eq_true rfl⟩ d_X_bytesBehindBackslash_74 (fun b_74 H locs hP hD hS => ?_)
          refine va_mmax hx hb (hml.trans hl.1.symm) hown (hG _ m_X_104) (hG _ w_math_max_static) (hG _ w_math_init) (hG _ w_math_max_code) (Nat.le_of_ble_eq_true rfl) (Nat.le_of_ble_eq_true rfl) (Nat.le_of_ble_eq_true rfl) (Nat.le_of_ble_eq_true rfl) d_X_bytesBehindBackslash_77 ?_
          obtain rfl := Option.some.inj h
          exact rI (v := (if (1 : Int32) < r_74 then r_74 else (1 : Int32))) C0 (vp_nar_int _) hK hP hD hS d_X_bytesBehindBackslash_80
        · have h := iteP c_50 h
          refine lv_iconst (v := (1 : Int32)) hx hb d_X_bytesBehindBackslash_53 (by decide) ?_
          refine lv_aload_n hx hb d_X_bytesBehindBackslash_54 rfl (lv_at hl 1 rfl) ?_
          refine lv_iload_n hx hb d_X_bytesBehindBackslash_55 rfl (lv_at hl 2 rfl) ?_
          refine lv_iconst (v := (2 : Int32)) hx hb d_X_bytesBehindBackslash_56 (by decide) ?_
          refine lv_iadd hx hb d_X_bytesBehindBackslash_57 ?_
          refine lv_iconst (v := (2 : Int32)) hx hb d_X_bytesBehindBackslash_58 (by decide) ?_
          refine lv_bipush (v := (16 : Int32)) hx hb d_X_bytesBehindBackslash_59 (by decide) ?_
          obtain ⟨r_61, h_61, h⟩ := bindS h
          refine call_vi (wr := []) (w1 := [(h_this, .inr (1, [.ref h_this_tape, .ref h_this_list, .ref h_this_item, .ref h_this_word, .ref h_this_written, .int place_this])), (h_this_list, .inr (0, [.ref h_this_list_bytes, .int size_list])), (h_this_list_bytes, .inl (cA, 1024, .inl a_list_bytes))]) (wN := [(h_this, .inr (1, [.ref h_this_tape, .ref h_this_list, .ref h_this_item, .ref h_this_word, .ref h_this_written, .int place_this])), (h_this_list, .inr (0, [.ref h_this_list_bytes, .int size_list])), (h_this_list_bytes, .inl (cA, 1024, .inl a_list_bytes))]) (rest := [.int (1 : Int32)]) C0 hK hP hD hS hA hZ (c_X_countDigits l D cA zz N h_this h_this_tape h_this_list h_this_list_bytes h_this_item h_this_word h_this_written place_this size_list a_list_bytes (x1 + (2 : Int32)) (2 : Int32) (16 : Int32) r_61 h_61) [0, 1, 2] [] [0, 1, 2] rfl rfl rfl rfl (by decide) rfl rfl 0 1 rfl rfl m_X_87 ⟨Nat.le_of_ble_eq_true rfl, Nat.le_of_ble_eq_true rfl⟩ ⟨rfl, rfl⟩ rfl hl.1 rfl (Nat.le_of_ble_eq_true rfl) ⟨Nat.le_of_ble_eq_true rfl, Nat.le_of_ble_eq_true rfl⟩ d_X_bytesBehindBackslash_61 (fun b_61 H locs hP hD hS => ?_)
          refine lv_iadd hx hb d_X_bytesBehindBackslash_64 ?_
          obtain rfl := Option.some.inj h
          exact rI (v := ((1 : Int32) + r_61)) C0 (vp_nar_int _) hK hP hD hS d_X_bytesBehindBackslash_65
      · have h := iteP c_34 h
        refine lv_iconst (v := (1 : Int32)) hx hb d_X_bytesBehindBackslash_37 (by decide) ?_
        refine lv_aload_n hx hb d_X_bytesBehindBackslash_38 rfl (lv_at hl 1 rfl) ?_
        refine lv_iload_n hx hb d_X_bytesBehindBackslash_39 rfl (lv_at hl 2 rfl) ?_
        refine lv_iconst (v := (2 : Int32)) hx hb d_X_bytesBehindBackslash_40 (by decide) ?_
        refine lv_iadd hx hb d_X_bytesBehindBackslash_41 ?_
        obtain ⟨r_42, h_42, h⟩ := bindS h
        refine call_vi (wr := []) (w1 := [(h_this, .inr (1, [.ref h_this_tape, .ref h_this_list, .ref h_this_item, .ref h_this_word, .ref h_this_written, .int place_this])), (h_this_list, .inr (0, [.ref h_this_list_bytes, .int size_list])), (h_this_list_bytes, .inl (cA, 1024, .inl a_list_bytes))]) (wN := [(h_this, .inr (1, [.ref h_this_tape, .ref h_this_list, .ref h_this_item, .ref h_this_word, .ref h_this_written, .int place_this])), (h_this_list, .inr (0, [.ref h_this_list_bytes, .int size_list])), (h_this_list_bytes, .inl (cA, 1024, .inl a_list_bytes))]) (rest := [.int (1 : Int32)]) C0 hK hP hD hS hA hZ (c_X_countBlanks l D cA zz N h_this h_this_tape h_this_list h_this_list_bytes h_this_item h_this_word h_this_written place_this size_list a_list_bytes (x1 + (2 : Int32)) r_42 h_42) [0, 1, 2] [] [0, 1, 2] rfl rfl rfl rfl (by decide) rfl rfl 0 1 rfl rfl m_X_101 ⟨Nat.le_of_ble_eq_true rfl, Nat.le_of_ble_eq_true rfl⟩ ⟨rfl, rfl⟩ rfl hl.1 rfl (Nat.le_of_ble_eq_true rfl) ⟨Nat.le_of_ble_eq_true rfl, Nat.le_of_ble_eq_true rfl⟩ d_X_bytesBehindBackslash_42 (fun b_42 H locs hP hD hS => ?_)
        refine lv_iadd hx hb d_X_bytesBehindBackslash_45 ?_
        obtain rfl := Option.some.inj h
        exact rI (v := ((1 : Int32) + r_42)) C0 (vp_nar_int _) hK hP hD hS d_X_bytesBehindBackslash_46
    · have h := iteP c_26 h
      refine lv_iconst (v := (0 : Int32)) hx hb d_X_bytesBehindBackslash_29 (by decide) ?_
      obtain rfl := Option.some.inj h
      exact rI (v := (0 : Int32)) C0 (vp_nar_int _) hK hP hD hS d_X_bytesBehindBackslash_30
theorem c_X_bytesBehindBackslash (l : Launch) (D : va_G) (cA : ClassId) (zz : zT) (N : Nat) (h_this : Nat) (h_this_tape : Nat) (h_this_list : Nat) (h_this_list_bytes : Nat) (h_this_item : Nat) (h_this_word : Nat) (h_this_written : Nat) (place_this : Int32) (size_list : Int32) (a_list_bytes : Nat → Int32) (x1 : Int32) (res : Int32) (h : p_X_bytesBehindBackslash N size_list a_list_bytes x1 = some res) : MI l D cA zz y_X_bytesBehindBackslash b_X_bytesBehindBackslash 3 .int rm_X_bytesBehindBackslash [.ref h_this, .int x1] [(h_this, .inr (1, [.ref h_this_tape, .ref h_this_list, .ref h_this_item, .ref h_this_word, .ref h_this_written, .int place_this])), (h_this_list, .inr (0, [.ref h_this_list_bytes, .int size_list])), (h_this_list_bytes, .inl (cA, 1024, .inl a_list_bytes))] (res) [(h_this, .inr (1, [.ref h_this_tape, .ref h_this_list, .ref h_this_item, .ref h_this_word, .ref h_this_written, .int place_this])), (h_this_list, .inr (0, [.ref h_this_list_bytes, .int size_list])), (h_this_list_bytes, .inl (cA, 1024, .inl a_list_bytes))] := by
  unfold p_X_bytesBehindBackslash at h
  exact MI_enter (by decide) (Nat.le_of_ble_eq_true rfl) (fun p e s m below meth c A ls C0 hK hA hZ hP hD hl => t_X_bytesBehindBackslash_0 C0 hK hA hZ N h_this h_this_tape h_this_list h_this_list_bytes h_this_item h_this_word h_this_written place_this size_list a_list_bytes res _ h s.heap [] hP hD va_S.rf ls hl)
-- ListWords.readUnbraced(IZ)I
set_option maxHeartbeats 4000000 in
set_option maxRecDepth 100000 in
theorem t_X_readUnbraced_68 {p : Program} {l : Launch} {e : Env} {s : State} {m : MethodId} {args : Array Value} {below : List Frame} {meth : Method} {c : Code} {D : va_G} {cA : ClassId} {zz : zT} {A : Nat → Prop} (C0 : Cx p s m args meth c b_X_readUnbraced R_X 5 (some .int)) (hK : va_K D classes [(cA, .int)] s) (hA : ∀ q : Nat, s.heap.size ≤ q → A q) (hZ : ZS zz A s s.heap) (N : Nat) (h_this : Nat) (h_this_tape : Nat) (h_this_list : Nat) (h_this_list_bytes : Nat) (h_this_item : Nat) (h_this_word : Nat) (h_this_word_bytes : Nat) (h_this_written : Nat) (place_this : Int32) (size_list : Int32) (a_list_bytes : Nat → Int32) (res : Int32 × Int32 × (Nat → Int32))
    (k_2 : Int32 → (Nat → Int32) → Int32 → Int32 → Option (Int32 × Int32 × (Nat → Int32))) (hk_2 : ∀ (size_word : Int32) (a_word_bytes : Nat → Int32) (x2 : Int32) (x3 : Int32), k_2 size_word a_word_bytes x2 x3 = some res → ∀ (H : Heap) (locs : List Loc), va_P D classes [(h_this, .inr (1, [.ref h_this_tape, .ref h_this_list, .ref h_this_item, .ref h_this_word, .ref h_this_written, .int place_this])), (h_this_list, .inr (0, [.ref h_this_list_bytes, .int size_list])), (h_this_list_bytes, .inl (cA, 1024, .inl a_list_bytes)), (h_this_word, .inr (0, [.ref h_this_word_bytes, .int size_word])), (h_this_word_bytes, .inl (cA, 1024, .inl a_word_bytes))] H → va_D A [(h_this, .inr (1, [.ref h_this_tape, .ref h_this_list, .ref h_this_item, .ref h_this_word, .ref h_this_written, .int place_this])), (h_this_list, .inr (0, [.ref h_this_list_bytes, .int size_list])), (h_this_list_bytes, .inl (cA, 1024, .inl a_list_bytes)), (h_this_word, .inr (0, [.ref h_this_word_bytes, .int size_word])), (h_this_word_bytes, .inl (cA, 1024, .inl a_word_bytes))] → va_S A s.heap H locs → ∀ (ls : Array Slot), lv_has ls 5 [(0, .ref h_this), (2, .int x2), (3, .int x3)] → W p l e rm_X_readUnbraced s m args below meth c H locs 0 0 (QI .int below args s D cA A (res.1) [(h_this, .inr (1, [.ref h_this_tape, .ref h_this_list, .ref h_this_item, .ref h_this_word, .ref h_this_written, .int place_this])), (h_this_list, .inr (0, [.ref h_this_list_bytes, .int size_list])), (h_this_list_bytes, .inl (cA, 1024, .inl a_list_bytes)), (h_this_word, .inr (0, [.ref h_this_word_bytes, .int res.2.1])), (h_this_word_bytes, .inl (cA, 1024, .inl res.2.2))]) (F0 m 2 ls [])) :
    ∀ (size_word : Int32) (a_word_bytes : Nat → Int32) (x2 : Int32) (x3 : Int32) (y0 : Int32), p_X_readUnbraced_68 N size_list a_list_bytes k_2 size_word a_word_bytes x2 x3 y0 = some res → ∀ (H : Heap) (locs : List Loc), va_P D classes [(h_this, .inr (1, [.ref h_this_tape, .ref h_this_list, .ref h_this_item, .ref h_this_word, .ref h_this_written, .int place_this])), (h_this_list, .inr (0, [.ref h_this_list_bytes, .int size_list])), (h_this_list_bytes, .inl (cA, 1024, .inl a_list_bytes)), (h_this_word, .inr (0, [.ref h_this_word_bytes, .int size_word])), (h_this_word_bytes, .inl (cA, 1024, .inl a_word_bytes))] H → va_D A [(h_this, .inr (1, [.ref h_this_tape, .ref h_this_list, .ref h_this_item, .ref h_this_word, .ref h_this_written, .int place_this])), (h_this_list, .inr (0, [.ref h_this_list_bytes, .int size_list])), (h_this_list_bytes, .inl (cA, 1024, .inl a_list_bytes)), (h_this_word, .inr (0, [.ref h_this_word_bytes, .int size_word])), (h_this_word_bytes, .inl (cA, 1024, .inl a_word_bytes))] → va_S A s.heap H locs → ∀ (ls : Array Slot), lv_has ls 5 [(0, .ref h_this), (2, .int x2), (3, .int x3)] → W p l e rm_X_readUnbraced s m args below meth c H locs 0 0 (QI .int below args s D cA A (res.1) [(h_this, .inr (1, [.ref h_this_tape, .ref h_this_list, .ref h_this_item, .ref h_this_word, .ref h_this_written, .int place_this])), (h_this_list, .inr (0, [.ref h_this_list_bytes, .int size_list])), (h_this_list_bytes, .inl (cA, 1024, .inl a_list_bytes)), (h_this_word, .inr (0, [.ref h_this_word_bytes, .int res.2.1])), (h_this_word_bytes, .inl (cA, 1024, .inl res.2.2))]) (F0 m 68 ls [.int y0, .ref h_this_word]) := by
  obtain ⟨hx, hb, hr, hml, hown, hG, hlk⟩ := id C0
  intro size_word a_word_bytes x2 x3 y0 h H locs hP hD hS ls hl
  unfold p_X_readUnbraced_68 at h
  obtain ⟨r_68, h_68, h⟩ := bindS h
  refine call_vi (wr := [(h_this, .inr (1, [.ref h_this_tape, .ref h_this_list, .ref h_this_item, .ref h_this_word, .ref h_this_written, .int place_this])), (h_this_list, .inr (0, [.ref h_this_list_bytes, .int size_list])), (h_this_list_bytes, .inl (cA, 1024, .inl a_list_bytes))]) (w1 := [(h_this_word, .inr (0, [.ref h_this_word_bytes, .int r_68.2.1])), (h_this_word_bytes, .inl (cA, 1024, .inl r_68.2.2))]) (wN := [(h_this, .inr (1, [.ref h_this_tape, .ref h_this_list, .ref h_this_item, .ref h_this_word, .ref h_this_written, .int place_this])), (h_this_list, .inr (0, [.ref h_this_list_bytes, .int size_list])), (h_this_list_bytes, .inl (cA, 1024, .inl a_list_bytes)), (h_this_word, .inr (0, [.ref h_this_word_bytes, .int r_68.2.1])), (h_this_word_bytes, .inl (cA, 1024, .inl r_68.2.2))]) (rest := []) C0 hK hP hD hS hA hZ (c_R_put l D cA zz N h_this_word h_this_word_bytes size_word a_word_bytes y0 r_68 h_68) [3, 4] [0, 1, 2] [0, 1, 2, 3, 4] rfl rfl rfl rfl (by decide) rfl rfl 0 0 rfl rfl m_X_78 ⟨Nat.le_of_ble_eq_true rfl, Nat.le_of_ble_eq_true rfl⟩ ⟨rfl, rfl⟩ rfl hl.1 rfl (Nat.le_of_ble_eq_true rfl) ⟨Nat.le_of_ble_eq_true rfl, Nat.le_of_ble_eq_true rfl⟩ d_X_readUnbraced_68 (fun b_68 H locs hP hD hS => ?_)
  refine lv_pop hx hb d_X_readUnbraced_71 rfl ?_
  refine lv_iload_n hx hb d_X_readUnbraced_72 rfl (lv_at hl 2 rfl) ?_
  refine lv_aload_n hx hb d_X_readUnbraced_73 rfl (lv_at hl 0 rfl) ?_
  refine lv_iload_n hx hb d_X_readUnbraced_74 rfl (lv_at hl 2 rfl) ?_
  obtain ⟨r_75, h_75, h⟩ := bindS h
  refine call_vi (wr := [(h_this_word, .inr (0, [.ref h_this_word_bytes, .int r_68.2.1])), (h_this_word_bytes, .inl (cA, 1024, .inl r_68.2.2))]) (w1 := [(h_this, .inr (1, [.ref h_this_tape, .ref h_this_list, .ref h_this_item, .ref h_this_word, .ref h_this_written, .int place_this])), (h_this_list, .inr (0, [.ref h_this_list_bytes, .int size_list])), (h_this_list_bytes, .inl (cA, 1024, .inl a_list_bytes))]) (wN := [(h_this, .inr (1, [.ref h_this_tape, .ref h_this_list, .ref h_this_item, .ref h_this_word, .ref h_this_written, .int place_this])), (h_this_list, .inr (0, [.ref h_this_list_bytes, .int size_list])), (h_this_list_bytes, .inl (cA, 1024, .inl a_list_bytes)), (h_this_word, .inr (0, [.ref h_this_word_bytes, .int r_68.2.1])), (h_this_word_bytes, .inl (cA, 1024, .inl r_68.2.2))]) (rest := [.int x3]) C0 hK hP hD hS hA hZ (c_X_bytesBehindBackslash l D cA zz N h_this h_this_tape h_this_list h_this_list_bytes h_this_item h_this_word h_this_written place_this size_list a_list_bytes x3 r_75 h_75) [0, 1, 2] [3, 4] [2, 3, 4, 0, 1] rfl rfl rfl rfl (by decide) rfl rfl 0 1 rfl rfl m_X_84 ⟨Nat.le_of_ble_eq_true rfl, Nat.le_of_ble_eq_true rfl⟩ ⟨rfl, rfl⟩ rfl hl.1 rfl (Nat.le_of_ble_eq_true rfl) ⟨Nat.le_of_ble_eq_true rfl, Nat.le_of_ble_eq_true rfl⟩ d_X_readUnbraced_75 (fun b_75 H locs hP hD hS => ?_)
  refine lv_iadd hx hb d_X_readUnbraced_78 ?_
  refine lv_istore_n (lv' := [(3, .int (x3 + r_75)), (0, .ref h_this), (2, .int x2)]) hx hb d_X_readUnbraced_79 rfl hl (by decide) rfl (fun ls hl => ?_)
  refine lv_iinc (v := ((x3 + r_75) + (1 : Int32))) (lv' := [(3, .int ((x3 + r_75) + (1 : Int32))), (0, .ref h_this), (2, .int x2)]) hx hb d_X_readUnbraced_80 hl (k := 0) rfl rfl (by decide) rfl (fun ls hl => ?_)
  refine lv_goto (tgt := 2) hx hb d_X_readUnbraced_83 (by decide) ?_
  exact hk_2 _ _ _ _ h H locs hP hD hS ls (lv_sub hl [1, 2, 0] rfl)
set_option maxHeartbeats 4000000 in
set_option maxRecDepth 100000 in
theorem t_X_readUnbraced_47 {p : Program} {l : Launch} {e : Env} {s : State} {m : MethodId} {args : Array Value} {below : List Frame} {meth : Method} {c : Code} {D : va_G} {cA : ClassId} {zz : zT} {A : Nat → Prop} (C0 : Cx p s m args meth c b_X_readUnbraced R_X 5 (some .int)) (hK : va_K D classes [(cA, .int)] s) (hA : ∀ q : Nat, s.heap.size ≤ q → A q) (hZ : ZS zz A s s.heap) (N : Nat) (h_this : Nat) (h_this_tape : Nat) (h_this_list : Nat) (h_this_list_bytes : Nat) (h_this_item : Nat) (h_this_word : Nat) (h_this_word_bytes : Nat) (h_this_written : Nat) (place_this : Int32) (size_list : Int32) (a_list_bytes : Nat → Int32) (res : Int32 × Int32 × (Nat → Int32))
    (k_2 : Int32 → (Nat → Int32) → Int32 → Int32 → Option (Int32 × Int32 × (Nat → Int32))) (hk_2 : ∀ (size_word : Int32) (a_word_bytes : Nat → Int32) (x2 : Int32) (x3 : Int32), k_2 size_word a_word_bytes x2 x3 = some res → ∀ (H : Heap) (locs : List Loc), va_P D classes [(h_this, .inr (1, [.ref h_this_tape, .ref h_this_list, .ref h_this_item, .ref h_this_word, .ref h_this_written, .int place_this])), (h_this_list, .inr (0, [.ref h_this_list_bytes, .int size_list])), (h_this_list_bytes, .inl (cA, 1024, .inl a_list_bytes)), (h_this_word, .inr (0, [.ref h_this_word_bytes, .int size_word])), (h_this_word_bytes, .inl (cA, 1024, .inl a_word_bytes))] H → va_D A [(h_this, .inr (1, [.ref h_this_tape, .ref h_this_list, .ref h_this_item, .ref h_this_word, .ref h_this_written, .int place_this])), (h_this_list, .inr (0, [.ref h_this_list_bytes, .int size_list])), (h_this_list_bytes, .inl (cA, 1024, .inl a_list_bytes)), (h_this_word, .inr (0, [.ref h_this_word_bytes, .int size_word])), (h_this_word_bytes, .inl (cA, 1024, .inl a_word_bytes))] → va_S A s.heap H locs → ∀ (ls : Array Slot), lv_has ls 5 [(0, .ref h_this), (2, .int x2), (3, .int x3)] → W p l e rm_X_readUnbraced s m args below meth c H locs 0 0 (QI .int below args s D cA A (res.1) [(h_this, .inr (1, [.ref h_this_tape, .ref h_this_list, .ref h_this_item, .ref h_this_word, .ref h_this_written, .int place_this])), (h_this_list, .inr (0, [.ref h_this_list_bytes, .int size_list])), (h_this_list_bytes, .inl (cA, 1024, .inl a_list_bytes)), (h_this_word, .inr (0, [.ref h_this_word_bytes, .int res.2.1])), (h_this_word_bytes, .inl (cA, 1024, .inl res.2.2))]) (F0 m 2 ls [])) :
    ∀ (size_word : Int32) (a_word_bytes : Nat → Int32) (x2 : Int32) (x3 : Int32) (x4 : Int32), p_X_readUnbraced_47 N size_list a_list_bytes k_2 size_word a_word_bytes x2 x3 x4 = some res → ∀ (H : Heap) (locs : List Loc), va_P D classes [(h_this, .inr (1, [.ref h_this_tape, .ref h_this_list, .ref h_this_item, .ref h_this_word, .ref h_this_written, .int place_this])), (h_this_list, .inr (0, [.ref h_this_list_bytes, .int size_list])), (h_this_list_bytes, .inl (cA, 1024, .inl a_list_bytes)), (h_this_word, .inr (0, [.ref h_this_word_bytes, .int size_word])), (h_this_word_bytes, .inl (cA, 1024, .inl a_word_bytes))] H → va_D A [(h_this, .inr (1, [.ref h_this_tape, .ref h_this_list, .ref h_this_item, .ref h_this_word, .ref h_this_written, .int place_this])), (h_this_list, .inr (0, [.ref h_this_list_bytes, .int size_list])), (h_this_list_bytes, .inl (cA, 1024, .inl a_list_bytes)), (h_this_word, .inr (0, [.ref h_this_word_bytes, .int size_word])), (h_this_word_bytes, .inl (cA, 1024, .inl a_word_bytes))] → va_S A s.heap H locs → ∀ (ls : Array Slot), lv_has ls 5 [(0, .ref h_this), (2, .int x2), (3, .int x3), (4, .int x4)] → W p l e rm_X_readUnbraced s m args below meth c H locs 0 0 (QI .int below args s D cA A (res.1) [(h_this, .inr (1, [.ref h_this_tape, .ref h_this_list, .ref h_this_item, .ref h_this_word, .ref h_this_written, .int place_this])), (h_this_list, .inr (0, [.ref h_this_list_bytes, .int size_list])), (h_this_list_bytes, .inl (cA, 1024, .inl a_list_bytes)), (h_this_word, .inr (0, [.ref h_this_word_bytes, .int res.2.1])), (h_this_word_bytes, .inl (cA, 1024, .inl res.2.2))]) (F0 m 47 ls []) := by
  obtain ⟨hx, hb, hr, hml, hown, hG, hlk⟩ := id C0
  intro size_word a_word_bytes x2 x3 x4 h H locs hP hD hS ls hl
  unfold p_X_readUnbraced_47 at h
  refine lv_aload_n hx hb d_X_readUnbraced_47 rfl (lv_at hl 0 rfl) ?_
  refine va_get (D := D) (ci := 1) (v := .ref h_this_word) (C := R_X) (T := F_X) (N := 6) hx hb hG i_X hown hK hP 0 rfl rfl 3 (by decide) (hG _ f_X_22) (fun _ h9 => h9) rfl d_X_readUnbraced_48 ?_
  refine lv_iload hx hb d_X_readUnbraced_51 (lv_at hl 3 rfl) ?_
  refine lv_bipush (v := (92 : Int32)) hx hb d_X_readUnbraced_53 (by decide) ?_
  refine lv_icmp_ne (tgt := 66) hx hb d_X_readUnbraced_55 (by decide) (fun c_55 => ?_) (fun c_55 => ?_)
  · have h := iteN c_55 h
    refine lv_iload hx hb d_X_readUnbraced_66 (lv_at hl 3 rfl) ?_
    exact t_X_readUnbraced_68 C0 hK hA hZ N h_this h_this_tape h_this_list h_this_list_bytes h_this_item h_this_word h_this_word_bytes h_this_written place_this size_list a_list_bytes res k_2 hk_2 _ _ _ _ _ h H locs hP hD hS ls (lv_sub hl [0, 1, 2] rfl)
  · have h := iteP c_55 h
    refine lv_aload_n hx hb d_X_readUnbraced_58 rfl (lv_at hl 0 rfl) ?_
    refine lv_iload_n hx hb d_X_readUnbraced_59 rfl (lv_at hl 2 rfl) ?_
    obtain ⟨r_60, h_60, h⟩ := bindS h
    refine call_vi (wr := [(h_this_word, .inr (0, [.ref h_this_word_bytes, .int size_word])), (h_this_word_bytes, .inl (cA, 1024, .inl a_word_bytes))]) (w1 := [(h_this, .inr (1, [.ref h_this_tape, .ref h_this_list, .ref h_this_item, .ref h_this_word, .ref h_this_written, .int place_this])), (h_this_list, .inr (0, [.ref h_this_list_bytes, .int size_list])), (h_this_list_bytes, .inl (cA, 1024, .inl a_list_bytes))]) (wN := [(h_this, .inr (1, [.ref h_this_tape, .ref h_this_list, .ref h_this_item, .ref h_this_word, .ref h_this_written, .int place_this])), (h_this_list, .inr (0, [.ref h_this_list_bytes, .int size_list])), (h_this_list_bytes, .inl (cA, 1024, .inl a_list_bytes)), (h_this_word, .inr (0, [.ref h_this_word_bytes, .int size_word])), (h_this_word_bytes, .inl (cA, 1024, .inl a_word_bytes))]) (rest := [.ref h_this_word]) C0 hK hP hD hS hA hZ (c_X_meaningOfBackslash l D cA zz N h_this h_this_tape h_this_list h_this_list_bytes h_this_item h_this_word h_this_written place_this size_list a_list_bytes x3 r_60 h_60) [0, 1, 2] [3, 4] [2, 3, 4, 0, 1] rfl rfl rfl rfl (by decide) rfl rfl 0 1 rfl rfl m_X_81 ⟨Nat.le_of_ble_eq_true rfl, Nat.le_of_ble_eq_true rfl⟩ ⟨rfl, rfl⟩ rfl hl.1 rfl (Nat.le_of_ble_eq_true rfl) ⟨Nat.le_of_ble_eq_true rfl, Nat.le_of_ble_eq_true rfl⟩ d_X_readUnbraced_60 (fun b_60 H locs hP hD hS => ?_)
    refine lv_goto (tgt := 68) hx hb d_X_readUnbraced_63 (by decide) ?_
    exact t_X_readUnbraced_68 C0 hK hA hZ N h_this h_this_tape h_this_list h_this_list_bytes h_this_item h_this_word h_this_word_bytes h_this_written place_this size_list a_list_bytes res k_2 hk_2 _ _ _ _ _ h H locs hP hD hS ls (lv_sub hl [0, 1, 2] rfl)
set_option maxHeartbeats 4000000 in
set_option maxRecDepth 100000 in
theorem t_X_readUnbraced_2 {p : Program} {l : Launch} {e : Env} {s : State} {m : MethodId} {args : Array Value} {below : List Frame} {meth : Method} {c : Code} {D : va_G} {cA : ClassId} {zz : zT} {A : Nat → Prop} (C0 : Cx p s m args meth c b_X_readUnbraced R_X 5 (some .int)) (hK : va_K D classes [(cA, .int)] s) (hA : ∀ q : Nat, s.heap.size ≤ q → A q) (hZ : ZS zz A s s.heap) (N : Nat) (h_this : Nat) (h_this_tape : Nat) (h_this_list : Nat) (h_this_list_bytes : Nat) (h_this_item : Nat) (h_this_word : Nat) (h_this_word_bytes : Nat) (h_this_written : Nat) (place_this : Int32) (size_list : Int32) (a_list_bytes : Nat → Int32) (res : Int32 × Int32 × (Nat → Int32)) :
    ∀ (n : Nat), ∀ (size_word : Int32) (a_word_bytes : Nat → Int32) (x2 : Int32) (x3 : Int32), p_X_readUnbraced_2 N size_list a_list_bytes n size_word a_word_bytes x2 x3 = some res → ∀ (H : Heap) (locs : List Loc), va_P D classes [(h_this, .inr (1, [.ref h_this_tape, .ref h_this_list, .ref h_this_item, .ref h_this_word, .ref h_this_written, .int place_this])), (h_this_list, .inr (0, [.ref h_this_list_bytes, .int size_list])), (h_this_list_bytes, .inl (cA, 1024, .inl a_list_bytes)), (h_this_word, .inr (0, [.ref h_this_word_bytes, .int size_word])), (h_this_word_bytes, .inl (cA, 1024, .inl a_word_bytes))] H → va_D A [(h_this, .inr (1, [.ref h_this_tape, .ref h_this_list, .ref h_this_item, .ref h_this_word, .ref h_this_written, .int place_this])), (h_this_list, .inr (0, [.ref h_this_list_bytes, .int size_list])), (h_this_list_bytes, .inl (cA, 1024, .inl a_list_bytes)), (h_this_word, .inr (0, [.ref h_this_word_bytes, .int size_word])), (h_this_word_bytes, .inl (cA, 1024, .inl a_word_bytes))] → va_S A s.heap H locs → ∀ (ls : Array Slot), lv_has ls 5 [(0, .ref h_this), (2, .int x2), (3, .int x3)] → W p l e rm_X_readUnbraced s m args below meth c H locs 0 0 (QI .int below args s D cA A (res.1) [(h_this, .inr (1, [.ref h_this_tape, .ref h_this_list, .ref h_this_item, .ref h_this_word, .ref h_this_written, .int place_this])), (h_this_list, .inr (0, [.ref h_this_list_bytes, .int size_list])), (h_this_list_bytes, .inl (cA, 1024, .inl a_list_bytes)), (h_this_word, .inr (0, [.ref h_this_word_bytes, .int res.2.1])), (h_this_word_bytes, .inl (cA, 1024, .inl res.2.2))]) (F0 m 2 ls []) := by
  obtain ⟨hx, hb, hr, hml, hown, hG, hlk⟩ := id C0
  intro n
  induction n with
  | zero =>
    intro size_word a_word_bytes x2 x3 h H locs hP hD hS ls hl
    exact absurd h (by simp [p_X_readUnbraced_2])
  | succ n ih =>
    intro size_word a_word_bytes x2 x3 h H locs hP hD hS ls hl
    rw [p_X_readUnbraced_2] at h
    refine lv_iload_n hx hb d_X_readUnbraced_2 rfl (lv_at hl 2 rfl) ?_
    refine lv_aload_n hx hb d_X_readUnbraced_3 rfl (lv_at hl 0 rfl) ?_
    refine va_get (D := D) (ci := 1) (v := .ref h_this_list) (C := R_X) (T := F_X) (N := 6) hx hb hG i_X hown hK hP 0 rfl rfl 1 (by decide) (hG _ f_X_16) (fun _ h9 => h9) rfl d_X_readUnbraced_4 ?_
    obtain ⟨r_7, h_7, h⟩ := bindS h
    refine call_vi (wr := [(h_this, .inr (1, [.ref h_this_tape, .ref h_this_list, .ref h_this_item, .ref h_this_word, .ref h_this_written, .int place_this])), (h_this_list_bytes, .inl (cA, 1024, .inl a_list_bytes)), (h_this_word, .inr (0, [.ref h_this_word_bytes, .int size_word])), (h_this_word_bytes, .inl (cA, 1024, .inl a_word_bytes))]) (w1 := [(h_this_list, .inr (0, [.ref h_this_list_bytes, .int size_list]))]) (wN := [(h_this, .inr (1, [.ref h_this_tape, .ref h_this_list, .ref h_this_item, .ref h_this_word, .ref h_this_written, .int place_this])), (h_this_list, .inr (0, [.ref h_this_list_bytes, .int size_list])), (h_this_list_bytes, .inl (cA, 1024, .inl a_list_bytes)), (h_this_word, .inr (0, [.ref h_this_word_bytes, .int size_word])), (h_this_word_bytes, .inl (cA, 1024, .inl a_word_bytes))]) (rest := [.int x3]) C0 hK hP hD hS hA hZ (c_R_size l D cA zz N h_this_list h_this_list_bytes size_list r_7 h_7) [1] [0, 2, 3, 4] [0, 4, 1, 2, 3] rfl rfl rfl rfl (by decide) rfl rfl 0 0 rfl rfl m_X_32 ⟨Nat.le_of_ble_eq_true rfl, Nat.le_of_ble_eq_true rfl⟩ ⟨rfl, rfl⟩ rfl hl.1 rfl (Nat.le_of_ble_eq_true rfl) ⟨Nat.le_of_ble_eq_true rfl, Nat.le_of_ble_eq_true rfl⟩ d_X_readUnbraced_7 (fun b_7 H locs hP hD hS => ?_)
    refine lv_icmp_ge (tgt := 86) hx hb d_X_readUnbraced_10 (by decide) (fun c_10 => ?_) (fun c_10 => ?_)
    · have h := iteP c_10 h
      refine lv_iload_n hx hb d_X_readUnbraced_86 rfl (lv_at hl 1 rfl) ?_
      refine lv_if_eq (tgt := 95) hx hb d_X_readUnbraced_87 (by decide) (fun c_87 => ?_) (fun c_87 => ?_)
      · have h := iteP c_87 h
        refine lv_aload_n hx hb d_X_readUnbraced_95 rfl (lv_at hl 0 rfl) ?_
        refine va_get (D := D) (ci := 1) (v := .ref h_this_list) (C := R_X) (T := F_X) (N := 6) hx hb hG i_X hown hK hP 0 rfl rfl 1 (by decide) (hG _ f_X_16) (fun _ h9 => h9) rfl d_X_readUnbraced_96 ?_
        obtain ⟨r_99, h_99, h⟩ := bindS h
        refine call_vi (wr := [(h_this, .inr (1, [.ref h_this_tape, .ref h_this_list, .ref h_this_item, .ref h_this_word, .ref h_this_written, .int place_this])), (h_this_list_bytes, .inl (cA, 1024, .inl a_list_bytes)), (h_this_word, .inr (0, [.ref h_this_word_bytes, .int size_word])), (h_this_word_bytes, .inl (cA, 1024, .inl a_word_bytes))]) (w1 := [(h_this_list, .inr (0, [.ref h_this_list_bytes, .int size_list]))]) (wN := [(h_this, .inr (1, [.ref h_this_tape, .ref h_this_list, .ref h_this_item, .ref h_this_word, .ref h_this_written, .int place_this])), (h_this_list, .inr (0, [.ref h_this_list_bytes, .int size_list])), (h_this_list_bytes, .inl (cA, 1024, .inl a_list_bytes)), (h_this_word, .inr (0, [.ref h_this_word_bytes, .int size_word])), (h_this_word_bytes, .inl (cA, 1024, .inl a_word_bytes))]) (rest := []) C0 hK hP hD hS hA hZ (c_R_size l D cA zz N h_this_list h_this_list_bytes size_list r_99 h_99) [1] [0, 2, 3, 4] [0, 4, 1, 2, 3] rfl rfl rfl rfl (by decide) rfl rfl 0 0 rfl rfl m_X_32 ⟨Nat.le_of_ble_eq_true rfl, Nat.le_of_ble_eq_true rfl⟩ ⟨rfl, rfl⟩ rfl hl.1 rfl (Nat.le_of_ble_eq_true rfl) ⟨Nat.le_of_ble_eq_true rfl, Nat.le_of_ble_eq_true rfl⟩ d_X_readUnbraced_99 (fun b_99 H locs hP hD hS => ?_)
        obtain rfl := Option.some.inj h
        exact rI (v := r_99) C0 (vp_nar_int _) hK hP hD hS d_X_readUnbraced_102
      · have h := iteN c_87 h
        refine lv_bipush (v := (-2 : Int32)) hx hb d_X_readUnbraced_90 (by decide) ?_
        refine lv_goto (tgt := 102) hx hb d_X_readUnbraced_92 (by decide) ?_
        obtain rfl := Option.some.inj h
        exact rI (v := (-2 : Int32)) C0 (vp_nar_int _) hK hP hD hS d_X_readUnbraced_102
    · have h := iteN c_10 h
      refine lv_aload_n hx hb d_X_readUnbraced_13 rfl (lv_at hl 0 rfl) ?_
      refine va_get (D := D) (ci := 1) (v := .ref h_this_list) (C := R_X) (T := F_X) (N := 6) hx hb hG i_X hown hK hP 0 rfl rfl 1 (by decide) (hG _ f_X_16) (fun _ h9 => h9) rfl d_X_readUnbraced_14 ?_
      refine lv_iload_n hx hb d_X_readUnbraced_17 rfl (lv_at hl 2 rfl) ?_
      obtain ⟨r_18, h_18, h⟩ := bindS h
      refine call_vi (wr := [(h_this, .inr (1, [.ref h_this_tape, .ref h_this_list, .ref h_this_item, .ref h_this_word, .ref h_this_written, .int place_this])), (h_this_word, .inr (0, [.ref h_this_word_bytes, .int size_word])), (h_this_word_bytes, .inl (cA, 1024, .inl a_word_bytes))]) (w1 := [(h_this_list, .inr (0, [.ref h_this_list_bytes, .int size_list])), (h_this_list_bytes, .inl (cA, 1024, .inl a_list_bytes))]) (wN := [(h_this, .inr (1, [.ref h_this_tape, .ref h_this_list, .ref h_this_item, .ref h_this_word, .ref h_this_written, .int place_this])), (h_this_list, .inr (0, [.ref h_this_list_bytes, .int size_list])), (h_this_list_bytes, .inl (cA, 1024, .inl a_list_bytes)), (h_this_word, .inr (0, [.ref h_this_word_bytes, .int size_word])), (h_this_word_bytes, .inl (cA, 1024, .inl a_word_bytes))]) (rest := []) C0 hK hP hD hS hA hZ (c_R_byteAt l D cA zz N h_this_list h_this_list_bytes size_list a_list_bytes x3 r_18 h_18) [1, 2] [0, 3, 4] [0, 3, 4, 1, 2] rfl rfl rfl rfl (by decide) rfl rfl 0 0 rfl rfl m_X_58 ⟨Nat.le_of_ble_eq_true rfl, Nat.le_of_ble_eq_true rfl⟩ ⟨rfl, rfl⟩ rfl hl.1 rfl (Nat.le_of_ble_eq_true rfl) ⟨Nat.le_of_ble_eq_true rfl, Nat.le_of_ble_eq_true rfl⟩ d_X_readUnbraced_18 (fun b_18 H locs hP hD hS => ?_)
      refine lv_istore (lv' := [(4, .int r_18), (0, .ref h_this), (2, .int x2), (3, .int x3)]) hx hb d_X_readUnbraced_21 hl (by decide) rfl (fun ls hl => ?_)
      refine lv_iload_n hx hb d_X_readUnbraced_23 rfl (lv_at hl 2 rfl) ?_
      refine lv_if_eq (tgt := 37) hx hb d_X_readUnbraced_24 (by decide) (fun c_24 => ?_) (fun c_24 => ?_)
      · have h := iteP c_24 h
        refine lv_iload hx hb d_X_readUnbraced_37 (lv_at hl 0 rfl) ?_
        obtain ⟨r_39, h_39, h⟩ := bindS h
        refine call_si (wr := [(h_this, .inr (1, [.ref h_this_tape, .ref h_this_list, .ref h_this_item, .ref h_this_word, .ref h_this_written, .int place_this])), (h_this_list, .inr (0, [.ref h_this_list_bytes, .int size_list])), (h_this_list_bytes, .inl (cA, 1024, .inl a_list_bytes)), (h_this_word, .inr (0, [.ref h_this_word_bytes, .int size_word])), (h_this_word_bytes, .inl (cA, 1024, .inl a_word_bytes))]) (w1 := []) (wN := [(h_this, .inr (1, [.ref h_this_tape, .ref h_this_list, .ref h_this_item, .ref h_this_word, .ref h_this_written, .int place_this])), (h_this_list, .inr (0, [.ref h_this_list_bytes, .int size_list])), (h_this_list_bytes, .inl (cA, 1024, .inl a_list_bytes)), (h_this_word, .inr (0, [.ref h_this_word_bytes, .int size_word])), (h_this_word_bytes, .inl (cA, 1024, .inl a_word_bytes))]) (rest := []) C0 hK hP hD hS hA hZ (c_X_isSpace l D cA zz N r_18 r_39 h_39) [] [0, 1, 2, 3, 4] [0, 1, 2, 3, 4] rfl rfl rfl rfl (by decide) rfl rfl m_X_75 ⟨Nat.le_of_ble_eq_true rfl, Nat.le_of_ble_eq_true rfl⟩ ⟨rfl, rfl⟩ rfl hl.1 rfl (Nat.le_of_ble_eq_true rfl) ⟨Nat.le_of_ble_eq_true rfl, Nat.le_of_ble_eq_true rfl⟩ d_X_readUnbraced_39 (fun b_39 H locs hP hD hS => ?_)
        refine lv_if_eq (tgt := 47) hx hb d_X_readUnbraced_42 (by decide) (fun c_42 => ?_) (fun c_42 => ?_)
        · have h := iteP c_42 h
          exact t_X_readUnbraced_47 C0 hK hA hZ N h_this h_this_tape h_this_list h_this_list_bytes h_this_item h_this_word h_this_word_bytes h_this_written place_this size_list a_list_bytes res (p_X_readUnbraced_2 N size_list a_list_bytes n) ih _ _ _ _ _ h H locs hP hD hS ls (lv_sub hl [1, 2, 3, 0] rfl)
        · have h := iteN c_42 h
          refine lv_iload_n hx hb d_X_readUnbraced_45 rfl (lv_at hl 3 rfl) ?_
          obtain rfl := Option.some.inj h
          exact rI (v := x3) C0 (vp_nar_int _) hK hP hD hS d_X_readUnbraced_46
      · have h := iteN c_24 h
        refine lv_iload hx hb d_X_readUnbraced_27 (lv_at hl 0 rfl) ?_
        refine lv_bipush (v := (34 : Int32)) hx hb d_X_readUnbraced_29 (by decide) ?_
        refine lv_icmp_ne (tgt := 47) hx hb d_X_readUnbraced_31 (by decide) (fun c_31 => ?_) (fun c_31 => ?_)
        · have h := iteN c_31 h
          exact t_X_readUnbraced_47 C0 hK hA hZ N h_this h_this_tape h_this_list h_this_list_bytes h_this_item h_this_word h_this_word_bytes h_this_written place_this size_list a_list_bytes res (p_X_readUnbraced_2 N size_list a_list_bytes n) ih _ _ _ _ _ h H locs hP hD hS ls (lv_sub hl [1, 2, 3, 0] rfl)
        · have h := iteP c_31 h
          refine lv_goto (tgt := 45) hx hb d_X_readUnbraced_34 (by decide) ?_
          refine lv_iload_n hx hb d_X_readUnbraced_45 rfl (lv_at hl 3 rfl) ?_
          obtain rfl := Option.some.inj h
          exact rI (v := x3) C0 (vp_nar_int _) hK hP hD hS d_X_readUnbraced_46
set_option maxHeartbeats 4000000 in
set_option maxRecDepth 100000 in
theorem t_X_readUnbraced_0 {p : Program} {l : Launch} {e : Env} {s : State} {m : MethodId} {args : Array Value} {below : List Frame} {meth : Method} {c : Code} {D : va_G} {cA : ClassId} {zz : zT} {A : Nat → Prop} (C0 : Cx p s m args meth c b_X_readUnbraced R_X 5 (some .int)) (hK : va_K D classes [(cA, .int)] s) (hA : ∀ q : Nat, s.heap.size ≤ q → A q) (hZ : ZS zz A s s.heap) (N : Nat) (h_this : Nat) (h_this_tape : Nat) (h_this_list : Nat) (h_this_list_bytes : Nat) (h_this_item : Nat) (h_this_word : Nat) (h_this_word_bytes : Nat) (h_this_written : Nat) (place_this : Int32) (size_list : Int32) (a_list_bytes : Nat → Int32) (res : Int32 × Int32 × (Nat → Int32)) :
    ∀ (size_word : Int32) (a_word_bytes : Nat → Int32) (x1 : Int32) (x2 : Int32), p_X_readUnbraced_0 N size_list a_list_bytes size_word a_word_bytes x1 x2 = some res → ∀ (H : Heap) (locs : List Loc), va_P D classes [(h_this, .inr (1, [.ref h_this_tape, .ref h_this_list, .ref h_this_item, .ref h_this_word, .ref h_this_written, .int place_this])), (h_this_list, .inr (0, [.ref h_this_list_bytes, .int size_list])), (h_this_list_bytes, .inl (cA, 1024, .inl a_list_bytes)), (h_this_word, .inr (0, [.ref h_this_word_bytes, .int size_word])), (h_this_word_bytes, .inl (cA, 1024, .inl a_word_bytes))] H → va_D A [(h_this, .inr (1, [.ref h_this_tape, .ref h_this_list, .ref h_this_item, .ref h_this_word, .ref h_this_written, .int place_this])), (h_this_list, .inr (0, [.ref h_this_list_bytes, .int size_list])), (h_this_list_bytes, .inl (cA, 1024, .inl a_list_bytes)), (h_this_word, .inr (0, [.ref h_this_word_bytes, .int size_word])), (h_this_word_bytes, .inl (cA, 1024, .inl a_word_bytes))] → va_S A s.heap H locs → ∀ (ls : Array Slot), lv_has ls 5 [(0, .ref h_this), (1, .int x1), (2, .int x2)] → W p l e rm_X_readUnbraced s m args below meth c H locs 0 0 (QI .int below args s D cA A (res.1) [(h_this, .inr (1, [.ref h_this_tape, .ref h_this_list, .ref h_this_item, .ref h_this_word, .ref h_this_written, .int place_this])), (h_this_list, .inr (0, [.ref h_this_list_bytes, .int size_list])), (h_this_list_bytes, .inl (cA, 1024, .inl a_list_bytes)), (h_this_word, .inr (0, [.ref h_this_word_bytes, .int res.2.1])), (h_this_word_bytes, .inl (cA, 1024, .inl res.2.2))]) (F0 m 0 ls []) := by
  obtain ⟨hx, hb, hr, hml, hown, hG, hlk⟩ := id C0
  intro size_word a_word_bytes x1 x2 h H locs hP hD hS ls hl
  unfold p_X_readUnbraced_0 at h
  refine lv_iload_n hx hb d_X_readUnbraced_0 rfl (lv_at hl 1 rfl) ?_
  refine lv_istore_n (lv' := [(3, .int x1), (0, .ref h_this), (1, .int x1), (2, .int x2)]) hx hb d_X_readUnbraced_1 rfl hl (by decide) rfl (fun ls hl => ?_)
  exact t_X_readUnbraced_2 C0 hK hA hZ N h_this h_this_tape h_this_list h_this_list_bytes h_this_item h_this_word h_this_word_bytes h_this_written place_this size_list a_list_bytes res N _ _ _ _ h H locs hP hD hS ls (lv_sub hl [1, 3, 0] rfl)
theorem c_X_readUnbraced (l : Launch) (D : va_G) (cA : ClassId) (zz : zT) (N : Nat) (h_this : Nat) (h_this_tape : Nat) (h_this_list : Nat) (h_this_list_bytes : Nat) (h_this_item : Nat) (h_this_word : Nat) (h_this_word_bytes : Nat) (h_this_written : Nat) (place_this : Int32) (size_list : Int32) (a_list_bytes : Nat → Int32) (size_word : Int32) (a_word_bytes : Nat → Int32) (x1 : Int32) (x2 : Int32) (res : Int32 × Int32 × (Nat → Int32)) (h : p_X_readUnbraced N size_list a_list_bytes size_word a_word_bytes x1 x2 = some res) : MI l D cA zz y_X_readUnbraced b_X_readUnbraced 5 .int rm_X_readUnbraced [.ref h_this, .int x1, .int x2] [(h_this, .inr (1, [.ref h_this_tape, .ref h_this_list, .ref h_this_item, .ref h_this_word, .ref h_this_written, .int place_this])), (h_this_list, .inr (0, [.ref h_this_list_bytes, .int size_list])), (h_this_list_bytes, .inl (cA, 1024, .inl a_list_bytes)), (h_this_word, .inr (0, [.ref h_this_word_bytes, .int size_word])), (h_this_word_bytes, .inl (cA, 1024, .inl a_word_bytes))] (res.1) [(h_this, .inr (1, [.ref h_this_tape, .ref h_this_list, .ref h_this_item, .ref h_this_word, .ref h_this_written, .int place_this])), (h_this_list, .inr (0, [.ref h_this_list_bytes, .int size_list])), (h_this_list_bytes, .inl (cA, 1024, .inl a_list_bytes)), (h_this_word, .inr (0, [.ref h_this_word_bytes, .int res.2.1])), (h_this_word_bytes, .inl (cA, 1024, .inl res.2.2))] := by
  unfold p_X_readUnbraced at h
  exact MI_enter (by decide) (Nat.le_of_ble_eq_true rfl) (fun p e s m below meth c A ls C0 hK hA hZ hP hD hl => t_X_readUnbraced_0 C0 hK hA hZ N h_this h_this_tape h_this_list h_this_list_bytes h_this_item h_this_word h_this_word_bytes h_this_written place_this size_list a_list_bytes res _ _ _ _ h s.heap [] hP hD va_S.rf ls hl)
-- ListWords.nextElement()I
set_option maxHeartbeats 4000000 in
set_option maxRecDepth 100000 in
theorem t_X_nextElement_84 {p : Program} {l : Launch} {e : Env} {s : State} {m : MethodId} {args : Array Value} {below : List Frame} {meth : Method} {c : Code} {D : va_G} {cA : ClassId} {zz : zT} {A : Nat → Prop} (C0 : Cx p s m args meth c b_X_nextElement R_X 4 (some .int)) (hK : va_K D classes [(cA, .int)] s) (hA : ∀ q : Nat, s.heap.size ≤ q → A q) (hZ : ZS zz A s s.heap) (N : Nat) (h_this : Nat) (h_this_tape : Nat) (h_this_list : Nat) (h_this_list_bytes : Nat) (h_this_item : Nat) (h_this_word : Nat) (h_this_word_bytes : Nat) (h_this_written : Nat) (size_list : Int32) (a_list_bytes : Nat → Int32) (res : Int32 × Int32 × Int32 × (Nat → Int32)) :
    ∀ (place_this : Int32) (size_word : Int32) (a_word_bytes : Nat → Int32) (x3 : Int32), p_X_nextElement_84 N size_list a_list_bytes place_this size_word a_word_bytes x3 = some res → ∀ (H : Heap) (locs : List Loc), va_P D classes [(h_this, .inr (1, [.ref h_this_tape, .ref h_this_list, .ref h_this_item, .ref h_this_word, .ref h_this_written, .int place_this])), (h_this_list, .inr (0, [.ref h_this_list_bytes, .int size_list])), (h_this_list_bytes, .inl (cA, 1024, .inl a_list_bytes)), (h_this_word, .inr (0, [.ref h_this_word_bytes, .int size_word])), (h_this_word_bytes, .inl (cA, 1024, .inl a_word_bytes))] H → va_D A [(h_this, .inr (1, [.ref h_this_tape, .ref h_this_list, .ref h_this_item, .ref h_this_word, .ref h_this_written, .int place_this])), (h_this_list, .inr (0, [.ref h_this_list_bytes, .int size_list])), (h_this_list_bytes, .inl (cA, 1024, .inl a_list_bytes)), (h_this_word, .inr (0, [.ref h_this_word_bytes, .int size_word])), (h_this_word_bytes, .inl (cA, 1024, .inl a_word_bytes))] → va_S A s.heap H locs → ∀ (ls : Array Slot), lv_has ls 4 [(0, .ref h_this), (3, .int x3)] → W p l e rm_X_nextElement s m args below meth c H locs 0 0 (QI .int below args s D cA A (res.1) [(h_this, .inr (1, [.ref h_this_tape, .ref h_this_list, .ref h_this_item, .ref h_this_word, .ref h_this_written, .int res.2.1])), (h_this_list, .inr (0, [.ref h_this_list_bytes, .int size_list])), (h_this_list_bytes, .inl (cA, 1024, .inl a_list_bytes)), (h_this_word, .inr (0, [.ref h_this_word_bytes, .int res.2.2.1])), (h_this_word_bytes, .inl (cA, 1024, .inl res.2.2.2))]) (F0 m 84 ls []) := by
  obtain ⟨hx, hb, hr, hml, hown, hG, hlk⟩ := id C0
  intro place_this size_word a_word_bytes x3 h H locs hP hD hS ls hl
  unfold p_X_nextElement_84 at h
  refine lv_iload_n hx hb d_X_nextElement_84 rfl (lv_at hl 1 rfl) ?_
  refine lv_bipush (v := (-2 : Int32)) hx hb d_X_nextElement_85 (by decide) ?_
  refine lv_icmp_ne (tgt := 93) hx hb d_X_nextElement_87 (by decide) (fun c_87 => ?_) (fun c_87 => ?_)
  · have h := iteN c_87 h
    refine lv_aload_n hx hb d_X_nextElement_93 rfl (lv_at hl 0 rfl) ?_
    refine lv_iload_n hx hb d_X_nextElement_94 rfl (lv_at hl 1 rfl) ?_
    refine va_put (D := D) (ci := 1) (v := .int x3) (ty := .int) (C := R_X) (T := F_X) (N := 6) hx hb hG i_X t_X t_X_ok n_X hown hK hP hD hS 0 rfl rfl 5 (by decide) (hG _ f_X_28) (fun _ h9 => h9) rfl (by decide +kernel) rfl rfl (Nat.le_of_ble_eq_true rfl) d_X_nextElement_95 (fun H locs hP hD hS => ?_)
    have hP : va_P D classes [(h_this, .inr (1, [.ref h_this_tape, .ref h_this_list, .ref h_this_item, .ref h_this_word, .ref h_this_written, .int x3])), (h_this_list, .inr (0, [.ref h_this_list_bytes, .int size_list])), (h_this_list_bytes, .inl (cA, 1024, .inl a_list_bytes)), (h_this_word, .inr (0, [.ref h_this_word_bytes, .int size_word])), (h_this_word_bytes, .inl (cA, 1024, .inl a_word_bytes))] H := hP
    have hD : va_D A [(h_this, .inr (1, [.ref h_this_tape, .ref h_this_list, .ref h_this_item, .ref h_this_word, .ref h_this_written, .int x3])), (h_this_list, .inr (0, [.ref h_this_list_bytes, .int size_list])), (h_this_list_bytes, .inl (cA, 1024, .inl a_list_bytes)), (h_this_word, .inr (0, [.ref h_this_word_bytes, .int size_word])), (h_this_word_bytes, .inl (cA, 1024, .inl a_word_bytes))] := hD
    refine lv_aload_n hx hb d_X_nextElement_98 rfl (lv_at hl 0 rfl) ?_
    refine va_get (D := D) (ci := 1) (v := .ref h_this_word) (C := R_X) (T := F_X) (N := 6) hx hb hG i_X hown hK hP 0 rfl rfl 3 (by decide) (hG _ f_X_22) (fun _ h9 => h9) rfl d_X_nextElement_99 ?_
    obtain ⟨r_102, h_102, h⟩ := bindS h
    refine call_vi (wr := [(h_this, .inr (1, [.ref h_this_tape, .ref h_this_list, .ref h_this_item, .ref h_this_word, .ref h_this_written, .int x3])), (h_this_list, .inr (0, [.ref h_this_list_bytes, .int size_list])), (h_this_list_bytes, .inl (cA, 1024, .inl a_list_bytes)), (h_this_word_bytes, .inl (cA, 1024, .inl a_word_bytes))]) (w1 := [(h_this_word, .inr (0, [.ref h_this_word_bytes, .int size_word]))]) (wN := [(h_this, .inr (1, [.ref h_this_tape, .ref h_this_list, .ref h_this_item, .ref h_this_word, .ref h_this_written, .int x3])), (h_this_list, .inr (0, [.ref h_this_list_bytes, .int size_list])), (h_this_list_bytes, .inl (cA, 1024, .inl a_list_bytes)), (h_this_word, .inr (0, [.ref h_this_word_bytes, .int size_word])), (h_this_word_bytes, .inl (cA, 1024, .inl a_word_bytes))]) (rest := []) C0 hK hP hD hS hA hZ (c_R_size l D cA zz N h_this_word h_this_word_bytes size_word r_102 h_102) [3] [0, 1, 2, 4] [0, 1, 2, 4, 3] rfl rfl rfl rfl (by decide) rfl rfl 0 0 rfl rfl m_X_32 ⟨Nat.le_of_ble_eq_true rfl, Nat.le_of_ble_eq_true rfl⟩ ⟨rfl, rfl⟩ rfl hl.1 rfl (Nat.le_of_ble_eq_true rfl) ⟨Nat.le_of_ble_eq_true rfl, Nat.le_of_ble_eq_true rfl⟩ d_X_nextElement_102 (fun b_102 H locs hP hD hS => ?_)
    obtain rfl := Option.some.inj h
    exact rI (v := r_102) C0 (vp_nar_int _) hK hP hD hS d_X_nextElement_105
  · have h := iteP c_87 h
    refine lv_bipush (v := (-2 : Int32)) hx hb d_X_nextElement_90 (by decide) ?_
    obtain rfl := Option.some.inj h
    exact rI (v := (-2 : Int32)) C0 (vp_nar_int _) hK hP hD hS d_X_nextElement_92
set_option maxHeartbeats 4000000 in
set_option maxRecDepth 100000 in
theorem t_X_nextElement_0 {p : Program} {l : Launch} {e : Env} {s : State} {m : MethodId} {args : Array Value} {below : List Frame} {meth : Method} {c : Code} {D : va_G} {cA : ClassId} {zz : zT} {A : Nat → Prop} (C0 : Cx p s m args meth c b_X_nextElement R_X 4 (some .int)) (hK : va_K D classes [(cA, .int)] s) (hA : ∀ q : Nat, s.heap.size ≤ q → A q) (hZ : ZS zz A s s.heap) (N : Nat) (h_this : Nat) (h_this_tape : Nat) (h_this_list : Nat) (h_this_list_bytes : Nat) (h_this_item : Nat) (h_this_word : Nat) (h_this_word_bytes : Nat) (h_this_written : Nat) (size_list : Int32) (a_list_bytes : Nat → Int32) (res : Int32 × Int32 × Int32 × (Nat → Int32)) :
    ∀ (place_this : Int32) (size_word : Int32) (a_word_bytes : Nat → Int32), p_X_nextElement_0 N size_list a_list_bytes place_this size_word a_word_bytes = some res → ∀ (H : Heap) (locs : List Loc), va_P D classes [(h_this, .inr (1, [.ref h_this_tape, .ref h_this_list, .ref h_this_item, .ref h_this_word, .ref h_this_written, .int place_this])), (h_this_list, .inr (0, [.ref h_this_list_bytes, .int size_list])), (h_this_list_bytes, .inl (cA, 1024, .inl a_list_bytes)), (h_this_word, .inr (0, [.ref h_this_word_bytes, .int size_word])), (h_this_word_bytes, .inl (cA, 1024, .inl a_word_bytes))] H → va_D A [(h_this, .inr (1, [.ref h_this_tape, .ref h_this_list, .ref h_this_item, .ref h_this_word, .ref h_this_written, .int place_this])), (h_this_list, .inr (0, [.ref h_this_list_bytes, .int size_list])), (h_this_list_bytes, .inl (cA, 1024, .inl a_list_bytes)), (h_this_word, .inr (0, [.ref h_this_word_bytes, .int size_word])), (h_this_word_bytes, .inl (cA, 1024, .inl a_word_bytes))] → va_S A s.heap H locs → ∀ (ls : Array Slot), lv_has ls 4 [(0, .ref h_this)] → W p l e rm_X_nextElement s m args below meth c H locs 0 0 (QI .int below args s D cA A (res.1) [(h_this, .inr (1, [.ref h_this_tape, .ref h_this_list, .ref h_this_item, .ref h_this_word, .ref h_this_written, .int res.2.1])), (h_this_list, .inr (0, [.ref h_this_list_bytes, .int size_list])), (h_this_list_bytes, .inl (cA, 1024, .inl a_list_bytes)), (h_this_word, .inr (0, [.ref h_this_word_bytes, .int res.2.2.1])), (h_this_word_bytes, .inl (cA, 1024, .inl res.2.2.2))]) (F0 m 0 ls []) := by
  obtain ⟨hx, hb, hr, hml, hown, hG, hlk⟩ := id C0
  intro place_this size_word a_word_bytes h H locs hP hD hS ls hl
  unfold p_X_nextElement_0 at h
  refine lv_aload_n hx hb d_X_nextElement_0 rfl (lv_at hl 0 rfl) ?_
  refine lv_aload_n hx hb d_X_nextElement_1 rfl (lv_at hl 0 rfl) ?_
  refine va_get (D := D) (ci := 1) (v := .int place_this) (C := R_X) (T := F_X) (N := 6) hx hb hG i_X hown hK hP 0 rfl rfl 5 (by decide) (hG _ f_X_28) (fun _ h9 => h9) rfl d_X_nextElement_2 ?_
  obtain ⟨r_5, h_5, h⟩ := bindS h
  refine call_vi (wr := [(h_this_word, .inr (0, [.ref h_this_word_bytes, .int size_word])), (h_this_word_bytes, .inl (cA, 1024, .inl a_word_bytes))]) (w1 := [(h_this, .inr (1, [.ref h_this_tape, .ref h_this_list, .ref h_this_item, .ref h_this_word, .ref h_this_written, .int place_this])), (h_this_list, .inr (0, [.ref h_this_list_bytes, .int size_list])), (h_this_list_bytes, .inl (cA, 1024, .inl a_list_bytes))]) (wN := [(h_this, .inr (1, [.ref h_this_tape, .ref h_this_list, .ref h_this_item, .ref h_this_word, .ref h_this_written, .int place_this])), (h_this_list, .inr (0, [.ref h_this_list_bytes, .int size_list])), (h_this_list_bytes, .inl (cA, 1024, .inl a_list_bytes)), (h_this_word, .inr (0, [.ref h_this_word_bytes, .int size_word])), (h_this_word_bytes, .inl (cA, 1024, .inl a_word_bytes))]) (rest := []) C0 hK hP hD hS hA hZ (c_X_behindSpaces l D cA zz N h_this h_this_tape h_this_list h_this_list_bytes h_this_item h_this_word h_this_written place_this size_list a_list_bytes place_this r_5 h_5) [0, 1, 2] [3, 4] [2, 3, 4, 0, 1] rfl rfl rfl rfl (by decide) rfl rfl 0 1 rfl rfl m_X_62 ⟨Nat.le_of_ble_eq_true rfl, Nat.le_of_ble_eq_true rfl⟩ ⟨rfl, rfl⟩ rfl hl.1 rfl (Nat.le_of_ble_eq_true rfl) ⟨Nat.le_of_ble_eq_true rfl, Nat.le_of_ble_eq_true rfl⟩ d_X_nextElement_5 (fun b_5 H locs hP hD hS => ?_)
  refine lv_istore_n (lv' := [(1, .int r_5), (0, .ref h_this)]) hx hb d_X_nextElement_8 rfl hl (by decide) rfl (fun ls hl => ?_)
  refine lv_aload_n hx hb d_X_nextElement_9 rfl (lv_at hl 1 rfl) ?_
  refine va_get (D := D) (ci := 1) (v := .ref h_this_list) (C := R_X) (T := F_X) (N := 6) hx hb hG i_X hown hK hP 0 rfl rfl 1 (by decide) (hG _ f_X_16) (fun _ h9 => h9) rfl d_X_nextElement_10 ?_
  refine lv_iload_n hx hb d_X_nextElement_13 rfl (lv_at hl 0 rfl) ?_
  obtain ⟨r_14, h_14, h⟩ := bindS h
  refine call_vi (wr := [(h_this, .inr (1, [.ref h_this_tape, .ref h_this_list, .ref h_this_item, .ref h_this_word, .ref h_this_written, .int place_this])), (h_this_word, .inr (0, [.ref h_this_word_bytes, .int size_word])), (h_this_word_bytes, .inl (cA, 1024, .inl a_word_bytes))]) (w1 := [(h_this_list, .inr (0, [.ref h_this_list_bytes, .int size_list])), (h_this_list_bytes, .inl (cA, 1024, .inl a_list_bytes))]) (wN := [(h_this, .inr (1, [.ref h_this_tape, .ref h_this_list, .ref h_this_item, .ref h_this_word, .ref h_this_written, .int place_this])), (h_this_list, .inr (0, [.ref h_this_list_bytes, .int size_list])), (h_this_list_bytes, .inl (cA, 1024, .inl a_list_bytes)), (h_this_word, .inr (0, [.ref h_this_word_bytes, .int size_word])), (h_this_word_bytes, .inl (cA, 1024, .inl a_word_bytes))]) (rest := []) C0 hK hP hD hS hA hZ (c_R_byteAt l D cA zz N h_this_list h_this_list_bytes size_list a_list_bytes r_5 r_14 h_14) [1, 2] [0, 3, 4] [0, 3, 4, 1, 2] rfl rfl rfl rfl (by decide) rfl rfl 0 0 rfl rfl m_X_58 ⟨Nat.le_of_ble_eq_true rfl, Nat.le_of_ble_eq_true rfl⟩ ⟨rfl, rfl⟩ rfl hl.1 rfl (Nat.le_of_ble_eq_true rfl) ⟨Nat.le_of_ble_eq_true rfl, Nat.le_of_ble_eq_true rfl⟩ d_X_nextElement_14 (fun b_14 H locs hP hD hS => ?_)
  refine lv_istore_n (lv' := [(2, .int r_14), (1, .int r_5), (0, .ref h_this)]) hx hb d_X_nextElement_17 rfl hl (by decide) rfl (fun ls hl => ?_)
  refine lv_iload_n hx hb d_X_nextElement_18 rfl (lv_at hl 0 rfl) ?_
  refine lv_iconst (v := (-1 : Int32)) hx hb d_X_nextElement_19 (by decide) ?_
  refine lv_icmp_ne (tgt := 25) hx hb d_X_nextElement_20 (by decide) (fun c_20 => ?_) (fun c_20 => ?_)
  · have h := iteN c_20 h
    refine lv_aload_n hx hb d_X_nextElement_25 rfl (lv_at hl 2 rfl) ?_
    refine va_get (D := D) (ci := 1) (v := .ref h_this_word) (C := R_X) (T := F_X) (N := 6) hx hb hG i_X hown hK hP 0 rfl rfl 3 (by decide) (hG _ f_X_22) (fun _ h9 => h9) rfl d_X_nextElement_26 ?_
    refine lv_iconst (v := (0 : Int32)) hx hb d_X_nextElement_29 (by decide) ?_
    obtain ⟨r_30, h_30, h⟩ := bindS h
    refine call_vi (wr := [(h_this, .inr (1, [.ref h_this_tape, .ref h_this_list, .ref h_this_item, .ref h_this_word, .ref h_this_written, .int place_this])), (h_this_list, .inr (0, [.ref h_this_list_bytes, .int size_list])), (h_this_list_bytes, .inl (cA, 1024, .inl a_list_bytes)), (h_this_word_bytes, .inl (cA, 1024, .inl a_word_bytes))]) (w1 := [(h_this_word, .inr (0, [.ref h_this_word_bytes, .int r_30.2]))]) (wN := [(h_this, .inr (1, [.ref h_this_tape, .ref h_this_list, .ref h_this_item, .ref h_this_word, .ref h_this_written, .int place_this])), (h_this_list, .inr (0, [.ref h_this_list_bytes, .int size_list])), (h_this_list_bytes, .inl (cA, 1024, .inl a_list_bytes)), (h_this_word, .inr (0, [.ref h_this_word_bytes, .int r_30.2])), (h_this_word_bytes, .inl (cA, 1024, .inl a_word_bytes))]) (rest := []) C0 hK hP hD hS hA hZ (c_R_cutTo l D cA zz N h_this_word h_this_word_bytes size_word (0 : Int32) r_30 h_30) [3] [0, 1, 2, 4] [0, 1, 2, 4, 3] rfl rfl rfl rfl (by decide) rfl rfl 0 0 rfl rfl m_X_40 ⟨Nat.le_of_ble_eq_true rfl, Nat.le_of_ble_eq_true rfl⟩ ⟨rfl, rfl⟩ rfl hl.1 rfl (Nat.le_of_ble_eq_true rfl) ⟨Nat.le_of_ble_eq_true rfl, Nat.le_of_ble_eq_true rfl⟩ d_X_nextElement_30 (fun b_30 H locs hP hD hS => ?_)
    refine lv_pop hx hb d_X_nextElement_33 rfl ?_
    refine lv_iload_n hx hb d_X_nextElement_34 rfl (lv_at hl 0 rfl) ?_
    refine lv_bipush (v := (123 : Int32)) hx hb d_X_nextElement_35 (by decide) ?_
    refine lv_icmp_ne (tgt := 55) hx hb d_X_nextElement_37 (by decide) (fun c_37 => ?_) (fun c_37 => ?_)
    · have h := iteN c_37 h
      refine lv_iload_n hx hb d_X_nextElement_55 rfl (lv_at hl 0 rfl) ?_
      refine lv_bipush (v := (34 : Int32)) hx hb d_X_nextElement_56 (by decide) ?_
      refine lv_icmp_ne (tgt := 77) hx hb d_X_nextElement_58 (by decide) (fun c_58 => ?_) (fun c_58 => ?_)
      · have h := iteN c_58 h
        refine lv_aload_n hx hb d_X_nextElement_77 rfl (lv_at hl 2 rfl) ?_
        refine lv_iload_n hx hb d_X_nextElement_78 rfl (lv_at hl 1 rfl) ?_
        refine lv_iconst (v := (0 : Int32)) hx hb d_X_nextElement_79 (by decide) ?_
        obtain ⟨r_80, h_80, h⟩ := bindS h
        refine call_vi (wr := []) (w1 := [(h_this, .inr (1, [.ref h_this_tape, .ref h_this_list, .ref h_this_item, .ref h_this_word, .ref h_this_written, .int place_this])), (h_this_list, .inr (0, [.ref h_this_list_bytes, .int size_list])), (h_this_list_bytes, .inl (cA, 1024, .inl a_list_bytes)), (h_this_word, .inr (0, [.ref h_this_word_bytes, .int r_80.2.1])), (h_this_word_bytes, .inl (cA, 1024, .inl r_80.2.2))]) (wN := [(h_this, .inr (1, [.ref h_this_tape, .ref h_this_list, .ref h_this_item, .ref h_this_word, .ref h_this_written, .int place_this])), (h_this_list, .inr (0, [.ref h_this_list_bytes, .int size_list])), (h_this_list_bytes, .inl (cA, 1024, .inl a_list_bytes)), (h_this_word, .inr (0, [.ref h_this_word_bytes, .int r_80.2.1])), (h_this_word_bytes, .inl (cA, 1024, .inl r_80.2.2))]) (rest := []) C0 hK hP hD hS hA hZ (c_X_readUnbraced l D cA zz N h_this h_this_tape h_this_list h_this_list_bytes h_this_item h_this_word h_this_word_bytes h_this_written place_this size_list a_list_bytes r_30.2 a_word_bytes r_5 (0 : Int32) r_80 h_80) [0, 1, 2, 3, 4] [] [0, 1, 2, 3, 4] rfl rfl rfl rfl (by decide) rfl rfl 0 1 rfl rfl m_X_71 ⟨Nat.le_of_ble_eq_true rfl, Nat.le_of_ble_eq_true rfl⟩ ⟨rfl, rfl⟩ rfl hl.1 rfl (Nat.le_of_ble_eq_true rfl) ⟨Nat.le_of_ble_eq_true rfl, Nat.le_of_ble_eq_true rfl⟩ d_X_nextElement_80 (fun b_80 H locs hP hD hS => ?_)
        refine lv_istore_n (lv' := [(3, .int r_80.1), (2, .int r_14), (1, .int r_5), (0, .ref h_this)]) hx hb d_X_nextElement_83 rfl hl (by decide) rfl (fun ls hl => ?_)
        exact t_X_nextElement_84 C0 hK hA hZ N h_this h_this_tape h_this_list h_this_list_bytes h_this_item h_this_word h_this_word_bytes h_this_written size_list a_list_bytes res _ _ _ _ h H locs hP hD hS ls (lv_sub hl [3, 0] rfl)
      · have h := iteP c_58 h
        refine lv_aload_n hx hb d_X_nextElement_61 rfl (lv_at hl 2 rfl) ?_
        refine lv_aload_n hx hb d_X_nextElement_62 rfl (lv_at hl 2 rfl) ?_
        refine lv_iload_n hx hb d_X_nextElement_63 rfl (lv_at hl 1 rfl) ?_
        refine lv_iconst (v := (1 : Int32)) hx hb d_X_nextElement_64 (by decide) ?_
        refine lv_iadd hx hb d_X_nextElement_65 ?_
        refine lv_iconst (v := (1 : Int32)) hx hb d_X_nextElement_66 (by decide) ?_
        obtain ⟨r_67, h_67, h⟩ := bindS h
        refine call_vi (wr := []) (w1 := [(h_this, .inr (1, [.ref h_this_tape, .ref h_this_list, .ref h_this_item, .ref h_this_word, .ref h_this_written, .int place_this])), (h_this_list, .inr (0, [.ref h_this_list_bytes, .int size_list])), (h_this_list_bytes, .inl (cA, 1024, .inl a_list_bytes)), (h_this_word, .inr (0, [.ref h_this_word_bytes, .int r_67.2.1])), (h_this_word_bytes, .inl (cA, 1024, .inl r_67.2.2))]) (wN := [(h_this, .inr (1, [.ref h_this_tape, .ref h_this_list, .ref h_this_item, .ref h_this_word, .ref h_this_written, .int place_this])), (h_this_list, .inr (0, [.ref h_this_list_bytes, .int size_list])), (h_this_list_bytes, .inl (cA, 1024, .inl a_list_bytes)), (h_this_word, .inr (0, [.ref h_this_word_bytes, .int r_67.2.1])), (h_this_word_bytes, .inl (cA, 1024, .inl r_67.2.2))]) (rest := [.ref h_this]) C0 hK hP hD hS hA hZ (c_X_readUnbraced l D cA zz N h_this h_this_tape h_this_list h_this_list_bytes h_this_item h_this_word h_this_word_bytes h_this_written place_this size_list a_list_bytes r_30.2 a_word_bytes (r_5 + (1 : Int32)) (1 : Int32) r_67 h_67) [0, 1, 2, 3, 4] [] [0, 1, 2, 3, 4] rfl rfl rfl rfl (by decide) rfl rfl 0 1 rfl rfl m_X_71 ⟨Nat.le_of_ble_eq_true rfl, Nat.le_of_ble_eq_true rfl⟩ ⟨rfl, rfl⟩ rfl hl.1 rfl (Nat.le_of_ble_eq_true rfl) ⟨Nat.le_of_ble_eq_true rfl, Nat.le_of_ble_eq_true rfl⟩ d_X_nextElement_67 (fun b_67 H locs hP hD hS => ?_)
        obtain ⟨r_70, h_70, h⟩ := bindS h
        refine call_vi (wr := [(h_this_word, .inr (0, [.ref h_this_word_bytes, .int r_67.2.1])), (h_this_word_bytes, .inl (cA, 1024, .inl r_67.2.2))]) (w1 := [(h_this, .inr (1, [.ref h_this_tape, .ref h_this_list, .ref h_this_item, .ref h_this_word, .ref h_this_written, .int place_this])), (h_this_list, .inr (0, [.ref h_this_list_bytes, .int size_list])), (h_this_list_bytes, .inl (cA, 1024, .inl a_list_bytes))]) (wN := [(h_this, .inr (1, [.ref h_this_tape, .ref h_this_list, .ref h_this_item, .ref h_this_word, .ref h_this_written, .int place_this])), (h_this_list, .inr (0, [.ref h_this_list_bytes, .int size_list])), (h_this_list_bytes, .inl (cA, 1024, .inl a_list_bytes)), (h_this_word, .inr (0, [.ref h_this_word_bytes, .int r_67.2.1])), (h_this_word_bytes, .inl (cA, 1024, .inl r_67.2.2))]) (rest := []) C0 hK hP hD hS hA hZ (c_X_behindCloser l D cA zz N h_this h_this_tape h_this_list h_this_list_bytes h_this_item h_this_word h_this_written place_this size_list a_list_bytes r_67.1 r_70 h_70) [0, 1, 2] [3, 4] [2, 3, 4, 0, 1] rfl rfl rfl rfl (by decide) rfl rfl 0 1 rfl rfl m_X_68 ⟨Nat.le_of_ble_eq_true rfl, Nat.le_of_ble_eq_true rfl⟩ ⟨rfl, rfl⟩ rfl hl.1 rfl (Nat.le_of_ble_eq_true rfl) ⟨Nat.le_of_ble_eq_true rfl, Nat.le_of_ble_eq_true rfl⟩ d_X_nextElement_70 (fun b_70 H locs hP hD hS => ?_)
        refine lv_istore_n (lv' := [(3, .int r_70), (2, .int r_14), (1, .int r_5), (0, .ref h_this)]) hx hb d_X_nextElement_73 rfl hl (by decide) rfl (fun ls hl => ?_)
        refine lv_goto (tgt := 84) hx hb d_X_nextElement_74 (by decide) ?_
        exact t_X_nextElement_84 C0 hK hA hZ N h_this h_this_tape h_this_list h_this_list_bytes h_this_item h_this_word h_this_word_bytes h_this_written size_list a_list_bytes res _ _ _ _ h H locs hP hD hS ls (lv_sub hl [3, 0] rfl)
    · have h := iteP c_37 h
      refine lv_aload_n hx hb d_X_nextElement_40 rfl (lv_at hl 2 rfl) ?_
      refine lv_aload_n hx hb d_X_nextElement_41 rfl (lv_at hl 2 rfl) ?_
      refine lv_iload_n hx hb d_X_nextElement_42 rfl (lv_at hl 1 rfl) ?_
      refine lv_iconst (v := (1 : Int32)) hx hb d_X_nextElement_43 (by decide) ?_
      refine lv_iadd hx hb d_X_nextElement_44 ?_
      obtain ⟨r_45, h_45, h⟩ := bindS h
      refine call_vi (wr := []) (w1 := [(h_this, .inr (1, [.ref h_this_tape, .ref h_this_list, .ref h_this_item, .ref h_this_word, .ref h_this_written, .int place_this])), (h_this_list, .inr (0, [.ref h_this_list_bytes, .int size_list])), (h_this_list_bytes, .inl (cA, 1024, .inl a_list_bytes)), (h_this_word, .inr (0, [.ref h_this_word_bytes, .int r_45.2.1])), (h_this_word_bytes, .inl (cA, 1024, .inl r_45.2.2))]) (wN := [(h_this, .inr (1, [.ref h_this_tape, .ref h_this_list, .ref h_this_item, .ref h_this_word, .ref h_this_written, .int place_this])), (h_this_list, .inr (0, [.ref h_this_list_bytes, .int size_list])), (h_this_list_bytes, .inl (cA, 1024, .inl a_list_bytes)), (h_this_word, .inr (0, [.ref h_this_word_bytes, .int r_45.2.1])), (h_this_word_bytes, .inl (cA, 1024, .inl r_45.2.2))]) (rest := [.ref h_this]) C0 hK hP hD hS hA hZ (c_X_readBraced l D cA zz N h_this h_this_tape h_this_list h_this_list_bytes h_this_item h_this_word h_this_word_bytes h_this_written place_this size_list a_list_bytes r_30.2 a_word_bytes (r_5 + (1 : Int32)) r_45 h_45) [0, 1, 2, 3, 4] [] [0, 1, 2, 3, 4] rfl rfl rfl rfl (by decide) rfl rfl 0 1 rfl rfl m_X_65 ⟨Nat.le_of_ble_eq_true rfl, Nat.le_of_ble_eq_true rfl⟩ ⟨rfl, rfl⟩ rfl hl.1 rfl (Nat.le_of_ble_eq_true rfl) ⟨Nat.le_of_ble_eq_true rfl, Nat.le_of_ble_eq_true rfl⟩ d_X_nextElement_45 (fun b_45 H locs hP hD hS => ?_)
      obtain ⟨r_48, h_48, h⟩ := bindS h
      refine call_vi (wr := [(h_this_word, .inr (0, [.ref h_this_word_bytes, .int r_45.2.1])), (h_this_word_bytes, .inl (cA, 1024, .inl r_45.2.2))]) (w1 := [(h_this, .inr (1, [.ref h_this_tape, .ref h_this_list, .ref h_this_item, .ref h_this_word, .ref h_this_written, .int place_this])), (h_this_list, .inr (0, [.ref h_this_list_bytes, .int size_list])), (h_this_list_bytes, .inl (cA, 1024, .inl a_list_bytes))]) (wN := [(h_this, .inr (1, [.ref h_this_tape, .ref h_this_list, .ref h_this_item, .ref h_this_word, .ref h_this_written, .int place_this])), (h_this_list, .inr (0, [.ref h_this_list_bytes, .int size_list])), (h_this_list_bytes, .inl (cA, 1024, .inl a_list_bytes)), (h_this_word, .inr (0, [.ref h_this_word_bytes, .int r_45.2.1])), (h_this_word_bytes, .inl (cA, 1024, .inl r_45.2.2))]) (rest := []) C0 hK hP hD hS hA hZ (c_X_behindCloser l D cA zz N h_this h_this_tape h_this_list h_this_list_bytes h_this_item h_this_word h_this_written place_this size_list a_list_bytes r_45.1 r_48 h_48) [0, 1, 2] [3, 4] [2, 3, 4, 0, 1] rfl rfl rfl rfl (by decide) rfl rfl 0 1 rfl rfl m_X_68 ⟨Nat.le_of_ble_eq_true rfl, Nat.le_of_ble_eq_true rfl⟩ ⟨rfl, rfl⟩ rfl hl.1 rfl (Nat.le_of_ble_eq_true rfl) ⟨Nat.le_of_ble_eq_true rfl, Nat.le_of_ble_eq_true rfl⟩ d_X_nextElement_48 (fun b_48 H locs hP hD hS => ?_)
      refine lv_istore_n (lv' := [(3, .int r_48), (2, .int r_14), (1, .int r_5), (0, .ref h_this)]) hx hb d_X_nextElement_51 rfl hl (by decide) rfl (fun ls hl => ?_)
      refine lv_goto (tgt := 84) hx hb d_X_nextElement_52 (by decide) ?_
      exact t_X_nextElement_84 C0 hK hA hZ N h_this h_this_tape h_this_list h_this_list_bytes h_this_item h_this_word h_this_word_bytes h_this_written size_list a_list_bytes res _ _ _ _ h H locs hP hD hS ls (lv_sub hl [3, 0] rfl)
  · have h := iteP c_20 h
    refine lv_iconst (v := (-1 : Int32)) hx hb d_X_nextElement_23 (by decide) ?_
    obtain rfl := Option.some.inj h
    exact rI (v := (-1 : Int32)) C0 (vp_nar_int _) hK hP hD hS d_X_nextElement_24
theorem c_X_nextElement (l : Launch) (D : va_G) (cA : ClassId) (zz : zT) (N : Nat) (h_this : Nat) (h_this_tape : Nat) (h_this_list : Nat) (h_this_list_bytes : Nat) (h_this_item : Nat) (h_this_word : Nat) (h_this_word_bytes : Nat) (h_this_written : Nat) (place_this : Int32) (size_list : Int32) (a_list_bytes : Nat → Int32) (size_word : Int32) (a_word_bytes : Nat → Int32) (res : Int32 × Int32 × Int32 × (Nat → Int32)) (h : p_X_nextElement N place_this size_list a_list_bytes size_word a_word_bytes = some res) : MI l D cA zz y_X_nextElement b_X_nextElement 4 .int rm_X_nextElement [.ref h_this] [(h_this, .inr (1, [.ref h_this_tape, .ref h_this_list, .ref h_this_item, .ref h_this_word, .ref h_this_written, .int place_this])), (h_this_list, .inr (0, [.ref h_this_list_bytes, .int size_list])), (h_this_list_bytes, .inl (cA, 1024, .inl a_list_bytes)), (h_this_word, .inr (0, [.ref h_this_word_bytes, .int size_word])), (h_this_word_bytes, .inl (cA, 1024, .inl a_word_bytes))] (res.1) [(h_this, .inr (1, [.ref h_this_tape, .ref h_this_list, .ref h_this_item, .ref h_this_word, .ref h_this_written, .int res.2.1])), (h_this_list, .inr (0, [.ref h_this_list_bytes, .int size_list])), (h_this_list_bytes, .inl (cA, 1024, .inl a_list_bytes)), (h_this_word, .inr (0, [.ref h_this_word_bytes, .int res.2.2.1])), (h_this_word_bytes, .inl (cA, 1024, .inl res.2.2.2))] := by
  unfold p_X_nextElement at h
  exact MI_enter (by decide) (Nat.le_of_ble_eq_true rfl) (fun p e s m below meth c A ls C0 hK hA hZ hP hD hl => t_X_nextElement_0 C0 hK hA hZ N h_this h_this_tape h_this_list h_this_list_bytes h_this_item h_this_word h_this_word_bytes h_this_written size_list a_list_bytes res _ _ _ h s.heap [] hP hD va_S.rf ls hl)
-- ListWords.count()I
set_option maxHeartbeats 4000000 in
set_option maxRecDepth 100000 in
theorem t_X_count_12 {p : Program} {l : Launch} {e : Env} {s : State} {m : MethodId} {args : Array Value} {below : List Frame} {meth : Method} {c : Code} {D : va_G} {cA : ClassId} {zz : zT} {A : Nat → Prop} (C0 : Cx p s m args meth c b_X_count R_X 3 (some .int)) (hK : va_K D classes [(cA, .int)] s) (hA : ∀ q : Nat, s.heap.size ≤ q → A q) (hZ : ZS zz A s s.heap) (N : Nat) (h_this : Nat) (h_this_tape : Nat) (h_this_list : Nat) (h_this_list_bytes : Nat) (h_this_item : Nat) (h_this_word : Nat) (h_this_word_bytes : Nat) (h_this_written : Nat) (size_list : Int32) (a_list_bytes : Nat → Int32) (res : Int32 × Int32 × Int32 × (Nat → Int32)) :
    ∀ (n : Nat), ∀ (place_this : Int32) (size_word : Int32) (a_word_bytes : Nat → Int32) (x1 : Int32) (x2 : Int32), p_X_count_12 N size_list a_list_bytes n place_this size_word a_word_bytes x1 x2 = some res → ∀ (H : Heap) (locs : List Loc), va_P D classes [(h_this, .inr (1, [.ref h_this_tape, .ref h_this_list, .ref h_this_item, .ref h_this_word, .ref h_this_written, .int place_this])), (h_this_list, .inr (0, [.ref h_this_list_bytes, .int size_list])), (h_this_list_bytes, .inl (cA, 1024, .inl a_list_bytes)), (h_this_word, .inr (0, [.ref h_this_word_bytes, .int size_word])), (h_this_word_bytes, .inl (cA, 1024, .inl a_word_bytes))] H → va_D A [(h_this, .inr (1, [.ref h_this_tape, .ref h_this_list, .ref h_this_item, .ref h_this_word, .ref h_this_written, .int place_this])), (h_this_list, .inr (0, [.ref h_this_list_bytes, .int size_list])), (h_this_list_bytes, .inl (cA, 1024, .inl a_list_bytes)), (h_this_word, .inr (0, [.ref h_this_word_bytes, .int size_word])), (h_this_word_bytes, .inl (cA, 1024, .inl a_word_bytes))] → va_S A s.heap H locs → ∀ (ls : Array Slot), lv_has ls 3 [(0, .ref h_this), (1, .int x1), (2, .int x2)] → W p l e rm_X_count s m args below meth c H locs 0 0 (QI .int below args s D cA A (res.1) [(h_this, .inr (1, [.ref h_this_tape, .ref h_this_list, .ref h_this_item, .ref h_this_word, .ref h_this_written, .int res.2.1])), (h_this_list, .inr (0, [.ref h_this_list_bytes, .int size_list])), (h_this_list_bytes, .inl (cA, 1024, .inl a_list_bytes)), (h_this_word, .inr (0, [.ref h_this_word_bytes, .int res.2.2.1])), (h_this_word_bytes, .inl (cA, 1024, .inl res.2.2.2))]) (F0 m 12 ls []) := by
  obtain ⟨hx, hb, hr, hml, hown, hG, hlk⟩ := id C0
  intro n
  induction n with
  | zero =>
    intro place_this size_word a_word_bytes x1 x2 h H locs hP hD hS ls hl
    exact absurd h (by simp [p_X_count_12])
  | succ n ih =>
    intro place_this size_word a_word_bytes x1 x2 h H locs hP hD hS ls hl
    rw [p_X_count_12] at h
    refine lv_iload_n hx hb d_X_count_12 rfl (lv_at hl 2 rfl) ?_
    refine lv_if_lt (tgt := 34) hx hb d_X_count_13 (by decide) (fun c_13 => ?_) (fun c_13 => ?_)
    · have h := iteP c_13 h
      refine lv_iload_n hx hb d_X_count_34 rfl (lv_at hl 2 rfl) ?_
      refine lv_bipush (v := (-2 : Int32)) hx hb d_X_count_35 (by decide) ?_
      refine lv_icmp_ne (tgt := 45) hx hb d_X_count_37 (by decide) (fun c_37 => ?_) (fun c_37 => ?_)
      · have h := iteN c_37 h
        refine lv_iload_n hx hb d_X_count_45 rfl (lv_at hl 1 rfl) ?_
        obtain rfl := Option.some.inj h
        exact rI (v := x1) C0 (vp_nar_int _) hK hP hD hS d_X_count_46
      · have h := iteP c_37 h
        refine lv_bipush (v := (-2 : Int32)) hx hb d_X_count_40 (by decide) ?_
        refine lv_goto (tgt := 46) hx hb d_X_count_42 (by decide) ?_
        obtain rfl := Option.some.inj h
        exact rI (v := (-2 : Int32)) C0 (vp_nar_int _) hK hP hD hS d_X_count_46
    · have h := iteN c_13 h
      refine lv_iload_n hx hb d_X_count_16 rfl (lv_at hl 1 rfl) ?_
      refine lv_sipush (v := (1024 : Int32)) hx hb d_X_count_17 (by decide) ?_
      refine lv_icmp_ge (tgt := 34) hx hb d_X_count_20 (by decide) (fun c_20 => ?_) (fun c_20 => ?_)
      · have h := iteP c_20 h
        refine lv_iload_n hx hb d_X_count_34 rfl (lv_at hl 2 rfl) ?_
        refine lv_bipush (v := (-2 : Int32)) hx hb d_X_count_35 (by decide) ?_
        refine lv_icmp_ne (tgt := 45) hx hb d_X_count_37 (by decide) (fun c_37 => ?_) (fun c_37 => ?_)
        · have h := iteN c_37 h
          refine lv_iload_n hx hb d_X_count_45 rfl (lv_at hl 1 rfl) ?_
          obtain rfl := Option.some.inj h
          exact rI (v := x1) C0 (vp_nar_int _) hK hP hD hS d_X_count_46
        · have h := iteP c_37 h
          refine lv_bipush (v := (-2 : Int32)) hx hb d_X_count_40 (by decide) ?_
          refine lv_goto (tgt := 46) hx hb d_X_count_42 (by decide) ?_
          obtain rfl := Option.some.inj h
          exact rI (v := (-2 : Int32)) C0 (vp_nar_int _) hK hP hD hS d_X_count_46
      · have h := iteN c_20 h
        refine lv_iinc (v := (x1 + (1 : Int32))) (lv' := [(1, .int (x1 + (1 : Int32))), (0, .ref h_this), (2, .int x2)]) hx hb d_X_count_23 hl (k := 1) rfl rfl (by decide) rfl (fun ls hl => ?_)
        refine lv_aload_n hx hb d_X_count_26 rfl (lv_at hl 1 rfl) ?_
        obtain ⟨r_27, h_27, h⟩ := bindS h
        refine call_vi (wr := []) (w1 := [(h_this, .inr (1, [.ref h_this_tape, .ref h_this_list, .ref h_this_item, .ref h_this_word, .ref h_this_written, .int r_27.2.1])), (h_this_list, .inr (0, [.ref h_this_list_bytes, .int size_list])), (h_this_list_bytes, .inl (cA, 1024, .inl a_list_bytes)), (h_this_word, .inr (0, [.ref h_this_word_bytes, .int r_27.2.2.1])), (h_this_word_bytes, .inl (cA, 1024, .inl r_27.2.2.2))]) (wN := [(h_this, .inr (1, [.ref h_this_tape, .ref h_this_list, .ref h_this_item, .ref h_this_word, .ref h_this_written, .int r_27.2.1])), (h_this_list, .inr (0, [.ref h_this_list_bytes, .int size_list])), (h_this_list_bytes, .inl (cA, 1024, .inl a_list_bytes)), (h_this_word, .inr (0, [.ref h_this_word_bytes, .int r_27.2.2.1])), (h_this_word_bytes, .inl (cA, 1024, .inl r_27.2.2.2))]) (rest := []) C0 hK hP hD hS hA hZ (c_X_nextElement l D cA zz N h_this h_this_tape h_this_list h_this_list_bytes h_this_item h_this_word h_this_word_bytes h_this_written place_this size_list a_list_bytes size_word a_word_bytes r_27 h_27) [0, 1, 2, 3, 4] [] [0, 1, 2, 3, 4] rfl rfl rfl rfl (by decide) rfl rfl 0 1 rfl rfl m_X_48 ⟨Nat.le_of_ble_eq_true rfl, Nat.le_of_ble_eq_true rfl⟩ ⟨rfl, rfl⟩ rfl hl.1 rfl (Nat.le_of_ble_eq_true rfl) ⟨Nat.le_of_ble_eq_true rfl, Nat.le_of_ble_eq_true rfl⟩ d_X_count_27 (fun b_27 H locs hP hD hS => ?_)
        refine lv_istore_n (lv' := [(2, .int r_27.1), (1, .int (x1 + (1 : Int32))), (0, .ref h_this)]) hx hb d_X_count_30 rfl hl (by decide) rfl (fun ls hl => ?_)
        refine lv_goto (tgt := 12) hx hb d_X_count_31 (by decide) ?_
        exact ih _ _ _ _ _ h H locs hP hD hS ls (lv_sub hl [2, 1, 0] rfl)
set_option maxHeartbeats 4000000 in
set_option maxRecDepth 100000 in
theorem t_X_count_0 {p : Program} {l : Launch} {e : Env} {s : State} {m : MethodId} {args : Array Value} {below : List Frame} {meth : Method} {c : Code} {D : va_G} {cA : ClassId} {zz : zT} {A : Nat → Prop} (C0 : Cx p s m args meth c b_X_count R_X 3 (some .int)) (hK : va_K D classes [(cA, .int)] s) (hA : ∀ q : Nat, s.heap.size ≤ q → A q) (hZ : ZS zz A s s.heap) (N : Nat) (h_this : Nat) (h_this_tape : Nat) (h_this_list : Nat) (h_this_list_bytes : Nat) (h_this_item : Nat) (h_this_word : Nat) (h_this_word_bytes : Nat) (h_this_written : Nat) (size_list : Int32) (a_list_bytes : Nat → Int32) (res : Int32 × Int32 × Int32 × (Nat → Int32)) :
    ∀ (place_this : Int32) (size_word : Int32) (a_word_bytes : Nat → Int32), p_X_count_0 N size_list a_list_bytes place_this size_word a_word_bytes = some res → ∀ (H : Heap) (locs : List Loc), va_P D classes [(h_this, .inr (1, [.ref h_this_tape, .ref h_this_list, .ref h_this_item, .ref h_this_word, .ref h_this_written, .int place_this])), (h_this_list, .inr (0, [.ref h_this_list_bytes, .int size_list])), (h_this_list_bytes, .inl (cA, 1024, .inl a_list_bytes)), (h_this_word, .inr (0, [.ref h_this_word_bytes, .int size_word])), (h_this_word_bytes, .inl (cA, 1024, .inl a_word_bytes))] H → va_D A [(h_this, .inr (1, [.ref h_this_tape, .ref h_this_list, .ref h_this_item, .ref h_this_word, .ref h_this_written, .int place_this])), (h_this_list, .inr (0, [.ref h_this_list_bytes, .int size_list])), (h_this_list_bytes, .inl (cA, 1024, .inl a_list_bytes)), (h_this_word, .inr (0, [.ref h_this_word_bytes, .int size_word])), (h_this_word_bytes, .inl (cA, 1024, .inl a_word_bytes))] → va_S A s.heap H locs → ∀ (ls : Array Slot), lv_has ls 3 [(0, .ref h_this)] → W p l e rm_X_count s m args below meth c H locs 0 0 (QI .int below args s D cA A (res.1) [(h_this, .inr (1, [.ref h_this_tape, .ref h_this_list, .ref h_this_item, .ref h_this_word, .ref h_this_written, .int res.2.1])), (h_this_list, .inr (0, [.ref h_this_list_bytes, .int size_list])), (h_this_list_bytes, .inl (cA, 1024, .inl a_list_bytes)), (h_this_word, .inr (0, [.ref h_this_word_bytes, .int res.2.2.1])), (h_this_word_bytes, .inl (cA, 1024, .inl res.2.2.2))]) (F0 m 0 ls []) := by
  obtain ⟨hx, hb, hr, hml, hown, hG, hlk⟩ := id C0
  intro place_this size_word a_word_bytes h H locs hP hD hS ls hl
  unfold p_X_count_0 at h
  refine lv_aload_n hx hb d_X_count_0 rfl (lv_at hl 0 rfl) ?_
  refine lv_iconst (v := (0 : Int32)) hx hb d_X_count_1 (by decide) ?_
  refine va_put (D := D) (ci := 1) (v := .int (0 : Int32)) (ty := .int) (C := R_X) (T := F_X) (N := 6) hx hb hG i_X t_X t_X_ok n_X hown hK hP hD hS 0 rfl rfl 5 (by decide) (hG _ f_X_28) (fun _ h9 => h9) rfl (by decide +kernel) rfl rfl (Nat.le_of_ble_eq_true rfl) d_X_count_2 (fun H locs hP hD hS => ?_)
  have hP : va_P D classes [(h_this, .inr (1, [.ref h_this_tape, .ref h_this_list, .ref h_this_item, .ref h_this_word, .ref h_this_written, .int (0 : Int32)])), (h_this_list, .inr (0, [.ref h_this_list_bytes, .int size_list])), (h_this_list_bytes, .inl (cA, 1024, .inl a_list_bytes)), (h_this_word, .inr (0, [.ref h_this_word_bytes, .int size_word])), (h_this_word_bytes, .inl (cA, 1024, .inl a_word_bytes))] H := hP
  have hD : va_D A [(h_this, .inr (1, [.ref h_this_tape, .ref h_this_list, .ref h_this_item, .ref h_this_word, .ref h_this_written, .int (0 : Int32)])), (h_this_list, .inr (0, [.ref h_this_list_bytes, .int size_list])), (h_this_list_bytes, .inl (cA, 1024, .inl a_list_bytes)), (h_this_word, .inr (0, [.ref h_this_word_bytes, .int size_word])), (h_this_word_bytes, .inl (cA, 1024, .inl a_word_bytes))] := hD
  refine lv_iconst (v := (0 : Int32)) hx hb d_X_count_5 (by decide) ?_
  refine lv_istore_n (lv' := [(1, .int (0 : Int32)), (0, .ref h_this)]) hx hb d_X_count_6 rfl hl (by decide) rfl (fun ls hl => ?_)
  refine lv_aload_n hx hb d_X_count_7 rfl (lv_at hl 1 rfl) ?_
  obtain ⟨r_8, h_8, h⟩ := bindS h
  refine call_vi (wr := []) (w1 := [(h_this, .inr (1, [.ref h_this_tape, .ref h_this_list, .ref h_this_item, .ref h_this_word, .ref h_this_written, .int r_8.2.1])), (h_this_list, .inr (0, [.ref h_this_list_bytes, .int size_list])), (h_this_list_bytes, .inl (cA, 1024, .inl a_list_bytes)), (h_this_word, .inr (0, [.ref h_this_word_bytes, .int r_8.2.2.1])), (h_this_word_bytes, .inl (cA, 1024, .inl r_8.2.2.2))]) (wN := [(h_this, .inr (1, [.ref h_this_tape, .ref h_this_list, .ref h_this_item, .ref h_this_word, .ref h_this_written, .int r_8.2.1])), (h_this_list, .inr (0, [.ref h_this_list_bytes, .int size_list])), (h_this_list_bytes, .inl (cA, 1024, .inl a_list_bytes)), (h_this_word, .inr (0, [.ref h_this_word_bytes, .int r_8.2.2.1])), (h_this_word_bytes, .inl (cA, 1024, .inl r_8.2.2.2))]) (rest := []) C0 hK hP hD hS hA hZ (c_X_nextElement l D cA zz N h_this h_this_tape h_this_list h_this_list_bytes h_this_item h_this_word h_this_word_bytes h_this_written (0 : Int32) size_list a_list_bytes size_word a_word_bytes r_8 h_8) [0, 1, 2, 3, 4] [] [0, 1, 2, 3, 4] rfl rfl rfl rfl (by decide) rfl rfl 0 1 rfl rfl m_X_48 ⟨Nat.le_of_ble_eq_true rfl, Nat.le_of_ble_eq_true rfl⟩ ⟨rfl, rfl⟩ rfl hl.1 rfl (Nat.le_of_ble_eq_true rfl) ⟨Nat.le_of_ble_eq_true rfl, Nat.le_of_ble_eq_true rfl⟩ d_X_count_8 (fun b_8 H locs hP hD hS => ?_)
  refine lv_istore_n (lv' := [(2, .int r_8.1), (1, .int (0 : Int32)), (0, .ref h_this)]) hx hb d_X_count_11 rfl hl (by decide) rfl (fun ls hl => ?_)
  exact t_X_count_12 C0 hK hA hZ N h_this h_this_tape h_this_list h_this_list_bytes h_this_item h_this_word h_this_word_bytes h_this_written size_list a_list_bytes res N _ _ _ _ _ h H locs hP hD hS ls (lv_sub hl [2, 1, 0] rfl)
theorem c_X_count (l : Launch) (D : va_G) (cA : ClassId) (zz : zT) (N : Nat) (h_this : Nat) (h_this_tape : Nat) (h_this_list : Nat) (h_this_list_bytes : Nat) (h_this_item : Nat) (h_this_word : Nat) (h_this_word_bytes : Nat) (h_this_written : Nat) (place_this : Int32) (size_list : Int32) (a_list_bytes : Nat → Int32) (size_word : Int32) (a_word_bytes : Nat → Int32) (res : Int32 × Int32 × Int32 × (Nat → Int32)) (h : p_X_count N place_this size_list a_list_bytes size_word a_word_bytes = some res) : MI l D cA zz y_X_count b_X_count 3 .int rm_X_count [.ref h_this] [(h_this, .inr (1, [.ref h_this_tape, .ref h_this_list, .ref h_this_item, .ref h_this_word, .ref h_this_written, .int place_this])), (h_this_list, .inr (0, [.ref h_this_list_bytes, .int size_list])), (h_this_list_bytes, .inl (cA, 1024, .inl a_list_bytes)), (h_this_word, .inr (0, [.ref h_this_word_bytes, .int size_word])), (h_this_word_bytes, .inl (cA, 1024, .inl a_word_bytes))] (res.1) [(h_this, .inr (1, [.ref h_this_tape, .ref h_this_list, .ref h_this_item, .ref h_this_word, .ref h_this_written, .int res.2.1])), (h_this_list, .inr (0, [.ref h_this_list_bytes, .int size_list])), (h_this_list_bytes, .inl (cA, 1024, .inl a_list_bytes)), (h_this_word, .inr (0, [.ref h_this_word_bytes, .int res.2.2.1])), (h_this_word_bytes, .inl (cA, 1024, .inl res.2.2.2))] := by
  unfold p_X_count at h
  exact MI_enter (by decide) (Nat.le_of_ble_eq_true rfl) (fun p e s m below meth c A ls C0 hK hA hZ hP hD hl => t_X_count_0 C0 hK hA hZ N h_this h_this_tape h_this_list h_this_list_bytes h_this_item h_this_word h_this_word_bytes h_this_written size_list a_list_bytes res _ _ _ h s.heap [] hP hD va_S.rf ls hl)
-- ListWords.needsBackslash(LListWords$Row;I)Z
set_option maxHeartbeats 4000000 in
set_option maxRecDepth 100000 in
theorem t_X_needsBackslash_0 {p : Program} {l : Launch} {e : Env} {s : State} {m : MethodId} {args : Array Value} {below : List Frame} {meth : Method} {c : Code} {D : va_G} {cA : ClassId} {zz : zT} {A : Nat → Prop} (C0 : Cx p s m args meth c b_X_needsBackslash R_X 3 (some .boolean)) (hK : va_K D classes [(cA, .int)] s) (hA : ∀ q : Nat, s.heap.size ≤ q → A q) (hZ : ZS zz A s s.heap) (N : Nat) (h_p0 : Nat) (h_p0_bytes : Nat) (size_p0 : Int32) (a_p0_bytes : Nat → Int32) (res : Int32) :
    ∀ (x1 : Int32), p_X_needsBackslash_0 N size_p0 a_p0_bytes x1 = some res → ∀ (H : Heap) (locs : List Loc), va_P D classes [(h_p0, .inr (0, [.ref h_p0_bytes, .int size_p0])), (h_p0_bytes, .inl (cA, 1024, .inl a_p0_bytes))] H → va_D A [(h_p0, .inr (0, [.ref h_p0_bytes, .int size_p0])), (h_p0_bytes, .inl (cA, 1024, .inl a_p0_bytes))] → va_S A s.heap H locs → ∀ (ls : Array Slot), lv_has ls 3 [(0, .ref h_p0), (1, .int x1)] → W p l e rm_X_needsBackslash s m args below meth c H locs 0 0 (QI .boolean below args s D cA A (res) [(h_p0, .inr (0, [.ref h_p0_bytes, .int size_p0])), (h_p0_bytes, .inl (cA, 1024, .inl a_p0_bytes))]) (F0 m 0 ls []) := by
  obtain ⟨hx, hb, hr, hml, hown, hG, hlk⟩ := id C0
  intro x1 h H locs hP hD hS ls hl
  unfold p_X_needsBackslash_0 at h
  refine lv_aload_n hx hb d_X_needsBackslash_0 rfl (lv_at hl 0 rfl) ?_
  refine lv_iload_n hx hb d_X_needsBackslash_1 rfl (lv_at hl 1 rfl) ?_
  obtain ⟨r_2, h_2, h⟩ := bindS h
  refine call_vi (wr := []) (w1 := [(h_p0, .inr (0, [.ref h_p0_bytes, .int size_p0])), (h_p0_bytes, .inl (cA, 1024, .inl a_p0_bytes))]) (wN := [(h_p0, .inr (0, [.ref h_p0_bytes, .int size_p0])), (h_p0_bytes, .inl (cA, 1024, .inl a_p0_bytes))]) (rest := []) C0 hK hP hD hS hA hZ (c_R_byteAt l D cA zz N h_p0 h_p0_bytes size_p0 a_p0_bytes x1 r_2 h_2) [0, 1] [] [0, 1] rfl rfl rfl rfl (by decide) rfl rfl 0 0 rfl rfl m_X_58 ⟨Nat.le_of_ble_eq_true rfl, Nat.le_of_ble_eq_true rfl⟩ ⟨rfl, rfl⟩ rfl hl.1 rfl (Nat.le_of_ble_eq_true rfl) ⟨Nat.le_of_ble_eq_true rfl, Nat.le_of_ble_eq_true rfl⟩ d_X_needsBackslash_2 (fun b_2 H locs hP hD hS => ?_)
  refine lv_istore_n (lv' := [(2, .int r_2), (0, .ref h_p0), (1, .int x1)]) hx hb d_X_needsBackslash_5 rfl hl (by decide) rfl (fun ls hl => ?_)
  refine lv_iload_n hx hb d_X_needsBackslash_6 rfl (lv_at hl 0 rfl) ?_
  obtain ⟨r_7, h_7, h⟩ := bindS h
  refine call_si (wr := [(h_p0, .inr (0, [.ref h_p0_bytes, .int size_p0])), (h_p0_bytes, .inl (cA, 1024, .inl a_p0_bytes))]) (w1 := []) (wN := [(h_p0, .inr (0, [.ref h_p0_bytes, .int size_p0])), (h_p0_bytes, .inl (cA, 1024, .inl a_p0_bytes))]) (rest := []) C0 hK hP hD hS hA hZ (c_X_isSpace l D cA zz N r_2 r_7 h_7) [] [0, 1] [0, 1] rfl rfl rfl rfl (by decide) rfl rfl m_X_75 ⟨Nat.le_of_ble_eq_true rfl, Nat.le_of_ble_eq_true rfl⟩ ⟨rfl, rfl⟩ rfl hl.1 rfl (Nat.le_of_ble_eq_true rfl) ⟨Nat.le_of_ble_eq_true rfl, Nat.le_of_ble_eq_true rfl⟩ d_X_needsBackslash_7 (fun b_7 H locs hP hD hS => ?_)
  refine lv_if_ne (tgt := 33) hx hb d_X_needsBackslash_10 (by decide) (fun c_10 => ?_) (fun c_10 => ?_)
  · have h := iteN c_10 h
    refine lv_iconst (v := (1 : Int32)) hx hb d_X_needsBackslash_33 (by decide) ?_
    refine lv_goto (tgt := 38) hx hb d_X_needsBackslash_34 (by decide) ?_
    obtain rfl := Option.some.inj h
    exact rI (v := (1 : Int32)) C0 rfl hK hP hD hS d_X_needsBackslash_38
  · have h := iteP c_10 h
    refine va_ldcS (q := zz.1 1) hx hb hown (ZS_ldc1 hZ) d_X_needsBackslash_13 ?_
    refine lv_iload_n hx hb d_X_needsBackslash_15 rfl (lv_at hl 0 rfl) ?_
    refine lv_i2c (v := (r_2.toUInt32 % 65536).toInt32) hx hb d_X_needsBackslash_16 rfl ?_
    obtain ⟨r_17, h_17, h⟩ := bindS h
    refine call_ki (wr := [(h_p0, .inr (0, [.ref h_p0_bytes, .int size_p0])), (h_p0_bytes, .inl (cA, 1024, .inl a_p0_bytes))]) (w1 := []) (wN := [(h_p0, .inr (0, [.ref h_p0_bytes, .int size_p0])), (h_p0_bytes, .inl (cA, 1024, .inl a_p0_bytes))]) (rest := []) C0 hK hP hD hS hA hZ (c_S_indexOf0 l D cA zz N 1 (by decide) (r_2.toUInt32 % 65536).toInt32 r_17 h_17) [] [0, 1] [0, 1] rfl rfl rfl rfl (by decide) rfl rfl (ZS_recv hZ (by decide) hS) m_X_96 ⟨Nat.le_of_ble_eq_true rfl, Nat.le_of_ble_eq_true rfl⟩ ⟨rfl, rfl⟩ rfl hl.1 rfl (Nat.le_of_ble_eq_true rfl) ⟨Nat.le_of_ble_eq_true rfl, Nat.le_of_ble_eq_true rfl⟩ d_X_needsBackslash_17 (fun b_17 H locs hP hD hS => ?_)
    refine lv_if_ge (tgt := 33) hx hb d_X_needsBackslash_20 (by decide) (fun c_20 => ?_) (fun c_20 => ?_)
    · have h := iteP c_20 h
      refine lv_iconst (v := (1 : Int32)) hx hb d_X_needsBackslash_33 (by decide) ?_
      refine lv_goto (tgt := 38) hx hb d_X_needsBackslash_34 (by decide) ?_
      obtain rfl := Option.some.inj h
      exact rI (v := (1 : Int32)) C0 rfl hK hP hD hS d_X_needsBackslash_38
    · have h := iteN c_20 h
      refine lv_iload_n hx hb d_X_needsBackslash_23 rfl (lv_at hl 0 rfl) ?_
      refine lv_bipush (v := (35 : Int32)) hx hb d_X_needsBackslash_24 (by decide) ?_
      refine lv_icmp_ne (tgt := 37) hx hb d_X_needsBackslash_26 (by decide) (fun c_26 => ?_) (fun c_26 => ?_)
      · have h := iteN c_26 h
        refine lv_iconst (v := (0 : Int32)) hx hb d_X_needsBackslash_37 (by decide) ?_
        obtain rfl := Option.some.inj h
        exact rI (v := (0 : Int32)) C0 rfl hK hP hD hS d_X_needsBackslash_38
      · have h := iteP c_26 h
        refine lv_iload_n hx hb d_X_needsBackslash_29 rfl (lv_at hl 2 rfl) ?_
        refine lv_if_ne (tgt := 37) hx hb d_X_needsBackslash_30 (by decide) (fun c_30 => ?_) (fun c_30 => ?_)
        · have h := iteN c_30 h
          refine lv_iconst (v := (0 : Int32)) hx hb d_X_needsBackslash_37 (by decide) ?_
          obtain rfl := Option.some.inj h
          exact rI (v := (0 : Int32)) C0 rfl hK hP hD hS d_X_needsBackslash_38
        · have h := iteP c_30 h
          refine lv_iconst (v := (1 : Int32)) hx hb d_X_needsBackslash_33 (by decide) ?_
          refine lv_goto (tgt := 38) hx hb d_X_needsBackslash_34 (by decide) ?_
          obtain rfl := Option.some.inj h
          exact rI (v := (1 : Int32)) C0 rfl hK hP hD hS d_X_needsBackslash_38
theorem c_X_needsBackslash (l : Launch) (D : va_G) (cA : ClassId) (zz : zT) (N : Nat) (h_p0 : Nat) (h_p0_bytes : Nat) (size_p0 : Int32) (a_p0_bytes : Nat → Int32) (x1 : Int32) (res : Int32) (h : p_X_needsBackslash N size_p0 a_p0_bytes x1 = some res) : MI l D cA zz y_X_needsBackslash b_X_needsBackslash 3 .boolean rm_X_needsBackslash [.ref h_p0, .int x1] [(h_p0, .inr (0, [.ref h_p0_bytes, .int size_p0])), (h_p0_bytes, .inl (cA, 1024, .inl a_p0_bytes))] (res) [(h_p0, .inr (0, [.ref h_p0_bytes, .int size_p0])), (h_p0_bytes, .inl (cA, 1024, .inl a_p0_bytes))] := by
  unfold p_X_needsBackslash at h
  exact MI_enter (by decide) (Nat.le_of_ble_eq_true rfl) (fun p e s m below meth c A ls C0 hK hA hZ hP hD hl => t_X_needsBackslash_0 C0 hK hA hZ N h_p0 h_p0_bytes size_p0 a_p0_bytes res _ h s.heap [] hP hD va_S.rf ls hl)
-- ListWords.canStandBare(LListWords$Row;)Z
set_option maxHeartbeats 4000000 in
set_option maxRecDepth 100000 in
theorem t_X_canStandBare_2 {p : Program} {l : Launch} {e : Env} {s : State} {m : MethodId} {args : Array Value} {below : List Frame} {meth : Method} {c : Code} {D : va_G} {cA : ClassId} {zz : zT} {A : Nat → Prop} (C0 : Cx p s m args meth c b_X_canStandBare R_X 2 (some .boolean)) (hK : va_K D classes [(cA, .int)] s) (hA : ∀ q : Nat, s.heap.size ≤ q → A q) (hZ : ZS zz A s s.heap) (N : Nat) (h_p0 : Nat) (h_p0_bytes : Nat) (size_p0 : Int32) (a_p0_bytes : Nat → Int32) (res : Int32) :
    ∀ (n : Nat), ∀ (x1 : Int32), p_X_canStandBare_2 N size_p0 a_p0_bytes n x1 = some res → ∀ (H : Heap) (locs : List Loc), va_P D classes [(h_p0, .inr (0, [.ref h_p0_bytes, .int size_p0])), (h_p0_bytes, .inl (cA, 1024, .inl a_p0_bytes))] H → va_D A [(h_p0, .inr (0, [.ref h_p0_bytes, .int size_p0])), (h_p0_bytes, .inl (cA, 1024, .inl a_p0_bytes))] → va_S A s.heap H locs → ∀ (ls : Array Slot), lv_has ls 2 [(0, .ref h_p0), (1, .int x1)] → W p l e rm_X_canStandBare s m args below meth c H locs 0 0 (QI .boolean below args s D cA A (res) [(h_p0, .inr (0, [.ref h_p0_bytes, .int size_p0])), (h_p0_bytes, .inl (cA, 1024, .inl a_p0_bytes))]) (F0 m 2 ls []) := by
  obtain ⟨hx, hb, hr, hml, hown, hG, hlk⟩ := id C0
  intro n
  induction n with
  | zero =>
    intro x1 h H locs hP hD hS ls hl
    exact absurd h (by simp [p_X_canStandBare_2])
  | succ n ih =>
    intro x1 h H locs hP hD hS ls hl
    rw [p_X_canStandBare_2] at h
    refine lv_iload_n hx hb d_X_canStandBare_2 rfl (lv_at hl 1 rfl) ?_
    refine lv_aload_n hx hb d_X_canStandBare_3 rfl (lv_at hl 0 rfl) ?_
    obtain ⟨r_4, h_4, h⟩ := bindS h
    refine call_vi (wr := [(h_p0_bytes, .inl (cA, 1024, .inl a_p0_bytes))]) (w1 := [(h_p0, .inr (0, [.ref h_p0_bytes, .int size_p0]))]) (wN := [(h_p0, .inr (0, [.ref h_p0_bytes, .int size_p0])), (h_p0_bytes, .inl (cA, 1024, .inl a_p0_bytes))]) (rest := [.int x1]) C0 hK hP hD hS hA hZ (c_R_size l D cA zz N h_p0 h_p0_bytes size_p0 r_4 h_4) [0] [1] [1, 0] rfl rfl rfl rfl (by decide) rfl rfl 0 0 rfl rfl m_X_32 ⟨Nat.le_of_ble_eq_true rfl, Nat.le_of_ble_eq_true rfl⟩ ⟨rfl, rfl⟩ rfl hl.1 rfl (Nat.le_of_ble_eq_true rfl) ⟨Nat.le_of_ble_eq_true rfl, Nat.le_of_ble_eq_true rfl⟩ d_X_canStandBare_4 (fun b_4 H locs hP hD hS => ?_)
    refine lv_icmp_ge (tgt := 26) hx hb d_X_canStandBare_7 (by decide) (fun c_7 => ?_) (fun c_7 => ?_)
    · have h := iteP c_7 h
      refine lv_aload_n hx hb d_X_canStandBare_26 rfl (lv_at hl 0 rfl) ?_
      obtain ⟨r_27, h_27, h⟩ := bindS h
      refine call_vi (wr := [(h_p0_bytes, .inl (cA, 1024, .inl a_p0_bytes))]) (w1 := [(h_p0, .inr (0, [.ref h_p0_bytes, .int size_p0]))]) (wN := [(h_p0, .inr (0, [.ref h_p0_bytes, .int size_p0])), (h_p0_bytes, .inl (cA, 1024, .inl a_p0_bytes))]) (rest := []) C0 hK hP hD hS hA hZ (c_R_size l D cA zz N h_p0 h_p0_bytes size_p0 r_27 h_27) [0] [1] [1, 0] rfl rfl rfl rfl (by decide) rfl rfl 0 0 rfl rfl m_X_32 ⟨Nat.le_of_ble_eq_true rfl, Nat.le_of_ble_eq_true rfl⟩ ⟨rfl, rfl⟩ rfl hl.1 rfl (Nat.le_of_ble_eq_true rfl) ⟨Nat.le_of_ble_eq_true rfl, Nat.le_of_ble_eq_true rfl⟩ d_X_canStandBare_27 (fun b_27 H locs hP hD hS => ?_)
      refine lv_if_le (tgt := 37) hx hb d_X_canStandBare_30 (by decide) (fun c_30 => ?_) (fun c_30 => ?_)
      · have h := iteP c_30 h
        refine lv_iconst (v := (0 : Int32)) hx hb d_X_canStandBare_37 (by decide) ?_
        obtain rfl := Option.some.inj h
        exact rI (v := (0 : Int32)) C0 rfl hK hP hD hS d_X_canStandBare_38
      · have h := iteN c_30 h
        refine lv_iconst (v := (1 : Int32)) hx hb d_X_canStandBare_33 (by decide) ?_
        refine lv_goto (tgt := 38) hx hb d_X_canStandBare_34 (by decide) ?_
        obtain rfl := Option.some.inj h
        exact rI (v := (1 : Int32)) C0 rfl hK hP hD hS d_X_canStandBare_38
    · have h := iteN c_7 h
      refine lv_aload_n hx hb d_X_canStandBare_10 rfl (lv_at hl 0 rfl) ?_
      refine lv_iload_n hx hb d_X_canStandBare_11 rfl (lv_at hl 1 rfl) ?_
      obtain ⟨r_12, h_12, h⟩ := bindS h
      refine call_si (wr := []) (w1 := [(h_p0, .inr (0, [.ref h_p0_bytes, .int size_p0])), (h_p0_bytes, .inl (cA, 1024, .inl a_p0_bytes))]) (wN := [(h_p0, .inr (0, [.ref h_p0_bytes, .int size_p0])), (h_p0_bytes, .inl (cA, 1024, .inl a_p0_bytes))]) (rest := []) C0 hK hP hD hS hA hZ (c_X_needsBackslash l D cA zz N h_p0 h_p0_bytes size_p0 a_p0_bytes x1 r_12 h_12) [0, 1] [] [0, 1] rfl rfl rfl rfl (by decide) rfl rfl m_X_129 ⟨Nat.le_of_ble_eq_true rfl, Nat.le_of_ble_eq_true rfl⟩ ⟨rfl, rfl⟩ rfl hl.1 rfl (Nat.le_of_ble_eq_true rfl) ⟨Nat.le_of_ble_eq_true rfl, Nat.le_of_ble_eq_true rfl⟩ d_X_canStandBare_12 (fun b_12 H locs hP hD hS => ?_)
      refine lv_if_eq (tgt := 20) hx hb d_X_canStandBare_15 (by decide) (fun c_15 => ?_) (fun c_15 => ?_)
      · have h := iteP c_15 h
        refine lv_iinc (v := (x1 + (1 : Int32))) (lv' := [(1, .int (x1 + (1 : Int32))), (0, .ref h_p0)]) hx hb d_X_canStandBare_20 hl (k := 1) rfl rfl (by decide) rfl (fun ls hl => ?_)
        refine lv_goto (tgt := 2) hx hb d_X_canStandBare_23 (by decide) ?_
        exact ih _ h H locs hP hD hS ls (lv_sub hl [1, 0] rfl)
      · have h := iteN c_15 h
        refine lv_iconst (v := (0 : Int32)) hx hb d_X_canStandBare_18 (by decide) ?_
        obtain rfl := Option.some.inj h
        exact rI (v := (0 : Int32)) C0 rfl hK hP hD hS d_X_canStandBare_19
set_option maxHeartbeats 4000000 in
set_option maxRecDepth 100000 in
theorem t_X_canStandBare_0 {p : Program} {l : Launch} {e : Env} {s : State} {m : MethodId} {args : Array Value} {below : List Frame} {meth : Method} {c : Code} {D : va_G} {cA : ClassId} {zz : zT} {A : Nat → Prop} (C0 : Cx p s m args meth c b_X_canStandBare R_X 2 (some .boolean)) (hK : va_K D classes [(cA, .int)] s) (hA : ∀ q : Nat, s.heap.size ≤ q → A q) (hZ : ZS zz A s s.heap) (N : Nat) (h_p0 : Nat) (h_p0_bytes : Nat) (size_p0 : Int32) (a_p0_bytes : Nat → Int32) (res : Int32) :
    p_X_canStandBare_0 N size_p0 a_p0_bytes = some res → ∀ (H : Heap) (locs : List Loc), va_P D classes [(h_p0, .inr (0, [.ref h_p0_bytes, .int size_p0])), (h_p0_bytes, .inl (cA, 1024, .inl a_p0_bytes))] H → va_D A [(h_p0, .inr (0, [.ref h_p0_bytes, .int size_p0])), (h_p0_bytes, .inl (cA, 1024, .inl a_p0_bytes))] → va_S A s.heap H locs → ∀ (ls : Array Slot), lv_has ls 2 [(0, .ref h_p0)] → W p l e rm_X_canStandBare s m args below meth c H locs 0 0 (QI .boolean below args s D cA A (res) [(h_p0, .inr (0, [.ref h_p0_bytes, .int size_p0])), (h_p0_bytes, .inl (cA, 1024, .inl a_p0_bytes))]) (F0 m 0 ls []) := by
  obtain ⟨hx, hb, hr, hml, hown, hG, hlk⟩ := id C0
  intro h H locs hP hD hS ls hl
  unfold p_X_canStandBare_0 at h
  refine lv_iconst (v := (0 : Int32)) hx hb d_X_canStandBare_0 (by decide) ?_
  refine lv_istore_n (lv' := [(1, .int (0 : Int32)), (0, .ref h_p0)]) hx hb d_X_canStandBare_1 rfl hl (by decide) rfl (fun ls hl => ?_)
  exact t_X_canStandBare_2 C0 hK hA hZ N h_p0 h_p0_bytes size_p0 a_p0_bytes res N _ h H locs hP hD hS ls (lv_sub hl [1, 0] rfl)
theorem c_X_canStandBare (l : Launch) (D : va_G) (cA : ClassId) (zz : zT) (N : Nat) (h_p0 : Nat) (h_p0_bytes : Nat) (size_p0 : Int32) (a_p0_bytes : Nat → Int32) (res : Int32) (h : p_X_canStandBare N size_p0 a_p0_bytes = some res) : MI l D cA zz y_X_canStandBare b_X_canStandBare 2 .boolean rm_X_canStandBare [.ref h_p0] [(h_p0, .inr (0, [.ref h_p0_bytes, .int size_p0])), (h_p0_bytes, .inl (cA, 1024, .inl a_p0_bytes))] (res) [(h_p0, .inr (0, [.ref h_p0_bytes, .int size_p0])), (h_p0_bytes, .inl (cA, 1024, .inl a_p0_bytes))] := by
  unfold p_X_canStandBare at h
  exact MI_enter (by decide) (Nat.le_of_ble_eq_true rfl) (fun p e s m below meth c A ls C0 hK hA hZ hP hD hl => t_X_canStandBare_0 C0 hK hA hZ N h_p0 h_p0_bytes size_p0 a_p0_bytes res h s.heap [] hP hD va_S.rf ls hl)
-- ListWords.canStandInBraces(LListWords$Row;)Z
set_option maxHeartbeats 4000000 in
set_option maxRecDepth 100000 in
theorem t_X_canStandInBraces_39 {p : Program} {l : Launch} {e : Env} {s : State} {m : MethodId} {args : Array Value} {below : List Frame} {meth : Method} {c : Code} {D : va_G} {cA : ClassId} {zz : zT} {A : Nat → Prop} (C0 : Cx p s m args meth c b_X_canStandInBraces R_X 4 (some .boolean)) (hK : va_K D classes [(cA, .int)] s) (hA : ∀ q : Nat, s.heap.size ≤ q → A q) (hZ : ZS zz A s s.heap) (N : Nat) (h_p0 : Nat) (h_p0_bytes : Nat) (size_p0 : Int32) (a_p0_bytes : Nat → Int32) (res : Int32)
    (k_4 : Int32 → Int32 → Option (Int32)) (hk_4 : ∀ (x1 : Int32) (x2 : Int32), k_4 x1 x2 = some res → ∀ (H : Heap) (locs : List Loc), va_P D classes [(h_p0, .inr (0, [.ref h_p0_bytes, .int size_p0])), (h_p0_bytes, .inl (cA, 1024, .inl a_p0_bytes))] H → va_D A [(h_p0, .inr (0, [.ref h_p0_bytes, .int size_p0])), (h_p0_bytes, .inl (cA, 1024, .inl a_p0_bytes))] → va_S A s.heap H locs → ∀ (ls : Array Slot), lv_has ls 4 [(0, .ref h_p0), (1, .int x1), (2, .int x2)] → W p l e rm_X_canStandInBraces s m args below meth c H locs 0 0 (QI .boolean below args s D cA A (res) [(h_p0, .inr (0, [.ref h_p0_bytes, .int size_p0])), (h_p0_bytes, .inl (cA, 1024, .inl a_p0_bytes))]) (F0 m 4 ls [])) :
    ∀ (x1 : Int32) (x2 : Int32) (x3 : Int32), p_X_canStandInBraces_39 N size_p0 a_p0_bytes k_4 x1 x2 x3 = some res → ∀ (H : Heap) (locs : List Loc), va_P D classes [(h_p0, .inr (0, [.ref h_p0_bytes, .int size_p0])), (h_p0_bytes, .inl (cA, 1024, .inl a_p0_bytes))] H → va_D A [(h_p0, .inr (0, [.ref h_p0_bytes, .int size_p0])), (h_p0_bytes, .inl (cA, 1024, .inl a_p0_bytes))] → va_S A s.heap H locs → ∀ (ls : Array Slot), lv_has ls 4 [(0, .ref h_p0), (1, .int x1), (2, .int x2), (3, .int x3)] → W p l e rm_X_canStandInBraces s m args below meth c H locs 0 0 (QI .boolean below args s D cA A (res) [(h_p0, .inr (0, [.ref h_p0_bytes, .int size_p0])), (h_p0_bytes, .inl (cA, 1024, .inl a_p0_bytes))]) (F0 m 39 ls []) := by
  obtain ⟨hx, hb, hr, hml, hown, hG, hlk⟩ := id C0
  intro x1 x2 x3 h H locs hP hD hS ls hl
  unfold p_X_canStandInBraces_39 at h
  refine lv_iload_n hx hb d_X_canStandInBraces_39 rfl (lv_at hl 3 rfl) ?_
  refine lv_bipush (v := (92 : Int32)) hx hb d_X_canStandInBraces_40 (by decide) ?_
  refine lv_icmp_eq (tgt := 49) hx hb d_X_canStandInBraces_42 (by decide) (fun c_42 => ?_) (fun c_42 => ?_)
  · have h := iteP c_42 h
    refine lv_iconst (v := (0 : Int32)) hx hb d_X_canStandInBraces_49 (by decide) ?_
    obtain rfl := Option.some.inj h
    exact rI (v := (0 : Int32)) C0 rfl hK hP hD hS d_X_canStandInBraces_50
  · have h := iteN c_42 h
    refine lv_iload_n hx hb d_X_canStandInBraces_45 rfl (lv_at hl 1 rfl) ?_
    refine lv_if_ge (tgt := 51) hx hb d_X_canStandInBraces_46 (by decide) (fun c_46 => ?_) (fun c_46 => ?_)
    · have h := iteP c_46 h
      refine lv_iinc (v := (x2 + (1 : Int32))) (lv' := [(2, .int (x2 + (1 : Int32))), (0, .ref h_p0), (1, .int x1), (3, .int x3)]) hx hb d_X_canStandInBraces_51 hl (k := 2) rfl rfl (by decide) rfl (fun ls hl => ?_)
      refine lv_goto (tgt := 4) hx hb d_X_canStandInBraces_54 (by decide) ?_
      exact hk_4 _ _ h H locs hP hD hS ls (lv_sub hl [1, 2, 0] rfl)
    · have h := iteN c_46 h
      refine lv_iconst (v := (0 : Int32)) hx hb d_X_canStandInBraces_49 (by decide) ?_
      obtain rfl := Option.some.inj h
      exact rI (v := (0 : Int32)) C0 rfl hK hP hD hS d_X_canStandInBraces_50
set_option maxHeartbeats 4000000 in
set_option maxRecDepth 100000 in
theorem t_X_canStandInBraces_4 {p : Program} {l : Launch} {e : Env} {s : State} {m : MethodId} {args : Array Value} {below : List Frame} {meth : Method} {c : Code} {D : va_G} {cA : ClassId} {zz : zT} {A : Nat → Prop} (C0 : Cx p s m args meth c b_X_canStandInBraces R_X 4 (some .boolean)) (hK : va_K D classes [(cA, .int)] s) (hA : ∀ q : Nat, s.heap.size ≤ q → A q) (hZ : ZS zz A s s.heap) (N : Nat) (h_p0 : Nat) (h_p0_bytes : Nat) (size_p0 : Int32) (a_p0_bytes : Nat → Int32) (res : Int32) :
    ∀ (n : Nat), ∀ (x1 : Int32) (x2 : Int32), p_X_canStandInBraces_4 N size_p0 a_p0_bytes n x1 x2 = some res → ∀ (H : Heap) (locs : List Loc), va_P D classes [(h_p0, .inr (0, [.ref h_p0_bytes, .int size_p0])), (h_p0_bytes, .inl (cA, 1024, .inl a_p0_bytes))] H → va_D A [(h_p0, .inr (0, [.ref h_p0_bytes, .int size_p0])), (h_p0_bytes, .inl (cA, 1024, .inl a_p0_bytes))] → va_S A s.heap H locs → ∀ (ls : Array Slot), lv_has ls 4 [(0, .ref h_p0), (1, .int x1), (2, .int x2)] → W p l e rm_X_canStandInBraces s m args below meth c H locs 0 0 (QI .boolean below args s D cA A (res) [(h_p0, .inr (0, [.ref h_p0_bytes, .int size_p0])), (h_p0_bytes, .inl (cA, 1024, .inl a_p0_bytes))]) (F0 m 4 ls []) := by
  obtain ⟨hx, hb, hr, hml, hown, hG, hlk⟩ := id C0
  intro n
  induction n with
  | zero =>
    intro x1 x2 h H locs hP hD hS ls hl
    exact absurd h (by simp [p_X_canStandInBraces_4])
  | succ n ih =>
    intro x1 x2 h H locs hP hD hS ls hl
    rw [p_X_canStandInBraces_4] at h
    refine lv_iload_n hx hb d_X_canStandInBraces_4 rfl (lv_at hl 2 rfl) ?_
    refine lv_aload_n hx hb d_X_canStandInBraces_5 rfl (lv_at hl 0 rfl) ?_
    obtain ⟨r_6, h_6, h⟩ := bindS h
    refine call_vi (wr := [(h_p0_bytes, .inl (cA, 1024, .inl a_p0_bytes))]) (w1 := [(h_p0, .inr (0, [.ref h_p0_bytes, .int size_p0]))]) (wN := [(h_p0, .inr (0, [.ref h_p0_bytes, .int size_p0])), (h_p0_bytes, .inl (cA, 1024, .inl a_p0_bytes))]) (rest := [.int x2]) C0 hK hP hD hS hA hZ (c_R_size l D cA zz N h_p0 h_p0_bytes size_p0 r_6 h_6) [0] [1] [1, 0] rfl rfl rfl rfl (by decide) rfl rfl 0 0 rfl rfl m_X_32 ⟨Nat.le_of_ble_eq_true rfl, Nat.le_of_ble_eq_true rfl⟩ ⟨rfl, rfl⟩ rfl hl.1 rfl (Nat.le_of_ble_eq_true rfl) ⟨Nat.le_of_ble_eq_true rfl, Nat.le_of_ble_eq_true rfl⟩ d_X_canStandInBraces_6 (fun b_6 H locs hP hD hS => ?_)
    refine lv_icmp_ge (tgt := 57) hx hb d_X_canStandInBraces_9 (by decide) (fun c_9 => ?_) (fun c_9 => ?_)
    · have h := iteP c_9 h
      refine lv_iload_n hx hb d_X_canStandInBraces_57 rfl (lv_at hl 1 rfl) ?_
      refine lv_if_ne (tgt := 65) hx hb d_X_canStandInBraces_58 (by decide) (fun c_58 => ?_) (fun c_58 => ?_)
      · have h := iteN c_58 h
        refine lv_iconst (v := (0 : Int32)) hx hb d_X_canStandInBraces_65 (by decide) ?_
        obtain rfl := Option.some.inj h
        exact rI (v := (0 : Int32)) C0 rfl hK hP hD hS d_X_canStandInBraces_66
      · have h := iteP c_58 h
        refine lv_iconst (v := (1 : Int32)) hx hb d_X_canStandInBraces_61 (by decide) ?_
        refine lv_goto (tgt := 66) hx hb d_X_canStandInBraces_62 (by decide) ?_
        obtain rfl := Option.some.inj h
        exact rI (v := (1 : Int32)) C0 rfl hK hP hD hS d_X_canStandInBraces_66
    · have h := iteN c_9 h
      refine lv_aload_n hx hb d_X_canStandInBraces_12 rfl (lv_at hl 0 rfl) ?_
      refine lv_iload_n hx hb d_X_canStandInBraces_13 rfl (lv_at hl 2 rfl) ?_
      obtain ⟨r_14, h_14, h⟩ := bindS h
      refine call_vi (wr := []) (w1 := [(h_p0, .inr (0, [.ref h_p0_bytes, .int size_p0])), (h_p0_bytes, .inl (cA, 1024, .inl a_p0_bytes))]) (wN := [(h_p0, .inr (0, [.ref h_p0_bytes, .int size_p0])), (h_p0_bytes, .inl (cA, 1024, .inl a_p0_bytes))]) (rest := []) C0 hK hP hD hS hA hZ (c_R_byteAt l D cA zz N h_p0 h_p0_bytes size_p0 a_p0_bytes x2 r_14 h_14) [0, 1] [] [0, 1] rfl rfl rfl rfl (by decide) rfl rfl 0 0 rfl rfl m_X_58 ⟨Nat.le_of_ble_eq_true rfl, Nat.le_of_ble_eq_true rfl⟩ ⟨rfl, rfl⟩ rfl hl.1 rfl (Nat.le_of_ble_eq_true rfl) ⟨Nat.le_of_ble_eq_true rfl, Nat.le_of_ble_eq_true rfl⟩ d_X_canStandInBraces_14 (fun b_14 H locs hP hD hS => ?_)
      refine lv_istore_n (lv' := [(3, .int r_14), (0, .ref h_p0), (1, .int x1), (2, .int x2)]) hx hb d_X_canStandInBraces_17 rfl hl (by decide) rfl (fun ls hl => ?_)
      refine lv_iload_n hx hb d_X_canStandInBraces_18 rfl (lv_at hl 0 rfl) ?_
      refine lv_bipush (v := (123 : Int32)) hx hb d_X_canStandInBraces_19 (by decide) ?_
      refine lv_icmp_ne (tgt := 30) hx hb d_X_canStandInBraces_21 (by decide) (fun c_21 => ?_) (fun c_21 => ?_)
      · have h := iteN c_21 h
        refine lv_iload_n hx hb d_X_canStandInBraces_30 rfl (lv_at hl 0 rfl) ?_
        refine lv_bipush (v := (125 : Int32)) hx hb d_X_canStandInBraces_31 (by decide) ?_
        refine lv_icmp_ne (tgt := 39) hx hb d_X_canStandInBraces_33 (by decide) (fun c_33 => ?_) (fun c_33 => ?_)
        · have h := iteN c_33 h
          exact t_X_canStandInBraces_39 C0 hK hA hZ N h_p0 h_p0_bytes size_p0 a_p0_bytes res (p_X_canStandInBraces_4 N size_p0 a_p0_bytes n) ih _ _ _ h H locs hP hD hS ls (lv_sub hl [1, 2, 3, 0] rfl)
        · have h := iteP c_33 h
          refine lv_iinc (v := (x1 + (-1 : Int32))) (lv' := [(1, .int (x1 + (-1 : Int32))), (3, .int r_14), (0, .ref h_p0), (2, .int x2)]) hx hb d_X_canStandInBraces_36 hl (k := 2) rfl rfl (by decide) rfl (fun ls hl => ?_)
          exact t_X_canStandInBraces_39 C0 hK hA hZ N h_p0 h_p0_bytes size_p0 a_p0_bytes res (p_X_canStandInBraces_4 N size_p0 a_p0_bytes n) ih _ _ _ h H locs hP hD hS ls (lv_sub hl [2, 0, 3, 1] rfl)
      · have h := iteP c_21 h
        refine lv_iinc (v := (x1 + (1 : Int32))) (lv' := [(1, .int (x1 + (1 : Int32))), (3, .int r_14), (0, .ref h_p0), (2, .int x2)]) hx hb d_X_canStandInBraces_24 hl (k := 2) rfl rfl (by decide) rfl (fun ls hl => ?_)
        refine lv_goto (tgt := 39) hx hb d_X_canStandInBraces_27 (by decide) ?_
        exact t_X_canStandInBraces_39 C0 hK hA hZ N h_p0 h_p0_bytes size_p0 a_p0_bytes res (p_X_canStandInBraces_4 N size_p0 a_p0_bytes n) ih _ _ _ h H locs hP hD hS ls (lv_sub hl [2, 0, 3, 1] rfl)
set_option maxHeartbeats 4000000 in
set_option maxRecDepth 100000 in
theorem t_X_canStandInBraces_0 {p : Program} {l : Launch} {e : Env} {s : State} {m : MethodId} {args : Array Value} {below : List Frame} {meth : Method} {c : Code} {D : va_G} {cA : ClassId} {zz : zT} {A : Nat → Prop} (C0 : Cx p s m args meth c b_X_canStandInBraces R_X 4 (some .boolean)) (hK : va_K D classes [(cA, .int)] s) (hA : ∀ q : Nat, s.heap.size ≤ q → A q) (hZ : ZS zz A s s.heap) (N : Nat) (h_p0 : Nat) (h_p0_bytes : Nat) (size_p0 : Int32) (a_p0_bytes : Nat → Int32) (res : Int32) :
    p_X_canStandInBraces_0 N size_p0 a_p0_bytes = some res → ∀ (H : Heap) (locs : List Loc), va_P D classes [(h_p0, .inr (0, [.ref h_p0_bytes, .int size_p0])), (h_p0_bytes, .inl (cA, 1024, .inl a_p0_bytes))] H → va_D A [(h_p0, .inr (0, [.ref h_p0_bytes, .int size_p0])), (h_p0_bytes, .inl (cA, 1024, .inl a_p0_bytes))] → va_S A s.heap H locs → ∀ (ls : Array Slot), lv_has ls 4 [(0, .ref h_p0)] → W p l e rm_X_canStandInBraces s m args below meth c H locs 0 0 (QI .boolean below args s D cA A (res) [(h_p0, .inr (0, [.ref h_p0_bytes, .int size_p0])), (h_p0_bytes, .inl (cA, 1024, .inl a_p0_bytes))]) (F0 m 0 ls []) := by
  obtain ⟨hx, hb, hr, hml, hown, hG, hlk⟩ := id C0
  intro h H locs hP hD hS ls hl
  unfold p_X_canStandInBraces_0 at h
  refine lv_iconst (v := (0 : Int32)) hx hb d_X_canStandInBraces_0 (by decide) ?_
  refine lv_istore_n (lv' := [(1, .int (0 : Int32)), (0, .ref h_p0)]) hx hb d_X_canStandInBraces_1 rfl hl (by decide) rfl (fun ls hl => ?_)
  refine lv_iconst (v := (0 : Int32)) hx hb d_X_canStandInBraces_2 (by decide) ?_
  refine lv_istore_n (lv' := [(2, .int (0 : Int32)), (1, .int (0 : Int32)), (0, .ref h_p0)]) hx hb d_X_canStandInBraces_3 rfl hl (by decide) rfl (fun ls hl => ?_)
  exact t_X_canStandInBraces_4 C0 hK hA hZ N h_p0 h_p0_bytes size_p0 a_p0_bytes res N _ _ h H locs hP hD hS ls (lv_sub hl [2, 1, 0] rfl)
theorem c_X_canStandInBraces (l : Launch) (D : va_G) (cA : ClassId) (zz : zT) (N : Nat) (h_p0 : Nat) (h_p0_bytes : Nat) (size_p0 : Int32) (a_p0_bytes : Nat → Int32) (res : Int32) (h : p_X_canStandInBraces N size_p0 a_p0_bytes = some res) : MI l D cA zz y_X_canStandInBraces b_X_canStandInBraces 4 .boolean rm_X_canStandInBraces [.ref h_p0] [(h_p0, .inr (0, [.ref h_p0_bytes, .int size_p0])), (h_p0_bytes, .inl (cA, 1024, .inl a_p0_bytes))] (res) [(h_p0, .inr (0, [.ref h_p0_bytes, .int size_p0])), (h_p0_bytes, .inl (cA, 1024, .inl a_p0_bytes))] := by
  unfold p_X_canStandInBraces at h
  exact MI_enter (by decide) (Nat.le_of_ble_eq_true rfl) (fun p e s m below meth c A ls C0 hK hA hZ hP hD hl => t_X_canStandInBraces_0 C0 hK hA hZ N h_p0 h_p0_bytes size_p0 a_p0_bytes res h s.heap [] hP hD va_S.rf ls hl)
-- ListWords.writeWithBackslashes(LListWords$Row;LListWords$Row;)Z
set_option maxHeartbeats 4000000 in
set_option maxRecDepth 100000 in
theorem t_X_writeWithBackslashes_56 {p : Program} {l : Launch} {e : Env} {s : State} {m : MethodId} {args : Array Value} {below : List Frame} {meth : Method} {c : Code} {D : va_G} {cA : ClassId} {zz : zT} {A : Nat → Prop} (C0 : Cx p s m args meth c b_X_writeWithBackslashes R_X 4 (some .boolean)) (hK : va_K D classes [(cA, .int)] s) (hA : ∀ q : Nat, s.heap.size ≤ q → A q) (hZ : ZS zz A s s.heap) (N : Nat) (h_p0 : Nat) (h_p0_bytes : Nat) (h_p1 : Nat) (h_p1_bytes : Nat) (size_p1 : Int32) (a_p1_bytes : Nat → Int32) (res : Int32 × Int32 × (Nat → Int32))
    (k_2 : Int32 → (Nat → Int32) → Int32 → Option (Int32 × Int32 × (Nat → Int32))) (hk_2 : ∀ (size_p0 : Int32) (a_p0_bytes : Nat → Int32) (x2 : Int32), k_2 size_p0 a_p0_bytes x2 = some res → ∀ (H : Heap) (locs : List Loc), va_P D classes [(h_p0, .inr (0, [.ref h_p0_bytes, .int size_p0])), (h_p0_bytes, .inl (cA, 1024, .inl a_p0_bytes)), (h_p1, .inr (0, [.ref h_p1_bytes, .int size_p1])), (h_p1_bytes, .inl (cA, 1024, .inl a_p1_bytes))] H → va_D A [(h_p0, .inr (0, [.ref h_p0_bytes, .int size_p0])), (h_p0_bytes, .inl (cA, 1024, .inl a_p0_bytes)), (h_p1, .inr (0, [.ref h_p1_bytes, .int size_p1])), (h_p1_bytes, .inl (cA, 1024, .inl a_p1_bytes))] → va_S A s.heap H locs → ∀ (ls : Array Slot), lv_has ls 4 [(0, .ref h_p0), (1, .ref h_p1), (2, .int x2)] → W p l e rm_X_writeWithBackslashes s m args below meth c H locs 0 0 (QI .boolean below args s D cA A (res.1) [(h_p0, .inr (0, [.ref h_p0_bytes, .int res.2.1])), (h_p0_bytes, .inl (cA, 1024, .inl res.2.2)), (h_p1, .inr (0, [.ref h_p1_bytes, .int size_p1])), (h_p1_bytes, .inl (cA, 1024, .inl a_p1_bytes))]) (F0 m 2 ls [])) :
    ∀ (size_p0 : Int32) (a_p0_bytes : Nat → Int32) (x2 : Int32) (y0 : Int32), p_X_writeWithBackslashes_56 N size_p1 a_p1_bytes k_2 size_p0 a_p0_bytes x2 y0 = some res → ∀ (H : Heap) (locs : List Loc), va_P D classes [(h_p0, .inr (0, [.ref h_p0_bytes, .int size_p0])), (h_p0_bytes, .inl (cA, 1024, .inl a_p0_bytes)), (h_p1, .inr (0, [.ref h_p1_bytes, .int size_p1])), (h_p1_bytes, .inl (cA, 1024, .inl a_p1_bytes))] H → va_D A [(h_p0, .inr (0, [.ref h_p0_bytes, .int size_p0])), (h_p0_bytes, .inl (cA, 1024, .inl a_p0_bytes)), (h_p1, .inr (0, [.ref h_p1_bytes, .int size_p1])), (h_p1_bytes, .inl (cA, 1024, .inl a_p1_bytes))] → va_S A s.heap H locs → ∀ (ls : Array Slot), lv_has ls 4 [(0, .ref h_p0), (1, .ref h_p1), (2, .int x2)] → W p l e rm_X_writeWithBackslashes s m args below meth c H locs 0 0 (QI .boolean below args s D cA A (res.1) [(h_p0, .inr (0, [.ref h_p0_bytes, .int res.2.1])), (h_p0_bytes, .inl (cA, 1024, .inl res.2.2)), (h_p1, .inr (0, [.ref h_p1_bytes, .int size_p1])), (h_p1_bytes, .inl (cA, 1024, .inl a_p1_bytes))]) (F0 m 56 ls [.int y0, .ref h_p0]) := by
  obtain ⟨hx, hb, hr, hml, hown, hG, hlk⟩ := id C0
  intro size_p0 a_p0_bytes x2 y0 h H locs hP hD hS ls hl
  unfold p_X_writeWithBackslashes_56 at h
  obtain ⟨r_56, h_56, h⟩ := bindS h
  refine call_vi (wr := [(h_p1, .inr (0, [.ref h_p1_bytes, .int size_p1])), (h_p1_bytes, .inl (cA, 1024, .inl a_p1_bytes))]) (w1 := [(h_p0, .inr (0, [.ref h_p0_bytes, .int r_56.2.1])), (h_p0_bytes, .inl (cA, 1024, .inl r_56.2.2))]) (wN := [(h_p0, .inr (0, [.ref h_p0_bytes, .int r_56.2.1])), (h_p0_bytes, .inl (cA, 1024, .inl r_56.2.2)), (h_p1, .inr (0, [.ref h_p1_bytes, .int size_p1])), (h_p1_bytes, .inl (cA, 1024, .inl a_p1_bytes))]) (rest := []) C0 hK hP hD hS hA hZ (c_R_put l D cA zz N h_p0 h_p0_bytes size_p0 a_p0_bytes y0 r_56 h_56) [0, 1] [2, 3] [2, 3, 0, 1] rfl rfl rfl rfl (by decide) rfl rfl 0 0 rfl rfl m_X_78 ⟨Nat.le_of_ble_eq_true rfl, Nat.le_of_ble_eq_true rfl⟩ ⟨rfl, rfl⟩ rfl hl.1 rfl (Nat.le_of_ble_eq_true rfl) ⟨Nat.le_of_ble_eq_true rfl, Nat.le_of_ble_eq_true rfl⟩ d_X_writeWithBackslashes_56 (fun b_56 H locs hP hD hS => ?_)
  refine lv_if_ne (tgt := 64) hx hb d_X_writeWithBackslashes_59 (by decide) (fun c_59 => ?_) (fun c_59 => ?_)
  · have h := iteN c_59 h
    refine lv_iinc (v := (x2 + (1 : Int32))) (lv' := [(2, .int (x2 + (1 : Int32))), (0, .ref h_p0), (1, .ref h_p1)]) hx hb d_X_writeWithBackslashes_64 hl (k := 2) rfl rfl (by decide) rfl (fun ls hl => ?_)
    refine lv_goto (tgt := 2) hx hb d_X_writeWithBackslashes_67 (by decide) ?_
    exact hk_2 _ _ _ h H locs hP hD hS ls (lv_sub hl [1, 2, 0] rfl)
  · have h := iteP c_59 h
    refine lv_iconst (v := (0 : Int32)) hx hb d_X_writeWithBackslashes_62 (by decide) ?_
    obtain rfl := Option.some.inj h
    exact rI (v := (0 : Int32)) C0 rfl hK hP hD hS d_X_writeWithBackslashes_63
set_option maxHeartbeats 4000000 in
set_option maxRecDepth 100000 in
theorem t_X_writeWithBackslashes_35 {p : Program} {l : Launch} {e : Env} {s : State} {m : MethodId} {args : Array Value} {below : List Frame} {meth : Method} {c : Code} {D : va_G} {cA : ClassId} {zz : zT} {A : Nat → Prop} (C0 : Cx p s m args meth c b_X_writeWithBackslashes R_X 4 (some .boolean)) (hK : va_K D classes [(cA, .int)] s) (hA : ∀ q : Nat, s.heap.size ≤ q → A q) (hZ : ZS zz A s s.heap) (N : Nat) (h_p0 : Nat) (h_p0_bytes : Nat) (h_p1 : Nat) (h_p1_bytes : Nat) (size_p1 : Int32) (a_p1_bytes : Nat → Int32) (res : Int32 × Int32 × (Nat → Int32))
    (k_2 : Int32 → (Nat → Int32) → Int32 → Option (Int32 × Int32 × (Nat → Int32))) (hk_2 : ∀ (size_p0 : Int32) (a_p0_bytes : Nat → Int32) (x2 : Int32), k_2 size_p0 a_p0_bytes x2 = some res → ∀ (H : Heap) (locs : List Loc), va_P D classes [(h_p0, .inr (0, [.ref h_p0_bytes, .int size_p0])), (h_p0_bytes, .inl (cA, 1024, .inl a_p0_bytes)), (h_p1, .inr (0, [.ref h_p1_bytes, .int size_p1])), (h_p1_bytes, .inl (cA, 1024, .inl a_p1_bytes))] H → va_D A [(h_p0, .inr (0, [.ref h_p0_bytes, .int size_p0])), (h_p0_bytes, .inl (cA, 1024, .inl a_p0_bytes)), (h_p1, .inr (0, [.ref h_p1_bytes, .int size_p1])), (h_p1_bytes, .inl (cA, 1024, .inl a_p1_bytes))] → va_S A s.heap H locs → ∀ (ls : Array Slot), lv_has ls 4 [(0, .ref h_p0), (1, .ref h_p1), (2, .int x2)] → W p l e rm_X_writeWithBackslashes s m args below meth c H locs 0 0 (QI .boolean below args s D cA A (res.1) [(h_p0, .inr (0, [.ref h_p0_bytes, .int res.2.1])), (h_p0_bytes, .inl (cA, 1024, .inl res.2.2)), (h_p1, .inr (0, [.ref h_p1_bytes, .int size_p1])), (h_p1_bytes, .inl (cA, 1024, .inl a_p1_bytes))]) (F0 m 2 ls [])) :
    ∀ (size_p0 : Int32) (a_p0_bytes : Nat → Int32) (x2 : Int32) (x3 : Int32), p_X_writeWithBackslashes_35 N size_p1 a_p1_bytes k_2 size_p0 a_p0_bytes x2 x3 = some res → ∀ (H : Heap) (locs : List Loc), va_P D classes [(h_p0, .inr (0, [.ref h_p0_bytes, .int size_p0])), (h_p0_bytes, .inl (cA, 1024, .inl a_p0_bytes)), (h_p1, .inr (0, [.ref h_p1_bytes, .int size_p1])), (h_p1_bytes, .inl (cA, 1024, .inl a_p1_bytes))] H → va_D A [(h_p0, .inr (0, [.ref h_p0_bytes, .int size_p0])), (h_p0_bytes, .inl (cA, 1024, .inl a_p0_bytes)), (h_p1, .inr (0, [.ref h_p1_bytes, .int size_p1])), (h_p1_bytes, .inl (cA, 1024, .inl a_p1_bytes))] → va_S A s.heap H locs → ∀ (ls : Array Slot), lv_has ls 4 [(0, .ref h_p0), (1, .ref h_p1), (2, .int x2), (3, .int x3)] → W p l e rm_X_writeWithBackslashes s m args below meth c H locs 0 0 (QI .boolean below args s D cA A (res.1) [(h_p0, .inr (0, [.ref h_p0_bytes, .int res.2.1])), (h_p0_bytes, .inl (cA, 1024, .inl res.2.2)), (h_p1, .inr (0, [.ref h_p1_bytes, .int size_p1])), (h_p1_bytes, .inl (cA, 1024, .inl a_p1_bytes))]) (F0 m 35 ls []) := by
  obtain ⟨hx, hb, hr, hml, hown, hG, hlk⟩ := id C0
  intro size_p0 a_p0_bytes x2 x3 h H locs hP hD hS ls hl
  unfold p_X_writeWithBackslashes_35 at h
  refine lv_aload_n hx hb d_X_writeWithBackslashes_35 rfl (lv_at hl 0 rfl) ?_
  refine lv_iload_n hx hb d_X_writeWithBackslashes_36 rfl (lv_at hl 3 rfl) ?_
  obtain ⟨r_37, h_37, h⟩ := bindS h
  refine call_si (wr := [(h_p0, .inr (0, [.ref h_p0_bytes, .int size_p0])), (h_p0_bytes, .inl (cA, 1024, .inl a_p0_bytes)), (h_p1, .inr (0, [.ref h_p1_bytes, .int size_p1])), (h_p1_bytes, .inl (cA, 1024, .inl a_p1_bytes))]) (w1 := []) (wN := [(h_p0, .inr (0, [.ref h_p0_bytes, .int size_p0])), (h_p0_bytes, .inl (cA, 1024, .inl a_p0_bytes)), (h_p1, .inr (0, [.ref h_p1_bytes, .int size_p1])), (h_p1_bytes, .inl (cA, 1024, .inl a_p1_bytes))]) (rest := [.ref h_p0]) C0 hK hP hD hS hA hZ (c_X_isNamedSpace l D cA zz N x3 r_37 h_37) [] [0, 1, 2, 3] [0, 1, 2, 3] rfl rfl rfl rfl (by decide) rfl rfl m_X_113 ⟨Nat.le_of_ble_eq_true rfl, Nat.le_of_ble_eq_true rfl⟩ ⟨rfl, rfl⟩ rfl hl.1 rfl (Nat.le_of_ble_eq_true rfl) ⟨Nat.le_of_ble_eq_true rfl, Nat.le_of_ble_eq_true rfl⟩ d_X_writeWithBackslashes_37 (fun b_37 H locs hP hD hS => ?_)
  refine lv_if_eq (tgt := 55) hx hb d_X_writeWithBackslashes_40 (by decide) (fun c_40 => ?_) (fun c_40 => ?_)
  · have h := iteP c_40 h
    refine lv_iload_n hx hb d_X_writeWithBackslashes_55 rfl (lv_at hl 3 rfl) ?_
    exact t_X_writeWithBackslashes_56 C0 hK hA hZ N h_p0 h_p0_bytes h_p1 h_p1_bytes size_p1 a_p1_bytes res k_2 hk_2 _ _ _ _ h H locs hP hD hS ls (lv_sub hl [0, 1, 2] rfl)
  · have h := iteN c_40 h
    refine va_ldcS (q := zz.1 0) hx hb hown (ZS_ldc0 hZ) d_X_writeWithBackslashes_43 ?_
    refine lv_iload_n hx hb d_X_writeWithBackslashes_45 rfl (lv_at hl 3 rfl) ?_
    refine lv_bipush (v := (7 : Int32)) hx hb d_X_writeWithBackslashes_46 (by decide) ?_
    refine lv_isub hx hb d_X_writeWithBackslashes_48 ?_
    obtain ⟨r_49, h_49, h⟩ := bindS h
    refine call_ki (wr := [(h_p0, .inr (0, [.ref h_p0_bytes, .int size_p0])), (h_p0_bytes, .inl (cA, 1024, .inl a_p0_bytes)), (h_p1, .inr (0, [.ref h_p1_bytes, .int size_p1])), (h_p1_bytes, .inl (cA, 1024, .inl a_p1_bytes))]) (w1 := []) (wN := [(h_p0, .inr (0, [.ref h_p0_bytes, .int size_p0])), (h_p0_bytes, .inl (cA, 1024, .inl a_p0_bytes)), (h_p1, .inr (0, [.ref h_p1_bytes, .int size_p1])), (h_p1_bytes, .inl (cA, 1024, .inl a_p1_bytes))]) (rest := [.ref h_p0]) C0 hK hP hD hS hA hZ (c_S_charAt l D cA zz N 0 (by decide) (x3 - (7 : Int32)) r_49 h_49) [] [0, 1, 2, 3] [0, 1, 2, 3] rfl rfl rfl rfl (by decide) rfl rfl (ZS_recv hZ (by decide) hS) m_X_133 ⟨Nat.le_of_ble_eq_true rfl, Nat.le_of_ble_eq_true rfl⟩ ⟨rfl, rfl⟩ rfl hl.1 rfl (Nat.le_of_ble_eq_true rfl) ⟨Nat.le_of_ble_eq_true rfl, Nat.le_of_ble_eq_true rfl⟩ d_X_writeWithBackslashes_49 (fun b_49 H locs hP hD hS => ?_)
    refine lv_goto (tgt := 56) hx hb d_X_writeWithBackslashes_52 (by decide) ?_
    exact t_X_writeWithBackslashes_56 C0 hK hA hZ N h_p0 h_p0_bytes h_p1 h_p1_bytes size_p1 a_p1_bytes res k_2 hk_2 _ _ _ _ h H locs hP hD hS ls (lv_sub hl [0, 1, 2] rfl)
set_option maxHeartbeats 4000000 in
set_option maxRecDepth 100000 in
theorem t_X_writeWithBackslashes_2 {p : Program} {l : Launch} {e : Env} {s : State} {m : MethodId} {args : Array Value} {below : List Frame} {meth : Method} {c : Code} {D : va_G} {cA : ClassId} {zz : zT} {A : Nat → Prop} (C0 : Cx p s m args meth c b_X_writeWithBackslashes R_X 4 (some .boolean)) (hK : va_K D classes [(cA, .int)] s) (hA : ∀ q : Nat, s.heap.size ≤ q → A q) (hZ : ZS zz A s s.heap) (N : Nat) (h_p0 : Nat) (h_p0_bytes : Nat) (h_p1 : Nat) (h_p1_bytes : Nat) (size_p1 : Int32) (a_p1_bytes : Nat → Int32) (res : Int32 × Int32 × (Nat → Int32)) :
    ∀ (n : Nat), ∀ (size_p0 : Int32) (a_p0_bytes : Nat → Int32) (x2 : Int32), p_X_writeWithBackslashes_2 N size_p1 a_p1_bytes n size_p0 a_p0_bytes x2 = some res → ∀ (H : Heap) (locs : List Loc), va_P D classes [(h_p0, .inr (0, [.ref h_p0_bytes, .int size_p0])), (h_p0_bytes, .inl (cA, 1024, .inl a_p0_bytes)), (h_p1, .inr (0, [.ref h_p1_bytes, .int size_p1])), (h_p1_bytes, .inl (cA, 1024, .inl a_p1_bytes))] H → va_D A [(h_p0, .inr (0, [.ref h_p0_bytes, .int size_p0])), (h_p0_bytes, .inl (cA, 1024, .inl a_p0_bytes)), (h_p1, .inr (0, [.ref h_p1_bytes, .int size_p1])), (h_p1_bytes, .inl (cA, 1024, .inl a_p1_bytes))] → va_S A s.heap H locs → ∀ (ls : Array Slot), lv_has ls 4 [(0, .ref h_p0), (1, .ref h_p1), (2, .int x2)] → W p l e rm_X_writeWithBackslashes s m args below meth c H locs 0 0 (QI .boolean below args s D cA A (res.1) [(h_p0, .inr (0, [.ref h_p0_bytes, .int res.2.1])), (h_p0_bytes, .inl (cA, 1024, .inl res.2.2)), (h_p1, .inr (0, [.ref h_p1_bytes, .int size_p1])), (h_p1_bytes, .inl (cA, 1024, .inl a_p1_bytes))]) (F0 m 2 ls []) := by
  obtain ⟨hx, hb, hr, hml, hown, hG, hlk⟩ := id C0
  intro n
  induction n with
  | zero =>
    intro size_p0 a_p0_bytes x2 h H locs hP hD hS ls hl
    exact absurd h (by simp [p_X_writeWithBackslashes_2])
  | succ n ih =>
    intro size_p0 a_p0_bytes x2 h H locs hP hD hS ls hl
    rw [p_X_writeWithBackslashes_2] at h
    refine lv_iload_n hx hb d_X_writeWithBackslashes_2 rfl (lv_at hl 2 rfl) ?_
    refine lv_aload_n hx hb d_X_writeWithBackslashes_3 rfl (lv_at hl 1 rfl) ?_
    obtain ⟨r_4, h_4, h⟩ := bindS h
    refine call_vi (wr := [(h_p0, .inr (0, [.ref h_p0_bytes, .int size_p0])), (h_p0_bytes, .inl (cA, 1024, .inl a_p0_bytes)), (h_p1_bytes, .inl (cA, 1024, .inl a_p1_bytes))]) (w1 := [(h_p1, .inr (0, [.ref h_p1_bytes, .int size_p1]))]) (wN := [(h_p0, .inr (0, [.ref h_p0_bytes, .int size_p0])), (h_p0_bytes, .inl (cA, 1024, .inl a_p0_bytes)), (h_p1, .inr (0, [.ref h_p1_bytes, .int size_p1])), (h_p1_bytes, .inl (cA, 1024, .inl a_p1_bytes))]) (rest := [.int x2]) C0 hK hP hD hS hA hZ (c_R_size l D cA zz N h_p1 h_p1_bytes size_p1 r_4 h_4) [2] [0, 1, 3] [0, 1, 3, 2] rfl rfl rfl rfl (by decide) rfl rfl 0 0 rfl rfl m_X_32 ⟨Nat.le_of_ble_eq_true rfl, Nat.le_of_ble_eq_true rfl⟩ ⟨rfl, rfl⟩ rfl hl.1 rfl (Nat.le_of_ble_eq_true rfl) ⟨Nat.le_of_ble_eq_true rfl, Nat.le_of_ble_eq_true rfl⟩ d_X_writeWithBackslashes_4 (fun b_4 H locs hP hD hS => ?_)
    refine lv_icmp_ge (tgt := 70) hx hb d_X_writeWithBackslashes_7 (by decide) (fun c_7 => ?_) (fun c_7 => ?_)
    · have h := iteP c_7 h
      refine lv_iconst (v := (1 : Int32)) hx hb d_X_writeWithBackslashes_70 (by decide) ?_
      obtain rfl := Option.some.inj h
      exact rI (v := (1 : Int32)) C0 rfl hK hP hD hS d_X_writeWithBackslashes_71
    · have h := iteN c_7 h
      refine lv_aload_n hx hb d_X_writeWithBackslashes_10 rfl (lv_at hl 1 rfl) ?_
      refine lv_iload_n hx hb d_X_writeWithBackslashes_11 rfl (lv_at hl 2 rfl) ?_
      obtain ⟨r_12, h_12, h⟩ := bindS h
      refine call_vi (wr := [(h_p0, .inr (0, [.ref h_p0_bytes, .int size_p0])), (h_p0_bytes, .inl (cA, 1024, .inl a_p0_bytes))]) (w1 := [(h_p1, .inr (0, [.ref h_p1_bytes, .int size_p1])), (h_p1_bytes, .inl (cA, 1024, .inl a_p1_bytes))]) (wN := [(h_p0, .inr (0, [.ref h_p0_bytes, .int size_p0])), (h_p0_bytes, .inl (cA, 1024, .inl a_p0_bytes)), (h_p1, .inr (0, [.ref h_p1_bytes, .int size_p1])), (h_p1_bytes, .inl (cA, 1024, .inl a_p1_bytes))]) (rest := []) C0 hK hP hD hS hA hZ (c_R_byteAt l D cA zz N h_p1 h_p1_bytes size_p1 a_p1_bytes x2 r_12 h_12) [2, 3] [0, 1] [0, 1, 2, 3] rfl rfl rfl rfl (by decide) rfl rfl 0 0 rfl rfl m_X_58 ⟨Nat.le_of_ble_eq_true rfl, Nat.le_of_ble_eq_true rfl⟩ ⟨rfl, rfl⟩ rfl hl.1 rfl (Nat.le_of_ble_eq_true rfl) ⟨Nat.le_of_ble_eq_true rfl, Nat.le_of_ble_eq_true rfl⟩ d_X_writeWithBackslashes_12 (fun b_12 H locs hP hD hS => ?_)
      refine lv_istore_n (lv' := [(3, .int r_12), (0, .ref h_p0), (1, .ref h_p1), (2, .int x2)]) hx hb d_X_writeWithBackslashes_15 rfl hl (by decide) rfl (fun ls hl => ?_)
      refine lv_aload_n hx hb d_X_writeWithBackslashes_16 rfl (lv_at hl 2 rfl) ?_
      refine lv_iload_n hx hb d_X_writeWithBackslashes_17 rfl (lv_at hl 3 rfl) ?_
      obtain ⟨r_18, h_18, h⟩ := bindS h
      refine call_si (wr := [(h_p0, .inr (0, [.ref h_p0_bytes, .int size_p0])), (h_p0_bytes, .inl (cA, 1024, .inl a_p0_bytes))]) (w1 := [(h_p1, .inr (0, [.ref h_p1_bytes, .int size_p1])), (h_p1_bytes, .inl (cA, 1024, .inl a_p1_bytes))]) (wN := [(h_p0, .inr (0, [.ref h_p0_bytes, .int size_p0])), (h_p0_bytes, .inl (cA, 1024, .inl a_p0_bytes)), (h_p1, .inr (0, [.ref h_p1_bytes, .int size_p1])), (h_p1_bytes, .inl (cA, 1024, .inl a_p1_bytes))]) (rest := []) C0 hK hP hD hS hA hZ (c_X_needsBackslash l D cA zz N h_p1 h_p1_bytes size_p1 a_p1_bytes x2 r_18 h_18) [2, 3] [0, 1] [0, 1, 2, 3] rfl rfl rfl rfl (by decide) rfl rfl m_X_129 ⟨Nat.le_of_ble_eq_true rfl, Nat.le_of_ble_eq_true rfl⟩ ⟨rfl, rfl⟩ rfl hl.1 rfl (Nat.le_of_ble_eq_true rfl) ⟨Nat.le_of_ble_eq_true rfl, Nat.le_of_ble_eq_true rfl⟩ d_X_writeWithBackslashes_18 (fun b_18 H locs hP hD hS => ?_)
      refine lv_if_eq (tgt := 35) hx hb d_X_writeWithBackslashes_21 (by decide) (fun c_21 => ?_) (fun c_21 => ?_)
      · have h := iteP c_21 h
        exact t_X_writeWithBackslashes_35 C0 hK hA hZ N h_p0 h_p0_bytes h_p1 h_p1_bytes size_p1 a_p1_bytes res (p_X_writeWithBackslashes_2 N size_p1 a_p1_bytes n) ih _ _ _ _ h H locs hP hD hS ls (lv_sub hl [1, 2, 3, 0] rfl)
      · have h := iteN c_21 h
        refine lv_aload_n hx hb d_X_writeWithBackslashes_24 rfl (lv_at hl 1 rfl) ?_
        refine lv_bipush (v := (92 : Int32)) hx hb d_X_writeWithBackslashes_25 (by decide) ?_
        obtain ⟨r_27, h_27, h⟩ := bindS h
        refine call_vi (wr := [(h_p1, .inr (0, [.ref h_p1_bytes, .int size_p1])), (h_p1_bytes, .inl (cA, 1024, .inl a_p1_bytes))]) (w1 := [(h_p0, .inr (0, [.ref h_p0_bytes, .int r_27.2.1])), (h_p0_bytes, .inl (cA, 1024, .inl r_27.2.2))]) (wN := [(h_p0, .inr (0, [.ref h_p0_bytes, .int r_27.2.1])), (h_p0_bytes, .inl (cA, 1024, .inl r_27.2.2)), (h_p1, .inr (0, [.ref h_p1_bytes, .int size_p1])), (h_p1_bytes, .inl (cA, 1024, .inl a_p1_bytes))]) (rest := []) C0 hK hP hD hS hA hZ (c_R_put l D cA zz N h_p0 h_p0_bytes size_p0 a_p0_bytes (92 : Int32) r_27 h_27) [0, 1] [2, 3] [2, 3, 0, 1] rfl rfl rfl rfl (by decide) rfl rfl 0 0 rfl rfl m_X_78 ⟨Nat.le_of_ble_eq_true rfl, Nat.le_of_ble_eq_true rfl⟩ ⟨rfl, rfl⟩ rfl hl.1 rfl (Nat.le_of_ble_eq_true rfl) ⟨Nat.le_of_ble_eq_true rfl, Nat.le_of_ble_eq_true rfl⟩ d_X_writeWithBackslashes_27 (fun b_27 H locs hP hD hS => ?_)
        refine lv_if_ne (tgt := 35) hx hb d_X_writeWithBackslashes_30 (by decide) (fun c_30 => ?_) (fun c_30 => ?_)
        · have h := iteN c_30 h
          exact t_X_writeWithBackslashes_35 C0 hK hA hZ N h_p0 h_p0_bytes h_p1 h_p1_bytes size_p1 a_p1_bytes res (p_X_writeWithBackslashes_2 N size_p1 a_p1_bytes n) ih _ _ _ _ h H locs hP hD hS ls (lv_sub hl [1, 2, 3, 0] rfl)
        · have h := iteP c_30 h
          refine lv_iconst (v := (0 : Int32)) hx hb d_X_writeWithBackslashes_33 (by decide) ?_
          obtain rfl := Option.some.inj h
          exact rI (v := (0 : Int32)) C0 rfl hK hP hD hS d_X_writeWithBackslashes_34
set_option maxHeartbeats 4000000 in
set_option maxRecDepth 100000 in
theorem t_X_writeWithBackslashes_0 {p : Program} {l : Launch} {e : Env} {s : State} {m : MethodId} {args : Array Value} {below : List Frame} {meth : Method} {c : Code} {D : va_G} {cA : ClassId} {zz : zT} {A : Nat → Prop} (C0 : Cx p s m args meth c b_X_writeWithBackslashes R_X 4 (some .boolean)) (hK : va_K D classes [(cA, .int)] s) (hA : ∀ q : Nat, s.heap.size ≤ q → A q) (hZ : ZS zz A s s.heap) (N : Nat) (h_p0 : Nat) (h_p0_bytes : Nat) (h_p1 : Nat) (h_p1_bytes : Nat) (size_p1 : Int32) (a_p1_bytes : Nat → Int32) (res : Int32 × Int32 × (Nat → Int32)) :
    ∀ (size_p0 : Int32) (a_p0_bytes : Nat → Int32), p_X_writeWithBackslashes_0 N size_p1 a_p1_bytes size_p0 a_p0_bytes = some res → ∀ (H : Heap) (locs : List Loc), va_P D classes [(h_p0, .inr (0, [.ref h_p0_bytes, .int size_p0])), (h_p0_bytes, .inl (cA, 1024, .inl a_p0_bytes)), (h_p1, .inr (0, [.ref h_p1_bytes, .int size_p1])), (h_p1_bytes, .inl (cA, 1024, .inl a_p1_bytes))] H → va_D A [(h_p0, .inr (0, [.ref h_p0_bytes, .int size_p0])), (h_p0_bytes, .inl (cA, 1024, .inl a_p0_bytes)), (h_p1, .inr (0, [.ref h_p1_bytes, .int size_p1])), (h_p1_bytes, .inl (cA, 1024, .inl a_p1_bytes))] → va_S A s.heap H locs → ∀ (ls : Array Slot), lv_has ls 4 [(0, .ref h_p0), (1, .ref h_p1)] → W p l e rm_X_writeWithBackslashes s m args below meth c H locs 0 0 (QI .boolean below args s D cA A (res.1) [(h_p0, .inr (0, [.ref h_p0_bytes, .int res.2.1])), (h_p0_bytes, .inl (cA, 1024, .inl res.2.2)), (h_p1, .inr (0, [.ref h_p1_bytes, .int size_p1])), (h_p1_bytes, .inl (cA, 1024, .inl a_p1_bytes))]) (F0 m 0 ls []) := by
  obtain ⟨hx, hb, hr, hml, hown, hG, hlk⟩ := id C0
  intro size_p0 a_p0_bytes h H locs hP hD hS ls hl
  unfold p_X_writeWithBackslashes_0 at h
  refine lv_iconst (v := (0 : Int32)) hx hb d_X_writeWithBackslashes_0 (by decide) ?_
  refine lv_istore_n (lv' := [(2, .int (0 : Int32)), (0, .ref h_p0), (1, .ref h_p1)]) hx hb d_X_writeWithBackslashes_1 rfl hl (by decide) rfl (fun ls hl => ?_)
  exact t_X_writeWithBackslashes_2 C0 hK hA hZ N h_p0 h_p0_bytes h_p1 h_p1_bytes size_p1 a_p1_bytes res N _ _ _ h H locs hP hD hS ls (lv_sub hl [1, 2, 0] rfl)
theorem c_X_writeWithBackslashes (l : Launch) (D : va_G) (cA : ClassId) (zz : zT) (N : Nat) (h_p0 : Nat) (h_p0_bytes : Nat) (h_p1 : Nat) (h_p1_bytes : Nat) (size_p0 : Int32) (a_p0_bytes : Nat → Int32) (size_p1 : Int32) (a_p1_bytes : Nat → Int32) (res : Int32 × Int32 × (Nat → Int32)) (h : p_X_writeWithBackslashes N size_p0 a_p0_bytes size_p1 a_p1_bytes = some res) : MI l D cA zz y_X_writeWithBackslashes b_X_writeWithBackslashes 4 .boolean rm_X_writeWithBackslashes [.ref h_p0, .ref h_p1] [(h_p0, .inr (0, [.ref h_p0_bytes, .int size_p0])), (h_p0_bytes, .inl (cA, 1024, .inl a_p0_bytes)), (h_p1, .inr (0, [.ref h_p1_bytes, .int size_p1])), (h_p1_bytes, .inl (cA, 1024, .inl a_p1_bytes))] (res.1) [(h_p0, .inr (0, [.ref h_p0_bytes, .int res.2.1])), (h_p0_bytes, .inl (cA, 1024, .inl res.2.2)), (h_p1, .inr (0, [.ref h_p1_bytes, .int size_p1])), (h_p1_bytes, .inl (cA, 1024, .inl a_p1_bytes))] := by
  unfold p_X_writeWithBackslashes at h
  exact MI_enter (by decide) (Nat.le_of_ble_eq_true rfl) (fun p e s m below meth c A ls C0 hK hA hZ hP hD hl => t_X_writeWithBackslashes_0 C0 hK hA hZ N h_p0 h_p0_bytes h_p1 h_p1_bytes size_p1 a_p1_bytes res _ _ h s.heap [] hP hD va_S.rf ls hl)
