-- java/lang/String.isLatin1()Z
set_option maxHeartbeats 4000000 in
set_option maxRecDepth 100000 in
theorem t_S_isLatin1_0 {p : Program} {l : Launch} {e : Env} {s : State} {m : MethodId} {args : Array Value} {below : List Frame} {meth : Method} {c : Code} {D : va_G} {cA : ClassId} {zz : zT} {A : Nat → Prop} (C0 : Cx p s m args meth c b_S_isLatin1 R_S 1 (some .boolean)) (hK : va_K D classes [(cA, .int)] s) (hA : ∀ q : Nat, s.heap.size ≤ q → A q) (hZ : ZS zz A s s.heap) (N : Nat) (k0 : Nat) (hk0 : k0 < nJS) (res : Int32) :
    p_S_isLatin1_0 N k0 = some res → ∀ (H : Heap) (locs : List Loc), va_P D classes [] H → va_D A [] → va_S A s.heap H locs → ∀ (ls : Array Slot), lv_has ls 1 [(0, .ref (zz.1 k0))] → W p l e rm_S_isLatin1 s m args below meth c H locs 0 0 (QI .boolean below args s D cA A (res) []) (F0 m 0 ls []) := by
  obtain ⟨hx, hb, hr, hml, hown, hG, hlk⟩ := id C0
  intro h H locs hP hD hS ls hl
  unfold p_S_isLatin1_0 at h
  refine va_gets (v := .int 1) hx hb (ZS_compact hZ) hS hown (hG _ f_S_38) (fun _ h9 => h9) d_S_isLatin1_0 ?_
  refine lv_if_eq (tgt := 17) hx hb d_S_isLatin1_3 (by decide) (fun c_3 => ?_) (fun c_3 => ?_)
  · have h := iteP c_3 h
    refine lv_iconst (v := (0 : Int32)) hx hb d_S_isLatin1_17 (by decide) ?_
    obtain rfl := Option.some.inj h
    exact rI (v := (0 : Int32)) C0 rfl hK hP hD hS d_S_isLatin1_18
  · have h := iteN c_3 h
    refine lv_aload_n hx hb d_S_isLatin1_6 rfl (lv_at hl 0 rfl) ?_
    refine vk_getf hx hb (ZS_coder hZ hk0) hS hown (hG _ f_S_15) (fun _ h9 => h9) d_S_isLatin1_7 ?_
    refine lv_if_ne (tgt := 17) hx hb d_S_isLatin1_10 (by decide) (fun c_10 => ?_) (fun c_10 => ?_)
    · have h := iteN c_10 h
      refine lv_iconst (v := (0 : Int32)) hx hb d_S_isLatin1_17 (by decide) ?_
      obtain rfl := Option.some.inj h
      exact rI (v := (0 : Int32)) C0 rfl hK hP hD hS d_S_isLatin1_18
    · have h := iteP c_10 h
      refine lv_iconst (v := (1 : Int32)) hx hb d_S_isLatin1_13 (by decide) ?_
      refine lv_goto (tgt := 18) hx hb d_S_isLatin1_14 (by decide) ?_
      obtain rfl := Option.some.inj h
      exact rI (v := (1 : Int32)) C0 rfl hK hP hD hS d_S_isLatin1_18
theorem c_S_isLatin1 (l : Launch) (D : va_G) (cA : ClassId) (zz : zT) (N : Nat) (k0 : Nat) (hk0 : k0 < nJS)  (res : Int32) (h : p_S_isLatin1 N k0 = some res) : MI l D cA zz y_S_isLatin1 b_S_isLatin1 1 .boolean rm_S_isLatin1 [.ref (zz.1 k0)] [] (res) [] := by
  unfold p_S_isLatin1 at h
  exact MI_enter (by decide) (Nat.le_of_ble_eq_true rfl) (fun p e s m below meth c A ls C0 hK hA hZ hP hD hl => t_S_isLatin1_0 C0 hK hA hZ N k0 hk0 res h s.heap [] hP hD va_S.rf ls hl)
-- java/lang/String.coder()B
set_option maxHeartbeats 4000000 in
set_option maxRecDepth 100000 in
theorem t_S_coder_0 {p : Program} {l : Launch} {e : Env} {s : State} {m : MethodId} {args : Array Value} {below : List Frame} {meth : Method} {c : Code} {D : va_G} {cA : ClassId} {zz : zT} {A : Nat → Prop} (C0 : Cx p s m args meth c b_S_coder R_S 1 (some .byte)) (hK : va_K D classes [(cA, .int)] s) (hA : ∀ q : Nat, s.heap.size ≤ q → A q) (hZ : ZS zz A s s.heap) (N : Nat) (k0 : Nat) (hk0 : k0 < nJS) (res : Int32) :
    p_S_coder_0 N k0 = some res → ∀ (H : Heap) (locs : List Loc), va_P D classes [] H → va_D A [] → va_S A s.heap H locs → ∀ (ls : Array Slot), lv_has ls 1 [(0, .ref (zz.1 k0))] → W p l e rm_S_coder s m args below meth c H locs 0 0 (QI .byte below args s D cA A (res) []) (F0 m 0 ls []) := by
  obtain ⟨hx, hb, hr, hml, hown, hG, hlk⟩ := id C0
  intro h H locs hP hD hS ls hl
  unfold p_S_coder_0 at h
  refine va_gets (v := .int 1) hx hb (ZS_compact hZ) hS hown (hG _ f_S_38) (fun _ h9 => h9) d_S_coder_0 ?_
  refine lv_if_eq (tgt := 13) hx hb d_S_coder_3 (by decide) (fun c_3 => ?_) (fun c_3 => ?_)
  · have h := iteP c_3 h
    refine lv_iconst (v := (1 : Int32)) hx hb d_S_coder_13 (by decide) ?_
    obtain rfl := Option.some.inj h
    exact rI (v := (1 : Int32)) C0 rfl hK hP hD hS d_S_coder_14
  · have h := iteN c_3 h
    refine lv_aload_n hx hb d_S_coder_6 rfl (lv_at hl 0 rfl) ?_
    refine vk_getf hx hb (ZS_coder hZ hk0) hS hown (hG _ f_S_15) (fun _ h9 => h9) d_S_coder_7 ?_
    refine lv_goto (tgt := 14) hx hb d_S_coder_10 (by decide) ?_
    obtain rfl := Option.some.inj h
    exact rI (v := (0 : Int32)) C0 rfl hK hP hD hS d_S_coder_14
theorem c_S_coder (l : Launch) (D : va_G) (cA : ClassId) (zz : zT) (N : Nat) (k0 : Nat) (hk0 : k0 < nJS)  (res : Int32) (h : p_S_coder N k0 = some res) : MI l D cA zz y_S_coder b_S_coder 1 .byte rm_S_coder [.ref (zz.1 k0)] [] (res) [] := by
  unfold p_S_coder at h
  exact MI_enter (by decide) (Nat.le_of_ble_eq_true rfl) (fun p e s m below meth c A ls C0 hK hA hZ hP hD hl => t_S_coder_0 C0 hK hA hZ N k0 hk0 res h s.heap [] hP hD va_S.rf ls hl)
-- java/lang/String.length()I
set_option maxHeartbeats 4000000 in
set_option maxRecDepth 100000 in
theorem t_S_length_0 {p : Program} {l : Launch} {e : Env} {s : State} {m : MethodId} {args : Array Value} {below : List Frame} {meth : Method} {c : Code} {D : va_G} {cA : ClassId} {zz : zT} {A : Nat → Prop} (C0 : Cx p s m args meth c b_S_length R_S 1 (some .int)) (hK : va_K D classes [(cA, .int)] s) (hA : ∀ q : Nat, s.heap.size ≤ q → A q) (hZ : ZS zz A s s.heap) (N : Nat) (k0 : Nat) (hk0 : k0 < nJS) (res : Int32) :
    p_S_length_0 N k0 = some res → ∀ (H : Heap) (locs : List Loc), va_P D classes [] H → va_D A [] → va_S A s.heap H locs → ∀ (ls : Array Slot), lv_has ls 1 [(0, .ref (zz.1 k0))] → W p l e rm_S_length s m args below meth c H locs 0 0 (QI .int below args s D cA A (res) []) (F0 m 0 ls []) := by
  obtain ⟨hx, hb, hr, hml, hown, hG, hlk⟩ := id C0
  intro h H locs hP hD hS ls hl
  unfold p_S_length_0 at h
  refine lv_aload_n hx hb d_S_length_0 rfl (lv_at hl 0 rfl) ?_
  refine vk_getf hx hb (ZS_value hZ hk0) hS hown (hG _ f_S_9) (fun _ h9 => h9) d_S_length_1 ?_
  refine va_tlen (v := (Int32.ofNat (lenJS.getD k0 0))) hx hb (ZS_bytes hZ hk0) hS rfl d_S_length_4 ?_
  refine lv_aload_n hx hb d_S_length_5 rfl (lv_at hl 0 rfl) ?_
  obtain ⟨r_6, h_6, h⟩ := bindS h
  refine call_ki (wr := []) (w1 := []) (wN := []) (rest := [.int (Int32.ofNat (lenJS.getD k0 0))]) C0 hK hP hD hS hA hZ (c_S_coder l D cA zz N k0 hk0 r_6 h_6) [] [] [] rfl rfl rfl rfl (by decide) rfl rfl (ZS_recv hZ hk0 hS) m_S_335 ⟨Nat.le_of_ble_eq_true rfl, Nat.le_of_ble_eq_true rfl⟩ ⟨rfl, rfl⟩ rfl hl.1 rfl (Nat.le_of_ble_eq_true rfl) ⟨Nat.le_of_ble_eq_true rfl, Nat.le_of_ble_eq_true rfl⟩ d_S_length_6 (fun b_6 H locs hP hD hS => ?_)
  refine lv_ishr hx hb d_S_length_9 ?_
  obtain rfl := Option.some.inj h
  exact rI (v := ((Int32.ofNat (lenJS.getD k0 0)) >>> (r_6 &&& 31))) C0 (vp_nar_int _) hK hP hD hS d_S_length_10
theorem c_S_length (l : Launch) (D : va_G) (cA : ClassId) (zz : zT) (N : Nat) (k0 : Nat) (hk0 : k0 < nJS)  (res : Int32) (h : p_S_length N k0 = some res) : MI l D cA zz y_S_length b_S_length 1 .int rm_S_length [.ref (zz.1 k0)] [] (res) [] := by
  unfold p_S_length at h
  exact MI_enter (by decide) (Nat.le_of_ble_eq_true rfl) (fun p e s m below meth c A ls C0 hK hA hZ hP hD hl => t_S_length_0 C0 hK hA hZ N k0 hk0 res h s.heap [] hP hD va_S.rf ls hl)
-- java/lang/StringLatin1.canEncode(I)Z
set_option maxHeartbeats 4000000 in
set_option maxRecDepth 100000 in
theorem t_SL_canEncode1_0 {p : Program} {l : Launch} {e : Env} {s : State} {m : MethodId} {args : Array Value} {below : List Frame} {meth : Method} {c : Code} {D : va_G} {cA : ClassId} {zz : zT} {A : Nat → Prop} (C0 : Cx p s m args meth c b_SL_canEncode1 R_SL 1 (some .boolean)) (hK : va_K D classes [(cA, .int)] s) (hA : ∀ q : Nat, s.heap.size ≤ q → A q) (hZ : ZS zz A s s.heap) (N : Nat) (res : Int32) :
    ∀ (x0 : Int32), p_SL_canEncode1_0 N x0 = some res → ∀ (H : Heap) (locs : List Loc), va_P D classes [] H → va_D A [] → va_S A s.heap H locs → ∀ (ls : Array Slot), lv_has ls 1 [(0, .int x0)] → W p l e rm_SL_canEncode1 s m args below meth c H locs 0 0 (QI .boolean below args s D cA A (res) []) (F0 m 0 ls []) := by
  obtain ⟨hx, hb, hr, hml, hown, hG, hlk⟩ := id C0
  intro x0 h H locs hP hD hS ls hl
  unfold p_SL_canEncode1_0 at h
  refine lv_iload_n hx hb d_SL_canEncode1_0 rfl (lv_at hl 0 rfl) ?_
  refine lv_if_lt (tgt := 15) hx hb d_SL_canEncode1_1 (by decide) (fun c_1 => ?_) (fun c_1 => ?_)
  · have h := iteP c_1 h
    refine lv_iconst (v := (0 : Int32)) hx hb d_SL_canEncode1_15 (by decide) ?_
    obtain rfl := Option.some.inj h
    exact rI (v := (0 : Int32)) C0 rfl hK hP hD hS d_SL_canEncode1_16
  · have h := iteN c_1 h
    refine lv_iload_n hx hb d_SL_canEncode1_4 rfl (lv_at hl 0 rfl) ?_
    refine lv_sipush (v := (255 : Int32)) hx hb d_SL_canEncode1_5 (by decide) ?_
    refine lv_icmp_gt (tgt := 15) hx hb d_SL_canEncode1_8 (by decide) (fun c_8 => ?_) (fun c_8 => ?_)
    · have h := iteP c_8 h
      refine lv_iconst (v := (0 : Int32)) hx hb d_SL_canEncode1_15 (by decide) ?_
      obtain rfl := Option.some.inj h
      exact rI (v := (0 : Int32)) C0 rfl hK hP hD hS d_SL_canEncode1_16
    · have h := iteN c_8 h
      refine lv_iconst (v := (1 : Int32)) hx hb d_SL_canEncode1_11 (by decide) ?_
      refine lv_goto (tgt := 16) hx hb d_SL_canEncode1_12 (by decide) ?_
      obtain rfl := Option.some.inj h
      exact rI (v := (1 : Int32)) C0 rfl hK hP hD hS d_SL_canEncode1_16
theorem c_SL_canEncode1 (l : Launch) (D : va_G) (cA : ClassId) (zz : zT) (N : Nat)  (x0 : Int32) (res : Int32) (h : p_SL_canEncode1 N x0 = some res) : MI l D cA zz y_SL_canEncode1 b_SL_canEncode1 1 .boolean rm_SL_canEncode1 [.int x0] [] (res) [] := by
  unfold p_SL_canEncode1 at h
  exact MI_enter (by decide) (Nat.le_of_ble_eq_true rfl) (fun p e s m below meth c A ls C0 hK hA hZ hP hD hl => t_SL_canEncode1_0 C0 hK hA hZ N res _ h s.heap [] hP hD va_S.rf ls hl)
-- java/lang/StringLatin1.indexOfChar([BIII)I
set_option maxHeartbeats 4000000 in
set_option maxRecDepth 100000 in
theorem t_SL_indexOfChar_7 {p : Program} {l : Launch} {e : Env} {s : State} {m : MethodId} {args : Array Value} {below : List Frame} {meth : Method} {c : Code} {D : va_G} {cA : ClassId} {zz : zT} {A : Nat → Prop} (C0 : Cx p s m args meth c b_SL_indexOfChar R_SL 6 (some .int)) (hK : va_K D classes [(cA, .int)] s) (hA : ∀ q : Nat, s.heap.size ≤ q → A q) (hZ : ZS zz A s s.heap) (N : Nat) (k0 : Nat) (hk0 : k0 < nJS) (res : Int32) :
    ∀ (n : Nat), ∀ (x3 : Int32) (x4 : Int32) (x5 : Int32), p_SL_indexOfChar_7 N k0 n x3 x4 x5 = some res → ∀ (H : Heap) (locs : List Loc), va_P D classes [] H → va_D A [] → va_S A s.heap H locs → ∀ (ls : Array Slot), lv_has ls 6 [(0, .ref (zz.2.1 k0)), (3, .int x3), (4, .int x4), (5, .int x5)] → W p l e rm_SL_indexOfChar s m args below meth c H locs 0 0 (QI .int below args s D cA A (res) []) (F0 m 7 ls []) := by
  obtain ⟨hx, hb, hr, hml, hown, hG, hlk⟩ := id C0
  intro n
  induction n with
  | zero =>
    intro x3 x4 x5 h H locs hP hD hS ls hl
    exact absurd h (by simp [p_SL_indexOfChar_7])
  | succ n ih =>
    intro x3 x4 x5 h H locs hP hD hS ls hl
    rw [p_SL_indexOfChar_7] at h
    refine lv_iload hx hb d_SL_indexOfChar_7 (lv_at hl 3 rfl) ?_
    refine lv_iload_n hx hb d_SL_indexOfChar_9 rfl (lv_at hl 1 rfl) ?_
    refine lv_icmp_ge (tgt := 31) hx hb d_SL_indexOfChar_10 (by decide) (fun c_10 => ?_) (fun c_10 => ?_)
    · have h := iteP c_10 h
      refine lv_iconst (v := (-1 : Int32)) hx hb d_SL_indexOfChar_31 (by decide) ?_
      obtain rfl := Option.some.inj h
      exact rI (v := (-1 : Int32)) C0 (vp_nar_int _) hK hP hD hS d_SL_indexOfChar_32
    · have h := iteN c_10 h
      refine lv_aload_n hx hb d_SL_indexOfChar_13 rfl (lv_at hl 0 rfl) ?_
      refine lv_iload hx hb d_SL_indexOfChar_14 (lv_at hl 3 rfl) ?_
      obtain ⟨g_16, h⟩ := guardN h
      refine va_tb (v := .int ((bytJS.getD k0 []).getD x5.toNatClampNeg 0)) hx hb (ZS_bytes hZ hk0) hS g_16 rfl d_SL_indexOfChar_16 ?_
      refine lv_iload hx hb d_SL_indexOfChar_17 (lv_at hl 2 rfl) ?_
      refine lv_icmp_ne (tgt := 25) hx hb d_SL_indexOfChar_19 (by decide) (fun c_19 => ?_) (fun c_19 => ?_)
      · have h := iteN c_19 h
        refine lv_iinc (v := (x5 + (1 : Int32))) (lv' := [(5, .int (x5 + (1 : Int32))), (0, .ref (zz.2.1 k0)), (3, .int x3), (4, .int x4)]) hx hb d_SL_indexOfChar_25 hl (k := 3) rfl rfl (by decide) rfl (fun ls hl => ?_)
        refine lv_goto (tgt := 7) hx hb d_SL_indexOfChar_28 (by decide) ?_
        exact ih _ _ _ h H locs hP hD hS ls (lv_sub hl [1, 2, 3, 0] rfl)
      · have h := iteP c_19 h
        refine lv_iload hx hb d_SL_indexOfChar_22 (lv_at hl 3 rfl) ?_
        obtain rfl := Option.some.inj h
        exact rI (v := x5) C0 (vp_nar_int _) hK hP hD hS d_SL_indexOfChar_24
set_option maxHeartbeats 4000000 in
set_option maxRecDepth 100000 in
theorem t_SL_indexOfChar_0 {p : Program} {l : Launch} {e : Env} {s : State} {m : MethodId} {args : Array Value} {below : List Frame} {meth : Method} {c : Code} {D : va_G} {cA : ClassId} {zz : zT} {A : Nat → Prop} (C0 : Cx p s m args meth c b_SL_indexOfChar R_SL 6 (some .int)) (hK : va_K D classes [(cA, .int)] s) (hA : ∀ q : Nat, s.heap.size ≤ q → A q) (hZ : ZS zz A s s.heap) (N : Nat) (k0 : Nat) (hk0 : k0 < nJS) (res : Int32) :
    ∀ (x1 : Int32) (x2 : Int32) (x3 : Int32), p_SL_indexOfChar_0 N k0 x1 x2 x3 = some res → ∀ (H : Heap) (locs : List Loc), va_P D classes [] H → va_D A [] → va_S A s.heap H locs → ∀ (ls : Array Slot), lv_has ls 6 [(0, .ref (zz.2.1 k0)), (1, .int x1), (2, .int x2), (3, .int x3)] → W p l e rm_SL_indexOfChar s m args below meth c H locs 0 0 (QI .int below args s D cA A (res) []) (F0 m 0 ls []) := by
  obtain ⟨hx, hb, hr, hml, hown, hG, hlk⟩ := id C0
  intro x1 x2 x3 h H locs hP hD hS ls hl
  unfold p_SL_indexOfChar_0 at h
  refine lv_iload_n hx hb d_SL_indexOfChar_0 rfl (lv_at hl 1 rfl) ?_
  refine lv_i2b (v := x1.toInt8.toInt32) hx hb d_SL_indexOfChar_1 rfl ?_
  refine lv_istore (lv' := [(4, .int x1.toInt8.toInt32), (0, .ref (zz.2.1 k0)), (1, .int x1), (2, .int x2), (3, .int x3)]) hx hb d_SL_indexOfChar_2 hl (by decide) rfl (fun ls hl => ?_)
  refine lv_iload_n hx hb d_SL_indexOfChar_4 rfl (lv_at hl 3 rfl) ?_
  refine lv_istore (lv' := [(5, .int x2), (4, .int x1.toInt8.toInt32), (0, .ref (zz.2.1 k0)), (1, .int x1), (2, .int x2), (3, .int x3)]) hx hb d_SL_indexOfChar_5 hl (by decide) rfl (fun ls hl => ?_)
  exact t_SL_indexOfChar_7 C0 hK hA hZ N k0 hk0 res N _ _ _ h H locs hP hD hS ls (lv_sub hl [2, 5, 1, 0] rfl)
theorem c_SL_indexOfChar (l : Launch) (D : va_G) (cA : ClassId) (zz : zT) (N : Nat) (k0 : Nat) (hk0 : k0 < nJS)  (x1 : Int32) (x2 : Int32) (x3 : Int32) (res : Int32) (h : p_SL_indexOfChar N k0 x1 x2 x3 = some res) : MI l D cA zz y_SL_indexOfChar b_SL_indexOfChar 6 .int rm_SL_indexOfChar [.ref (zz.2.1 k0), .int x1, .int x2, .int x3] [] (res) [] := by
  unfold p_SL_indexOfChar at h
  exact MI_enter (by decide) (Nat.le_of_ble_eq_true rfl) (fun p e s m below meth c A ls C0 hK hA hZ hP hD hl => t_SL_indexOfChar_0 C0 hK hA hZ N k0 hk0 res _ _ _ h s.heap [] hP hD va_S.rf ls hl)
-- java/lang/StringLatin1.indexOf([BIII)I
set_option maxHeartbeats 4000000 in
set_option maxRecDepth 100000 in
theorem t_SL_indexOf0_0 {p : Program} {l : Launch} {e : Env} {s : State} {m : MethodId} {args : Array Value} {below : List Frame} {meth : Method} {c : Code} {D : va_G} {cA : ClassId} {zz : zT} {A : Nat → Prop} (C0 : Cx p s m args meth c b_SL_indexOf0 R_SL 4 (some .int)) (hK : va_K D classes [(cA, .int)] s) (hA : ∀ q : Nat, s.heap.size ≤ q → A q) (hZ : ZS zz A s s.heap) (N : Nat) (k0 : Nat) (hk0 : k0 < nJS) (res : Int32) :
    ∀ (x1 : Int32) (x2 : Int32) (x3 : Int32), p_SL_indexOf0_0 N k0 x1 x2 x3 = some res → ∀ (H : Heap) (locs : List Loc), va_P D classes [] H → va_D A [] → va_S A s.heap H locs → ∀ (ls : Array Slot), lv_has ls 4 [(0, .ref (zz.2.1 k0)), (1, .int x1), (2, .int x2), (3, .int x3)] → W p l e rm_SL_indexOf0 s m args below meth c H locs 0 0 (QI .int below args s D cA A (res) []) (F0 m 0 ls []) := by
  obtain ⟨hx, hb, hr, hml, hown, hG, hlk⟩ := id C0
  intro x1 x2 x3 h H locs hP hD hS ls hl
  unfold p_SL_indexOf0_0 at h
  refine lv_iload_n hx hb d_SL_indexOf0_0 rfl (lv_at hl 1 rfl) ?_
  obtain ⟨r_1, h_1, h⟩ := bindS h
  refine call_si (wr := []) (w1 := []) (wN := []) (rest := []) C0 hK hP hD hS hA hZ (c_SL_canEncode1 l D cA zz N x1 r_1 h_1) [] [] [] rfl rfl rfl rfl (by decide) rfl rfl m_SL_88 ⟨Nat.le_of_ble_eq_true rfl, Nat.le_of_ble_eq_true rfl⟩ ⟨rfl, rfl⟩ rfl hl.1 rfl (Nat.le_of_ble_eq_true rfl) ⟨Nat.le_of_ble_eq_true rfl, Nat.le_of_ble_eq_true rfl⟩ d_SL_indexOf0_1 (fun b_1 H locs hP hD hS => ?_)
  refine lv_if_ne (tgt := 9) hx hb d_SL_indexOf0_4 (by decide) (fun c_4 => ?_) (fun c_4 => ?_)
  · have h := iteN c_4 h
    refine lv_iload_n hx hb d_SL_indexOf0_9 rfl (lv_at hl 2 rfl) ?_
    refine lv_iconst (v := (0 : Int32)) hx hb d_SL_indexOf0_10 (by decide) ?_
    refine va_mmax hx hb (hml.trans hl.1.symm) hown (hG _ m_SL_92) (hG _ w_math_max_static) (hG _ w_math_init) (hG _ w_math_max_code) (Nat.le_of_ble_eq_true rfl) (Nat.le_of_ble_eq_true rfl) (Nat.le_of_ble_eq_true rfl) (Nat.le_of_ble_eq_true rfl) d_SL_indexOf0_11 ?_
    refine lv_istore_n (lv' := [(2, .int (if x2 < (0 : Int32) then (0 : Int32) else x2)), (0, .ref (zz.2.1 k0)), (1, .int x1), (3, .int x3)]) hx hb d_SL_indexOf0_14 rfl hl (by decide) rfl (fun ls hl => ?_)
    refine lv_iload_n hx hb d_SL_indexOf0_15 rfl (lv_at hl 3 rfl) ?_
    refine lv_aload_n hx hb d_SL_indexOf0_16 rfl (lv_at hl 1 rfl) ?_
    refine va_tlen (v := (Int32.ofNat (lenJS.getD k0 0))) hx hb (ZS_bytes hZ hk0) hS rfl d_SL_indexOf0_17 ?_
    refine va_mmin hx hb (hml.trans hl.1.symm) hown (hG _ m_SL_38) (hG _ w_math_min_static) (hG _ w_math_init) (hG _ w_math_min_code) (Nat.le_of_ble_eq_true rfl) (Nat.le_of_ble_eq_true rfl) (Nat.le_of_ble_eq_true rfl) (Nat.le_of_ble_eq_true rfl) d_SL_indexOf0_18 ?_
    refine lv_istore_n (lv' := [(3, .int (if (Int32.ofNat (lenJS.getD k0 0)) < x3 then (Int32.ofNat (lenJS.getD k0 0)) else x3)), (2, .int (if x2 < (0 : Int32) then (0 : Int32) else x2)), (0, .ref (zz.2.1 k0)), (1, .int x1)]) hx hb d_SL_indexOf0_21 rfl hl (by decide) rfl (fun ls hl => ?_)
    refine lv_iload_n hx hb d_SL_indexOf0_22 rfl (lv_at hl 1 rfl) ?_
    refine lv_iload_n hx hb d_SL_indexOf0_23 rfl (lv_at hl 0 rfl) ?_
    refine lv_icmp_lt (tgt := 29) hx hb d_SL_indexOf0_24 (by decide) (fun c_24 => ?_) (fun c_24 => ?_)
    · have h := iteP c_24 h
      refine lv_aload_n hx hb d_SL_indexOf0_29 rfl (lv_at hl 2 rfl) ?_
      refine lv_iload_n hx hb d_SL_indexOf0_30 rfl (lv_at hl 3 rfl) ?_
      refine lv_iload_n hx hb d_SL_indexOf0_31 rfl (lv_at hl 1 rfl) ?_
      refine lv_iload_n hx hb d_SL_indexOf0_32 rfl (lv_at hl 0 rfl) ?_
      obtain ⟨r_33, h_33, h⟩ := bindS h
      refine call_si (wr := []) (w1 := []) (wN := []) (rest := []) C0 hK hP hD hS hA hZ (c_SL_indexOfChar l D cA zz N k0 hk0 x1 (if x2 < (0 : Int32) then (0 : Int32) else x2) (if (Int32.ofNat (lenJS.getD k0 0)) < x3 then (Int32.ofNat (lenJS.getD k0 0)) else x3) r_33 h_33) [] [] [] rfl rfl rfl rfl (by decide) rfl rfl m_SL_95 ⟨Nat.le_of_ble_eq_true rfl, Nat.le_of_ble_eq_true rfl⟩ ⟨rfl, rfl⟩ rfl hl.1 rfl (Nat.le_of_ble_eq_true rfl) ⟨Nat.le_of_ble_eq_true rfl, Nat.le_of_ble_eq_true rfl⟩ d_SL_indexOf0_33 (fun b_33 H locs hP hD hS => ?_)
      obtain rfl := Option.some.inj h
      exact rI (v := r_33) C0 (vp_nar_int _) hK hP hD hS d_SL_indexOf0_36
    · have h := iteN c_24 h
      refine lv_iconst (v := (-1 : Int32)) hx hb d_SL_indexOf0_27 (by decide) ?_
      obtain rfl := Option.some.inj h
      exact rI (v := (-1 : Int32)) C0 (vp_nar_int _) hK hP hD hS d_SL_indexOf0_28
  · have h := iteP c_4 h
    refine lv_iconst (v := (-1 : Int32)) hx hb d_SL_indexOf0_7 (by decide) ?_
    obtain rfl := Option.some.inj h
    exact rI (v := (-1 : Int32)) C0 (vp_nar_int _) hK hP hD hS d_SL_indexOf0_8
theorem c_SL_indexOf0 (l : Launch) (D : va_G) (cA : ClassId) (zz : zT) (N : Nat) (k0 : Nat) (hk0 : k0 < nJS)  (x1 : Int32) (x2 : Int32) (x3 : Int32) (res : Int32) (h : p_SL_indexOf0 N k0 x1 x2 x3 = some res) : MI l D cA zz y_SL_indexOf0 b_SL_indexOf0 4 .int rm_SL_indexOf0 [.ref (zz.2.1 k0), .int x1, .int x2, .int x3] [] (res) [] := by
  unfold p_SL_indexOf0 at h
  exact MI_enter (by decide) (Nat.le_of_ble_eq_true rfl) (fun p e s m below meth c A ls C0 hK hA hZ hP hD hl => t_SL_indexOf0_0 C0 hK hA hZ N k0 hk0 res _ _ _ h s.heap [] hP hD va_S.rf ls hl)
-- java/lang/String.indexOf(II)I
set_option maxHeartbeats 4000000 in
set_option maxRecDepth 100000 in
theorem t_S_indexOf1_0 {p : Program} {l : Launch} {e : Env} {s : State} {m : MethodId} {args : Array Value} {below : List Frame} {meth : Method} {c : Code} {D : va_G} {cA : ClassId} {zz : zT} {A : Nat → Prop} (C0 : Cx p s m args meth c b_S_indexOf1 R_S 3 (some .int)) (hK : va_K D classes [(cA, .int)] s) (hA : ∀ q : Nat, s.heap.size ≤ q → A q) (hZ : ZS zz A s s.heap) (N : Nat) (k0 : Nat) (hk0 : k0 < nJS) (res : Int32) :
    ∀ (x1 : Int32) (x2 : Int32), p_S_indexOf1_0 N k0 x1 x2 = some res → ∀ (H : Heap) (locs : List Loc), va_P D classes [] H → va_D A [] → va_S A s.heap H locs → ∀ (ls : Array Slot), lv_has ls 3 [(0, .ref (zz.1 k0)), (1, .int x1), (2, .int x2)] → W p l e rm_S_indexOf1 s m args below meth c H locs 0 0 (QI .int below args s D cA A (res) []) (F0 m 0 ls []) := by
  obtain ⟨hx, hb, hr, hml, hown, hG, hlk⟩ := id C0
  intro x1 x2 h H locs hP hD hS ls hl
  unfold p_S_indexOf1_0 at h
  refine lv_aload_n hx hb d_S_indexOf1_0 rfl (lv_at hl 0 rfl) ?_
  obtain ⟨r_1, h_1, h⟩ := bindS h
  refine call_ki (wr := []) (w1 := []) (wN := []) (rest := []) C0 hK hP hD hS hA hZ (c_S_isLatin1 l D cA zz N k0 hk0 r_1 h_1) [] [] [] rfl rfl rfl rfl (by decide) rfl rfl (ZS_recv hZ hk0 hS) m_S_492 ⟨Nat.le_of_ble_eq_true rfl, Nat.le_of_ble_eq_true rfl⟩ ⟨rfl, rfl⟩ rfl hl.1 rfl (Nat.le_of_ble_eq_true rfl) ⟨Nat.le_of_ble_eq_true rfl, Nat.le_of_ble_eq_true rfl⟩ d_S_indexOf1_1 (fun b_1 H locs hP hD hS => ?_)
  refine lv_if_eq (tgt := 23) hx hb d_S_indexOf1_4 (by decide) (fun c_4 => ?_) (fun c_4 => ?_)
  · have h := iteP c_4 h
    refine lv_aload_n hx hb d_S_indexOf1_23 rfl (lv_at hl 0 rfl) ?_
    refine vk_getf hx hb (ZS_value hZ hk0) hS hown (hG _ f_S_9) (fun _ h9 => h9) d_S_indexOf1_24 ?_
    refine lv_iload_n hx hb d_S_indexOf1_27 rfl (lv_at hl 1 rfl) ?_
    refine lv_iload_n hx hb d_S_indexOf1_28 rfl (lv_at hl 2 rfl) ?_
    refine lv_aload_n hx hb d_S_indexOf1_29 rfl (lv_at hl 0 rfl) ?_
    obtain ⟨r_30, h_30, h⟩ := bindS h
    refine call_ki (wr := []) (w1 := []) (wN := []) (rest := [.int x2, .int x1, .ref (zz.2.1 k0)]) C0 hK hP hD hS hA hZ (c_S_length l D cA zz N k0 hk0 r_30 h_30) [] [] [] rfl rfl rfl rfl (by decide) rfl rfl (ZS_recv hZ hk0 hS) m_S_505 ⟨Nat.le_of_ble_eq_true rfl, Nat.le_of_ble_eq_true rfl⟩ ⟨rfl, rfl⟩ rfl hl.1 rfl (Nat.le_of_ble_eq_true rfl) ⟨Nat.le_of_ble_eq_true rfl, Nat.le_of_ble_eq_true rfl⟩ d_S_indexOf1_30 (fun b_30 H locs hP hD hS => ?_)
    exact noneS h
  · have h := iteN c_4 h
    refine lv_aload_n hx hb d_S_indexOf1_7 rfl (lv_at hl 0 rfl) ?_
    refine vk_getf hx hb (ZS_value hZ hk0) hS hown (hG _ f_S_9) (fun _ h9 => h9) d_S_indexOf1_8 ?_
    refine lv_iload_n hx hb d_S_indexOf1_11 rfl (lv_at hl 1 rfl) ?_
    refine lv_iload_n hx hb d_S_indexOf1_12 rfl (lv_at hl 2 rfl) ?_
    refine lv_aload_n hx hb d_S_indexOf1_13 rfl (lv_at hl 0 rfl) ?_
    obtain ⟨r_14, h_14, h⟩ := bindS h
    refine call_ki (wr := []) (w1 := []) (wN := []) (rest := [.int x2, .int x1, .ref (zz.2.1 k0)]) C0 hK hP hD hS hA hZ (c_S_length l D cA zz N k0 hk0 r_14 h_14) [] [] [] rfl rfl rfl rfl (by decide) rfl rfl (ZS_recv hZ hk0 hS) m_S_505 ⟨Nat.le_of_ble_eq_true rfl, Nat.le_of_ble_eq_true rfl⟩ ⟨rfl, rfl⟩ rfl hl.1 rfl (Nat.le_of_ble_eq_true rfl) ⟨Nat.le_of_ble_eq_true rfl, Nat.le_of_ble_eq_true rfl⟩ d_S_indexOf1_14 (fun b_14 H locs hP hD hS => ?_)
    obtain ⟨r_17, h_17, h⟩ := bindS h
    refine call_si (wr := []) (w1 := []) (wN := []) (rest := []) C0 hK hP hD hS hA hZ (c_SL_indexOf0 l D cA zz N k0 hk0 x1 x2 r_14 r_17 h_17) [] [] [] rfl rfl rfl rfl (by decide) rfl rfl m_S_637 ⟨Nat.le_of_ble_eq_true rfl, Nat.le_of_ble_eq_true rfl⟩ ⟨rfl, rfl⟩ rfl hl.1 rfl (Nat.le_of_ble_eq_true rfl) ⟨Nat.le_of_ble_eq_true rfl, Nat.le_of_ble_eq_true rfl⟩ d_S_indexOf1_17 (fun b_17 H locs hP hD hS => ?_)
    refine lv_goto (tgt := 36) hx hb d_S_indexOf1_20 (by decide) ?_
    obtain rfl := Option.some.inj h
    exact rI (v := r_17) C0 (vp_nar_int _) hK hP hD hS d_S_indexOf1_36
theorem c_S_indexOf1 (l : Launch) (D : va_G) (cA : ClassId) (zz : zT) (N : Nat) (k0 : Nat) (hk0 : k0 < nJS)  (x1 : Int32) (x2 : Int32) (res : Int32) (h : p_S_indexOf1 N k0 x1 x2 = some res) : MI l D cA zz y_S_indexOf1 b_S_indexOf1 3 .int rm_S_indexOf1 [.ref (zz.1 k0), .int x1, .int x2] [] (res) [] := by
  unfold p_S_indexOf1 at h
  exact MI_enter (by decide) (Nat.le_of_ble_eq_true rfl) (fun p e s m below meth c A ls C0 hK hA hZ hP hD hl => t_S_indexOf1_0 C0 hK hA hZ N k0 hk0 res _ _ h s.heap [] hP hD va_S.rf ls hl)
-- java/lang/String.indexOf(I)I
set_option maxHeartbeats 4000000 in
set_option maxRecDepth 100000 in
theorem t_S_indexOf0_0 {p : Program} {l : Launch} {e : Env} {s : State} {m : MethodId} {args : Array Value} {below : List Frame} {meth : Method} {c : Code} {D : va_G} {cA : ClassId} {zz : zT} {A : Nat → Prop} (C0 : Cx p s m args meth c b_S_indexOf0 R_S 2 (some .int)) (hK : va_K D classes [(cA, .int)] s) (hA : ∀ q : Nat, s.heap.size ≤ q → A q) (hZ : ZS zz A s s.heap) (N : Nat) (k0 : Nat) (hk0 : k0 < nJS) (res : Int32) :
    ∀ (x1 : Int32), p_S_indexOf0_0 N k0 x1 = some res → ∀ (H : Heap) (locs : List Loc), va_P D classes [] H → va_D A [] → va_S A s.heap H locs → ∀ (ls : Array Slot), lv_has ls 2 [(0, .ref (zz.1 k0)), (1, .int x1)] → W p l e rm_S_indexOf0 s m args below meth c H locs 0 0 (QI .int below args s D cA A (res) []) (F0 m 0 ls []) := by
  obtain ⟨hx, hb, hr, hml, hown, hG, hlk⟩ := id C0
  intro x1 h H locs hP hD hS ls hl
  unfold p_S_indexOf0_0 at h
  refine lv_aload_n hx hb d_S_indexOf0_0 rfl (lv_at hl 0 rfl) ?_
  refine lv_iload_n hx hb d_S_indexOf0_1 rfl (lv_at hl 1 rfl) ?_
  refine lv_iconst (v := (0 : Int32)) hx hb d_S_indexOf0_2 (by decide) ?_
  obtain ⟨r_3, h_3, h⟩ := bindS h
  refine call_ki (wr := []) (w1 := []) (wN := []) (rest := []) C0 hK hP hD hS hA hZ (c_S_indexOf1 l D cA zz N k0 hk0 x1 (0 : Int32) r_3 h_3) [] [] [] rfl rfl rfl rfl (by decide) rfl rfl (ZS_recv hZ hk0 hS) m_S_633 ⟨Nat.le_of_ble_eq_true rfl, Nat.le_of_ble_eq_true rfl⟩ ⟨rfl, rfl⟩ rfl hl.1 rfl (Nat.le_of_ble_eq_true rfl) ⟨Nat.le_of_ble_eq_true rfl, Nat.le_of_ble_eq_true rfl⟩ d_S_indexOf0_3 (fun b_3 H locs hP hD hS => ?_)
  obtain rfl := Option.some.inj h
  exact rI (v := r_3) C0 (vp_nar_int _) hK hP hD hS d_S_indexOf0_6
theorem c_S_indexOf0 (l : Launch) (D : va_G) (cA : ClassId) (zz : zT) (N : Nat) (k0 : Nat) (hk0 : k0 < nJS)  (x1 : Int32) (res : Int32) (h : p_S_indexOf0 N k0 x1 = some res) : MI l D cA zz y_S_indexOf0 b_S_indexOf0 2 .int rm_S_indexOf0 [.ref (zz.1 k0), .int x1] [] (res) [] := by
  unfold p_S_indexOf0 at h
  exact MI_enter (by decide) (Nat.le_of_ble_eq_true rfl) (fun p e s m below meth c A ls C0 hK hA hZ hP hD hl => t_S_indexOf0_0 C0 hK hA hZ N k0 hk0 res _ h s.heap [] hP hD va_S.rf ls hl)
-- jdk/internal/util/Preconditions.checkIndex(IILjava/util/function/BiFunction;)I
set_option maxHeartbeats 4000000 in
set_option maxRecDepth 100000 in
theorem t_PC_checkIndex0_0 {p : Program} {l : Launch} {e : Env} {s : State} {m : MethodId} {args : Array Value} {below : List Frame} {meth : Method} {c : Code} {D : va_G} {cA : ClassId} {zz : zT} {A : Nat → Prop} (C0 : Cx p s m args meth c b_PC_checkIndex0 R_PC 3 (some .int)) (hK : va_K D classes [(cA, .int)] s) (hA : ∀ q : Nat, s.heap.size ≤ q → A q) (hZ : ZS zz A s s.heap) (N : Nat) (v2 : Value) (hv2 : v2 = .null ∨ ∃ t, v2 = .ref t) (res : Int32) :
    ∀ (x0 : Int32) (x1 : Int32), p_PC_checkIndex0_0 N x0 x1 = some res → ∀ (H : Heap) (locs : List Loc), va_P D classes [] H → va_D A [] → va_S A s.heap H locs → ∀ (ls : Array Slot), lv_has ls 3 [(0, .int x0), (1, .int x1), (2, v2)] → W p l e rm_PC_checkIndex0 s m args below meth c H locs 0 0 (QI .int below args s D cA A (res) []) (F0 m 0 ls []) := by
  obtain ⟨hx, hb, hr, hml, hown, hG, hlk⟩ := id C0
  intro x0 x1 h H locs hP hD hS ls hl
  unfold p_PC_checkIndex0_0 at h
  refine lv_iload_n hx hb d_PC_checkIndex0_0 rfl (lv_at hl 0 rfl) ?_
  refine lv_if_lt (tgt := 9) hx hb d_PC_checkIndex0_1 (by decide) (fun c_1 => ?_) (fun c_1 => ?_)
  · have h := iteP c_1 h
    exact noneS h
  · have h := iteN c_1 h
    refine lv_iload_n hx hb d_PC_checkIndex0_4 rfl (lv_at hl 0 rfl) ?_
    refine lv_iload_n hx hb d_PC_checkIndex0_5 rfl (lv_at hl 1 rfl) ?_
    refine lv_icmp_lt (tgt := 16) hx hb d_PC_checkIndex0_6 (by decide) (fun c_6 => ?_) (fun c_6 => ?_)
    · have h := iteP c_6 h
      refine lv_iload_n hx hb d_PC_checkIndex0_16 rfl (lv_at hl 0 rfl) ?_
      obtain rfl := Option.some.inj h
      exact rI (v := x0) C0 (vp_nar_int _) hK hP hD hS d_PC_checkIndex0_17
    · have h := iteN c_6 h
      exact noneS h
theorem c_PC_checkIndex0 (l : Launch) (D : va_G) (cA : ClassId) (zz : zT) (N : Nat) (v2 : Value) (hv2 : v2 = .null ∨ ∃ t, v2 = .ref t)  (x0 : Int32) (x1 : Int32) (res : Int32) (h : p_PC_checkIndex0 N x0 x1 = some res) : MI l D cA zz y_PC_checkIndex0 b_PC_checkIndex0 3 .int rm_PC_checkIndex0 [.int x0, .int x1, v2] [] (res) [] := by
  unfold p_PC_checkIndex0 at h
  rcases hv2 with rfl | ⟨t, rfl⟩
  · exact MI_enter (by decide) (Nat.le_of_ble_eq_true rfl) (fun p e s m below meth c A ls C0 hK hA hZ hP hD hl => t_PC_checkIndex0_0 C0 hK hA hZ N .null (Or.inl rfl) res _ _ h s.heap [] hP hD va_S.rf ls hl)
  · exact MI_enter (by decide) (Nat.le_of_ble_eq_true rfl) (fun p e s m below meth c A ls C0 hK hA hZ hP hD hl => t_PC_checkIndex0_0 C0 hK hA hZ N (.ref t) (Or.inr ⟨t, rfl⟩) res _ _ h s.heap [] hP hD va_S.rf ls hl)
-- java/lang/String.checkIndex(II)V
set_option maxHeartbeats 4000000 in
set_option maxRecDepth 100000 in
theorem t_S_checkIndex_0 {p : Program} {l : Launch} {e : Env} {s : State} {m : MethodId} {args : Array Value} {below : List Frame} {meth : Method} {c : Code} {D : va_G} {cA : ClassId} {zz : zT} {A : Nat → Prop} (C0 : Cx p s m args meth c b_S_checkIndex R_S 2 none) (hK : va_K D classes [(cA, .int)] s) (hA : ∀ q : Nat, s.heap.size ≤ q → A q) (hZ : ZS zz A s s.heap) (N : Nat) (res : Unit) :
    ∀ (x0 : Int32) (x1 : Int32), p_S_checkIndex_0 N x0 x1 = some res → ∀ (H : Heap) (locs : List Loc), va_P D classes [] H → va_D A [] → va_S A s.heap H locs → ∀ (ls : Array Slot), lv_has ls 2 [(0, .int x0), (1, .int x1)] → W p l e rm_S_checkIndex s m args below meth c H locs 0 0 (QV below args s D cA A []) (F0 m 0 ls []) := by
  obtain ⟨hx, hb, hr, hml, hown, hG, hlk⟩ := id C0
  intro x0 x1 h H locs hP hD hS ls hl
  unfold p_S_checkIndex_0 at h
  refine lv_iload_n hx hb d_S_checkIndex_0 rfl (lv_at hl 0 rfl) ?_
  refine lv_iload_n hx hb d_S_checkIndex_1 rfl (lv_at hl 1 rfl) ?_
  refine va_gets (v := zz.2.2) hx hb (ZS_form hZ) hS hown (hG _ f_S_1053) (fun _ h9 => h9) d_S_checkIndex_2 ?_
  obtain ⟨r_5, h_5, h⟩ := bindS h
  refine call_si (wr := []) (w1 := []) (wN := []) (rest := []) C0 hK hP hD hS hA hZ (c_PC_checkIndex0 l D cA zz N zz.2.2 (ZS_fm hZ) x0 x1 r_5 h_5) [] [] [] rfl rfl rfl rfl (by decide) rfl rfl m_S_1059 ⟨Nat.le_of_ble_eq_true rfl, Nat.le_of_ble_eq_true rfl⟩ ⟨rfl, rfl⟩ rfl hl.1 rfl (Nat.le_of_ble_eq_true rfl) ⟨Nat.le_of_ble_eq_true rfl, Nat.le_of_ble_eq_true rfl⟩ d_S_checkIndex_5 (fun b_5 H locs hP hD hS => ?_)
  refine lv_pop hx hb d_S_checkIndex_8 rfl ?_
  obtain rfl := Option.some.inj h
  exact rV C0 hK hP hD hS d_S_checkIndex_9
theorem c_S_checkIndex (l : Launch) (D : va_G) (cA : ClassId) (zz : zT) (N : Nat)  (x0 : Int32) (x1 : Int32) (res : Unit) (h : p_S_checkIndex N x0 x1 = some res) : MV l D cA zz y_S_checkIndex b_S_checkIndex 2 rm_S_checkIndex [.int x0, .int x1] [] [] := by
  unfold p_S_checkIndex at h
  exact MV_enter (by decide) (Nat.le_of_ble_eq_true rfl) (fun p e s m below meth c A ls C0 hK hA hZ hP hD hl => t_S_checkIndex_0 C0 hK hA hZ N res _ _ h s.heap [] hP hD va_S.rf ls hl)
-- java/lang/StringLatin1.charAt([BI)C
set_option maxHeartbeats 4000000 in
set_option maxRecDepth 100000 in
theorem t_SL_charAt_0 {p : Program} {l : Launch} {e : Env} {s : State} {m : MethodId} {args : Array Value} {below : List Frame} {meth : Method} {c : Code} {D : va_G} {cA : ClassId} {zz : zT} {A : Nat → Prop} (C0 : Cx p s m args meth c b_SL_charAt R_SL 2 (some .char)) (hK : va_K D classes [(cA, .int)] s) (hA : ∀ q : Nat, s.heap.size ≤ q → A q) (hZ : ZS zz A s s.heap) (N : Nat) (k0 : Nat) (hk0 : k0 < nJS) (res : Int32) :
    ∀ (x1 : Int32), p_SL_charAt_0 N k0 x1 = some res → ∀ (H : Heap) (locs : List Loc), va_P D classes [] H → va_D A [] → va_S A s.heap H locs → ∀ (ls : Array Slot), lv_has ls 2 [(0, .ref (zz.2.1 k0)), (1, .int x1)] → W p l e rm_SL_charAt s m args below meth c H locs 0 0 (QI .char below args s D cA A (res) []) (F0 m 0 ls []) := by
  obtain ⟨hx, hb, hr, hml, hown, hG, hlk⟩ := id C0
  intro x1 h H locs hP hD hS ls hl
  unfold p_SL_charAt_0 at h
  refine lv_iload_n hx hb d_SL_charAt_0 rfl (lv_at hl 1 rfl) ?_
  refine lv_aload_n hx hb d_SL_charAt_1 rfl (lv_at hl 0 rfl) ?_
  refine va_tlen (v := (Int32.ofNat (lenJS.getD k0 0))) hx hb (ZS_bytes hZ hk0) hS rfl d_SL_charAt_2 ?_
  obtain ⟨r_3, h_3, h⟩ := bindS h
  refine call_sv (wr := []) (w1 := []) (wN := []) (rest := []) C0 hK hP hD hS hA hZ (c_S_checkIndex l D cA zz N x1 (Int32.ofNat (lenJS.getD k0 0)) r_3 h_3) [] [] [] rfl rfl rfl rfl (by decide) rfl rfl m_SL_9 ⟨Nat.le_of_ble_eq_true rfl, Nat.le_of_ble_eq_true rfl⟩ ⟨rfl, rfl⟩ rfl hl.1 rfl (Nat.le_of_ble_eq_true rfl) ⟨Nat.le_of_ble_eq_true rfl, Nat.le_of_ble_eq_true rfl⟩ d_SL_charAt_3 (fun H locs hP hD hS => ?_)
  refine lv_aload_n hx hb d_SL_charAt_6 rfl (lv_at hl 0 rfl) ?_
  refine lv_iload_n hx hb d_SL_charAt_7 rfl (lv_at hl 1 rfl) ?_
  obtain ⟨g_8, h⟩ := guardN h
  refine va_tb (v := .int ((bytJS.getD k0 []).getD x1.toNatClampNeg 0)) hx hb (ZS_bytes hZ hk0) hS g_8 rfl d_SL_charAt_8 ?_
  refine lv_sipush (v := (255 : Int32)) hx hb d_SL_charAt_9 (by decide) ?_
  refine lv_iand hx hb d_SL_charAt_12 ?_
  refine lv_i2c (v := ((((bytJS.getD k0 []).getD x1.toNatClampNeg 0) &&& (255 : Int32)).toUInt32 % 65536).toInt32) hx hb d_SL_charAt_13 rfl ?_
  obtain rfl := Option.some.inj h
  exact rI (v := ((((bytJS.getD k0 []).getD x1.toNatClampNeg 0) &&& (255 : Int32)).toUInt32 % 65536).toInt32) C0 (pk_nc _) hK hP hD hS d_SL_charAt_14
theorem c_SL_charAt (l : Launch) (D : va_G) (cA : ClassId) (zz : zT) (N : Nat) (k0 : Nat) (hk0 : k0 < nJS)  (x1 : Int32) (res : Int32) (h : p_SL_charAt N k0 x1 = some res) : MI l D cA zz y_SL_charAt b_SL_charAt 2 .char rm_SL_charAt [.ref (zz.2.1 k0), .int x1] [] (res) [] := by
  unfold p_SL_charAt at h
  exact MI_enter (by decide) (Nat.le_of_ble_eq_true rfl) (fun p e s m below meth c A ls C0 hK hA hZ hP hD hl => t_SL_charAt_0 C0 hK hA hZ N k0 hk0 res _ h s.heap [] hP hD va_S.rf ls hl)
-- java/lang/String.charAt(I)C
set_option maxHeartbeats 4000000 in
set_option maxRecDepth 100000 in
theorem t_S_charAt_0 {p : Program} {l : Launch} {e : Env} {s : State} {m : MethodId} {args : Array Value} {below : List Frame} {meth : Method} {c : Code} {D : va_G} {cA : ClassId} {zz : zT} {A : Nat → Prop} (C0 : Cx p s m args meth c b_S_charAt R_S 2 (some .char)) (hK : va_K D classes [(cA, .int)] s) (hA : ∀ q : Nat, s.heap.size ≤ q → A q) (hZ : ZS zz A s s.heap) (N : Nat) (k0 : Nat) (hk0 : k0 < nJS) (res : Int32) :
    ∀ (x1 : Int32), p_S_charAt_0 N k0 x1 = some res → ∀ (H : Heap) (locs : List Loc), va_P D classes [] H → va_D A [] → va_S A s.heap H locs → ∀ (ls : Array Slot), lv_has ls 2 [(0, .ref (zz.1 k0)), (1, .int x1)] → W p l e rm_S_charAt s m args below meth c H locs 0 0 (QI .char below args s D cA A (res) []) (F0 m 0 ls []) := by
  obtain ⟨hx, hb, hr, hml, hown, hG, hlk⟩ := id C0
  intro x1 h H locs hP hD hS ls hl
  unfold p_S_charAt_0 at h
  refine lv_aload_n hx hb d_S_charAt_0 rfl (lv_at hl 0 rfl) ?_
  obtain ⟨r_1, h_1, h⟩ := bindS h
  refine call_ki (wr := []) (w1 := []) (wN := []) (rest := []) C0 hK hP hD hS hA hZ (c_S_isLatin1 l D cA zz N k0 hk0 r_1 h_1) [] [] [] rfl rfl rfl rfl (by decide) rfl rfl (ZS_recv hZ hk0 hS) m_S_492 ⟨Nat.le_of_ble_eq_true rfl, Nat.le_of_ble_eq_true rfl⟩ ⟨rfl, rfl⟩ rfl hl.1 rfl (Nat.le_of_ble_eq_true rfl) ⟨Nat.le_of_ble_eq_true rfl, Nat.le_of_ble_eq_true rfl⟩ d_S_charAt_1 (fun b_1 H locs hP hD hS => ?_)
  refine lv_if_eq (tgt := 16) hx hb d_S_charAt_4 (by decide) (fun c_4 => ?_) (fun c_4 => ?_)
  · have h := iteP c_4 h
    refine lv_aload_n hx hb d_S_charAt_16 rfl (lv_at hl 0 rfl) ?_
    refine vk_getf hx hb (ZS_value hZ hk0) hS hown (hG _ f_S_9) (fun _ h9 => h9) d_S_charAt_17 ?_
    refine lv_iload_n hx hb d_S_charAt_20 rfl (lv_at hl 1 rfl) ?_
    exact noneS h
  · have h := iteN c_4 h
    refine lv_aload_n hx hb d_S_charAt_7 rfl (lv_at hl 0 rfl) ?_
    refine vk_getf hx hb (ZS_value hZ hk0) hS hown (hG _ f_S_9) (fun _ h9 => h9) d_S_charAt_8 ?_
    refine lv_iload_n hx hb d_S_charAt_11 rfl (lv_at hl 1 rfl) ?_
    obtain ⟨r_12, h_12, h⟩ := bindS h
    refine call_si (wr := []) (w1 := []) (wN := []) (rest := []) C0 hK hP hD hS hA hZ (c_SL_charAt l D cA zz N k0 hk0 x1 r_12 h_12) [] [] [] rfl rfl rfl rfl (by decide) rfl rfl m_S_495 ⟨Nat.le_of_ble_eq_true rfl, Nat.le_of_ble_eq_true rfl⟩ ⟨rfl, rfl⟩ rfl hl.1 rfl (Nat.le_of_ble_eq_true rfl) ⟨Nat.le_of_ble_eq_true rfl, Nat.le_of_ble_eq_true rfl⟩ d_S_charAt_12 (fun b_12 H locs hP hD hS => ?_)
    obtain rfl := Option.some.inj h
    exact rI (v := r_12) C0 b_12 hK hP hD hS d_S_charAt_15
theorem c_S_charAt (l : Launch) (D : va_G) (cA : ClassId) (zz : zT) (N : Nat) (k0 : Nat) (hk0 : k0 < nJS)  (x1 : Int32) (res : Int32) (h : p_S_charAt N k0 x1 = some res) : MI l D cA zz y_S_charAt b_S_charAt 2 .char rm_S_charAt [.ref (zz.1 k0), .int x1] [] (res) [] := by
  unfold p_S_charAt at h
  exact MI_enter (by decide) (Nat.le_of_ble_eq_true rfl) (fun p e s m below meth c A ls C0 hK hA hZ hP hD hl => t_S_charAt_0 C0 hK hA hZ N k0 hk0 res _ h s.heap [] hP hD va_S.rf ls hl)
