-- ListWords$Row.byteAt(I)I
set_option maxHeartbeats 4000000 in
set_option maxRecDepth 100000 in
theorem t_R_byteAt_0 {p : Program} {l : Launch} {e : Env} {s : State} {m : MethodId} {args : Array Value} {below : List Frame} {meth : Method} {c : Code} {D : va_G} {cA : ClassId} {zz : zT} {A : Nat → Prop} (C0 : Cx p s m args meth c b_R_byteAt R_R 2 (some .int)) (hK : va_K D classes [(cA, .int)] s) (hA : ∀ q : Nat, s.heap.size ≤ q → A q) (hZ : ZS zz A s s.heap) (N : Nat) (h_this : Nat) (h_this_bytes : Nat) (size_this : Int32) (a_bytes : Nat → Int32) (res : Int32) :
    ∀ (x1 : Int32), p_R_byteAt_0 N size_this a_bytes x1 = some res → ∀ (H : Heap) (locs : List Loc), va_P D classes [(h_this, .inr (0, [.ref h_this_bytes, .int size_this])), (h_this_bytes, .inl (cA, 1024, .inl a_bytes))] H → va_D A [(h_this, .inr (0, [.ref h_this_bytes, .int size_this])), (h_this_bytes, .inl (cA, 1024, .inl a_bytes))] → va_S A s.heap H locs → ∀ (ls : Array Slot), lv_has ls 2 [(0, .ref h_this), (1, .int x1)] → W p l e rm_R_byteAt s m args below meth c H locs 0 0 (QI .int below args s D cA A (res) [(h_this, .inr (0, [.ref h_this_bytes, .int size_this])), (h_this_bytes, .inl (cA, 1024, .inl a_bytes))]) (F0 m 0 ls []) := by
  obtain ⟨hx, hb, hr, hml, hown, hG, hlk⟩ := id C0
  intro x1 h H locs hP hD hS ls hl
  unfold p_R_byteAt_0 at h
  refine lv_iload_n hx hb d_R_byteAt_0 rfl (lv_at hl 1 rfl) ?_
  refine lv_if_lt (tgt := 21) hx hb d_R_byteAt_1 (by decide) (fun c_1 => ?_) (fun c_1 => ?_)
  · have h := iteP c_1 h
    refine lv_iconst (v := (-1 : Int32)) hx hb d_R_byteAt_21 (by decide) ?_
    obtain rfl := Option.some.inj h
    exact rI (v := (-1 : Int32)) C0 (vp_nar_int _) hK hP hD hS d_R_byteAt_22
  · have h := iteN c_1 h
    refine lv_iload_n hx hb d_R_byteAt_4 rfl (lv_at hl 1 rfl) ?_
    refine lv_aload_n hx hb d_R_byteAt_5 rfl (lv_at hl 0 rfl) ?_
    refine va_get (D := D) (ci := 0) (v := .int size_this) (C := R_R) (T := F_R) (N := 2) hx hb hG i_R hown hK hP 0 rfl rfl 1 (by decide) (hG _ f_R_15) (fun _ h9 => h9) rfl d_R_byteAt_6 ?_
    refine lv_icmp_ge (tgt := 21) hx hb d_R_byteAt_9 (by decide) (fun c_9 => ?_) (fun c_9 => ?_)
    · have h := iteP c_9 h
      refine lv_iconst (v := (-1 : Int32)) hx hb d_R_byteAt_21 (by decide) ?_
      obtain rfl := Option.some.inj h
      exact rI (v := (-1 : Int32)) C0 (vp_nar_int _) hK hP hD hS d_R_byteAt_22
    · have h := iteN c_9 h
      refine lv_aload_n hx hb d_R_byteAt_12 rfl (lv_at hl 0 rfl) ?_
      refine va_get (D := D) (ci := 0) (v := .ref h_this_bytes) (C := R_R) (T := F_R) (N := 2) hx hb hG i_R hown hK hP 0 rfl rfl 0 (by decide) (hG _ f_R_9) (fun _ h9 => h9) rfl d_R_byteAt_13 ?_
      refine lv_iload_n hx hb d_R_byteAt_16 rfl (lv_at hl 1 rfl) ?_
      obtain ⟨g_17, h⟩ := guardN h
      refine va_iald hx hb hK hP 1 0 rfl rfl g_17 d_R_byteAt_17 ?_
      refine lv_goto (tgt := 22) hx hb d_R_byteAt_18 (by decide) ?_
      obtain rfl := Option.some.inj h
      exact rI (v := (a_bytes x1.toNatClampNeg)) C0 (vp_nar_int _) hK hP hD hS d_R_byteAt_22
theorem c_R_byteAt (l : Launch) (D : va_G) (cA : ClassId) (zz : zT) (N : Nat) (h_this : Nat) (h_this_bytes : Nat) (size_this : Int32) (a_bytes : Nat → Int32) (x1 : Int32) (res : Int32) (h : p_R_byteAt N size_this a_bytes x1 = some res) : MI l D cA zz y_R_byteAt b_R_byteAt 2 .int rm_R_byteAt [.ref h_this, .int x1] [(h_this, .inr (0, [.ref h_this_bytes, .int size_this])), (h_this_bytes, .inl (cA, 1024, .inl a_bytes))] (res) [(h_this, .inr (0, [.ref h_this_bytes, .int size_this])), (h_this_bytes, .inl (cA, 1024, .inl a_bytes))] := by
  unfold p_R_byteAt at h
  exact MI_enter (by decide) (Nat.le_of_ble_eq_true rfl) (fun p e s m below meth c A ls C0 hK hA hZ hP hD hl => t_R_byteAt_0 C0 hK hA hZ N h_this h_this_bytes size_this a_bytes res _ h s.heap [] hP hD va_S.rf ls hl)
-- ListWords$Row.putAll(LListWords$Row;)Z
set_option maxHeartbeats 4000000 in
set_option maxRecDepth 100000 in
theorem t_R_putAll_0 {p : Program} {l : Launch} {e : Env} {s : State} {m : MethodId} {args : Array Value} {below : List Frame} {meth : Method} {c : Code} {D : va_G} {cA : ClassId} {zz : zT} {A : Nat → Prop} (C0 : Cx p s m args meth c b_R_putAll R_R 2 (some .boolean)) (hK : va_K D classes [(cA, .int)] s) (hA : ∀ q : Nat, s.heap.size ≤ q → A q) (hZ : ZS zz A s s.heap) (N : Nat) (h_this : Nat) (h_this_bytes : Nat) (h_p1 : Nat) (h_p1_bytes : Nat) (size_p1 : Int32) (a_p1_bytes : Nat → Int32) (res : Int32 × Int32 × (Nat → Int32)) :
    ∀ (size_this : Int32) (a_bytes : Nat → Int32), p_R_putAll_0 N size_p1 a_p1_bytes size_this a_bytes = some res → ∀ (H : Heap) (locs : List Loc), va_P D classes [(h_this, .inr (0, [.ref h_this_bytes, .int size_this])), (h_this_bytes, .inl (cA, 1024, .inl a_bytes)), (h_p1, .inr (0, [.ref h_p1_bytes, .int size_p1])), (h_p1_bytes, .inl (cA, 1024, .inl a_p1_bytes))] H → va_D A [(h_this, .inr (0, [.ref h_this_bytes, .int size_this])), (h_this_bytes, .inl (cA, 1024, .inl a_bytes)), (h_p1, .inr (0, [.ref h_p1_bytes, .int size_p1])), (h_p1_bytes, .inl (cA, 1024, .inl a_p1_bytes))] → va_S A s.heap H locs → ∀ (ls : Array Slot), lv_has ls 2 [(0, .ref h_this), (1, .ref h_p1)] → W p l e rm_R_putAll s m args below meth c H locs 0 0 (QI .boolean below args s D cA A (res.1) [(h_this, .inr (0, [.ref h_this_bytes, .int res.2.1])), (h_this_bytes, .inl (cA, 1024, .inl res.2.2)), (h_p1, .inr (0, [.ref h_p1_bytes, .int size_p1])), (h_p1_bytes, .inl (cA, 1024, .inl a_p1_bytes))]) (F0 m 0 ls []) := by
  obtain ⟨hx, hb, hr, hml, hown, hG, hlk⟩ := id C0
  intro size_this a_bytes h H locs hP hD hS ls hl
  unfold p_R_putAll_0 at h
  refine lv_aload_n hx hb d_R_putAll_0 rfl (lv_at hl 1 rfl) ?_
  refine va_get (D := D) (ci := 0) (v := .int size_p1) (C := R_R) (T := F_R) (N := 2) hx hb hG i_R hown hK hP 2 rfl rfl 1 (by decide) (hG _ f_R_15) (fun _ h9 => h9) rfl d_R_putAll_1 ?_
  refine lv_sipush (v := (1024 : Int32)) hx hb d_R_putAll_4 (by decide) ?_
  refine lv_aload_n hx hb d_R_putAll_7 rfl (lv_at hl 0 rfl) ?_
  refine va_get (D := D) (ci := 0) (v := .int size_this) (C := R_R) (T := F_R) (N := 2) hx hb hG i_R hown hK hP 0 rfl rfl 1 (by decide) (hG _ f_R_15) (fun _ h9 => h9) rfl d_R_putAll_8 ?_
  refine lv_isub hx hb d_R_putAll_11 ?_
  refine lv_icmp_le (tgt := 17) hx hb d_R_putAll_12 (by decide) (fun c_12 => ?_) (fun c_12 => ?_)
  · have h := iteP c_12 h
    refine lv_aload_n hx hb d_R_putAll_17 rfl (lv_at hl 1 rfl) ?_
    refine va_get (D := D) (ci := 0) (v := .ref h_p1_bytes) (C := R_R) (T := F_R) (N := 2) hx hb hG i_R hown hK hP 2 rfl rfl 0 (by decide) (hG _ f_R_9) (fun _ h9 => h9) rfl d_R_putAll_18 ?_
    refine lv_iconst (v := (0 : Int32)) hx hb d_R_putAll_21 (by decide) ?_
    refine lv_aload_n hx hb d_R_putAll_22 rfl (lv_at hl 0 rfl) ?_
    refine va_get (D := D) (ci := 0) (v := .ref h_this_bytes) (C := R_R) (T := F_R) (N := 2) hx hb hG i_R hown hK hP 0 rfl rfl 0 (by decide) (hG _ f_R_9) (fun _ h9 => h9) rfl d_R_putAll_23 ?_
    refine lv_aload_n hx hb d_R_putAll_26 rfl (lv_at hl 0 rfl) ?_
    refine va_get (D := D) (ci := 0) (v := .int size_this) (C := R_R) (T := F_R) (N := 2) hx hb hG i_R hown hK hP 0 rfl rfl 1 (by decide) (hG _ f_R_15) (fun _ h9 => h9) rfl d_R_putAll_27 ?_
    refine lv_aload_n hx hb d_R_putAll_30 rfl (lv_at hl 1 rfl) ?_
    refine va_get (D := D) (ci := 0) (v := .int size_p1) (C := R_R) (T := F_R) (N := 2) hx hb hG i_R hown hK hP 2 rfl rfl 1 (by decide) (hG _ f_R_15) (fun _ h9 => h9) rfl d_R_putAll_31 ?_
    obtain ⟨g_34, h⟩ := guardN h
    obtain ⟨ga_34, gb_34, gc_34, gd_34, ge_34⟩ := guard5 g_34
    refine va_copyi hx hb (hml.trans hl.1.symm) hown (hG _ m_R_23) (hG _ w_copy_native) (hG _ w_copy_static) (hG _ w_system_init) hK hP hD hS 3 1 0 0 rfl rfl rfl rfl rfl ga_34 gb_34 gc_34 gd_34 ge_34 (fun _ _ => rfl) (Nat.le_of_ble_eq_true rfl) (by decide) d_R_putAll_34 (fun H locs hP hD hS => ?_)
    have hP : va_P D classes [(h_this, .inr (0, [.ref h_this_bytes, .int size_this])), (h_this_bytes, .inl (cA, 1024, .inl (va_cpy a_p1_bytes a_bytes (0 : Int32).toNatClampNeg size_this.toNatClampNeg size_p1.toNatClampNeg))), (h_p1, .inr (0, [.ref h_p1_bytes, .int size_p1])), (h_p1_bytes, .inl (cA, 1024, .inl a_p1_bytes))] H := hP
    have hD : va_D A [(h_this, .inr (0, [.ref h_this_bytes, .int size_this])), (h_this_bytes, .inl (cA, 1024, .inl (va_cpy a_p1_bytes a_bytes (0 : Int32).toNatClampNeg size_this.toNatClampNeg size_p1.toNatClampNeg))), (h_p1, .inr (0, [.ref h_p1_bytes, .int size_p1])), (h_p1_bytes, .inl (cA, 1024, .inl a_p1_bytes))] := hD
    refine lv_aload_n hx hb d_R_putAll_37 rfl (lv_at hl 0 rfl) ?_
    refine lv_dup hx hb d_R_putAll_38 rfl ?_
    refine va_get (D := D) (ci := 0) (v := .int size_this) (C := R_R) (T := F_R) (N := 2) hx hb hG i_R hown hK hP 0 rfl rfl 1 (by decide) (hG _ f_R_15) (fun _ h9 => h9) rfl d_R_putAll_39 ?_
    refine lv_aload_n hx hb d_R_putAll_42 rfl (lv_at hl 1 rfl) ?_
    refine va_get (D := D) (ci := 0) (v := .int size_p1) (C := R_R) (T := F_R) (N := 2) hx hb hG i_R hown hK hP 2 rfl rfl 1 (by decide) (hG _ f_R_15) (fun _ h9 => h9) rfl d_R_putAll_43 ?_
    refine lv_iadd hx hb d_R_putAll_46 ?_
    refine va_put (D := D) (ci := 0) (v := .int (size_this + size_p1)) (ty := .int) (C := R_R) (T := F_R) (N := 2) hx hb hG i_R t_R t_R_ok n_R hown hK hP hD hS 0 rfl rfl 1 (by decide) (hG _ f_R_15) (fun _ h9 => h9) rfl (by decide +kernel) rfl rfl (Nat.le_of_ble_eq_true rfl) d_R_putAll_47 (fun H locs hP hD hS => ?_)
    have hP : va_P D classes [(h_this, .inr (0, [.ref h_this_bytes, .int (size_this + size_p1)])), (h_this_bytes, .inl (cA, 1024, .inl (va_cpy a_p1_bytes a_bytes (0 : Int32).toNatClampNeg size_this.toNatClampNeg size_p1.toNatClampNeg))), (h_p1, .inr (0, [.ref h_p1_bytes, .int size_p1])), (h_p1_bytes, .inl (cA, 1024, .inl a_p1_bytes))] H := hP
    have hD : va_D A [(h_this, .inr (0, [.ref h_this_bytes, .int (size_this + size_p1)])), (h_this_bytes, .inl (cA, 1024, .inl (va_cpy a_p1_bytes a_bytes (0 : Int32).toNatClampNeg size_this.toNatClampNeg size_p1.toNatClampNeg))), (h_p1, .inr (0, [.ref h_p1_bytes, .int size_p1])), (h_p1_bytes, .inl (cA, 1024, .inl a_p1_bytes))] := hD
    refine lv_iconst (v := (1 : Int32)) hx hb d_R_putAll_50 (by decide) ?_
    obtain rfl := Option.some.inj h
    exact rI (v := (1 : Int32)) C0 rfl hK hP hD hS d_R_putAll_51
  · have h := iteN c_12 h
    refine lv_iconst (v := (0 : Int32)) hx hb d_R_putAll_15 (by decide) ?_
    obtain rfl := Option.some.inj h
    exact rI (v := (0 : Int32)) C0 rfl hK hP hD hS d_R_putAll_16
theorem c_R_putAll (l : Launch) (D : va_G) (cA : ClassId) (zz : zT) (N : Nat) (h_this : Nat) (h_this_bytes : Nat) (h_p1 : Nat) (h_p1_bytes : Nat) (size_this : Int32) (a_bytes : Nat → Int32) (size_p1 : Int32) (a_p1_bytes : Nat → Int32) (res : Int32 × Int32 × (Nat → Int32)) (h : p_R_putAll N size_this a_bytes size_p1 a_p1_bytes = some res) : MI l D cA zz y_R_putAll b_R_putAll 2 .boolean rm_R_putAll [.ref h_this, .ref h_p1] [(h_this, .inr (0, [.ref h_this_bytes, .int size_this])), (h_this_bytes, .inl (cA, 1024, .inl a_bytes)), (h_p1, .inr (0, [.ref h_p1_bytes, .int size_p1])), (h_p1_bytes, .inl (cA, 1024, .inl a_p1_bytes))] (res.1) [(h_this, .inr (0, [.ref h_this_bytes, .int res.2.1])), (h_this_bytes, .inl (cA, 1024, .inl res.2.2)), (h_p1, .inr (0, [.ref h_p1_bytes, .int size_p1])), (h_p1_bytes, .inl (cA, 1024, .inl a_p1_bytes))] := by
  unfold p_R_putAll at h
  exact MI_enter (by decide) (Nat.le_of_ble_eq_true rfl) (fun p e s m below meth c A ls C0 hK hA hZ hP hD hl => t_R_putAll_0 C0 hK hA hZ N h_this h_this_bytes h_p1 h_p1_bytes size_p1 a_p1_bytes res _ _ h s.heap [] hP hD va_S.rf ls hl)
-- ListWords$Row.takeAll(LListWords$Row;)I
set_option maxHeartbeats 4000000 in
set_option maxRecDepth 100000 in
theorem t_R_takeAll_0 {p : Program} {l : Launch} {e : Env} {s : State} {m : MethodId} {args : Array Value} {below : List Frame} {meth : Method} {c : Code} {D : va_G} {cA : ClassId} {zz : zT} {A : Nat → Prop} (C0 : Cx p s m args meth c b_R_takeAll R_R 2 (some .int)) (hK : va_K D classes [(cA, .int)] s) (hA : ∀ q : Nat, s.heap.size ≤ q → A q) (hZ : ZS zz A s s.heap) (N : Nat) (h_this : Nat) (h_this_bytes : Nat) (h_p1 : Nat) (h_p1_bytes : Nat) (a_p1_bytes : Nat → Int32) (res : Int32 × Int32 × (Nat → Int32) × Int32) :
    ∀ (size_this : Int32) (a_bytes : Nat → Int32) (size_p1 : Int32), p_R_takeAll_0 N a_p1_bytes size_this a_bytes size_p1 = some res → ∀ (H : Heap) (locs : List Loc), va_P D classes [(h_this, .inr (0, [.ref h_this_bytes, .int size_this])), (h_this_bytes, .inl (cA, 1024, .inl a_bytes)), (h_p1, .inr (0, [.ref h_p1_bytes, .int size_p1])), (h_p1_bytes, .inl (cA, 1024, .inl a_p1_bytes))] H → va_D A [(h_this, .inr (0, [.ref h_this_bytes, .int size_this])), (h_this_bytes, .inl (cA, 1024, .inl a_bytes)), (h_p1, .inr (0, [.ref h_p1_bytes, .int size_p1])), (h_p1_bytes, .inl (cA, 1024, .inl a_p1_bytes))] → va_S A s.heap H locs → ∀ (ls : Array Slot), lv_has ls 2 [(0, .ref h_this), (1, .ref h_p1)] → W p l e rm_R_takeAll s m args below meth c H locs 0 0 (QI .int below args s D cA A (res.1) [(h_this, .inr (0, [.ref h_this_bytes, .int res.2.1])), (h_this_bytes, .inl (cA, 1024, .inl res.2.2.1)), (h_p1, .inr (0, [.ref h_p1_bytes, .int res.2.2.2])), (h_p1_bytes, .inl (cA, 1024, .inl a_p1_bytes))]) (F0 m 0 ls []) := by
  obtain ⟨hx, hb, hr, hml, hown, hG, hlk⟩ := id C0
  intro size_this a_bytes size_p1 h H locs hP hD hS ls hl
  unfold p_R_takeAll_0 at h
  refine lv_aload_n hx hb d_R_takeAll_0 rfl (lv_at hl 0 rfl) ?_
  refine lv_iconst (v := (0 : Int32)) hx hb d_R_takeAll_1 (by decide) ?_
  refine va_put (D := D) (ci := 0) (v := .int (0 : Int32)) (ty := .int) (C := R_R) (T := F_R) (N := 2) hx hb hG i_R t_R t_R_ok n_R hown hK hP hD hS 0 rfl rfl 1 (by decide) (hG _ f_R_15) (fun _ h9 => h9) rfl (by decide +kernel) rfl rfl (Nat.le_of_ble_eq_true rfl) d_R_takeAll_2 (fun H locs hP hD hS => ?_)
  have hP : va_P D classes [(h_this, .inr (0, [.ref h_this_bytes, .int (0 : Int32)])), (h_this_bytes, .inl (cA, 1024, .inl a_bytes)), (h_p1, .inr (0, [.ref h_p1_bytes, .int size_p1])), (h_p1_bytes, .inl (cA, 1024, .inl a_p1_bytes))] H := hP
  have hD : va_D A [(h_this, .inr (0, [.ref h_this_bytes, .int (0 : Int32)])), (h_this_bytes, .inl (cA, 1024, .inl a_bytes)), (h_p1, .inr (0, [.ref h_p1_bytes, .int size_p1])), (h_p1_bytes, .inl (cA, 1024, .inl a_p1_bytes))] := hD
  refine lv_aload_n hx hb d_R_takeAll_5 rfl (lv_at hl 0 rfl) ?_
  refine lv_aload_n hx hb d_R_takeAll_6 rfl (lv_at hl 1 rfl) ?_
  obtain ⟨r_7, h_7, h⟩ := bindS h
  refine call_vi (wr := []) (w1 := [(h_this, .inr (0, [.ref h_this_bytes, .int r_7.2.1])), (h_this_bytes, .inl (cA, 1024, .inl r_7.2.2)), (h_p1, .inr (0, [.ref h_p1_bytes, .int size_p1])), (h_p1_bytes, .inl (cA, 1024, .inl a_p1_bytes))]) (wN := [(h_this, .inr (0, [.ref h_this_bytes, .int r_7.2.1])), (h_this_bytes, .inl (cA, 1024, .inl r_7.2.2)), (h_p1, .inr (0, [.ref h_p1_bytes, .int size_p1])), (h_p1_bytes, .inl (cA, 1024, .inl a_p1_bytes))]) (rest := []) C0 hK hP hD hS hA hZ (c_R_putAll l D cA zz N h_this h_this_bytes h_p1 h_p1_bytes (0 : Int32) a_bytes size_p1 a_p1_bytes r_7 h_7) [0, 1, 2, 3] [] [0, 1, 2, 3] rfl rfl rfl rfl (by decide) rfl rfl 0 0 rfl rfl m_R_29 ⟨Nat.le_of_ble_eq_true rfl, Nat.le_of_ble_eq_true rfl⟩ ⟨rfl, rfl⟩ rfl hl.1 rfl (Nat.le_of_ble_eq_true rfl) ⟨Nat.le_of_ble_eq_true rfl, Nat.le_of_ble_eq_true rfl⟩ d_R_takeAll_7 (fun b_7 H locs hP hD hS => ?_)
  refine lv_pop hx hb d_R_takeAll_10 rfl ?_
  refine lv_aload_n hx hb d_R_takeAll_11 rfl (lv_at hl 1 rfl) ?_
  refine lv_iconst (v := (0 : Int32)) hx hb d_R_takeAll_12 (by decide) ?_
  refine va_put (D := D) (ci := 0) (v := .int (0 : Int32)) (ty := .int) (C := R_R) (T := F_R) (N := 2) hx hb hG i_R t_R t_R_ok n_R hown hK hP hD hS 2 rfl rfl 1 (by decide) (hG _ f_R_15) (fun _ h9 => h9) rfl (by decide +kernel) rfl rfl (Nat.le_of_ble_eq_true rfl) d_R_takeAll_13 (fun H locs hP hD hS => ?_)
  have hP : va_P D classes [(h_this, .inr (0, [.ref h_this_bytes, .int r_7.2.1])), (h_this_bytes, .inl (cA, 1024, .inl r_7.2.2)), (h_p1, .inr (0, [.ref h_p1_bytes, .int (0 : Int32)])), (h_p1_bytes, .inl (cA, 1024, .inl a_p1_bytes))] H := hP
  have hD : va_D A [(h_this, .inr (0, [.ref h_this_bytes, .int r_7.2.1])), (h_this_bytes, .inl (cA, 1024, .inl r_7.2.2)), (h_p1, .inr (0, [.ref h_p1_bytes, .int (0 : Int32)])), (h_p1_bytes, .inl (cA, 1024, .inl a_p1_bytes))] := hD
  refine lv_aload_n hx hb d_R_takeAll_16 rfl (lv_at hl 0 rfl) ?_
  refine va_get (D := D) (ci := 0) (v := .int r_7.2.1) (C := R_R) (T := F_R) (N := 2) hx hb hG i_R hown hK hP 0 rfl rfl 1 (by decide) (hG _ f_R_15) (fun _ h9 => h9) rfl d_R_takeAll_17 ?_
  obtain rfl := Option.some.inj h
  exact rI (v := r_7.2.1) C0 (vp_nar_int _) hK hP hD hS d_R_takeAll_20
theorem c_R_takeAll (l : Launch) (D : va_G) (cA : ClassId) (zz : zT) (N : Nat) (h_this : Nat) (h_this_bytes : Nat) (h_p1 : Nat) (h_p1_bytes : Nat) (size_this : Int32) (a_bytes : Nat → Int32) (size_p1 : Int32) (a_p1_bytes : Nat → Int32) (res : Int32 × Int32 × (Nat → Int32) × Int32) (h : p_R_takeAll N size_this a_bytes size_p1 a_p1_bytes = some res) : MI l D cA zz y_R_takeAll b_R_takeAll 2 .int rm_R_takeAll [.ref h_this, .ref h_p1] [(h_this, .inr (0, [.ref h_this_bytes, .int size_this])), (h_this_bytes, .inl (cA, 1024, .inl a_bytes)), (h_p1, .inr (0, [.ref h_p1_bytes, .int size_p1])), (h_p1_bytes, .inl (cA, 1024, .inl a_p1_bytes))] (res.1) [(h_this, .inr (0, [.ref h_this_bytes, .int res.2.1])), (h_this_bytes, .inl (cA, 1024, .inl res.2.2.1)), (h_p1, .inr (0, [.ref h_p1_bytes, .int res.2.2.2])), (h_p1_bytes, .inl (cA, 1024, .inl a_p1_bytes))] := by
  unfold p_R_takeAll at h
  exact MI_enter (by decide) (Nat.le_of_ble_eq_true rfl) (fun p e s m below meth c A ls C0 hK hA hZ hP hD hl => t_R_takeAll_0 C0 hK hA hZ N h_this h_this_bytes h_p1 h_p1_bytes a_p1_bytes res _ _ _ h s.heap [] hP hD va_S.rf ls hl)
-- ListWords$Row.size()I
set_option maxHeartbeats 4000000 in
set_option maxRecDepth 100000 in
theorem t_R_size_0 {p : Program} {l : Launch} {e : Env} {s : State} {m : MethodId} {args : Array Value} {below : List Frame} {meth : Method} {c : Code} {D : va_G} {cA : ClassId} {zz : zT} {A : Nat → Prop} (C0 : Cx p s m args meth c b_R_size R_R 1 (some .int)) (hK : va_K D classes [(cA, .int)] s) (hA : ∀ q : Nat, s.heap.size ≤ q → A q) (hZ : ZS zz A s s.heap) (N : Nat) (h_this : Nat) (h_this_bytes : Nat) (size_this : Int32) (res : Int32) :
    p_R_size_0 N size_this = some res → ∀ (H : Heap) (locs : List Loc), va_P D classes [(h_this, .inr (0, [.ref h_this_bytes, .int size_this]))] H → va_D A [(h_this, .inr (0, [.ref h_this_bytes, .int size_this]))] → va_S A s.heap H locs → ∀ (ls : Array Slot), lv_has ls 1 [(0, .ref h_this)] → W p l e rm_R_size s m args below meth c H locs 0 0 (QI .int below args s D cA A (res) [(h_this, .inr (0, [.ref h_this_bytes, .int size_this]))]) (F0 m 0 ls []) := by
  obtain ⟨hx, hb, hr, hml, hown, hG, hlk⟩ := id C0
  intro h H locs hP hD hS ls hl
  unfold p_R_size_0 at h
  refine lv_aload_n hx hb d_R_size_0 rfl (lv_at hl 0 rfl) ?_
  refine va_get (D := D) (ci := 0) (v := .int size_this) (C := R_R) (T := F_R) (N := 2) hx hb hG i_R hown hK hP 0 rfl rfl 1 (by decide) (hG _ f_R_15) (fun _ h9 => h9) rfl d_R_size_1 ?_
  obtain rfl := Option.some.inj h
  exact rI (v := size_this) C0 (vp_nar_int _) hK hP hD hS d_R_size_4
theorem c_R_size (l : Launch) (D : va_G) (cA : ClassId) (zz : zT) (N : Nat) (h_this : Nat) (h_this_bytes : Nat) (size_this : Int32) (res : Int32) (h : p_R_size N size_this = some res) : MI l D cA zz y_R_size b_R_size 1 .int rm_R_size [.ref h_this] [(h_this, .inr (0, [.ref h_this_bytes, .int size_this]))] (res) [(h_this, .inr (0, [.ref h_this_bytes, .int size_this]))] := by
  unfold p_R_size at h
  exact MI_enter (by decide) (Nat.le_of_ble_eq_true rfl) (fun p e s m below meth c A ls C0 hK hA hZ hP hD hl => t_R_size_0 C0 hK hA hZ N h_this h_this_bytes size_this res h s.heap [] hP hD va_S.rf ls hl)
-- ListWords$Row.cutTo(I)Z
set_option maxHeartbeats 4000000 in
set_option maxRecDepth 100000 in
theorem t_R_cutTo_0 {p : Program} {l : Launch} {e : Env} {s : State} {m : MethodId} {args : Array Value} {below : List Frame} {meth : Method} {c : Code} {D : va_G} {cA : ClassId} {zz : zT} {A : Nat → Prop} (C0 : Cx p s m args meth c b_R_cutTo R_R 2 (some .boolean)) (hK : va_K D classes [(cA, .int)] s) (hA : ∀ q : Nat, s.heap.size ≤ q → A q) (hZ : ZS zz A s s.heap) (N : Nat) (h_this : Nat) (h_this_bytes : Nat) (res : Int32 × Int32) :
    ∀ (size_this : Int32) (x1 : Int32), p_R_cutTo_0 N size_this x1 = some res → ∀ (H : Heap) (locs : List Loc), va_P D classes [(h_this, .inr (0, [.ref h_this_bytes, .int size_this]))] H → va_D A [(h_this, .inr (0, [.ref h_this_bytes, .int size_this]))] → va_S A s.heap H locs → ∀ (ls : Array Slot), lv_has ls 2 [(0, .ref h_this), (1, .int x1)] → W p l e rm_R_cutTo s m args below meth c H locs 0 0 (QI .boolean below args s D cA A (res.1) [(h_this, .inr (0, [.ref h_this_bytes, .int res.2]))]) (F0 m 0 ls []) := by
  obtain ⟨hx, hb, hr, hml, hown, hG, hlk⟩ := id C0
  intro size_this x1 h H locs hP hD hS ls hl
  unfold p_R_cutTo_0 at h
  refine lv_iload_n hx hb d_R_cutTo_0 rfl (lv_at hl 1 rfl) ?_
  refine lv_if_lt (tgt := 12) hx hb d_R_cutTo_1 (by decide) (fun c_1 => ?_) (fun c_1 => ?_)
  · have h := iteP c_1 h
    refine lv_iconst (v := (0 : Int32)) hx hb d_R_cutTo_12 (by decide) ?_
    obtain rfl := Option.some.inj h
    exact rI (v := (0 : Int32)) C0 rfl hK hP hD hS d_R_cutTo_13
  · have h := iteN c_1 h
    refine lv_iload_n hx hb d_R_cutTo_4 rfl (lv_at hl 1 rfl) ?_
    refine lv_aload_n hx hb d_R_cutTo_5 rfl (lv_at hl 0 rfl) ?_
    refine va_get (D := D) (ci := 0) (v := .int size_this) (C := R_R) (T := F_R) (N := 2) hx hb hG i_R hown hK hP 0 rfl rfl 1 (by decide) (hG _ f_R_15) (fun _ h9 => h9) rfl d_R_cutTo_6 ?_
    refine lv_icmp_le (tgt := 14) hx hb d_R_cutTo_9 (by decide) (fun c_9 => ?_) (fun c_9 => ?_)
    · have h := iteP c_9 h
      refine lv_aload_n hx hb d_R_cutTo_14 rfl (lv_at hl 0 rfl) ?_
      refine lv_iload_n hx hb d_R_cutTo_15 rfl (lv_at hl 1 rfl) ?_
      refine va_put (D := D) (ci := 0) (v := .int x1) (ty := .int) (C := R_R) (T := F_R) (N := 2) hx hb hG i_R t_R t_R_ok n_R hown hK hP hD hS 0 rfl rfl 1 (by decide) (hG _ f_R_15) (fun _ h9 => h9) rfl (by decide +kernel) rfl rfl (Nat.le_of_ble_eq_true rfl) d_R_cutTo_16 (fun H locs hP hD hS => ?_)
      have hP : va_P D classes [(h_this, .inr (0, [.ref h_this_bytes, .int x1]))] H := hP
      have hD : va_D A [(h_this, .inr (0, [.ref h_this_bytes, .int x1]))] := hD
      refine lv_iconst (v := (1 : Int32)) hx hb d_R_cutTo_19 (by decide) ?_
      obtain rfl := Option.some.inj h
      exact rI (v := (1 : Int32)) C0 rfl hK hP hD hS d_R_cutTo_20
    · have h := iteN c_9 h
      refine lv_iconst (v := (0 : Int32)) hx hb d_R_cutTo_12 (by decide) ?_
      obtain rfl := Option.some.inj h
      exact rI (v := (0 : Int32)) C0 rfl hK hP hD hS d_R_cutTo_13
theorem c_R_cutTo (l : Launch) (D : va_G) (cA : ClassId) (zz : zT) (N : Nat) (h_this : Nat) (h_this_bytes : Nat) (size_this : Int32) (x1 : Int32) (res : Int32 × Int32) (h : p_R_cutTo N size_this x1 = some res) : MI l D cA zz y_R_cutTo b_R_cutTo 2 .boolean rm_R_cutTo [.ref h_this, .int x1] [(h_this, .inr (0, [.ref h_this_bytes, .int size_this]))] (res.1) [(h_this, .inr (0, [.ref h_this_bytes, .int res.2]))] := by
  unfold p_R_cutTo at h
  exact MI_enter (by decide) (Nat.le_of_ble_eq_true rfl) (fun p e s m below meth c A ls C0 hK hA hZ hP hD hl => t_R_cutTo_0 C0 hK hA hZ N h_this h_this_bytes res _ _ h s.heap [] hP hD va_S.rf ls hl)
-- ListWords$Row.put(I)Z
set_option maxHeartbeats 4000000 in
set_option maxRecDepth 100000 in
theorem t_R_put_0 {p : Program} {l : Launch} {e : Env} {s : State} {m : MethodId} {args : Array Value} {below : List Frame} {meth : Method} {c : Code} {D : va_G} {cA : ClassId} {zz : zT} {A : Nat → Prop} (C0 : Cx p s m args meth c b_R_put R_R 2 (some .boolean)) (hK : va_K D classes [(cA, .int)] s) (hA : ∀ q : Nat, s.heap.size ≤ q → A q) (hZ : ZS zz A s s.heap) (N : Nat) (h_this : Nat) (h_this_bytes : Nat) (res : Int32 × Int32 × (Nat → Int32)) :
    ∀ (size_this : Int32) (a_bytes : Nat → Int32) (x1 : Int32), p_R_put_0 N size_this a_bytes x1 = some res → ∀ (H : Heap) (locs : List Loc), va_P D classes [(h_this, .inr (0, [.ref h_this_bytes, .int size_this])), (h_this_bytes, .inl (cA, 1024, .inl a_bytes))] H → va_D A [(h_this, .inr (0, [.ref h_this_bytes, .int size_this])), (h_this_bytes, .inl (cA, 1024, .inl a_bytes))] → va_S A s.heap H locs → ∀ (ls : Array Slot), lv_has ls 2 [(0, .ref h_this), (1, .int x1)] → W p l e rm_R_put s m args below meth c H locs 0 0 (QI .boolean below args s D cA A (res.1) [(h_this, .inr (0, [.ref h_this_bytes, .int res.2.1])), (h_this_bytes, .inl (cA, 1024, .inl res.2.2))]) (F0 m 0 ls []) := by
  obtain ⟨hx, hb, hr, hml, hown, hG, hlk⟩ := id C0
  intro size_this a_bytes x1 h H locs hP hD hS ls hl
  unfold p_R_put_0 at h
  refine lv_aload_n hx hb d_R_put_0 rfl (lv_at hl 0 rfl) ?_
  refine va_get (D := D) (ci := 0) (v := .int size_this) (C := R_R) (T := F_R) (N := 2) hx hb hG i_R hown hK hP 0 rfl rfl 1 (by decide) (hG _ f_R_15) (fun _ h9 => h9) rfl d_R_put_1 ?_
  refine lv_sipush (v := (1024 : Int32)) hx hb d_R_put_4 (by decide) ?_
  refine lv_icmp_lt (tgt := 12) hx hb d_R_put_7 (by decide) (fun c_7 => ?_) (fun c_7 => ?_)
  · have h := iteP c_7 h
    refine lv_aload_n hx hb d_R_put_12 rfl (lv_at hl 0 rfl) ?_
    refine va_get (D := D) (ci := 0) (v := .ref h_this_bytes) (C := R_R) (T := F_R) (N := 2) hx hb hG i_R hown hK hP 0 rfl rfl 0 (by decide) (hG _ f_R_9) (fun _ h9 => h9) rfl d_R_put_13 ?_
    refine lv_aload_n hx hb d_R_put_16 rfl (lv_at hl 0 rfl) ?_
    refine va_get (D := D) (ci := 0) (v := .int size_this) (C := R_R) (T := F_R) (N := 2) hx hb hG i_R hown hK hP 0 rfl rfl 1 (by decide) (hG _ f_R_15) (fun _ h9 => h9) rfl d_R_put_17 ?_
    refine lv_iload_n hx hb d_R_put_20 rfl (lv_at hl 1 rfl) ?_
    refine lv_sipush (v := (255 : Int32)) hx hb d_R_put_21 (by decide) ?_
    refine lv_iand hx hb d_R_put_24 ?_
    obtain ⟨g_25, h⟩ := guardN h
    refine va_iast hx hb hK hP hD hS 1 0 rfl rfl g_25 d_R_put_25 (fun H locs hP hD hS => ?_)
    have hP : va_P D classes [(h_this, .inr (0, [.ref h_this_bytes, .int size_this])), (h_this_bytes, .inl (cA, 1024, .inl (upd a_bytes size_this.toNatClampNeg (x1 &&& (255 : Int32)))))] H := hP
    have hD : va_D A [(h_this, .inr (0, [.ref h_this_bytes, .int size_this])), (h_this_bytes, .inl (cA, 1024, .inl (upd a_bytes size_this.toNatClampNeg (x1 &&& (255 : Int32)))))] := hD
    refine lv_aload_n hx hb d_R_put_26 rfl (lv_at hl 0 rfl) ?_
    refine lv_dup hx hb d_R_put_27 rfl ?_
    refine va_get (D := D) (ci := 0) (v := .int size_this) (C := R_R) (T := F_R) (N := 2) hx hb hG i_R hown hK hP 0 rfl rfl 1 (by decide) (hG _ f_R_15) (fun _ h9 => h9) rfl d_R_put_28 ?_
    refine lv_iconst (v := (1 : Int32)) hx hb d_R_put_31 (by decide) ?_
    refine lv_iadd hx hb d_R_put_32 ?_
    refine va_put (D := D) (ci := 0) (v := .int (size_this + (1 : Int32))) (ty := .int) (C := R_R) (T := F_R) (N := 2) hx hb hG i_R t_R t_R_ok n_R hown hK hP hD hS 0 rfl rfl 1 (by decide) (hG _ f_R_15) (fun _ h9 => h9) rfl (by decide +kernel) rfl rfl (Nat.le_of_ble_eq_true rfl) d_R_put_33 (fun H locs hP hD hS => ?_)
    have hP : va_P D classes [(h_this, .inr (0, [.ref h_this_bytes, .int (size_this + (1 : Int32))])), (h_this_bytes, .inl (cA, 1024, .inl (upd a_bytes size_this.toNatClampNeg (x1 &&& (255 : Int32)))))] H := hP
    have hD : va_D A [(h_this, .inr (0, [.ref h_this_bytes, .int (size_this + (1 : Int32))])), (h_this_bytes, .inl (cA, 1024, .inl (upd a_bytes size_this.toNatClampNeg (x1 &&& (255 : Int32)))))] := hD
    refine lv_iconst (v := (1 : Int32)) hx hb d_R_put_36 (by decide) ?_
    obtain rfl := Option.some.inj h
    exact rI (v := (1 : Int32)) C0 rfl hK hP hD hS d_R_put_37
  · have h := iteN c_7 h
    refine lv_iconst (v := (0 : Int32)) hx hb d_R_put_10 (by decide) ?_
    obtain rfl := Option.some.inj h
    exact rI (v := (0 : Int32)) C0 rfl hK hP hD hS d_R_put_11
theorem c_R_put (l : Launch) (D : va_G) (cA : ClassId) (zz : zT) (N : Nat) (h_this : Nat) (h_this_bytes : Nat) (size_this : Int32) (a_bytes : Nat → Int32) (x1 : Int32) (res : Int32 × Int32 × (Nat → Int32)) (h : p_R_put N size_this a_bytes x1 = some res) : MI l D cA zz y_R_put b_R_put 2 .boolean rm_R_put [.ref h_this, .int x1] [(h_this, .inr (0, [.ref h_this_bytes, .int size_this])), (h_this_bytes, .inl (cA, 1024, .inl a_bytes))] (res.1) [(h_this, .inr (0, [.ref h_this_bytes, .int res.2.1])), (h_this_bytes, .inl (cA, 1024, .inl res.2.2))] := by
  unfold p_R_put at h
  exact MI_enter (by decide) (Nat.le_of_ble_eq_true rfl) (fun p e s m below meth c A ls C0 hK hA hZ hP hD hl => t_R_put_0 C0 hK hA hZ N h_this h_this_bytes res _ _ _ h s.heap [] hP hD va_S.rf ls hl)
-- ListWords$Row.putNumber(I)V
set_option maxHeartbeats 4000000 in
set_option maxRecDepth 100000 in
theorem t_R_putNumber_0 {p : Program} {l : Launch} {e : Env} {s : State} {m : MethodId} {args : Array Value} {below : List Frame} {meth : Method} {c : Code} {D : va_G} {cA : ClassId} {zz : zT} {A : Nat → Prop} (C0 : Cx p s m args meth c b_R_putNumber R_R 2 none) (hK : va_K D classes [(cA, .int)] s) (hA : ∀ q : Nat, s.heap.size ≤ q → A q) (hZ : ZS zz A s s.heap) (N : Nat) (h_this : Nat) (h_this_bytes : Nat) (res : Int32 × (Nat → Int32)) :
    ∀ (size_this : Int32) (a_bytes : Nat → Int32) (x1 : Int32), p_R_putNumber_0 N size_this a_bytes x1 = some res → ∀ (H : Heap) (locs : List Loc), va_P D classes [(h_this, .inr (0, [.ref h_this_bytes, .int size_this])), (h_this_bytes, .inl (cA, 1024, .inl a_bytes))] H → va_D A [(h_this, .inr (0, [.ref h_this_bytes, .int size_this])), (h_this_bytes, .inl (cA, 1024, .inl a_bytes))] → va_S A s.heap H locs → ∀ (ls : Array Slot), lv_has ls 2 [(0, .ref h_this), (1, .int x1)] → W p l e rm_R_putNumber s m args below meth c H locs 0 0 (QV below args s D cA A [(h_this, .inr (0, [.ref h_this_bytes, .int res.1])), (h_this_bytes, .inl (cA, 1024, .inl res.2))]) (F0 m 0 ls []) := by
  obtain ⟨hx, hb, hr, hml, hown, hG, hlk⟩ := id C0
  intro size_this a_bytes x1 h H locs hP hD hS ls hl
  unfold p_R_putNumber_0 at h
  refine lv_aload_n hx hb d_R_putNumber_0 rfl (lv_at hl 0 rfl) ?_
  refine lv_iload_n hx hb d_R_putNumber_1 rfl (lv_at hl 1 rfl) ?_
  refine lv_bipush (v := (24 : Int32)) hx hb d_R_putNumber_2 (by decide) ?_
  refine lv_iushr (v := (x1.toUInt32 >>> ((24 : Int32).toUInt32 &&& Int32.toUInt32 31)).toInt32) hx hb d_R_putNumber_4 rfl ?_
  obtain ⟨r_5, h_5, h⟩ := bindS h
  refine call_vi (wr := []) (w1 := [(h_this, .inr (0, [.ref h_this_bytes, .int r_5.2.1])), (h_this_bytes, .inl (cA, 1024, .inl r_5.2.2))]) (wN := [(h_this, .inr (0, [.ref h_this_bytes, .int r_5.2.1])), (h_this_bytes, .inl (cA, 1024, .inl r_5.2.2))]) (rest := []) C0 hK hP hD hS hA hZ (c_R_put l D cA zz N h_this h_this_bytes size_this a_bytes (x1.toUInt32 >>> ((24 : Int32).toUInt32 &&& Int32.toUInt32 31)).toInt32 r_5 h_5) [0, 1] [] [0, 1] rfl rfl rfl rfl (by decide) rfl rfl 0 0 rfl rfl m_R_19 ⟨Nat.le_of_ble_eq_true rfl, Nat.le_of_ble_eq_true rfl⟩ ⟨rfl, rfl⟩ rfl hl.1 rfl (Nat.le_of_ble_eq_true rfl) ⟨Nat.le_of_ble_eq_true rfl, Nat.le_of_ble_eq_true rfl⟩ d_R_putNumber_5 (fun b_5 H locs hP hD hS => ?_)
  refine lv_pop hx hb d_R_putNumber_8 rfl ?_
  refine lv_aload_n hx hb d_R_putNumber_9 rfl (lv_at hl 0 rfl) ?_
  refine lv_iload_n hx hb d_R_putNumber_10 rfl (lv_at hl 1 rfl) ?_
  refine lv_bipush (v := (16 : Int32)) hx hb d_R_putNumber_11 (by decide) ?_
  refine lv_iushr (v := (x1.toUInt32 >>> ((16 : Int32).toUInt32 &&& Int32.toUInt32 31)).toInt32) hx hb d_R_putNumber_13 rfl ?_
  obtain ⟨r_14, h_14, h⟩ := bindS h
  refine call_vi (wr := []) (w1 := [(h_this, .inr (0, [.ref h_this_bytes, .int r_14.2.1])), (h_this_bytes, .inl (cA, 1024, .inl r_14.2.2))]) (wN := [(h_this, .inr (0, [.ref h_this_bytes, .int r_14.2.1])), (h_this_bytes, .inl (cA, 1024, .inl r_14.2.2))]) (rest := []) C0 hK hP hD hS hA hZ (c_R_put l D cA zz N h_this h_this_bytes r_5.2.1 r_5.2.2 (x1.toUInt32 >>> ((16 : Int32).toUInt32 &&& Int32.toUInt32 31)).toInt32 r_14 h_14) [0, 1] [] [0, 1] rfl rfl rfl rfl (by decide) rfl rfl 0 0 rfl rfl m_R_19 ⟨Nat.le_of_ble_eq_true rfl, Nat.le_of_ble_eq_true rfl⟩ ⟨rfl, rfl⟩ rfl hl.1 rfl (Nat.le_of_ble_eq_true rfl) ⟨Nat.le_of_ble_eq_true rfl, Nat.le_of_ble_eq_true rfl⟩ d_R_putNumber_14 (fun b_14 H locs hP hD hS => ?_)
  refine lv_pop hx hb d_R_putNumber_17 rfl ?_
  refine lv_aload_n hx hb d_R_putNumber_18 rfl (lv_at hl 0 rfl) ?_
  refine lv_iload_n hx hb d_R_putNumber_19 rfl (lv_at hl 1 rfl) ?_
  refine lv_bipush (v := (8 : Int32)) hx hb d_R_putNumber_20 (by decide) ?_
  refine lv_iushr (v := (x1.toUInt32 >>> ((8 : Int32).toUInt32 &&& Int32.toUInt32 31)).toInt32) hx hb d_R_putNumber_22 rfl ?_
  obtain ⟨r_23, h_23, h⟩ := bindS h
  refine call_vi (wr := []) (w1 := [(h_this, .inr (0, [.ref h_this_bytes, .int r_23.2.1])), (h_this_bytes, .inl (cA, 1024, .inl r_23.2.2))]) (wN := [(h_this, .inr (0, [.ref h_this_bytes, .int r_23.2.1])), (h_this_bytes, .inl (cA, 1024, .inl r_23.2.2))]) (rest := []) C0 hK hP hD hS hA hZ (c_R_put l D cA zz N h_this h_this_bytes r_14.2.1 r_14.2.2 (x1.toUInt32 >>> ((8 : Int32).toUInt32 &&& Int32.toUInt32 31)).toInt32 r_23 h_23) [0, 1] [] [0, 1] rfl rfl rfl rfl (by decide) rfl rfl 0 0 rfl rfl m_R_19 ⟨Nat.le_of_ble_eq_true rfl, Nat.le_of_ble_eq_true rfl⟩ ⟨rfl, rfl⟩ rfl hl.1 rfl (Nat.le_of_ble_eq_true rfl) ⟨Nat.le_of_ble_eq_true rfl, Nat.le_of_ble_eq_true rfl⟩ d_R_putNumber_23 (fun b_23 H locs hP hD hS => ?_)
  refine lv_pop hx hb d_R_putNumber_26 rfl ?_
  refine lv_aload_n hx hb d_R_putNumber_27 rfl (lv_at hl 0 rfl) ?_
  refine lv_iload_n hx hb d_R_putNumber_28 rfl (lv_at hl 1 rfl) ?_
  obtain ⟨r_29, h_29, h⟩ := bindS h
  refine call_vi (wr := []) (w1 := [(h_this, .inr (0, [.ref h_this_bytes, .int r_29.2.1])), (h_this_bytes, .inl (cA, 1024, .inl r_29.2.2))]) (wN := [(h_this, .inr (0, [.ref h_this_bytes, .int r_29.2.1])), (h_this_bytes, .inl (cA, 1024, .inl r_29.2.2))]) (rest := []) C0 hK hP hD hS hA hZ (c_R_put l D cA zz N h_this h_this_bytes r_23.2.1 r_23.2.2 x1 r_29 h_29) [0, 1] [] [0, 1] rfl rfl rfl rfl (by decide) rfl rfl 0 0 rfl rfl m_R_19 ⟨Nat.le_of_ble_eq_true rfl, Nat.le_of_ble_eq_true rfl⟩ ⟨rfl, rfl⟩ rfl hl.1 rfl (Nat.le_of_ble_eq_true rfl) ⟨Nat.le_of_ble_eq_true rfl, Nat.le_of_ble_eq_true rfl⟩ d_R_putNumber_29 (fun b_29 H locs hP hD hS => ?_)
  refine lv_pop hx hb d_R_putNumber_32 rfl ?_
  obtain rfl := Option.some.inj h
  exact rV C0 hK hP hD hS d_R_putNumber_33
theorem c_R_putNumber (l : Launch) (D : va_G) (cA : ClassId) (zz : zT) (N : Nat) (h_this : Nat) (h_this_bytes : Nat) (size_this : Int32) (a_bytes : Nat → Int32) (x1 : Int32) (res : Int32 × (Nat → Int32)) (h : p_R_putNumber N size_this a_bytes x1 = some res) : MV l D cA zz y_R_putNumber b_R_putNumber 2 rm_R_putNumber [.ref h_this, .int x1] [(h_this, .inr (0, [.ref h_this_bytes, .int size_this])), (h_this_bytes, .inl (cA, 1024, .inl a_bytes))] [(h_this, .inr (0, [.ref h_this_bytes, .int res.1])), (h_this_bytes, .inl (cA, 1024, .inl res.2))] := by
  unfold p_R_putNumber at h
  exact MV_enter (by decide) (Nat.le_of_ble_eq_true rfl) (fun p e s m below meth c A ls C0 hK hA hZ hP hD hl => t_R_putNumber_0 C0 hK hA hZ N h_this h_this_bytes res _ _ _ h s.heap [] hP hD va_S.rf ls hl)
