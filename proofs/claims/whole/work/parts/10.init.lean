abbrev rm_R_init : Room := { frames := 1, cells := 1, slots := 1024, locals := 12 }
abbrev wI_R (cA : ClassId) (h : Nat) (u : Nat) : va_W := [(h, .inr (0, [.ref u, .int 0])), (u, .inl (cA, 1024, .inl (fun _ => 0)))]
set_option maxHeartbeats 4000000 in
set_option maxRecDepth 100000 in
theorem c_R_init (l : Launch) (D : va_G) (cA : ClassId) (zz : zT) (h : Nat) : MA l D cA zz y_R_init b_R_init 1 rm_R_init [.ref h] [(h, .inr (0, [.null, .int 0]))] (wI_R cA h) 1 1024 := by
  intro sz
  refine Met.ofW (cc := b_R_init) (maxL := 1) (ret := none) (by decide) rfl ?_
  intro p e s m args below meth c s₁ B hml hv
  obtain ⟨rfl, hsz, hP, hK, hD0, hZ⟩ := hv
  subst hsz
  have hts := atoms_spec (ws := Cond.code y_R_init b_R_init 1 none :: wG) B.pre
  have C0 : Cx p s m _ meth c b_R_init R_R 1 none := ⟨B.exec, B.bytes, B.returns, hml, findClass_of_methodNamed B.named, fun w h => hts w (List.mem_cons_of_mem _ h), B.notSynchronized⟩
  obtain ⟨hx, hb, hr, _, hown, hG, hlk⟩ := id C0
  have hin : meth.name = "<init>" := (name_of_methodNamed B.named B.method).1
  have hD := hD0.self (sz := s.heap.size)
  generalize hAe : va_A [(h, .inr (0, [.null, .int 0]))] s.heap.size = A at hD hZ ⊢
  have hA : ∀ q : Nat, s.heap.size ≤ q → A q := fun q h => by rw [← hAe]; exact Or.inr h
  have hS : va_S A s.heap s.heap [] := va_S.rf
  have hl := lv_entry ([.ref h]) (n := 1) (Nat.le_of_ble_eq_true rfl)
  rw [lg_entry_eq]
  generalize (lg_sl ([.ref h]) ++ List.replicate (1 - (lg_sl ([.ref h])).length) Slot.unset).toArray = ls at hl ⊢
  have hl : lv_has ls 1 [(0, .ref h)] := hl
  refine lv_aload_n hx hb d_R_init_0 rfl (lv_at hl 0 rfl) ?_
  refine W.objInit hx hb hown (hG _ m_R_3) (hG _ w_obj_inst) (hG _ w_obj_code) rfl (by rw [hml]; exact hl.1) rfl d_R_init_1 (Nat.le_of_ble_eq_true rfl) (Nat.le_of_ble_eq_true rfl) ?_
  refine W.eq (g2 := F0 m 4 ls []) rfl ?_
  refine lv_aload_n hx hb d_R_init_4 rfl (lv_at hl 0 rfl) ?_
  refine lv_sipush (v := (1024 : Int32)) hx hb d_R_init_5 (by decide) ?_
  refine va_newa (atype := .int) (ty := .int) (N' := 1024) (a0 := (1024, .inl (fun _ => 0))) hx hb (hG _ w_arr_int) rfl hK hP hD hS hA (fun _ => rfl) (by decide) (by decide) (by decide) (Nat.le_of_ble_eq_true rfl) (Nat.le_of_ble_eq_true rfl) d_R_init_8 (fun q8 cA' H hK2 hP hD hS => ?_)
  have e9 : cA' = cA := Option.some.inj ((hK2.2 1 _ rfl).2.symm.trans (hK2.2 0 _ rfl).2)
  rw [e9] at hP hD
  have hP : va_P D classes [(h, .inr (0, [.null, .int 0])), (q8, .inl (cA, 1024, .inl (fun _ => 0)))] H := hP
  have hD : va_D A [(h, .inr (0, [.null, .int 0])), (q8, .inl (cA, 1024, .inl (fun _ => 0)))] := hD
  refine va_putF (D := D) (ci := 0) (v := .ref q8) (ty := .array .int) (C := R_R) (T := F_R) (N := 2) hx hb hG i_R t_R t_R_ok n_R hown hK hP hD hS 0 rfl rfl 0 (by decide) (hG _ f_R_9) (fun _ h9 => h9) rfl hin rfl (by decide +kernel) rfl rfl (Nat.le_of_ble_eq_true rfl) d_R_init_10 (fun H locs hP hD hS => ?_)
  have hP : va_P D classes [(h, .inr (0, [.ref q8, .int 0])), (q8, .inl (cA, 1024, .inl (fun _ => 0)))] H := hP
  have hD : va_D A [(h, .inr (0, [.ref q8, .int 0])), (q8, .inl (cA, 1024, .inl (fun _ => 0)))] := hD
  refine lv_aload_n hx hb d_R_init_13 rfl (lv_at hl 0 rfl) ?_
  refine lv_iconst (v := (0 : Int32)) hx hb d_R_init_14 (by decide) ?_
  refine va_put (D := D) (ci := 0) (v := .int (0 : Int32)) (ty := .int) (C := R_R) (T := F_R) (N := 2) hx hb hG i_R t_R t_R_ok n_R hown hK hP hD hS 0 rfl rfl 1 (by decide) (hG _ f_R_15) (fun _ h9 => h9) rfl (by decide +kernel) rfl rfl (Nat.le_of_ble_eq_true rfl) d_R_init_15 (fun H locs hP hD hS => ?_)
  have hP : va_P D classes [(h, .inr (0, [.ref q8, .int 0])), (q8, .inl (cA, 1024, .inl (fun _ => 0)))] H := hP
  have hD : va_D A [(h, .inr (0, [.ref q8, .int 0])), (q8, .inl (cA, 1024, .inl (fun _ => 0)))] := hD
  have hP9 := hP.sub (ws' := [(h, .inr (0, [.ref q8, .int 0])), (q8, .inl (cA, 1024, .inl (fun _ => 0)))]) [0, 1] rfl
  have hD9 := hD.sub (ws' := [(h, .inr (0, [.ref q8, .int 0])), (q8, .inl (cA, 1024, .inl (fun _ => 0)))]) [0, 1] (by decide) rfl
  refine W.widen (k := 1) (n := 1024) (by omega) (by omega) ?_
  exact W.vret hx hb hr (fun t ht hW => ⟨⟨(q8), rfl, trivial, by rw [ht]; exact hP9, va_K.moved hW.alike hK, hD9⟩, hS.F ht⟩) hS.2.2 d_R_init_18
abbrev rm_X_init : Room := { frames := 2, cells := 10, slots := 5130, locals := 32 }
abbrev wI_X (cA : ClassId) (h : Nat) (u : Nat × Nat × Nat × Nat × Nat × Nat × Nat × Nat × Nat × Nat) : va_W := [(h, .inr (1, [.ref u.1, .ref u.2.2.1, .ref u.2.2.2.2.1, .ref u.2.2.2.2.2.2.1, .ref u.2.2.2.2.2.2.2.2.1, .int 0])), (u.1, .inr (0, [.ref u.2.1, .int 0])), (u.2.1, .inl (cA, 1024, .inl (fun _ => 0))), (u.2.2.1, .inr (0, [.ref u.2.2.2.1, .int 0])), (u.2.2.2.1, .inl (cA, 1024, .inl (fun _ => 0))), (u.2.2.2.2.1, .inr (0, [.ref u.2.2.2.2.2.1, .int 0])), (u.2.2.2.2.2.1, .inl (cA, 1024, .inl (fun _ => 0))), (u.2.2.2.2.2.2.1, .inr (0, [.ref u.2.2.2.2.2.2.2.1, .int 0])), (u.2.2.2.2.2.2.2.1, .inl (cA, 1024, .inl (fun _ => 0))), (u.2.2.2.2.2.2.2.2.1, .inr (0, [.ref u.2.2.2.2.2.2.2.2.2, .int 0])), (u.2.2.2.2.2.2.2.2.2, .inl (cA, 1024, .inl (fun _ => 0)))]
set_option maxHeartbeats 4000000 in
set_option maxRecDepth 100000 in
theorem c_X_init (l : Launch) (D : va_G) (cA : ClassId) (zz : zT) (h : Nat) : MA l D cA zz y_X_init b_X_init 1 rm_X_init [.ref h] [(h, .inr (1, [.null, .null, .null, .null, .null, .int 0]))] (wI_X cA h) 10 5130 := by
  intro sz
  refine Met.ofW (cc := b_X_init) (maxL := 1) (ret := none) (by decide) rfl ?_
  intro p e s m args below meth c s₁ B hml hv
  obtain ⟨rfl, hsz, hP, hK, hD0, hZ⟩ := hv
  subst hsz
  have hts := atoms_spec (ws := Cond.code y_X_init b_X_init 1 none :: wG) B.pre
  have C0 : Cx p s m _ meth c b_X_init R_X 1 none := ⟨B.exec, B.bytes, B.returns, hml, findClass_of_methodNamed B.named, fun w h => hts w (List.mem_cons_of_mem _ h), B.notSynchronized⟩
  obtain ⟨hx, hb, hr, _, hown, hG, hlk⟩ := id C0
  have hin : meth.name = "<init>" := (name_of_methodNamed B.named B.method).1
  have hD := hD0.self (sz := s.heap.size)
  generalize hAe : va_A [(h, .inr (1, [.null, .null, .null, .null, .null, .int 0]))] s.heap.size = A at hD hZ ⊢
  have hA : ∀ q : Nat, s.heap.size ≤ q → A q := fun q h => by rw [← hAe]; exact Or.inr h
  have hS : va_S A s.heap s.heap [] := va_S.rf
  have hl := lv_entry ([.ref h]) (n := 1) (Nat.le_of_ble_eq_true rfl)
  rw [lg_entry_eq]
  generalize (lg_sl ([.ref h]) ++ List.replicate (1 - (lg_sl ([.ref h])).length) Slot.unset).toArray = ls at hl ⊢
  have hl : lv_has ls 1 [(0, .ref h)] := hl
  refine lv_aload_n hx hb d_X_init_0 rfl (lv_at hl 0 rfl) ?_
  refine W.objInit hx hb hown (hG _ m_X_1) (hG _ w_obj_inst) (hG _ w_obj_code) rfl (by rw [hml]; exact hl.1) rfl d_X_init_1 (Nat.le_of_ble_eq_true rfl) (Nat.le_of_ble_eq_true rfl) ?_
  refine W.eq (g2 := F0 m 4 ls []) rfl ?_
  refine lv_aload_n hx hb d_X_init_4 rfl (lv_at hl 0 rfl) ?_
  refine va_new (ci := 0) (fs := [.null, .int 0]) (C := R_R) (T := F_R) (N := 2) hx hb hG i_R t_R t_R_ok hown (hG _ k_X_7) (hG _ w_R_inst) (hG _ w_R_init) hK hP hD hS hA rfl (fun j hj => by rcases (show j = 0 ∨ j = 1 by omega) with rfl | rfl <;> rfl) (Nat.le_of_ble_eq_true rfl) (Nat.le_of_ble_eq_true rfl) d_X_init_5 (fun q5 H hP hD hS => ?_)
  have hP : va_P D classes [(h, .inr (1, [.null, .null, .null, .null, .null, .int 0])), (q5, .inr (0, [.null, .int 0]))] H := hP
  have hD : va_D A [(h, .inr (1, [.null, .null, .null, .null, .null, .int 0])), (q5, .inr (0, [.null, .int 0]))] := hD
  refine lv_dup hx hb d_X_init_8 rfl ?_
  refine call_iv (wr := [(h, .inr (1, [.null, .null, .null, .null, .null, .int 0]))]) (rest := [.ref q5, .ref h]) C0 hK hP hD hS hA hZ (c_R_init l D cA zz q5) [1] [0] rfl rfl rfl rfl (by decide) m_X_9 ⟨Nat.le_of_ble_eq_true rfl, Nat.le_of_ble_eq_true rfl⟩ ⟨rfl, rfl⟩ rfl hl.1 rfl (Nat.le_of_ble_eq_true rfl) ⟨Nat.le_of_ble_eq_true rfl, Nat.le_of_ble_eq_true rfl⟩ d_X_init_9 (fun u H locs hP hD hS => ?_)
  generalize u = q5_0 at hP hD
  have hP : va_P D classes [(h, .inr (1, [.null, .null, .null, .null, .null, .int 0])), (q5, .inr (0, [.ref q5_0, .int 0])), (q5_0, .inl (cA, 1024, .inl (fun _ => 0)))] H := hP
  have hD : va_D A [(h, .inr (1, [.null, .null, .null, .null, .null, .int 0])), (q5, .inr (0, [.ref q5_0, .int 0])), (q5_0, .inl (cA, 1024, .inl (fun _ => 0)))] := hD
  refine va_putF (D := D) (ci := 1) (v := .ref q5) (ty := .object "ListWords$Row") (C := R_X) (T := F_X) (N := 6) hx hb hG i_X t_X t_X_ok n_X hown hK hP hD hS 0 rfl rfl 0 (by decide) (hG _ f_X_10) (fun _ h9 => h9) rfl hin rfl (by decide +kernel) rfl rfl (Nat.le_of_ble_eq_true rfl) d_X_init_12 (fun H locs hP hD hS => ?_)
  have hP : va_P D classes [(h, .inr (1, [.ref q5, .null, .null, .null, .null, .int 0])), (q5, .inr (0, [.ref q5_0, .int 0])), (q5_0, .inl (cA, 1024, .inl (fun _ => 0)))] H := hP
  have hD : va_D A [(h, .inr (1, [.ref q5, .null, .null, .null, .null, .int 0])), (q5, .inr (0, [.ref q5_0, .int 0])), (q5_0, .inl (cA, 1024, .inl (fun _ => 0)))] := hD
  refine lv_aload_n hx hb d_X_init_15 rfl (lv_at hl 0 rfl) ?_
  refine va_new (ci := 0) (fs := [.null, .int 0]) (C := R_R) (T := F_R) (N := 2) hx hb hG i_R t_R t_R_ok hown (hG _ k_X_7) (hG _ w_R_inst) (hG _ w_R_init) hK hP hD hS hA rfl (fun j hj => by rcases (show j = 0 ∨ j = 1 by omega) with rfl | rfl <;> rfl) (Nat.le_of_ble_eq_true rfl) (Nat.le_of_ble_eq_true rfl) d_X_init_16 (fun q16 H hP hD hS => ?_)
  have hP : va_P D classes [(h, .inr (1, [.ref q5, .null, .null, .null, .null, .int 0])), (q5, .inr (0, [.ref q5_0, .int 0])), (q5_0, .inl (cA, 1024, .inl (fun _ => 0))), (q16, .inr (0, [.null, .int 0]))] H := hP
  have hD : va_D A [(h, .inr (1, [.ref q5, .null, .null, .null, .null, .int 0])), (q5, .inr (0, [.ref q5_0, .int 0])), (q5_0, .inl (cA, 1024, .inl (fun _ => 0))), (q16, .inr (0, [.null, .int 0]))] := hD
  refine lv_dup hx hb d_X_init_19 rfl ?_
  refine call_iv (wr := [(h, .inr (1, [.ref q5, .null, .null, .null, .null, .int 0])), (q5, .inr (0, [.ref q5_0, .int 0])), (q5_0, .inl (cA, 1024, .inl (fun _ => 0)))]) (rest := [.ref q16, .ref h]) C0 hK hP hD hS hA hZ (c_R_init l D cA zz q16) [3] [0, 1, 2] rfl rfl rfl rfl (by decide) m_X_9 ⟨Nat.le_of_ble_eq_true rfl, Nat.le_of_ble_eq_true rfl⟩ ⟨rfl, rfl⟩ rfl hl.1 rfl (Nat.le_of_ble_eq_true rfl) ⟨Nat.le_of_ble_eq_true rfl, Nat.le_of_ble_eq_true rfl⟩ d_X_init_20 (fun u H locs hP hD hS => ?_)
  generalize u = q16_0 at hP hD
  have hP : va_P D classes [(h, .inr (1, [.ref q5, .null, .null, .null, .null, .int 0])), (q5, .inr (0, [.ref q5_0, .int 0])), (q5_0, .inl (cA, 1024, .inl (fun _ => 0))), (q16, .inr (0, [.ref q16_0, .int 0])), (q16_0, .inl (cA, 1024, .inl (fun _ => 0)))] H := hP
  have hD : va_D A [(h, .inr (1, [.ref q5, .null, .null, .null, .null, .int 0])), (q5, .inr (0, [.ref q5_0, .int 0])), (q5_0, .inl (cA, 1024, .inl (fun _ => 0))), (q16, .inr (0, [.ref q16_0, .int 0])), (q16_0, .inl (cA, 1024, .inl (fun _ => 0)))] := hD
  refine va_putF (D := D) (ci := 1) (v := .ref q16) (ty := .object "ListWords$Row") (C := R_X) (T := F_X) (N := 6) hx hb hG i_X t_X t_X_ok n_X hown hK hP hD hS 0 rfl rfl 1 (by decide) (hG _ f_X_16) (fun _ h9 => h9) rfl hin rfl (by decide +kernel) rfl rfl (Nat.le_of_ble_eq_true rfl) d_X_init_23 (fun H locs hP hD hS => ?_)
  have hP : va_P D classes [(h, .inr (1, [.ref q5, .ref q16, .null, .null, .null, .int 0])), (q5, .inr (0, [.ref q5_0, .int 0])), (q5_0, .inl (cA, 1024, .inl (fun _ => 0))), (q16, .inr (0, [.ref q16_0, .int 0])), (q16_0, .inl (cA, 1024, .inl (fun _ => 0)))] H := hP
  have hD : va_D A [(h, .inr (1, [.ref q5, .ref q16, .null, .null, .null, .int 0])), (q5, .inr (0, [.ref q5_0, .int 0])), (q5_0, .inl (cA, 1024, .inl (fun _ => 0))), (q16, .inr (0, [.ref q16_0, .int 0])), (q16_0, .inl (cA, 1024, .inl (fun _ => 0)))] := hD
  refine lv_aload_n hx hb d_X_init_26 rfl (lv_at hl 0 rfl) ?_
  refine va_new (ci := 0) (fs := [.null, .int 0]) (C := R_R) (T := F_R) (N := 2) hx hb hG i_R t_R t_R_ok hown (hG _ k_X_7) (hG _ w_R_inst) (hG _ w_R_init) hK hP hD hS hA rfl (fun j hj => by rcases (show j = 0 ∨ j = 1 by omega) with rfl | rfl <;> rfl) (Nat.le_of_ble_eq_true rfl) (Nat.le_of_ble_eq_true rfl) d_X_init_27 (fun q27 H hP hD hS => ?_)
  have hP : va_P D classes [(h, .inr (1, [.ref q5, .ref q16, .null, .null, .null, .int 0])), (q5, .inr (0, [.ref q5_0, .int 0])), (q5_0, .inl (cA, 1024, .inl (fun _ => 0))), (q16, .inr (0, [.ref q16_0, .int 0])), (q16_0, .inl (cA, 1024, .inl (fun _ => 0))), (q27, .inr (0, [.null, .int 0]))] H := hP
  have hD : va_D A [(h, .inr (1, [.ref q5, .ref q16, .null, .null, .null, .int 0])), (q5, .inr (0, [.ref q5_0, .int 0])), (q5_0, .inl (cA, 1024, .inl (fun _ => 0))), (q16, .inr (0, [.ref q16_0, .int 0])), (q16_0, .inl (cA, 1024, .inl (fun _ => 0))), (q27, .inr (0, [.null, .int 0]))] := hD
  refine lv_dup hx hb d_X_init_30 rfl ?_
  refine call_iv (wr := [(h, .inr (1, [.ref q5, .ref q16, .null, .null, .null, .int 0])), (q5, .inr (0, [.ref q5_0, .int 0])), (q5_0, .inl (cA, 1024, .inl (fun _ => 0))), (q16, .inr (0, [.ref q16_0, .int 0])), (q16_0, .inl (cA, 1024, .inl (fun _ => 0)))]) (rest := [.ref q27, .ref h]) C0 hK hP hD hS hA hZ (c_R_init l D cA zz q27) [5] [0, 1, 2, 3, 4] rfl rfl rfl rfl (by decide) m_X_9 ⟨Nat.le_of_ble_eq_true rfl, Nat.le_of_ble_eq_true rfl⟩ ⟨rfl, rfl⟩ rfl hl.1 rfl (Nat.le_of_ble_eq_true rfl) ⟨Nat.le_of_ble_eq_true rfl, Nat.le_of_ble_eq_true rfl⟩ d_X_init_31 (fun u H locs hP hD hS => ?_)
  generalize u = q27_0 at hP hD
  have hP : va_P D classes [(h, .inr (1, [.ref q5, .ref q16, .null, .null, .null, .int 0])), (q5, .inr (0, [.ref q5_0, .int 0])), (q5_0, .inl (cA, 1024, .inl (fun _ => 0))), (q16, .inr (0, [.ref q16_0, .int 0])), (q16_0, .inl (cA, 1024, .inl (fun _ => 0))), (q27, .inr (0, [.ref q27_0, .int 0])), (q27_0, .inl (cA, 1024, .inl (fun _ => 0)))] H := hP
  have hD : va_D A [(h, .inr (1, [.ref q5, .ref q16, .null, .null, .null, .int 0])), (q5, .inr (0, [.ref q5_0, .int 0])), (q5_0, .inl (cA, 1024, .inl (fun _ => 0))), (q16, .inr (0, [.ref q16_0, .int 0])), (q16_0, .inl (cA, 1024, .inl (fun _ => 0))), (q27, .inr (0, [.ref q27_0, .int 0])), (q27_0, .inl (cA, 1024, .inl (fun _ => 0)))] := hD
  refine va_putF (D := D) (ci := 1) (v := .ref q27) (ty := .object "ListWords$Row") (C := R_X) (T := F_X) (N := 6) hx hb hG i_X t_X t_X_ok n_X hown hK hP hD hS 0 rfl rfl 2 (by decide) (hG _ f_X_19) (fun _ h9 => h9) rfl hin rfl (by decide +kernel) rfl rfl (Nat.le_of_ble_eq_true rfl) d_X_init_34 (fun H locs hP hD hS => ?_)
  have hP : va_P D classes [(h, .inr (1, [.ref q5, .ref q16, .ref q27, .null, .null, .int 0])), (q5, .inr (0, [.ref q5_0, .int 0])), (q5_0, .inl (cA, 1024, .inl (fun _ => 0))), (q16, .inr (0, [.ref q16_0, .int 0])), (q16_0, .inl (cA, 1024, .inl (fun _ => 0))), (q27, .inr (0, [.ref q27_0, .int 0])), (q27_0, .inl (cA, 1024, .inl (fun _ => 0)))] H := hP
  have hD : va_D A [(h, .inr (1, [.ref q5, .ref q16, .ref q27, .null, .null, .int 0])), (q5, .inr (0, [.ref q5_0, .int 0])), (q5_0, .inl (cA, 1024, .inl (fun _ => 0))), (q16, .inr (0, [.ref q16_0, .int 0])), (q16_0, .inl (cA, 1024, .inl (fun _ => 0))), (q27, .inr (0, [.ref q27_0, .int 0])), (q27_0, .inl (cA, 1024, .inl (fun _ => 0)))] := hD
  refine lv_aload_n hx hb d_X_init_37 rfl (lv_at hl 0 rfl) ?_
  refine va_new (ci := 0) (fs := [.null, .int 0]) (C := R_R) (T := F_R) (N := 2) hx hb hG i_R t_R t_R_ok hown (hG _ k_X_7) (hG _ w_R_inst) (hG _ w_R_init) hK hP hD hS hA rfl (fun j hj => by rcases (show j = 0 ∨ j = 1 by omega) with rfl | rfl <;> rfl) (Nat.le_of_ble_eq_true rfl) (Nat.le_of_ble_eq_true rfl) d_X_init_38 (fun q38 H hP hD hS => ?_)
  have hP : va_P D classes [(h, .inr (1, [.ref q5, .ref q16, .ref q27, .null, .null, .int 0])), (q5, .inr (0, [.ref q5_0, .int 0])), (q5_0, .inl (cA, 1024, .inl (fun _ => 0))), (q16, .inr (0, [.ref q16_0, .int 0])), (q16_0, .inl (cA, 1024, .inl (fun _ => 0))), (q27, .inr (0, [.ref q27_0, .int 0])), (q27_0, .inl (cA, 1024, .inl (fun _ => 0))), (q38, .inr (0, [.null, .int 0]))] H := hP
  have hD : va_D A [(h, .inr (1, [.ref q5, .ref q16, .ref q27, .null, .null, .int 0])), (q5, .inr (0, [.ref q5_0, .int 0])), (q5_0, .inl (cA, 1024, .inl (fun _ => 0))), (q16, .inr (0, [.ref q16_0, .int 0])), (q16_0, .inl (cA, 1024, .inl (fun _ => 0))), (q27, .inr (0, [.ref q27_0, .int 0])), (q27_0, .inl (cA, 1024, .inl (fun _ => 0))), (q38, .inr (0, [.null, .int 0]))] := hD
  refine lv_dup hx hb d_X_init_41 rfl ?_
  refine call_iv (wr := [(h, .inr (1, [.ref q5, .ref q16, .ref q27, .null, .null, .int 0])), (q5, .inr (0, [.ref q5_0, .int 0])), (q5_0, .inl (cA, 1024, .inl (fun _ => 0))), (q16, .inr (0, [.ref q16_0, .int 0])), (q16_0, .inl (cA, 1024, .inl (fun _ => 0))), (q27, .inr (0, [.ref q27_0, .int 0])), (q27_0, .inl (cA, 1024, .inl (fun _ => 0)))]) (rest := [.ref q38, .ref h]) C0 hK hP hD hS hA hZ (c_R_init l D cA zz q38) [7] [0, 1, 2, 3, 4, 5, 6] rfl rfl rfl rfl (by decide) m_X_9 ⟨Nat.le_of_ble_eq_true rfl, Nat.le_of_ble_eq_true rfl⟩ ⟨rfl, rfl⟩ rfl hl.1 rfl (Nat.le_of_ble_eq_true rfl) ⟨Nat.le_of_ble_eq_true rfl, Nat.le_of_ble_eq_true rfl⟩ d_X_init_42 (fun u H locs hP hD hS => ?_)
  generalize u = q38_0 at hP hD
  have hP : va_P D classes [(h, .inr (1, [.ref q5, .ref q16, .ref q27, .null, .null, .int 0])), (q5, .inr (0, [.ref q5_0, .int 0])), (q5_0, .inl (cA, 1024, .inl (fun _ => 0))), (q16, .inr (0, [.ref q16_0, .int 0])), (q16_0, .inl (cA, 1024, .inl (fun _ => 0))), (q27, .inr (0, [.ref q27_0, .int 0])), (q27_0, .inl (cA, 1024, .inl (fun _ => 0))), (q38, .inr (0, [.ref q38_0, .int 0])), (q38_0, .inl (cA, 1024, .inl (fun _ => 0)))] H := hP
  have hD : va_D A [(h, .inr (1, [.ref q5, .ref q16, .ref q27, .null, .null, .int 0])), (q5, .inr (0, [.ref q5_0, .int 0])), (q5_0, .inl (cA, 1024, .inl (fun _ => 0))), (q16, .inr (0, [.ref q16_0, .int 0])), (q16_0, .inl (cA, 1024, .inl (fun _ => 0))), (q27, .inr (0, [.ref q27_0, .int 0])), (q27_0, .inl (cA, 1024, .inl (fun _ => 0))), (q38, .inr (0, [.ref q38_0, .int 0])), (q38_0, .inl (cA, 1024, .inl (fun _ => 0)))] := hD
  refine va_putF (D := D) (ci := 1) (v := .ref q38) (ty := .object "ListWords$Row") (C := R_X) (T := F_X) (N := 6) hx hb hG i_X t_X t_X_ok n_X hown hK hP hD hS 0 rfl rfl 3 (by decide) (hG _ f_X_22) (fun _ h9 => h9) rfl hin rfl (by decide +kernel) rfl rfl (Nat.le_of_ble_eq_true rfl) d_X_init_45 (fun H locs hP hD hS => ?_)
  have hP : va_P D classes [(h, .inr (1, [.ref q5, .ref q16, .ref q27, .ref q38, .null, .int 0])), (q5, .inr (0, [.ref q5_0, .int 0])), (q5_0, .inl (cA, 1024, .inl (fun _ => 0))), (q16, .inr (0, [.ref q16_0, .int 0])), (q16_0, .inl (cA, 1024, .inl (fun _ => 0))), (q27, .inr (0, [.ref q27_0, .int 0])), (q27_0, .inl (cA, 1024, .inl (fun _ => 0))), (q38, .inr (0, [.ref q38_0, .int 0])), (q38_0, .inl (cA, 1024, .inl (fun _ => 0)))] H := hP
  have hD : va_D A [(h, .inr (1, [.ref q5, .ref q16, .ref q27, .ref q38, .null, .int 0])), (q5, .inr (0, [.ref q5_0, .int 0])), (q5_0, .inl (cA, 1024, .inl (fun _ => 0))), (q16, .inr (0, [.ref q16_0, .int 0])), (q16_0, .inl (cA, 1024, .inl (fun _ => 0))), (q27, .inr (0, [.ref q27_0, .int 0])), (q27_0, .inl (cA, 1024, .inl (fun _ => 0))), (q38, .inr (0, [.ref q38_0, .int 0])), (q38_0, .inl (cA, 1024, .inl (fun _ => 0)))] := hD
  refine lv_aload_n hx hb d_X_init_48 rfl (lv_at hl 0 rfl) ?_
  refine va_new (ci := 0) (fs := [.null, .int 0]) (C := R_R) (T := F_R) (N := 2) hx hb hG i_R t_R t_R_ok hown (hG _ k_X_7) (hG _ w_R_inst) (hG _ w_R_init) hK hP hD hS hA rfl (fun j hj => by rcases (show j = 0 ∨ j = 1 by omega) with rfl | rfl <;> rfl) (Nat.le_of_ble_eq_true rfl) (Nat.le_of_ble_eq_true rfl) d_X_init_49 (fun q49 H hP hD hS => ?_)
  have hP : va_P D classes [(h, .inr (1, [.ref q5, .ref q16, .ref q27, .ref q38, .null, .int 0])), (q5, .inr (0, [.ref q5_0, .int 0])), (q5_0, .inl (cA, 1024, .inl (fun _ => 0))), (q16, .inr (0, [.ref q16_0, .int 0])), (q16_0, .inl (cA, 1024, .inl (fun _ => 0))), (q27, .inr (0, [.ref q27_0, .int 0])), (q27_0, .inl (cA, 1024, .inl (fun _ => 0))), (q38, .inr (0, [.ref q38_0, .int 0])), (q38_0, .inl (cA, 1024, .inl (fun _ => 0))), (q49, .inr (0, [.null, .int 0]))] H := hP
  have hD : va_D A [(h, .inr (1, [.ref q5, .ref q16, .ref q27, .ref q38, .null, .int 0])), (q5, .inr (0, [.ref q5_0, .int 0])), (q5_0, .inl (cA, 1024, .inl (fun _ => 0))), (q16, .inr (0, [.ref q16_0, .int 0])), (q16_0, .inl (cA, 1024, .inl (fun _ => 0))), (q27, .inr (0, [.ref q27_0, .int 0])), (q27_0, .inl (cA, 1024, .inl (fun _ => 0))), (q38, .inr (0, [.ref q38_0, .int 0])), (q38_0, .inl (cA, 1024, .inl (fun _ => 0))), (q49, .inr (0, [.null, .int 0]))] := hD
  refine lv_dup hx hb d_X_init_52 rfl ?_
  refine call_iv (wr := [(h, .inr (1, [.ref q5, .ref q16, .ref q27, .ref q38, .null, .int 0])), (q5, .inr (0, [.ref q5_0, .int 0])), (q5_0, .inl (cA, 1024, .inl (fun _ => 0))), (q16, .inr (0, [.ref q16_0, .int 0])), (q16_0, .inl (cA, 1024, .inl (fun _ => 0))), (q27, .inr (0, [.ref q27_0, .int 0])), (q27_0, .inl (cA, 1024, .inl (fun _ => 0))), (q38, .inr (0, [.ref q38_0, .int 0])), (q38_0, .inl (cA, 1024, .inl (fun _ => 0)))]) (rest := [.ref q49, .ref h]) C0 hK hP hD hS hA hZ (c_R_init l D cA zz q49) [9] [0, 1, 2, 3, 4, 5, 6, 7, 8] rfl rfl rfl rfl (by decide) m_X_9 ⟨Nat.le_of_ble_eq_true rfl, Nat.le_of_ble_eq_true rfl⟩ ⟨rfl, rfl⟩ rfl hl.1 rfl (Nat.le_of_ble_eq_true rfl) ⟨Nat.le_of_ble_eq_true rfl, Nat.le_of_ble_eq_true rfl⟩ d_X_init_53 (fun u H locs hP hD hS => ?_)
  generalize u = q49_0 at hP hD
  have hP : va_P D classes [(h, .inr (1, [.ref q5, .ref q16, .ref q27, .ref q38, .null, .int 0])), (q5, .inr (0, [.ref q5_0, .int 0])), (q5_0, .inl (cA, 1024, .inl (fun _ => 0))), (q16, .inr (0, [.ref q16_0, .int 0])), (q16_0, .inl (cA, 1024, .inl (fun _ => 0))), (q27, .inr (0, [.ref q27_0, .int 0])), (q27_0, .inl (cA, 1024, .inl (fun _ => 0))), (q38, .inr (0, [.ref q38_0, .int 0])), (q38_0, .inl (cA, 1024, .inl (fun _ => 0))), (q49, .inr (0, [.ref q49_0, .int 0])), (q49_0, .inl (cA, 1024, .inl (fun _ => 0)))] H := hP
  have hD : va_D A [(h, .inr (1, [.ref q5, .ref q16, .ref q27, .ref q38, .null, .int 0])), (q5, .inr (0, [.ref q5_0, .int 0])), (q5_0, .inl (cA, 1024, .inl (fun _ => 0))), (q16, .inr (0, [.ref q16_0, .int 0])), (q16_0, .inl (cA, 1024, .inl (fun _ => 0))), (q27, .inr (0, [.ref q27_0, .int 0])), (q27_0, .inl (cA, 1024, .inl (fun _ => 0))), (q38, .inr (0, [.ref q38_0, .int 0])), (q38_0, .inl (cA, 1024, .inl (fun _ => 0))), (q49, .inr (0, [.ref q49_0, .int 0])), (q49_0, .inl (cA, 1024, .inl (fun _ => 0)))] := hD
  refine va_putF (D := D) (ci := 1) (v := .ref q49) (ty := .object "ListWords$Row") (C := R_X) (T := F_X) (N := 6) hx hb hG i_X t_X t_X_ok n_X hown hK hP hD hS 0 rfl rfl 4 (by decide) (hG _ f_X_25) (fun _ h9 => h9) rfl hin rfl (by decide +kernel) rfl rfl (Nat.le_of_ble_eq_true rfl) d_X_init_56 (fun H locs hP hD hS => ?_)
  have hP : va_P D classes [(h, .inr (1, [.ref q5, .ref q16, .ref q27, .ref q38, .ref q49, .int 0])), (q5, .inr (0, [.ref q5_0, .int 0])), (q5_0, .inl (cA, 1024, .inl (fun _ => 0))), (q16, .inr (0, [.ref q16_0, .int 0])), (q16_0, .inl (cA, 1024, .inl (fun _ => 0))), (q27, .inr (0, [.ref q27_0, .int 0])), (q27_0, .inl (cA, 1024, .inl (fun _ => 0))), (q38, .inr (0, [.ref q38_0, .int 0])), (q38_0, .inl (cA, 1024, .inl (fun _ => 0))), (q49, .inr (0, [.ref q49_0, .int 0])), (q49_0, .inl (cA, 1024, .inl (fun _ => 0)))] H := hP
  have hD : va_D A [(h, .inr (1, [.ref q5, .ref q16, .ref q27, .ref q38, .ref q49, .int 0])), (q5, .inr (0, [.ref q5_0, .int 0])), (q5_0, .inl (cA, 1024, .inl (fun _ => 0))), (q16, .inr (0, [.ref q16_0, .int 0])), (q16_0, .inl (cA, 1024, .inl (fun _ => 0))), (q27, .inr (0, [.ref q27_0, .int 0])), (q27_0, .inl (cA, 1024, .inl (fun _ => 0))), (q38, .inr (0, [.ref q38_0, .int 0])), (q38_0, .inl (cA, 1024, .inl (fun _ => 0))), (q49, .inr (0, [.ref q49_0, .int 0])), (q49_0, .inl (cA, 1024, .inl (fun _ => 0)))] := hD
  refine lv_aload_n hx hb d_X_init_59 rfl (lv_at hl 0 rfl) ?_
  refine lv_iconst (v := (0 : Int32)) hx hb d_X_init_60 (by decide) ?_
  refine va_put (D := D) (ci := 1) (v := .int (0 : Int32)) (ty := .int) (C := R_X) (T := F_X) (N := 6) hx hb hG i_X t_X t_X_ok n_X hown hK hP hD hS 0 rfl rfl 5 (by decide) (hG _ f_X_28) (fun _ h9 => h9) rfl (by decide +kernel) rfl rfl (Nat.le_of_ble_eq_true rfl) d_X_init_61 (fun H locs hP hD hS => ?_)
  have hP : va_P D classes [(h, .inr (1, [.ref q5, .ref q16, .ref q27, .ref q38, .ref q49, .int 0])), (q5, .inr (0, [.ref q5_0, .int 0])), (q5_0, .inl (cA, 1024, .inl (fun _ => 0))), (q16, .inr (0, [.ref q16_0, .int 0])), (q16_0, .inl (cA, 1024, .inl (fun _ => 0))), (q27, .inr (0, [.ref q27_0, .int 0])), (q27_0, .inl (cA, 1024, .inl (fun _ => 0))), (q38, .inr (0, [.ref q38_0, .int 0])), (q38_0, .inl (cA, 1024, .inl (fun _ => 0))), (q49, .inr (0, [.ref q49_0, .int 0])), (q49_0, .inl (cA, 1024, .inl (fun _ => 0)))] H := hP
  have hD : va_D A [(h, .inr (1, [.ref q5, .ref q16, .ref q27, .ref q38, .ref q49, .int 0])), (q5, .inr (0, [.ref q5_0, .int 0])), (q5_0, .inl (cA, 1024, .inl (fun _ => 0))), (q16, .inr (0, [.ref q16_0, .int 0])), (q16_0, .inl (cA, 1024, .inl (fun _ => 0))), (q27, .inr (0, [.ref q27_0, .int 0])), (q27_0, .inl (cA, 1024, .inl (fun _ => 0))), (q38, .inr (0, [.ref q38_0, .int 0])), (q38_0, .inl (cA, 1024, .inl (fun _ => 0))), (q49, .inr (0, [.ref q49_0, .int 0])), (q49_0, .inl (cA, 1024, .inl (fun _ => 0)))] := hD
  have hP9 := hP.sub (ws' := [(h, .inr (1, [.ref q5, .ref q16, .ref q27, .ref q38, .ref q49, .int 0])), (q5, .inr (0, [.ref q5_0, .int 0])), (q5_0, .inl (cA, 1024, .inl (fun _ => 0))), (q16, .inr (0, [.ref q16_0, .int 0])), (q16_0, .inl (cA, 1024, .inl (fun _ => 0))), (q27, .inr (0, [.ref q27_0, .int 0])), (q27_0, .inl (cA, 1024, .inl (fun _ => 0))), (q38, .inr (0, [.ref q38_0, .int 0])), (q38_0, .inl (cA, 1024, .inl (fun _ => 0))), (q49, .inr (0, [.ref q49_0, .int 0])), (q49_0, .inl (cA, 1024, .inl (fun _ => 0)))]) [0, 1, 2, 3, 4, 5, 6, 7, 8, 9, 10] rfl
  have hD9 := hD.sub (ws' := [(h, .inr (1, [.ref q5, .ref q16, .ref q27, .ref q38, .ref q49, .int 0])), (q5, .inr (0, [.ref q5_0, .int 0])), (q5_0, .inl (cA, 1024, .inl (fun _ => 0))), (q16, .inr (0, [.ref q16_0, .int 0])), (q16_0, .inl (cA, 1024, .inl (fun _ => 0))), (q27, .inr (0, [.ref q27_0, .int 0])), (q27_0, .inl (cA, 1024, .inl (fun _ => 0))), (q38, .inr (0, [.ref q38_0, .int 0])), (q38_0, .inl (cA, 1024, .inl (fun _ => 0))), (q49, .inr (0, [.ref q49_0, .int 0])), (q49_0, .inl (cA, 1024, .inl (fun _ => 0)))]) [0, 1, 2, 3, 4, 5, 6, 7, 8, 9, 10] (by decide) rfl
  refine W.widen (k := 10) (n := 5130) (by omega) (by omega) ?_
  exact W.vret hx hb hr (fun t ht hW => ⟨⟨(q5, q5_0, q16, q16_0, q27, q27_0, q38, q38_0, q49, q49_0), rfl, trivial, by rw [ht]; exact hP9, va_K.moved hW.alike hK, hD9⟩, hS.F ht⟩) hS.2.2 d_X_init_64
abbrev rm_M_init : Room := { frames := 1, cells := 5, slots := 8296, locals := 12 }
abbrev wI_M (cA : ClassId) (h : Nat) (u : Nat × Nat × Nat × Nat × Nat) : va_W := [(h, .inr (2, [.ref u.1, .int 0, .ref u.2.1, .int 0, .ref u.2.2.1, .int 0, .ref u.2.2.2.1, .int 0, .ref u.2.2.2.2, .int 0])), (u.1, .inl (cA, 1024, .inl (fun _ => 0))), (u.2.1, .inl (cA, 1024, .inl (fun _ => 0))), (u.2.2.1, .inl (cA, 1024, .inl (fun _ => 0))), (u.2.2.2.1, .inl (cA, 1024, .inl (fun _ => 0))), (u.2.2.2.2, .inl (cA, 4200, .inl (fun _ => 0)))]
set_option maxHeartbeats 4000000 in
set_option maxRecDepth 100000 in
theorem c_M_init (l : Launch) (D : va_G) (cA : ClassId) (zz : zT) (h : Nat) : MA l D cA zz y_M_init b_M_init 1 rm_M_init [.ref h] [(h, .inr (2, [.null, .int 0, .null, .int 0, .null, .int 0, .null, .int 0, .null, .int 0]))] (wI_M cA h) 5 8296 := by
  intro sz
  refine Met.ofW (cc := b_M_init) (maxL := 1) (ret := none) (by decide) rfl ?_
  intro p e s m args below meth c s₁ B hml hv
  obtain ⟨rfl, hsz, hP, hK, hD0, hZ⟩ := hv
  subst hsz
  have hts := atoms_spec (ws := Cond.code y_M_init b_M_init 1 none :: wG) B.pre
  have C0 : Cx p s m _ meth c b_M_init R_M 1 none := ⟨B.exec, B.bytes, B.returns, hml, findClass_of_methodNamed B.named, fun w h => hts w (List.mem_cons_of_mem _ h), B.notSynchronized⟩
  obtain ⟨hx, hb, hr, _, hown, hG, hlk⟩ := id C0
  have hin : meth.name = "<init>" := (name_of_methodNamed B.named B.method).1
  have hD := hD0.self (sz := s.heap.size)
  generalize hAe : va_A [(h, .inr (2, [.null, .int 0, .null, .int 0, .null, .int 0, .null, .int 0, .null, .int 0]))] s.heap.size = A at hD hZ ⊢
  have hA : ∀ q : Nat, s.heap.size ≤ q → A q := fun q h => by rw [← hAe]; exact Or.inr h
  have hS : va_S A s.heap s.heap [] := va_S.rf
  have hl := lv_entry ([.ref h]) (n := 1) (Nat.le_of_ble_eq_true rfl)
  rw [lg_entry_eq]
  generalize (lg_sl ([.ref h]) ++ List.replicate (1 - (lg_sl ([.ref h])).length) Slot.unset).toArray = ls at hl ⊢
  have hl : lv_has ls 1 [(0, .ref h)] := hl
  refine lv_aload_n hx hb d_M_init_0 rfl (lv_at hl 0 rfl) ?_
  refine W.objInit hx hb hown (hG _ m_M_1) (hG _ w_obj_inst) (hG _ w_obj_code) rfl (by rw [hml]; exact hl.1) rfl d_M_init_1 (Nat.le_of_ble_eq_true rfl) (Nat.le_of_ble_eq_true rfl) ?_
  refine W.eq (g2 := F0 m 4 ls []) rfl ?_
  refine lv_aload_n hx hb d_M_init_4 rfl (lv_at hl 0 rfl) ?_
  refine lv_sipush (v := (1024 : Int32)) hx hb d_M_init_5 (by decide) ?_
  refine va_newa (atype := .int) (ty := .int) (N' := 1024) (a0 := (1024, .inl (fun _ => 0))) hx hb (hG _ w_arr_int) rfl hK hP hD hS hA (fun _ => rfl) (by decide) (by decide) (by decide) (Nat.le_of_ble_eq_true rfl) (Nat.le_of_ble_eq_true rfl) d_M_init_8 (fun q8 cA' H hK2 hP hD hS => ?_)
  have e9 : cA' = cA := Option.some.inj ((hK2.2 1 _ rfl).2.symm.trans (hK2.2 0 _ rfl).2)
  rw [e9] at hP hD
  have hP : va_P D classes [(h, .inr (2, [.null, .int 0, .null, .int 0, .null, .int 0, .null, .int 0, .null, .int 0])), (q8, .inl (cA, 1024, .inl (fun _ => 0)))] H := hP
  have hD : va_D A [(h, .inr (2, [.null, .int 0, .null, .int 0, .null, .int 0, .null, .int 0, .null, .int 0])), (q8, .inl (cA, 1024, .inl (fun _ => 0)))] := hD
  refine va_putF (D := D) (ci := 2) (v := .ref q8) (ty := .array .int) (C := R_M) (T := F_M) (N := 10) hx hb hG i_M t_M t_M_ok n_M hown hK hP hD hS 0 rfl rfl 0 (by decide) (hG _ f_M_7) (fun _ h9 => h9) rfl hin rfl (by decide +kernel) rfl rfl (Nat.le_of_ble_eq_true rfl) d_M_init_10 (fun H locs hP hD hS => ?_)
  have hP : va_P D classes [(h, .inr (2, [.ref q8, .int 0, .null, .int 0, .null, .int 0, .null, .int 0, .null, .int 0])), (q8, .inl (cA, 1024, .inl (fun _ => 0)))] H := hP
  have hD : va_D A [(h, .inr (2, [.ref q8, .int 0, .null, .int 0, .null, .int 0, .null, .int 0, .null, .int 0])), (q8, .inl (cA, 1024, .inl (fun _ => 0)))] := hD
  refine lv_aload_n hx hb d_M_init_13 rfl (lv_at hl 0 rfl) ?_
  refine lv_sipush (v := (1024 : Int32)) hx hb d_M_init_14 (by decide) ?_
  refine va_newa (atype := .int) (ty := .int) (N' := 1024) (a0 := (1024, .inl (fun _ => 0))) hx hb (hG _ w_arr_int) rfl hK hP hD hS hA (fun _ => rfl) (by decide) (by decide) (by decide) (Nat.le_of_ble_eq_true rfl) (Nat.le_of_ble_eq_true rfl) d_M_init_17 (fun q17 cA' H hK2 hP hD hS => ?_)
  have e9 : cA' = cA := Option.some.inj ((hK2.2 1 _ rfl).2.symm.trans (hK2.2 0 _ rfl).2)
  rw [e9] at hP hD
  have hP : va_P D classes [(h, .inr (2, [.ref q8, .int 0, .null, .int 0, .null, .int 0, .null, .int 0, .null, .int 0])), (q8, .inl (cA, 1024, .inl (fun _ => 0))), (q17, .inl (cA, 1024, .inl (fun _ => 0)))] H := hP
  have hD : va_D A [(h, .inr (2, [.ref q8, .int 0, .null, .int 0, .null, .int 0, .null, .int 0, .null, .int 0])), (q8, .inl (cA, 1024, .inl (fun _ => 0))), (q17, .inl (cA, 1024, .inl (fun _ => 0)))] := hD
  refine va_putF (D := D) (ci := 2) (v := .ref q17) (ty := .array .int) (C := R_M) (T := F_M) (N := 10) hx hb hG i_M t_M t_M_ok n_M hown hK hP hD hS 0 rfl rfl 2 (by decide) (hG _ f_M_13) (fun _ h9 => h9) rfl hin rfl (by decide +kernel) rfl rfl (Nat.le_of_ble_eq_true rfl) d_M_init_19 (fun H locs hP hD hS => ?_)
  have hP : va_P D classes [(h, .inr (2, [.ref q8, .int 0, .ref q17, .int 0, .null, .int 0, .null, .int 0, .null, .int 0])), (q8, .inl (cA, 1024, .inl (fun _ => 0))), (q17, .inl (cA, 1024, .inl (fun _ => 0)))] H := hP
  have hD : va_D A [(h, .inr (2, [.ref q8, .int 0, .ref q17, .int 0, .null, .int 0, .null, .int 0, .null, .int 0])), (q8, .inl (cA, 1024, .inl (fun _ => 0))), (q17, .inl (cA, 1024, .inl (fun _ => 0)))] := hD
  refine lv_aload_n hx hb d_M_init_22 rfl (lv_at hl 0 rfl) ?_
  refine lv_sipush (v := (1024 : Int32)) hx hb d_M_init_23 (by decide) ?_
  refine va_newa (atype := .int) (ty := .int) (N' := 1024) (a0 := (1024, .inl (fun _ => 0))) hx hb (hG _ w_arr_int) rfl hK hP hD hS hA (fun _ => rfl) (by decide) (by decide) (by decide) (Nat.le_of_ble_eq_true rfl) (Nat.le_of_ble_eq_true rfl) d_M_init_26 (fun q26 cA' H hK2 hP hD hS => ?_)
  have e9 : cA' = cA := Option.some.inj ((hK2.2 1 _ rfl).2.symm.trans (hK2.2 0 _ rfl).2)
  rw [e9] at hP hD
  have hP : va_P D classes [(h, .inr (2, [.ref q8, .int 0, .ref q17, .int 0, .null, .int 0, .null, .int 0, .null, .int 0])), (q8, .inl (cA, 1024, .inl (fun _ => 0))), (q17, .inl (cA, 1024, .inl (fun _ => 0))), (q26, .inl (cA, 1024, .inl (fun _ => 0)))] H := hP
  have hD : va_D A [(h, .inr (2, [.ref q8, .int 0, .ref q17, .int 0, .null, .int 0, .null, .int 0, .null, .int 0])), (q8, .inl (cA, 1024, .inl (fun _ => 0))), (q17, .inl (cA, 1024, .inl (fun _ => 0))), (q26, .inl (cA, 1024, .inl (fun _ => 0)))] := hD
  refine va_putF (D := D) (ci := 2) (v := .ref q26) (ty := .array .int) (C := R_M) (T := F_M) (N := 10) hx hb hG i_M t_M t_M_ok n_M hown hK hP hD hS 0 rfl rfl 4 (by decide) (hG _ f_M_16) (fun _ h9 => h9) rfl hin rfl (by decide +kernel) rfl rfl (Nat.le_of_ble_eq_true rfl) d_M_init_28 (fun H locs hP hD hS => ?_)
  have hP : va_P D classes [(h, .inr (2, [.ref q8, .int 0, .ref q17, .int 0, .ref q26, .int 0, .null, .int 0, .null, .int 0])), (q8, .inl (cA, 1024, .inl (fun _ => 0))), (q17, .inl (cA, 1024, .inl (fun _ => 0))), (q26, .inl (cA, 1024, .inl (fun _ => 0)))] H := hP
  have hD : va_D A [(h, .inr (2, [.ref q8, .int 0, .ref q17, .int 0, .ref q26, .int 0, .null, .int 0, .null, .int 0])), (q8, .inl (cA, 1024, .inl (fun _ => 0))), (q17, .inl (cA, 1024, .inl (fun _ => 0))), (q26, .inl (cA, 1024, .inl (fun _ => 0)))] := hD
  refine lv_aload_n hx hb d_M_init_31 rfl (lv_at hl 0 rfl) ?_
  refine lv_sipush (v := (1024 : Int32)) hx hb d_M_init_32 (by decide) ?_
  refine va_newa (atype := .int) (ty := .int) (N' := 1024) (a0 := (1024, .inl (fun _ => 0))) hx hb (hG _ w_arr_int) rfl hK hP hD hS hA (fun _ => rfl) (by decide) (by decide) (by decide) (Nat.le_of_ble_eq_true rfl) (Nat.le_of_ble_eq_true rfl) d_M_init_35 (fun q35 cA' H hK2 hP hD hS => ?_)
  have e9 : cA' = cA := Option.some.inj ((hK2.2 1 _ rfl).2.symm.trans (hK2.2 0 _ rfl).2)
  rw [e9] at hP hD
  have hP : va_P D classes [(h, .inr (2, [.ref q8, .int 0, .ref q17, .int 0, .ref q26, .int 0, .null, .int 0, .null, .int 0])), (q8, .inl (cA, 1024, .inl (fun _ => 0))), (q17, .inl (cA, 1024, .inl (fun _ => 0))), (q26, .inl (cA, 1024, .inl (fun _ => 0))), (q35, .inl (cA, 1024, .inl (fun _ => 0)))] H := hP
  have hD : va_D A [(h, .inr (2, [.ref q8, .int 0, .ref q17, .int 0, .ref q26, .int 0, .null, .int 0, .null, .int 0])), (q8, .inl (cA, 1024, .inl (fun _ => 0))), (q17, .inl (cA, 1024, .inl (fun _ => 0))), (q26, .inl (cA, 1024, .inl (fun _ => 0))), (q35, .inl (cA, 1024, .inl (fun _ => 0)))] := hD
  refine va_putF (D := D) (ci := 2) (v := .ref q35) (ty := .array .int) (C := R_M) (T := F_M) (N := 10) hx hb hG i_M t_M t_M_ok n_M hown hK hP hD hS 0 rfl rfl 6 (by decide) (hG _ f_M_19) (fun _ h9 => h9) rfl hin rfl (by decide +kernel) rfl rfl (Nat.le_of_ble_eq_true rfl) d_M_init_37 (fun H locs hP hD hS => ?_)
  have hP : va_P D classes [(h, .inr (2, [.ref q8, .int 0, .ref q17, .int 0, .ref q26, .int 0, .ref q35, .int 0, .null, .int 0])), (q8, .inl (cA, 1024, .inl (fun _ => 0))), (q17, .inl (cA, 1024, .inl (fun _ => 0))), (q26, .inl (cA, 1024, .inl (fun _ => 0))), (q35, .inl (cA, 1024, .inl (fun _ => 0)))] H := hP
  have hD : va_D A [(h, .inr (2, [.ref q8, .int 0, .ref q17, .int 0, .ref q26, .int 0, .ref q35, .int 0, .null, .int 0])), (q8, .inl (cA, 1024, .inl (fun _ => 0))), (q17, .inl (cA, 1024, .inl (fun _ => 0))), (q26, .inl (cA, 1024, .inl (fun _ => 0))), (q35, .inl (cA, 1024, .inl (fun _ => 0)))] := hD
  refine lv_aload_n hx hb d_M_init_40 rfl (lv_at hl 0 rfl) ?_
  refine lv_sipush (v := (4200 : Int32)) hx hb d_M_init_41 (by decide) ?_
  refine va_newa (atype := .int) (ty := .int) (N' := 4200) (a0 := (4200, .inl (fun _ => 0))) hx hb (hG _ w_arr_int) rfl hK hP hD hS hA (fun _ => rfl) (by decide) (by decide) (by decide) (Nat.le_of_ble_eq_true rfl) (Nat.le_of_ble_eq_true rfl) d_M_init_44 (fun q44 cA' H hK2 hP hD hS => ?_)
  have e9 : cA' = cA := Option.some.inj ((hK2.2 1 _ rfl).2.symm.trans (hK2.2 0 _ rfl).2)
  rw [e9] at hP hD
  have hP : va_P D classes [(h, .inr (2, [.ref q8, .int 0, .ref q17, .int 0, .ref q26, .int 0, .ref q35, .int 0, .null, .int 0])), (q8, .inl (cA, 1024, .inl (fun _ => 0))), (q17, .inl (cA, 1024, .inl (fun _ => 0))), (q26, .inl (cA, 1024, .inl (fun _ => 0))), (q35, .inl (cA, 1024, .inl (fun _ => 0))), (q44, .inl (cA, 4200, .inl (fun _ => 0)))] H := hP
  have hD : va_D A [(h, .inr (2, [.ref q8, .int 0, .ref q17, .int 0, .ref q26, .int 0, .ref q35, .int 0, .null, .int 0])), (q8, .inl (cA, 1024, .inl (fun _ => 0))), (q17, .inl (cA, 1024, .inl (fun _ => 0))), (q26, .inl (cA, 1024, .inl (fun _ => 0))), (q35, .inl (cA, 1024, .inl (fun _ => 0))), (q44, .inl (cA, 4200, .inl (fun _ => 0)))] := hD
  refine va_putF (D := D) (ci := 2) (v := .ref q44) (ty := .array .int) (C := R_M) (T := F_M) (N := 10) hx hb hG i_M t_M t_M_ok n_M hown hK hP hD hS 0 rfl rfl 8 (by decide) (hG _ f_M_22) (fun _ h9 => h9) rfl hin rfl (by decide +kernel) rfl rfl (Nat.le_of_ble_eq_true rfl) d_M_init_46 (fun H locs hP hD hS => ?_)
  have hP : va_P D classes [(h, .inr (2, [.ref q8, .int 0, .ref q17, .int 0, .ref q26, .int 0, .ref q35, .int 0, .ref q44, .int 0])), (q8, .inl (cA, 1024, .inl (fun _ => 0))), (q17, .inl (cA, 1024, .inl (fun _ => 0))), (q26, .inl (cA, 1024, .inl (fun _ => 0))), (q35, .inl (cA, 1024, .inl (fun _ => 0))), (q44, .inl (cA, 4200, .inl (fun _ => 0)))] H := hP
  have hD : va_D A [(h, .inr (2, [.ref q8, .int 0, .ref q17, .int 0, .ref q26, .int 0, .ref q35, .int 0, .ref q44, .int 0])), (q8, .inl (cA, 1024, .inl (fun _ => 0))), (q17, .inl (cA, 1024, .inl (fun _ => 0))), (q26, .inl (cA, 1024, .inl (fun _ => 0))), (q35, .inl (cA, 1024, .inl (fun _ => 0))), (q44, .inl (cA, 4200, .inl (fun _ => 0)))] := hD
  have hP9 := hP.sub (ws' := [(h, .inr (2, [.ref q8, .int 0, .ref q17, .int 0, .ref q26, .int 0, .ref q35, .int 0, .ref q44, .int 0])), (q8, .inl (cA, 1024, .inl (fun _ => 0))), (q17, .inl (cA, 1024, .inl (fun _ => 0))), (q26, .inl (cA, 1024, .inl (fun _ => 0))), (q35, .inl (cA, 1024, .inl (fun _ => 0))), (q44, .inl (cA, 4200, .inl (fun _ => 0)))]) [0, 1, 2, 3, 4, 5] rfl
  have hD9 := hD.sub (ws' := [(h, .inr (2, [.ref q8, .int 0, .ref q17, .int 0, .ref q26, .int 0, .ref q35, .int 0, .ref q44, .int 0])), (q8, .inl (cA, 1024, .inl (fun _ => 0))), (q17, .inl (cA, 1024, .inl (fun _ => 0))), (q26, .inl (cA, 1024, .inl (fun _ => 0))), (q35, .inl (cA, 1024, .inl (fun _ => 0))), (q44, .inl (cA, 4200, .inl (fun _ => 0)))]) [0, 1, 2, 3, 4, 5] (by decide) rfl
  refine W.widen (k := 5) (n := 8296) (by omega) (by omega) ?_
  exact W.vret hx hb hr (fun t ht hW => ⟨⟨(q8, q17, q26, q35, q44), rfl, trivial, by rw [ht]; exact hP9, va_K.moved hW.alike hK, hD9⟩, hS.F ht⟩) hS.2.2 d_M_init_49
theorem lw_Cx {p : Program} {s : State} {m : MethodId} {meth : Method} {c : Code} {b L : Nat} {xs : Nat → Int32} (C1 : lw_At p s m meth c b L xs) : Cx p s m #[Value.ref b] meth c code R_law 4 ret := ⟨C1.1, C1.2.1, C1.2.2.1, C1.2.2.2.1, C1.2.2.2.2.1, fun w h => C1.2.2.2.2.2.1 w (List.mem_filter.mp h).1, C1.2.2.2.2.2.2.2.2.1⟩
