def fuN : Nat := 4000
theorem mL1 {i : Nat} {w : Cond} (h : tables_1_1[i]? = some w) : w ∈ lw_tbl := List.mem_append_right _ (List.mem_append_left _ (List.mem_of_getElem? h))
theorem mL2 {i : Nat} {w : Cond} (h : tables_1_2[i]? = some w) : w ∈ lw_tbl := List.mem_append_right _ (List.mem_append_right _ (List.mem_of_getElem? h))
def tmJS : Nat → Term := fun i => ([.string "ListWords" 94, .string "ListWords" 137] : List Term).getD i .null
theorem fl_ex : ∀ i, i < nJS → Cond.exactly (tmJS i) "java/lang/String" ∈ flatC (Jvm.Cond.and given_1 narrow_1) := by decide +kernel
theorem fl_co : ∀ i, i < nJS → Cond.eq (.field (tmJS i) "java/lang/String" "coder" "B") (.int 0) ∈ flatC (Jvm.Cond.and given_1 narrow_1) := by decide +kernel
theorem fl_ar : ∀ i, i < nJS → Cond.arrayOf (.field (tmJS i) "java/lang/String" "value" "[B") .byte ∈ flatC (Jvm.Cond.and given_1 narrow_1) := by decide +kernel
theorem fl_le : ∀ i, i < nJS → Cond.eq (.length (.field (tmJS i) "java/lang/String" "value" "[B")) (.int (Int32.ofNat (lenJS.getD i 0))) ∈ flatC (Jvm.Cond.and given_1 narrow_1) := by decide +kernel
theorem fl_el : ∀ i, i < nJS → ∀ j, j < lenJS.getD i 0 → Cond.eq (.elem (.field (tmJS i) "java/lang/String" "value" "[B") (.int (Int32.ofNat j))) (.int ((bytJS.getD i []).getD j 0)) ∈ flatC (Jvm.Cond.and given_1 narrow_1) := by decide +kernel
theorem fl_ne : Cond.not (Cond.eq (tmJS 0) (tmJS 1)) ∈ flatC (Jvm.Cond.and given_1 narrow_1) := by decide +kernel
theorem fl_cs : Cond.eq (.static "java/lang/String" "COMPACT_STRINGS" "Z") (.int 1) ∈ flatC (Jvm.Cond.and given_1 narrow_1) := by decide +kernel
theorem fl_fm : Cond.isRef (.static "jdk/internal/util/Preconditions" "SIOOBE_FORMATTER" "Ljava/util/function/BiFunction;") ∈ flatC (Jvm.Cond.and given_1 narrow_1) := by decide +kernel
set_option maxRecDepth 100000 in
theorem zs_start {b : Nat} {s : State} (hts : ∀ w ∈ lw_tbl, w.before #[Value.ref b] s = true) (hgv : (Jvm.Cond.and given_1 narrow_1).before #[Value.ref b] s = true) : ∃ zz : zT, ZS zz (fun q : Nat => s.heap.size ≤ q) s s.heap := by
  have hs := flat_of_before _ hgv
  have hA : ∀ a : Nat, a < s.heap.size → ¬ (fun q : Nat => s.heap.size ≤ q) a := fun a h => Nat.not_le.mpr h
  obtain ⟨adK, adV, hS, hE⟩ := vk_Sof (args := #[Value.ref b]) (s := s) (N := nJS) (tm := tmJS) (len := lenJS) (byt := bytJS) (A := fun q : Nat => s.heap.size ≤ q) (by decide) (fun i hi => hs _ (fl_ex i hi)) (fun i hi => hs _ (fl_co i hi)) (fun i hi => hs _ (fl_ar i hi)) (fun i hi => hs _ (fl_le i hi)) (fun i hi j hj => hs _ (fl_el i hi j hj)) (fun i j hi hj hij => by
    have hi : i < 2 := hi
    have hj : j < 2 := hj
    rcases (show (i = 0 ∧ j = 1) ∨ (i = 1 ∧ j = 0) by omega) with ⟨rfl, rfl⟩ | ⟨rfl, rfl⟩
    · exact Or.inl (hs _ fl_ne)
    · exact Or.inr (hs _ fl_ne)) hA
  have r0 : vk_R own0JS ix0JS tx0JS (adK 0) s := vk_R.of (hts _ (mL1 (i := 145) rfl)) (hE 0 (by decide))
  have r1 : vk_R own1JS ix1JS tx1JS (adK 1) s := vk_R.of (hts _ (mL2 (i := 20) rfl)) (hE 1 (by decide))
  have hc := va_Zof (A := fun q : Nat => s.heap.size ≤ q) (hts (.laysStatic "java/lang/String" "COMPACT_STRINGS" "Z") (mL1 (i := 159) rfl)) (hts (.initialized "java/lang/String") (mL1 (i := 5) rfl)) (va_eqi (hs _ fl_cs)) hA
  have hf := va_Zqof (A := fun q : Nat => s.heap.size ≤ q) (hts (.laysStatic "jdk/internal/util/Preconditions" "SIOOBE_FORMATTER" "Ljava/util/function/BiFunction;") (mL1 (i := 202) rfl)) (hts (.initialized "jdk/internal/util/Preconditions") (mL1 (i := 9) rfl)) (hs _ fl_fm) hA
  rcases hf with hf | ⟨t, hf⟩
  · exact ⟨(adK, adV, .null), hS, ⟨r0, r1⟩, hc, hf, Or.inl rfl⟩
  · exact ⟨(adK, adV, .ref t), hS, ⟨r0, r1⟩, hc, hf, Or.inr ⟨t, rfl⟩⟩
set_option maxHeartbeats 8000000 in
set_option maxRecDepth 100000 in
/-- THE LAW, from its entry, over the pure fact -/
theorem whole_open (hpure : ∀ (L : Nat) (xs : Nat → Int32), L ≤ 3072 → p_L_law_18 fuN L xs fuN 0 0 (fun _ => 0) 0 (fun _ => 0) 0 (fun _ => 0) 0 (fun _ => 0) 0 (fun _ => 0) 0 0 0 0 0 (fun _ => 0) (fun _ => 0) (fun _ => 0) (fun _ => 0) (fun _ => 0) 0 = some (1 : Int32)) {p : Program} {e : Env} {s : State} {m : MethodId} {below : List Frame} {meth : Method} {c : Code} (l : Launch) {b L : Nat} {xs : Nat → Int32} (hL : L ≤ 3072) (C1 : lw_At p s m meth c b L xs) : W p l e room_1 s m #[Value.ref b] below meth c s.heap [] 0 0 (lw_Z below #[Value.ref b] s) (entryFrame m ([Value.ref b] : List Value).toArray 4) := by
  have C0 := lw_Cx C1
  obtain ⟨_, _, _, _, _, hts, hX, hbl, _, hgv⟩ := id C1
  obtain ⟨hx, hb, hr, hml, hown, hG, hlk⟩ := id C0
  obtain ⟨zz, hZ⟩ := zs_start hts hgv
  have hA : ∀ q : Nat, s.heap.size ≤ q → (fun q : Nat => s.heap.size ≤ q) q := fun _ h => h
  obtain ⟨k0, iS0, hKn0⟩ := u_known (C := R_R) (T := F_R) (N := 2) (n := 2) hG i_R (hG _ w_R_inst)
  obtain ⟨k1, iS1, hKn1⟩ := u_known (C := R_X) (T := F_X) (N := 6) (n := 6) hG i_X (hG _ w_X_inst)
  obtain ⟨k2, iS2, hKn2⟩ := u_known (C := R_M) (T := F_M) (N := 10) (n := 10) hG i_M (hG _ w_M_inst)
  obtain ⟨D, hKc⟩ : ∃ (D : va_G), ∀ (k : Nat) (q : vw_C), classes[k]? = some q → u_Kn s q.1 q.2.1 q.2.2 (D.1 k) (D.2 k) := by
    refine ⟨(fun k => if k = 0 then k0 else if k = 1 then k1 else k2, fun k => if k = 0 then iS0 else if k = 1 then iS1 else iS2), ?_⟩
    intro k q hq
    match k, hq with
    | 0, hq => cases hq; exact hKn0
    | 1, hq => cases hq; exact hKn1
    | 2, hq => cases hq; exact hKn2
    | k + 3, hq => simp [classes] at hq
  obtain ⟨cA, kA, comp, hf1, hf2, hf3⟩ := Cond.arrayClass_spec (hG (.arrayClass .int) w_arr_int)
  have hK : va_K D classes [(cA, .int)] s := ⟨hKc, fun k q h => by
    match k, h with
    | 0, h => cases h; exact ⟨fun n z => ⟨fun k h => (by cases h), kA, hf2, comp, hf3⟩, hf1⟩
    | k + 1, h => simp at h⟩
  have hS : va_S (fun q : Nat => s.heap.size ≤ q) s.heap s.heap [] := va_S.rf
  have hP : va_P D classes [] s.heap := fun k q h => by simp at h
  have hD : va_D (fun q : Nat => s.heap.size ≤ q) [] := ⟨fun i j p q h => by simp at h, fun k q h => by simp at h⟩
  have hl := lv_entry ([.ref b]) (n := 4) (Nat.le_of_ble_eq_true rfl)
  rw [lg_entry_eq]
  generalize (lg_sl ([.ref b]) ++ List.replicate (4 - (lg_sl ([.ref b])).length) Slot.unset).toArray = ls at hl ⊢
  have hl : lv_has ls 4 [(0, .ref b)] := hl
  refine va_new (ci := 1) (fs := [.null, .null, .null, .null, .null, .int 0]) (C := R_X) (T := F_X) (N := 6) hx hb hG i_X t_X t_X_ok hown (hG _ k_L_7) (hG _ w_X_inst) (hG _ w_X_init) hK hP hD hS hA rfl (fun j hj => by rcases (show j = 0 ∨ j = 1 ∨ j = 2 ∨ j = 3 ∨ j = 4 ∨ j = 5 by omega) with rfl | rfl | rfl | rfl | rfl | rfl <;> rfl) (Nat.le_of_ble_eq_true rfl) (Nat.le_of_ble_eq_true rfl) d_L_law_0 (fun qx H hP hD hS => ?_)
  have hP : va_P D classes [(qx, .inr (1, [.null, .null, .null, .null, .null, .int 0]))] H := hP
  have hD : va_D (fun q : Nat => s.heap.size ≤ q) [(qx, .inr (1, [.null, .null, .null, .null, .null, .int 0]))] := hD
  refine lv_dup hx hb d_L_law_3 rfl ?_
  refine call_iv (wr := []) (rest := [.ref qx]) C0 hK hP hD hS hA hZ (c_X_init l D cA zz qx) [0] [] rfl rfl rfl rfl (by decide) m_L_9 ⟨Nat.le_of_ble_eq_true rfl, Nat.le_of_ble_eq_true rfl⟩ ⟨rfl, rfl⟩ rfl hl.1 rfl (Nat.le_of_ble_eq_true rfl) ⟨Nat.le_of_ble_eq_true rfl, Nat.le_of_ble_eq_true rfl⟩ d_L_law_4 (fun u H locs hP hD hS => ?_)
  obtain ⟨a0, a1, a2, a3, a4, a5, a6, a7, a8, a9⟩ := u
  have hP : va_P D classes [(qx, .inr (1, [.ref a0, .ref a2, .ref a4, .ref a6, .ref a8, .int 0])), (a0, .inr (0, [.ref a1, .int 0])), (a1, .inl (cA, 1024, .inl (fun _ => 0))), (a2, .inr (0, [.ref a3, .int 0])), (a3, .inl (cA, 1024, .inl (fun _ => 0))), (a4, .inr (0, [.ref a5, .int 0])), (a5, .inl (cA, 1024, .inl (fun _ => 0))), (a6, .inr (0, [.ref a7, .int 0])), (a7, .inl (cA, 1024, .inl (fun _ => 0))), (a8, .inr (0, [.ref a9, .int 0])), (a9, .inl (cA, 1024, .inl (fun _ => 0)))] H := hP
  have hD : va_D (fun q : Nat => s.heap.size ≤ q) [(qx, .inr (1, [.ref a0, .ref a2, .ref a4, .ref a6, .ref a8, .int 0])), (a0, .inr (0, [.ref a1, .int 0])), (a1, .inl (cA, 1024, .inl (fun _ => 0))), (a2, .inr (0, [.ref a3, .int 0])), (a3, .inl (cA, 1024, .inl (fun _ => 0))), (a4, .inr (0, [.ref a5, .int 0])), (a5, .inl (cA, 1024, .inl (fun _ => 0))), (a6, .inr (0, [.ref a7, .int 0])), (a7, .inl (cA, 1024, .inl (fun _ => 0))), (a8, .inr (0, [.ref a9, .int 0])), (a9, .inl (cA, 1024, .inl (fun _ => 0)))] := hD
  refine lv_astore_n (lv' := [(1, .ref qx), (0, .ref b)]) hx hb d_L_law_7 rfl hl (by decide) rfl (fun ls hl => ?_)
  refine va_new (ci := 2) (fs := [.null, .int 0, .null, .int 0, .null, .int 0, .null, .int 0, .null, .int 0]) (C := R_M) (T := F_M) (N := 10) hx hb hG i_M t_M t_M_ok hown (hG _ k_L_10) (hG _ w_M_inst) (hG _ w_M_init) hK hP hD hS hA rfl (fun j hj => by rcases (show j = 0 ∨ j = 1 ∨ j = 2 ∨ j = 3 ∨ j = 4 ∨ j = 5 ∨ j = 6 ∨ j = 7 ∨ j = 8 ∨ j = 9 by omega) with rfl | rfl | rfl | rfl | rfl | rfl | rfl | rfl | rfl | rfl <;> rfl) (Nat.le_of_ble_eq_true rfl) (Nat.le_of_ble_eq_true rfl) d_L_law_8 (fun qm H hP hD hS => ?_)
  have hP : va_P D classes [(qx, .inr (1, [.ref a0, .ref a2, .ref a4, .ref a6, .ref a8, .int 0])), (a0, .inr (0, [.ref a1, .int 0])), (a1, .inl (cA, 1024, .inl (fun _ => 0))), (a2, .inr (0, [.ref a3, .int 0])), (a3, .inl (cA, 1024, .inl (fun _ => 0))), (a4, .inr (0, [.ref a5, .int 0])), (a5, .inl (cA, 1024, .inl (fun _ => 0))), (a6, .inr (0, [.ref a7, .int 0])), (a7, .inl (cA, 1024, .inl (fun _ => 0))), (a8, .inr (0, [.ref a9, .int 0])), (a9, .inl (cA, 1024, .inl (fun _ => 0))), (qm, .inr (2, [.null, .int 0, .null, .int 0, .null, .int 0, .null, .int 0, .null, .int 0]))] H := hP
  have hD : va_D (fun q : Nat => s.heap.size ≤ q) [(qx, .inr (1, [.ref a0, .ref a2, .ref a4, .ref a6, .ref a8, .int 0])), (a0, .inr (0, [.ref a1, .int 0])), (a1, .inl (cA, 1024, .inl (fun _ => 0))), (a2, .inr (0, [.ref a3, .int 0])), (a3, .inl (cA, 1024, .inl (fun _ => 0))), (a4, .inr (0, [.ref a5, .int 0])), (a5, .inl (cA, 1024, .inl (fun _ => 0))), (a6, .inr (0, [.ref a7, .int 0])), (a7, .inl (cA, 1024, .inl (fun _ => 0))), (a8, .inr (0, [.ref a9, .int 0])), (a9, .inl (cA, 1024, .inl (fun _ => 0))), (qm, .inr (2, [.null, .int 0, .null, .int 0, .null, .int 0, .null, .int 0, .null, .int 0]))] := hD
  refine lv_dup hx hb d_L_law_11 rfl ?_
  refine call_iv (wr := [(qx, .inr (1, [.ref a0, .ref a2, .ref a4, .ref a6, .ref a8, .int 0])), (a0, .inr (0, [.ref a1, .int 0])), (a1, .inl (cA, 1024, .inl (fun _ => 0))), (a2, .inr (0, [.ref a3, .int 0])), (a3, .inl (cA, 1024, .inl (fun _ => 0))), (a4, .inr (0, [.ref a5, .int 0])), (a5, .inl (cA, 1024, .inl (fun _ => 0))), (a6, .inr (0, [.ref a7, .int 0])), (a7, .inl (cA, 1024, .inl (fun _ => 0))), (a8, .inr (0, [.ref a9, .int 0])), (a9, .inl (cA, 1024, .inl (fun _ => 0)))]) (rest := [.ref qm]) C0 hK hP hD hS hA hZ (c_M_init l D cA zz qm) [11] [0, 1, 2, 3, 4, 5, 6, 7, 8, 9, 10] rfl rfl rfl rfl (by decide) m_L_12 ⟨Nat.le_of_ble_eq_true rfl, Nat.le_of_ble_eq_true rfl⟩ ⟨rfl, rfl⟩ rfl hl.1 rfl (Nat.le_of_ble_eq_true rfl) ⟨Nat.le_of_ble_eq_true rfl, Nat.le_of_ble_eq_true rfl⟩ d_L_law_12 (fun u H locs hP hD hS => ?_)
  obtain ⟨c0, c1, c2, c3, c4⟩ := u
  have hP : va_P D classes [(qx, .inr (1, [.ref a0, .ref a2, .ref a4, .ref a6, .ref a8, .int 0])), (a0, .inr (0, [.ref a1, .int 0])), (a1, .inl (cA, 1024, .inl (fun _ => 0))), (a2, .inr (0, [.ref a3, .int 0])), (a3, .inl (cA, 1024, .inl (fun _ => 0))), (a4, .inr (0, [.ref a5, .int 0])), (a5, .inl (cA, 1024, .inl (fun _ => 0))), (a6, .inr (0, [.ref a7, .int 0])), (a7, .inl (cA, 1024, .inl (fun _ => 0))), (a8, .inr (0, [.ref a9, .int 0])), (a9, .inl (cA, 1024, .inl (fun _ => 0))), (qm, .inr (2, [.ref c0, .int 0, .ref c1, .int 0, .ref c2, .int 0, .ref c3, .int 0, .ref c4, .int 0])), (c0, .inl (cA, 1024, .inl (fun _ => 0))), (c1, .inl (cA, 1024, .inl (fun _ => 0))), (c2, .inl (cA, 1024, .inl (fun _ => 0))), (c3, .inl (cA, 1024, .inl (fun _ => 0))), (c4, .inl (cA, 4200, .inl (fun _ => 0)))] H := hP
  have hD : va_D (fun q : Nat => s.heap.size ≤ q) [(qx, .inr (1, [.ref a0, .ref a2, .ref a4, .ref a6, .ref a8, .int 0])), (a0, .inr (0, [.ref a1, .int 0])), (a1, .inl (cA, 1024, .inl (fun _ => 0))), (a2, .inr (0, [.ref a3, .int 0])), (a3, .inl (cA, 1024, .inl (fun _ => 0))), (a4, .inr (0, [.ref a5, .int 0])), (a5, .inl (cA, 1024, .inl (fun _ => 0))), (a6, .inr (0, [.ref a7, .int 0])), (a7, .inl (cA, 1024, .inl (fun _ => 0))), (a8, .inr (0, [.ref a9, .int 0])), (a9, .inl (cA, 1024, .inl (fun _ => 0))), (qm, .inr (2, [.ref c0, .int 0, .ref c1, .int 0, .ref c2, .int 0, .ref c3, .int 0, .ref c4, .int 0])), (c0, .inl (cA, 1024, .inl (fun _ => 0))), (c1, .inl (cA, 1024, .inl (fun _ => 0))), (c2, .inl (cA, 1024, .inl (fun _ => 0))), (c3, .inl (cA, 1024, .inl (fun _ => 0))), (c4, .inl (cA, 4200, .inl (fun _ => 0)))] := hD
  refine lv_astore_n (lv' := [(2, .ref qm), (1, .ref qx), (0, .ref b)]) hx hb d_L_law_15 rfl hl (by decide) rfl (fun ls hl => ?_)
  refine lv_iconst (v := 0) hx hb d_L_law_16 (by decide) ?_
  refine lv_istore_n (lv' := [(3, .int 0), (2, .ref qm), (1, .ref qx), (0, .ref b)]) hx hb d_L_law_17 rfl hl (by decide) rfl (fun ls hl => ?_)
  refine W.widen (k := 17) (n := 13442) (by omega) (by omega) ?_
  exact law_loop C1 hK hZ fuN qx a0 a1 a2 a3 a4 a5 a6 a7 a8 a9 qm c0 c1 c2 c3 c4 fuN 0 0 (fun _ => 0) 0 (fun _ => 0) 0 (fun _ => 0) 0 (fun _ => 0) 0 (fun _ => 0) 0 0 0 0 0 (fun _ => 0) (fun _ => 0) (fun _ => 0) (fun _ => 0) (fun _ => 0) 0 (hpure L xs hL) H locs hP hD hS ls (lv_sub hl [3, 2, 1, 0] rfl)
