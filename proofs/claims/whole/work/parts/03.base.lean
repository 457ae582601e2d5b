abbrev nJS : Nat := 2
def lenJS : List Nat := [7, 8]
def bytJS : List (List Int32) := [[97, 98, 116, 110, 118, 102, 114], [34, 36, 59, 91, 92, 93, 123, 125]]
abbrev own0JS : String := "ListWords"
abbrev ix0JS : Nat := 94
abbrev tx0JS : String := "abtnvfr"
abbrev own1JS : String := "ListWords"
abbrev ix1JS : Nat := 137
abbrev tx1JS : String := "\"$;[\\]{}"
/-! ZS: the String constants of the class (their objects, their bytes), and String.COMPACT_STRINGS: what nobody writes -/
abbrev zT : Type := (Nat → Nat) × (Nat → Nat) × Value
def ZS (zz : zT) (A : Nat → Prop) (U : State) (H : Heap) : Prop :=
  vk_S nJS lenJS bytJS zz.1 zz.2.1 A U H ∧ (vk_R own0JS ix0JS tx0JS (zz.1 0) U ∧ vk_R own1JS ix1JS tx1JS (zz.1 1) U) ∧ va_Z "java/lang/String" "COMPACT_STRINGS" "Z" (.int 1) A U H ∧ va_Z "jdk/internal/util/Preconditions" "SIOOBE_FORMATTER" "Ljava/util/function/BiFunction;" zz.2.2 A U H ∧ (zz.2.2 = .null ∨ ∃ t, zz.2.2 = .ref t)
theorem ZS_same {zz : zT} {A : Nat → Prop} {u U : State} {H : Heap} (hv : U.vm = u.vm) (h : ZS zz A u H) : ZS zz A U H :=
  ⟨vk_S.moved (by rw [hv]; exact Vm.Alike.refl _) h.1, ⟨vk_R.same hv h.2.1.1, vk_R.same hv h.2.1.2⟩, va_Z.moved (by rw [hv]; exact Vm.Alike.refl _) h.2.2.1, va_Z.moved (by rw [hv]; exact Vm.Alike.refl _) h.2.2.2.1, h.2.2.2.2⟩
theorem ZS_warm {zz : zT} {A : Nat → Prop} {s U : State} {H : Heap} (hW : s.WarmedH U.vm) (h : ZS zz A s H) : ZS zz A U H :=
  ⟨vk_S.moved hW.alike h.1, ⟨vk_R.warm hW h.2.1.1, vk_R.warm hW h.2.1.2⟩, va_Z.moved hW.alike h.2.2.1, va_Z.moved hW.alike h.2.2.2.1, h.2.2.2.2⟩
theorem ZS_kept {zz : zT} {A : Nat → Prop} {U : State} {H H1 : Heap} (h : ZS zz A U H) (hq : ∀ a : Nat, a < H.size → ¬ A a → H1[a]? = H[a]?) : ZS zz A U H1 :=
  ⟨h.1.kept hq, h.2.1, h.2.2.1.kept hq, h.2.2.2.1.kept hq, h.2.2.2.2⟩
theorem ZS_narrow {zz : zT} {A B : Nat → Prop} {U : State} {H : Heap} (h : ZS zz A U H) (hAB : ∀ q, B q → A q) : ZS zz B U H :=
  ⟨h.1.narrow hAB, h.2.1, h.2.2.1.narrow hAB, h.2.2.2.1.narrow hAB, h.2.2.2.2⟩
theorem ZS_ldc0 {zz : zT} {A : Nat → Prop} {U : State} {H : Heap} (h : ZS zz A U H) : vk_R own0JS ix0JS tx0JS (zz.1 0) U := h.2.1.1
theorem ZS_ldc1 {zz : zT} {A : Nat → Prop} {U : State} {H : Heap} (h : ZS zz A U H) : vk_R own1JS ix1JS tx1JS (zz.1 1) U := h.2.1.2
theorem ZS_compact {zz : zT} {A : Nat → Prop} {U : State} {H : Heap} (h : ZS zz A U H) : va_Z "java/lang/String" "COMPACT_STRINGS" "Z" (.int 1) A U H := h.2.2.1
theorem ZS_form {zz : zT} {A : Nat → Prop} {U : State} {H : Heap} (h : ZS zz A U H) : va_Z "jdk/internal/util/Preconditions" "SIOOBE_FORMATTER" "Ljava/util/function/BiFunction;" zz.2.2 A U H := h.2.2.2.1
theorem ZS_fm {zz : zT} {A : Nat → Prop} {U : State} {H : Heap} (h : ZS zz A U H) : zz.2.2 = .null ∨ ∃ t, zz.2.2 = .ref t := h.2.2.2.2
theorem ZS_value {zz : zT} {A : Nat → Prop} {U : State} {H : Heap} (h : ZS zz A U H) {k : Nat} (hk : k < nJS) : va_OF "java/lang/String" "value" "[B" (.ref (zz.2.1 k)) (zz.1 k) A U H := (h.1.1 k hk).2.2.1
theorem ZS_coder {zz : zT} {A : Nat → Prop} {U : State} {H : Heap} (h : ZS zz A U H) {k : Nat} (hk : k < nJS) : va_OF "java/lang/String" "coder" "B" (.int 0) (zz.1 k) A U H := (h.1.1 k hk).2.1
theorem ZS_bytes {zz : zT} {A : Nat → Prop} {U : State} {H : Heap} (h : ZS zz A U H) {k : Nat} (hk : k < nJS) : va_T .byte (zz.2.1 k) (lenJS.getD k 0) (fun j => .int ((bytJS.getD k []).getD j 0)) A U H := (h.1.1 k hk).2.2.2
theorem ZS_recv {zz : zT} {A : Nat → Prop} {s : State} {H : Heap} {locs : List Loc} (h : ZS zz A s s.heap) {k : Nat} (hk : k < nJS) (hS : va_S A s.heap H locs) : ∃ cell : Cell, H[zz.1 k]? = some cell ∧ cell.vm.isStatics = false ∧ s.vm.findClass "java/lang/String" = some cell.cls := vk_recv h.1 hk hS

/-! BASE: the pure side's small rows, contracts in one form, calls in one row. Needs: lw_tbl (PART A), classes, ZS (strings and statics that nobody writes). -/
theorem iteP {c : Prop} {i : Decidable c} {α : Type} {a b : Option α} {r : α} (hc : c) (h : @ite _ c i a b = some r) : a = some r := by
  rw [if_pos hc] at h
  exact h
theorem iteN {c : Prop} {i : Decidable c} {α : Type} {a b : Option α} {r : α} (hc : ¬ c) (h : @ite _ c i a b = some r) : b = some r := by
  rw [if_neg hc] at h
  exact h
theorem guardN {c : Prop} {i : Decidable c} {α : Type} {a : Option α} {r : α} (h : @ite _ c i none a = some r) : ¬ c ∧ a = some r := by
  by_cases hc : c
  · rw [if_pos hc] at h
    cases h
  · rw [if_neg hc] at h
    exact ⟨hc, h⟩
theorem guard5 {a b c : Prop} {n0 n1 x y : Nat} (h : ¬ (a ∨ b ∨ c ∨ n0 < x ∨ n1 < y)) : ¬ a ∧ ¬ b ∧ ¬ c ∧ x ≤ n0 ∧ y ≤ n1 :=
  ⟨fun q => h (Or.inl q), fun q => h (Or.inr (Or.inl q)), fun q => h (Or.inr (Or.inr (Or.inl q))), Nat.not_lt.mp fun q => h (Or.inr (Or.inr (Or.inr (Or.inl q)))), Nat.not_lt.mp fun q => h (Or.inr (Or.inr (Or.inr (Or.inr q))))⟩
theorem bindS {α β : Type} {x : Option α} {f : α → Option β} {b : β} (h : x.bind f = some b) : ∃ a, x = some a ∧ f a = some b := by
  cases x with
  | none => cases h
  | some a => exact ⟨a, rfl, h⟩
theorem noneS {α : Type} {r : α} {P : Prop} (h : (none : Option α) = some r) : P := by cases h
theorem nb01 {v : Int32} (h : ¬ ¬ (v = 0 ∨ v = 1)) : narrow .boolean (.int v) = .int v := by
  rcases Classical.not_not.mp h with rfl | rfl <;> rfl
theorem sw_def {x : Int32} {lo : Int} {n : Nat} {offs : Array Int} {d : Int} (sp : List Nat) (hd : ∀ j, j < n → offs[j]? = some d ∨ j ∈ sp) (hx : ∀ j ∈ sp, ¬ x.toInt = lo + (j : Int)) (h1 : ¬ x.toInt < lo) (h2 : x.toInt < lo + n) : offs[(x.toInt - lo).toNat]? = some d := by
  have hj : (x.toInt - lo).toNat < n := by omega
  rcases hd _ hj with h | h
  · exact h
  · exact absurd (by omega) (hx _ h)
/-- what a walk knows of the machine and of the method that runs -/
def Cx (p : Program) (s : State) (m : MethodId) (args : Array Value) (meth : Method) (c : Code) (cc : ByteArray) (own : String) (nL : Nat) (rt : Option FieldType) : Prop :=
  p.tables.exec = Jvm.exec ∧ c.code = cc ∧ meth.sig.returnType = rt ∧ c.maxLocals = nL ∧ s.vm.findClass own = some m.cls ∧ (∀ w ∈ wG, w.before args s = true) ∧ meth.locks = false
/-- a contract's start: its cells, the classes, what nobody writes -/
def pW (D : va_G) (cA : ClassId) (zz : zT) (sz : Nat) (wc : va_W) : State → Prop := fun U => U.heap.size = sz ∧ va_P D classes wc U.heap ∧ va_K D classes [(cA, .int)] U ∧ va_D (fun _ => True) wc ∧ ZS zz (va_A wc sz) U U.heap
/-- and its end -/
def qB (D : va_G) (cA : ClassId) (A : Nat → Prop) (wN : va_W) : Unit → State → Prop := fun _ t => va_P D classes wN t.heap ∧ va_K D classes [(cA, .int)] t ∧ va_D A wN
abbrev qI (ty : FieldType) (D : va_G) (cA : ClassId) (A : Nat → Prop) (r : Int32) (wN : va_W) : Array Value → State → Outcome → State → Prop := va_Qi (fun r' (_ : Unit) => r' = r ∧ narrow ty (.int r') = .int r') (qB D cA A wN) A
abbrev qV (D : va_G) (cA : ClassId) (A : Nat → Prop) (wN : va_W) : Array Value → State → Outcome → State → Prop := va_Qv (fun (_ : Unit) => True) (qB D cA A wN) A
abbrev QI (ty : FieldType) (below : List Frame) (args : Array Value) (s : State) (D : va_G) (cA : ClassId) (A : Nat → Prop) (r : Int32) (wN : va_W) : State → Prop := MQ below (qI ty D cA A r wN) args s 0 0 A
abbrev QV (below : List Frame) (args : Array Value) (s : State) (D : va_G) (cA : ClassId) (A : Nat → Prop) (wN : va_W) : State → Prop := MQ below (qV D cA A wN) args s 0 0 A
/-- a contract without new cells: int-like answer; void -/
def MI (l : Launch) (D : va_G) (cA : ClassId) (zz : zT) (y : MethodName) (cc : ByteArray) (mx : Nat) (ty : FieldType) (rm : Room) (av : List Value) (wc : va_W) (r : Int32) (wN : va_W) : Prop :=
  ∀ sz : Nat, Met l y (Cond.code y cc mx (some ty) :: wG) rm (va_Pc av (pW D cA zz sz wc)) (qI ty D cA (va_A wc sz) r wN) 0 0 (va_A wc sz)
def MV (l : Launch) (D : va_G) (cA : ClassId) (zz : zT) (y : MethodName) (cc : ByteArray) (mx : Nat) (rm : Room) (av : List Value) (wc wN : va_W) : Prop :=
  ∀ sz : Nat, Met l y (Cond.code y cc mx none :: wG) rm (va_Pc av (pW D cA zz sz wc)) (qV D cA (va_A wc sz) wN) 0 0 (va_A wc sz)
section RET
variable {p : Program} {l : Launch} {e : Env} {R : Room} {s : State} {m : MethodId} {args : Array Value} {below : List Frame} {meth : Method} {c : Code} {H : Heap} {locs : List Loc} {cc : ByteArray} {pc : Nat} {ls : Array Slot} {D : va_G} {cA : ClassId} {A : Nat → Prop} {own : String} {nL : Nat}
theorem rI {ty : FieldType} {v : Int32} {wN : va_W} (C0 : Cx p s m args meth c cc own nL (some ty)) (hn : narrow ty (.int v) = .int v) (hK : va_K D classes [(cA, .int)] s) (hP : va_P D classes wN H) (hD : va_D A wN) (hS : va_S A s.heap H locs) (hdg : decode cc pc = .ok (.ireturn, 1)) :
    W p l e R s m args below meth c H locs 0 0 (QI ty below args s D cA A v wN) (F0 m pc ls [.int v]) := by
  obtain ⟨hx, hb, hr, hml, hown, hG, hlk⟩ := C0
  exact W.zret (v := v) hx hb hr hn (fun t ht hW => ⟨⟨v, (), rfl, ⟨rfl, hn⟩, by rw [ht]; exact hP, va_K.moved hW.alike hK, hD⟩, hS.F ht⟩) hS.2.2 hdg
theorem rV {wN : va_W} (C0 : Cx p s m args meth c cc own nL none) (hK : va_K D classes [(cA, .int)] s) (hP : va_P D classes wN H) (hD : va_D A wN) (hS : va_S A s.heap H locs) (hdg : decode cc pc = .ok (.return_, 1)) :
    W p l e R s m args below meth c H locs 0 0 (QV below args s D cA A wN) (F0 m pc ls []) := by
  obtain ⟨hx, hb, hr, hml, hown, hG, hlk⟩ := C0
  exact W.vret hx hb hr (fun t ht hW => ⟨⟨(), rfl, trivial, by rw [ht]; exact hP, va_K.moved hW.alike hK, hD⟩, hS.F ht⟩) hS.2.2 hdg
end RET
theorem MI_enter {l : Launch} {D : va_G} {cA : ClassId} {zz : zT} {y : MethodName} {cc : ByteArray} {mx : Nat} {ty : FieldType} {rm : Room} {av : List Value} {wc wN : va_W} {r0 : Int32} (hy : plainName y.cls = true) (hav : (lg_sl av).length ≤ mx)
    (body : ∀ (p : Program) (e : Env) (s : State) (m : MethodId) (below : List Frame) (meth : Method) (c : Code) (A : Nat → Prop) (ls : Array Slot), Cx p s m av.toArray meth c cc y.cls mx (some ty) → va_K D classes [(cA, .int)] s → (∀ q : Nat, s.heap.size ≤ q → A q) → ZS zz A s s.heap → va_P D classes wc s.heap → va_D A wc → lv_has ls mx (lv_args 0 av) →
      W p l e rm s m av.toArray below meth c s.heap [] 0 0 (QI ty below av.toArray s D cA A r0 wN) (F0 m 0 ls [])) : MI l D cA zz y cc mx ty rm av wc r0 wN := by
  intro sz
  refine Met.ofW (cc := cc) (maxL := mx) (ret := some ty) hy rfl ?_
  intro p e s m args below meth c s₁ B hml hv
  obtain ⟨rfl, hsz, hP, hK, hD0, hZ⟩ := hv
  subst hsz
  have hts := atoms_spec (ws := Cond.code y cc mx (some ty) :: wG) B.pre
  rw [lg_entry_eq]
  exact body p e s m below meth c (va_A wc s.heap.size) _ ⟨B.exec, B.bytes, B.returns, hml, findClass_of_methodNamed B.named, fun w h => hts w (List.mem_cons_of_mem _ h), B.notSynchronized⟩ hK (fun q h => Or.inr h) hZ hP hD0.self (lv_entry av hav)
theorem MV_enter {l : Launch} {D : va_G} {cA : ClassId} {zz : zT} {y : MethodName} {cc : ByteArray} {mx : Nat} {rm : Room} {av : List Value} {wc wN : va_W} (hy : plainName y.cls = true) (hav : (lg_sl av).length ≤ mx)
    (body : ∀ (p : Program) (e : Env) (s : State) (m : MethodId) (below : List Frame) (meth : Method) (c : Code) (A : Nat → Prop) (ls : Array Slot), Cx p s m av.toArray meth c cc y.cls mx none → va_K D classes [(cA, .int)] s → (∀ q : Nat, s.heap.size ≤ q → A q) → ZS zz A s s.heap → va_P D classes wc s.heap → va_D A wc → lv_has ls mx (lv_args 0 av) →
      W p l e rm s m av.toArray below meth c s.heap [] 0 0 (QV below av.toArray s D cA A wN) (F0 m 0 ls [])) : MV l D cA zz y cc mx rm av wc wN := by
  intro sz
  refine Met.ofW (cc := cc) (maxL := mx) (ret := none) hy rfl ?_
  intro p e s m args below meth c s₁ B hml hv
  obtain ⟨rfl, hsz, hP, hK, hD0, hZ⟩ := hv
  subst hsz
  have hts := atoms_spec (ws := Cond.code y cc mx none :: wG) B.pre
  rw [lg_entry_eq]
  exact body p e s m below meth c (va_A wc s.heap.size) _ ⟨B.exec, B.bytes, B.returns, hml, findClass_of_methodNamed B.named, fun w h => hts w (List.mem_cons_of_mem _ h), B.notSynchronized⟩ hK (fun q h => Or.inr h) hZ hP hD0.self (lv_entry av hav)
/-- what the tables say of a call: of an instance method, of a static one -/
def LkV (own : String) (idx : Nat) (y : MethodName) (cc : ByteArray) (mx : Nat) (rt : Option FieldType) (n : Nat) : Prop :=
  Cond.methodLink own idx y ∈ wG ∧ Cond.instanceMethod y ∈ wG ∧ Cond.selects y.cls y y ∈ wG ∧ Cond.initialized y.cls ∈ wG ∧ Cond.code y cc mx rt ∈ wG ∧ (y.cls ≠ "java/lang/invoke/MethodHandle" ∧ y.cls ≠ "java/lang/invoke/VarHandle" ∧ (parseMethodDescriptor y.desc).map (fun d => d.parameters.length) = some n)
def LkS (own : String) (idx : Nat) (y : MethodName) (cc : ByteArray) (mx : Nat) (rt : Option FieldType) (n : Nat) : Prop :=
  Cond.methodLink own idx y ∈ wG ∧ Cond.static y ∈ wG ∧ Cond.initialized y.cls ∈ wG ∧ Cond.code y cc mx rt ∈ wG ∧ (y.cls ≠ "java/lang/invoke/MethodHandle" ∧ y.cls ≠ "java/lang/invoke/VarHandle" ∧ (parseMethodDescriptor y.desc).map (fun d => d.parameters.length) = some n)
theorem gG {y : MethodName} {cc : ByteArray} {mx : Nat} {rt : Option FieldType} (h : Cond.code y cc mx rt ∈ wG) : GoodIn wG (Cond.code y cc mx rt :: wG) := by
  intro w hw
  rcases List.mem_cons.mp hw with rfl | hw
  · exact ⟨h, Or.inl rfl⟩
  · exact ⟨hw, wG_good w hw⟩
theorem pW_blind {av : List Value} {D : va_G} {cA : ClassId} {zz : zT} {sz : Nat} {wc : va_W} : FrameBlind (va_Pc av (pW D cA zz sz wc)) := by
  intro a U g mk q
  obtain ⟨q0, q1, qP, qK, qD, qZ⟩ := q
  exact ⟨q0, q1, qP, va_K.moved (u := U) (U := U.calling g mk a) (Vm.Alike.refl U.vm) qK, qD, ZS_same (u := U) (U := U.calling g mk a) rfl qZ⟩
section CALL
variable {p : Program} {l : Launch} {e : Env} {R : Room} {s : State} {m : MethodId} {args : Array Value} {below : List Frame} {meth : Method} {c : Code} {H : Heap} {locs : List Loc} {cells slots : Nat} {Q : State → Prop}
variable {cc : ByteArray} {pc nL : Nat} {ls : Array Slot} {rest As : List Value} {D : va_G} {cA : ClassId} {zz : zT} {A : Nat → Prop} {own : String} {rt : Option FieldType} {ws wc wr w1 wN : va_W}
variable {y : MethodName} {ci : ByteArray} {mx idx n b : Nat} {ty : FieldType} {rm : Room} {r : Int32} {st0 : List Value}
theorem pre_at (hK : va_K D classes [(cA, .int)] s) (hP : va_P D classes ws H) (hD : va_D A ws) (hS : va_S A s.heap H locs) (hA : ∀ q : Nat, s.heap.size ≤ q → A q) (hZ : ZS zz A s s.heap) (isC : List Nat) (hC : isC.map (fun i => ws[i]?) = wc.map some) (hCn : va_nd isC = true) {av : List Value} : ∀ U : State, U.heap = H → s.WarmedH U.vm → va_Pc av (pW D cA zz H.size wc) av.toArray U := by
  intro U hU hW
  have hPc : va_P D classes wc H := by
    intro k q hq
    have h1 : (isC.map (fun i => ws[i]?))[k]? = some (some q) := by rw [hC, List.getElem?_map, hq]; rfl
    rw [List.getElem?_map] at h1
    cases hi : isC[k]? with
    | none => rw [hi] at h1; cases h1
    | some i => rw [hi] at h1; exact hP i q (Option.some.inj h1)
  have hFc := va_free (wc := wc) hD hS hA isC hC
  refine ⟨rfl, by rw [hU], by rw [hU]; exact hPc, va_K.moved hW.alike hK, (hD.sub isC hCn hC).weaken (fun _ _ _ _ => trivial), ?_⟩
  rw [hU]
  exact ZS_warm hW (ZS_narrow (ZS_kept hZ (fun a h1 h2 => hS.2.1 a h1 h2)) hFc)
theorem call_ki (C0 : Cx p s m args meth c cc own nL rt) (hK : va_K D classes [(cA, .int)] s) (hP : va_P D classes ws H) (hD : va_D A ws) (hS : va_S A s.heap H locs) (hA : ∀ q : Nat, s.heap.size ≤ q → A q) (hZ : ZS zz A s s.heap) (hM : MI l D cA zz y ci mx ty rm (.ref b :: As) wc r w1)
    (isC isR isN : List Nat) (hC : isC.map (fun i => ws[i]?) = wc.map some) (hCn : va_nd isC = true) (hR : isR.map (fun i => ws[i]?) = wr.map some) (hRn : va_nd isR = true) (hdis : ∀ i ∈ isR, i ∉ isC) (hN : isN.map (fun i => (wr ++ w1)[i]?) = wN.map some) (hNn : va_nd isN = true)
    (hrecv : ∃ cell : Cell, H[b]? = some cell ∧ cell.vm.isStatics = false ∧ s.vm.findClass y.cls = some cell.cls) (lk : LkV own idx y ci mx (some ty) n) (hroom : rm.frames + 1 ≤ R.frames ∧ 8 + (mx + 11) + rm.locals ≤ R.locals) (hcs : rm.cells = 0 ∧ rm.slots = 0) (hn : As.length = n) (hsz : ls.size = nL) (hst : st0 = As.reverse ++ .ref b :: rest) (hrest : (rest.map fun v => v.category).sum ≤ 8) (hcl : cells ≤ R.cells ∧ slots ≤ R.slots)
    (hdg : decode cc pc = .ok (.invokevirtual idx, 3))
    (kk : narrow ty (.int r) = .int r → ∀ (H1 : Heap) (locs1 : List Loc), va_P D classes wN H1 → va_D A wN → va_S A s.heap H1 locs1 → W p l e R s m args below meth c H1 locs1 cells slots Q (F0 m (pc + 3) ls (.int r :: rest))) : W p l e R s m args below meth c H locs cells slots Q (F0 m pc ls st0) := by
  obtain ⟨hx, hb, hr, hml, hown, hG, hlk⟩ := C0
  obtain ⟨k1, k2, k3, k4, k5, k6⟩ := lk
  have hFc := va_free (wc := wc) hD hS hA isC hC
  have pre := pre_at (av := .ref b :: As) hK hP hD hS hA hZ isC hC hCn
  refine va_calli (va_runV (As := As) (rest := rest) ⟨hx, hb, hml, hown, hG⟩ (hM H.size) ⟨callB_of n hG (gG k5) rfl hcs.1 hcs.2 (hG _ k4) (hG _ k1) k6 hroom, hG _ k2, hG _ k3⟩ ⟨pW_blind, hrecv, pre⟩ rfl hn hsz hst (lv_room hrest) hdg hcl) hS (fun q _ h => hFc q h) hFc (fun r' u t H1 locs1 ht hvm hw hB hz1 hk1 hS1 => ?_)
  obtain ⟨rfl, hw2⟩ := hw
  obtain ⟨hP1, hK1, hD1⟩ := hB
  rw [ht] at hP1
  obtain ⟨hPj, hDj⟩ := va_join (wr := wr) (w1 := w1) hP hD isC isR hC hR hRn hdis hk1 hFc hP1 hD1
  refine kk hw2 H1 locs1 ?_ (hDj.sub isN hNn hN) hS1
  intro k q hq
  have h1 : (isN.map (fun i => (wr ++ w1)[i]?))[k]? = some (some q) := by rw [hN, List.getElem?_map, hq]; rfl
  rw [List.getElem?_map] at h1
  cases hi : isN[k]? with
  | none => rw [hi] at h1; cases h1
  | some i => rw [hi] at h1; exact hPj i q (Option.some.inj h1)
theorem call_vi (C0 : Cx p s m args meth c cc own nL rt) (hK : va_K D classes [(cA, .int)] s) (hP : va_P D classes ws H) (hD : va_D A ws) (hS : va_S A s.heap H locs) (hA : ∀ q : Nat, s.heap.size ≤ q → A q) (hZ : ZS zz A s s.heap) (hM : MI l D cA zz y ci mx ty rm (.ref b :: As) wc r w1)
    (isC isR isN : List Nat) (hC : isC.map (fun i => ws[i]?) = wc.map some) (hCn : va_nd isC = true) (hR : isR.map (fun i => ws[i]?) = wr.map some) (hRn : va_nd isR = true) (hdis : ∀ i ∈ isR, i ∉ isC) (hN : isN.map (fun i => (wr ++ w1)[i]?) = wN.map some) (hNn : va_nd isN = true)
    (q0 cj : Nat) {fs : List Value} {T : u_T} {NN : Nat} (he : wc[q0]? = some (b, .inr (cj, fs))) (hcj : classes[cj]? = some (y.cls, T, NN)) (lk : LkV own idx y ci mx (some ty) n) (hroom : rm.frames + 1 ≤ R.frames ∧ 8 + (mx + 11) + rm.locals ≤ R.locals) (hcs : rm.cells = 0 ∧ rm.slots = 0) (hn : As.length = n) (hsz : ls.size = nL) (hst : st0 = As.reverse ++ .ref b :: rest) (hrest : (rest.map fun v => v.category).sum ≤ 8) (hcl : cells ≤ R.cells ∧ slots ≤ R.slots)
    (hdg : decode cc pc = .ok (.invokevirtual idx, 3))
    (kk : narrow ty (.int r) = .int r → ∀ (H1 : Heap) (locs1 : List Loc), va_P D classes wN H1 → va_D A wN → va_S A s.heap H1 locs1 → W p l e R s m args below meth c H1 locs1 cells slots Q (F0 m (pc + 3) ls (.int r :: rest))) : W p l e R s m args below meth c H locs cells slots Q (F0 m pc ls st0) := by
  obtain ⟨hx, hb, hr, hml, hown, hG, hlk⟩ := C0
  obtain ⟨k1, k2, k3, k4, k5, k6⟩ := lk
  have hFc := va_free (wc := wc) hD hS hA isC hC
  have pre := pre_at (av := .ref b :: As) hK hP hD hS hA hZ isC hC hCn
  have hPc : va_P D classes wc H := by
    intro k q hq
    have h1 : (isC.map (fun i => ws[i]?))[k]? = some (some q) := by rw [hC, List.getElem?_map, hq]; rfl
    rw [List.getElem?_map] at h1
    cases hi : isC[k]? with
    | none => rw [hi] at h1; cases h1
    | some i => rw [hi] at h1; exact hP i q (Option.some.inj h1)
  refine va_calli (va_runV (As := As) (rest := rest) ⟨hx, hb, hml, hown, hG⟩ (hM H.size) ⟨callB_of n hG (gG k5) rfl hcs.1 hcs.2 (hG _ k4) (hG _ k1) k6 hroom, hG _ k2, hG _ k3⟩ ⟨pW_blind, va_recv hK hPc (ci := cj) (q0 := q0) hcj he, pre⟩ rfl hn hsz hst (lv_room hrest) hdg hcl) hS (fun q _ h => hFc q h) hFc (fun r' u t H1 locs1 ht hvm hw hB hz1 hk1 hS1 => ?_)
  obtain ⟨rfl, hw2⟩ := hw
  obtain ⟨hP1, hK1, hD1⟩ := hB
  rw [ht] at hP1
  obtain ⟨hPj, hDj⟩ := va_join (wr := wr) (w1 := w1) hP hD isC isR hC hR hRn hdis hk1 hFc hP1 hD1
  refine kk hw2 H1 locs1 ?_ (hDj.sub isN hNn hN) hS1
  intro k q hq
  have h1 : (isN.map (fun i => (wr ++ w1)[i]?))[k]? = some (some q) := by rw [hN, List.getElem?_map, hq]; rfl
  rw [List.getElem?_map] at h1
  cases hi : isN[k]? with
  | none => rw [hi] at h1; cases h1
  | some i => rw [hi] at h1; exact hPj i q (Option.some.inj h1)
theorem call_vv (C0 : Cx p s m args meth c cc own nL rt) (hK : va_K D classes [(cA, .int)] s) (hP : va_P D classes ws H) (hD : va_D A ws) (hS : va_S A s.heap H locs) (hA : ∀ q : Nat, s.heap.size ≤ q → A q) (hZ : ZS zz A s s.heap) (hM : MV l D cA zz y ci mx rm (.ref b :: As) wc w1)
    (isC isR isN : List Nat) (hC : isC.map (fun i => ws[i]?) = wc.map some) (hCn : va_nd isC = true) (hR : isR.map (fun i => ws[i]?) = wr.map some) (hRn : va_nd isR = true) (hdis : ∀ i ∈ isR, i ∉ isC) (hN : isN.map (fun i => (wr ++ w1)[i]?) = wN.map some) (hNn : va_nd isN = true)
    (q0 cj : Nat) {fs : List Value} {T : u_T} {NN : Nat} (he : wc[q0]? = some (b, .inr (cj, fs))) (hcj : classes[cj]? = some (y.cls, T, NN)) (lk : LkV own idx y ci mx none n) (hroom : rm.frames + 1 ≤ R.frames ∧ 8 + (mx + 11) + rm.locals ≤ R.locals) (hcs : rm.cells = 0 ∧ rm.slots = 0) (hn : As.length = n) (hsz : ls.size = nL) (hst : st0 = As.reverse ++ .ref b :: rest) (hrest : (rest.map fun v => v.category).sum ≤ 8) (hcl : cells ≤ R.cells ∧ slots ≤ R.slots)
    (hdg : decode cc pc = .ok (.invokevirtual idx, 3))
    (kk : ∀ (H1 : Heap) (locs1 : List Loc), va_P D classes wN H1 → va_D A wN → va_S A s.heap H1 locs1 → W p l e R s m args below meth c H1 locs1 cells slots Q (F0 m (pc + 3) ls rest)) : W p l e R s m args below meth c H locs cells slots Q (F0 m pc ls st0) := by
  obtain ⟨hx, hb, hr, hml, hown, hG, hlk⟩ := C0
  obtain ⟨k1, k2, k3, k4, k5, k6⟩ := lk
  have hFc := va_free (wc := wc) hD hS hA isC hC
  have pre := pre_at (av := .ref b :: As) hK hP hD hS hA hZ isC hC hCn
  have hPc : va_P D classes wc H := by
    intro k q hq
    have h1 : (isC.map (fun i => ws[i]?))[k]? = some (some q) := by rw [hC, List.getElem?_map, hq]; rfl
    rw [List.getElem?_map] at h1
    cases hi : isC[k]? with
    | none => rw [hi] at h1; cases h1
    | some i => rw [hi] at h1; exact hP i q (Option.some.inj h1)
  refine va_callv (va_runV (As := As) (rest := rest) ⟨hx, hb, hml, hown, hG⟩ (hM H.size) ⟨callB_of n hG (gG k5) rfl hcs.1 hcs.2 (hG _ k4) (hG _ k1) k6 hroom, hG _ k2, hG _ k3⟩ ⟨pW_blind, va_recv hK hPc (ci := cj) (q0 := q0) hcj he, pre⟩ rfl hn hsz hst (lv_room hrest) hdg hcl) hS (fun q _ h => hFc q h) hFc (fun u t H1 locs1 ht hvm hw hB hz1 hk1 hS1 => ?_)
  obtain ⟨hP1, hK1, hD1⟩ := hB
  rw [ht] at hP1
  obtain ⟨hPj, hDj⟩ := va_join (wr := wr) (w1 := w1) hP hD isC isR hC hR hRn hdis hk1 hFc hP1 hD1
  refine kk H1 locs1 ?_ (hDj.sub isN hNn hN) hS1
  intro k q hq
  have h1 : (isN.map (fun i => (wr ++ w1)[i]?))[k]? = some (some q) := by rw [hN, List.getElem?_map, hq]; rfl
  rw [List.getElem?_map] at h1
  cases hi : isN[k]? with
  | none => rw [hi] at h1; cases h1
  | some i => rw [hi] at h1; exact hPj i q (Option.some.inj h1)
theorem call_si (C0 : Cx p s m args meth c cc own nL rt) (hK : va_K D classes [(cA, .int)] s) (hP : va_P D classes ws H) (hD : va_D A ws) (hS : va_S A s.heap H locs) (hA : ∀ q : Nat, s.heap.size ≤ q → A q) (hZ : ZS zz A s s.heap) (hM : MI l D cA zz y ci mx ty rm As wc r w1)
    (isC isR isN : List Nat) (hC : isC.map (fun i => ws[i]?) = wc.map some) (hCn : va_nd isC = true) (hR : isR.map (fun i => ws[i]?) = wr.map some) (hRn : va_nd isR = true) (hdis : ∀ i ∈ isR, i ∉ isC) (hN : isN.map (fun i => (wr ++ w1)[i]?) = wN.map some) (hNn : va_nd isN = true)
    (lk : LkS own idx y ci mx (some ty) n) (hroom : rm.frames + 1 ≤ R.frames ∧ 8 + (mx + 11) + rm.locals ≤ R.locals) (hcs : rm.cells = 0 ∧ rm.slots = 0) (hn : As.length = n) (hsz : ls.size = nL) (hst : st0 = As.reverse ++ rest) (hrest : (rest.map fun v => v.category).sum ≤ 8) (hcl : cells ≤ R.cells ∧ slots ≤ R.slots)
    (hdg : decode cc pc = .ok (.invokestatic idx, 3))
    (kk : narrow ty (.int r) = .int r → ∀ (H1 : Heap) (locs1 : List Loc), va_P D classes wN H1 → va_D A wN → va_S A s.heap H1 locs1 → W p l e R s m args below meth c H1 locs1 cells slots Q (F0 m (pc + 3) ls (.int r :: rest))) : W p l e R s m args below meth c H locs cells slots Q (F0 m pc ls st0) := by
  obtain ⟨hx, hb, hr, hml, hown, hG, hlk⟩ := C0
  obtain ⟨k1, k2, k4, k5, k6⟩ := lk
  have hFc := va_free (wc := wc) hD hS hA isC hC
  have pre := pre_at (av := As) hK hP hD hS hA hZ isC hC hCn
  refine va_calli (va_runS (As := As) (rest := rest) ⟨hx, hb, hml, hown, hG⟩ (hM H.size) ⟨callB_of n hG (gG k5) rfl hcs.1 hcs.2 (hG _ k4) (hG _ k1) k6 hroom, hG _ k2⟩ ⟨pW_blind, pre⟩ rfl hn hsz hst (lv_room hrest) hdg hcl) hS (fun q _ h => hFc q h) hFc (fun r' u t H1 locs1 ht hvm hw hB hz1 hk1 hS1 => ?_)
  obtain ⟨rfl, hw2⟩ := hw
  obtain ⟨hP1, hK1, hD1⟩ := hB
  rw [ht] at hP1
  obtain ⟨hPj, hDj⟩ := va_join (wr := wr) (w1 := w1) hP hD isC isR hC hR hRn hdis hk1 hFc hP1 hD1
  refine kk hw2 H1 locs1 ?_ (hDj.sub isN hNn hN) hS1
  intro k q hq
  have h1 : (isN.map (fun i => (wr ++ w1)[i]?))[k]? = some (some q) := by rw [hN, List.getElem?_map, hq]; rfl
  rw [List.getElem?_map] at h1
  cases hi : isN[k]? with
  | none => rw [hi] at h1; cases h1
  | some i => rw [hi] at h1; exact hPj i q (Option.some.inj h1)
theorem call_sv (C0 : Cx p s m args meth c cc own nL rt) (hK : va_K D classes [(cA, .int)] s) (hP : va_P D classes ws H) (hD : va_D A ws) (hS : va_S A s.heap H locs) (hA : ∀ q : Nat, s.heap.size ≤ q → A q) (hZ : ZS zz A s s.heap) (hM : MV l D cA zz y ci mx rm As wc w1)
    (isC isR isN : List Nat) (hC : isC.map (fun i => ws[i]?) = wc.map some) (hCn : va_nd isC = true) (hR : isR.map (fun i => ws[i]?) = wr.map some) (hRn : va_nd isR = true) (hdis : ∀ i ∈ isR, i ∉ isC) (hN : isN.map (fun i => (wr ++ w1)[i]?) = wN.map some) (hNn : va_nd isN = true)
    (lk : LkS own idx y ci mx none n) (hroom : rm.frames + 1 ≤ R.frames ∧ 8 + (mx + 11) + rm.locals ≤ R.locals) (hcs : rm.cells = 0 ∧ rm.slots = 0) (hn : As.length = n) (hsz : ls.size = nL) (hst : st0 = As.reverse ++ rest) (hrest : (rest.map fun v => v.category).sum ≤ 8) (hcl : cells ≤ R.cells ∧ slots ≤ R.slots)
    (hdg : decode cc pc = .ok (.invokestatic idx, 3))
    (kk : ∀ (H1 : Heap) (locs1 : List Loc), va_P D classes wN H1 → va_D A wN → va_S A s.heap H1 locs1 → W p l e R s m args below meth c H1 locs1 cells slots Q (F0 m (pc + 3) ls rest)) : W p l e R s m args below meth c H locs cells slots Q (F0 m pc ls st0) := by
  obtain ⟨hx, hb, hr, hml, hown, hG, hlk⟩ := C0
  obtain ⟨k1, k2, k4, k5, k6⟩ := lk
  have hFc := va_free (wc := wc) hD hS hA isC hC
  have pre := pre_at (av := As) hK hP hD hS hA hZ isC hC hCn
  refine va_callv (va_runS (As := As) (rest := rest) ⟨hx, hb, hml, hown, hG⟩ (hM H.size) ⟨callB_of n hG (gG k5) rfl hcs.1 hcs.2 (hG _ k4) (hG _ k1) k6 hroom, hG _ k2⟩ ⟨pW_blind, pre⟩ rfl hn hsz hst (lv_room hrest) hdg hcl) hS (fun q _ h => hFc q h) hFc (fun u t H1 locs1 ht hvm hw hB hz1 hk1 hS1 => ?_)
  obtain ⟨hP1, hK1, hD1⟩ := hB
  rw [ht] at hP1
  obtain ⟨hPj, hDj⟩ := va_join (wr := wr) (w1 := w1) hP hD isC isR hC hR hRn hdis hk1 hFc hP1 hD1
  refine kk H1 locs1 ?_ (hDj.sub isN hNn hN) hS1
  intro k q hq
  have h1 : (isN.map (fun i => (wr ++ w1)[i]?))[k]? = some (some q) := by rw [hN, List.getElem?_map, hq]; rfl
  rw [List.getElem?_map] at h1
  cases hi : isN[k]? with
  | none => rw [hi] at h1; cases h1
  | some i => rw [hi] at h1; exact hPj i q (Option.some.inj h1)
end CALL
/-- a constructor's contract: cells come, their addresses are u -/
def MA {S : Type} (l : Launch) (D : va_G) (cA : ClassId) (zz : zT) (y : MethodName) (cc : ByteArray) (mx : Nat) (rm : Room) (av : List Value) (wc : va_W) (wN : S → va_W) (mc ms : Nat) : Prop :=
  ∀ sz : Nat, Met l y (Cond.code y cc mx none :: wG) rm (va_Pc av (pW D cA zz sz wc)) (va_Qv (fun (_ : S) => True) (fun u t => va_P D classes (wN u) t.heap ∧ va_K D classes [(cA, .int)] t ∧ va_D (va_A wc sz) (wN u)) (va_A wc sz)) mc ms (va_A wc sz)
def LkI (own : String) (idx : Nat) (y : MethodName) (cc : ByteArray) (mx : Nat) (n : Nat) : Prop :=
  Cond.methodLink own idx y ∈ wG ∧ Cond.instanceMethod y ∈ wG ∧ y.name = "<init>" ∧ Cond.initialized y.cls ∈ wG ∧ Cond.code y cc mx none ∈ wG ∧ (y.cls ≠ "java/lang/invoke/MethodHandle" ∧ y.cls ≠ "java/lang/invoke/VarHandle" ∧ (parseMethodDescriptor y.desc).map (fun d => d.parameters.length) = some n)
section CALLI
variable {p : Program} {l : Launch} {e : Env} {R : Room} {s : State} {m : MethodId} {args : Array Value} {below : List Frame} {meth : Method} {c : Code} {H : Heap} {locs : List Loc} {cells slots : Nat} {Q : State → Prop}
variable {cc : ByteArray} {pc nL : Nat} {ls : Array Slot} {rest As : List Value} {D : va_G} {cA : ClassId} {zz : zT} {A : Nat → Prop} {own : String} {rt : Option FieldType} {ws wc wr : va_W}
variable {y : MethodName} {ci : ByteArray} {mx idx n b mc ms : Nat} {rm : Room} {st0 : List Value}
theorem call_iv {S : Type} {w1 : S → va_W} (C0 : Cx p s m args meth c cc own nL rt) (hK : va_K D classes [(cA, .int)] s) (hP : va_P D classes ws H) (hD : va_D A ws) (hS : va_S A s.heap H locs) (hA : ∀ q : Nat, s.heap.size ≤ q → A q) (hZ : ZS zz A s s.heap) (hM : MA l D cA zz y ci mx rm (.ref b :: As) wc w1 mc ms)
    (isC isR : List Nat) (hC : isC.map (fun i => ws[i]?) = wc.map some) (hCn : va_nd isC = true) (hR : isR.map (fun i => ws[i]?) = wr.map some) (hRn : va_nd isR = true) (hdis : ∀ i ∈ isR, i ∉ isC)
    (lk : LkI own idx y ci mx n) (hroom : rm.frames + 1 ≤ R.frames ∧ 8 + (mx + 11) + rm.locals ≤ R.locals) (hcs : rm.cells = mc ∧ rm.slots = ms) (hn : As.length = n) (hsz : ls.size = nL) (hst : st0 = As.reverse ++ .ref b :: rest) (hrest : (rest.map fun v => v.category).sum ≤ 8) (hcl : cells + mc ≤ R.cells ∧ slots + ms ≤ R.slots)
    (hdg : decode cc pc = .ok (.invokespecial idx, 3))
    (kk : ∀ (u : S) (H1 : Heap) (locs1 : List Loc), va_P D classes (wr ++ w1 u) H1 → va_D A (wr ++ w1 u) → va_S A s.heap H1 locs1 → W p l e R s m args below meth c H1 locs1 (cells + mc) (slots + ms) Q (F0 m (pc + 3) ls rest)) : W p l e R s m args below meth c H locs cells slots Q (F0 m pc ls st0) := by
  obtain ⟨hx, hb, hr, hml, hown, hG, hlk⟩ := C0
  obtain ⟨k1, k2, k3, k4, k5, k6⟩ := lk
  have hFc := va_free (wc := wc) hD hS hA isC hC
  have pre := pre_at (av := .ref b :: As) hK hP hD hS hA hZ isC hC hCn
  refine va_callv (va_runI (As := As) (rest := rest) ⟨hx, hb, hml, hown, hG⟩ (hM H.size) ⟨callB_of n hG (gG k5) rfl hcs.1 hcs.2 (hG _ k4) (hG _ k1) k6 hroom, k3, hG _ k2⟩ ⟨pW_blind, pre⟩ rfl hn hsz hst (lv_room hrest) hdg hcl) hS (fun q _ h => hFc q h) hFc (fun u t H1 locs1 ht hvm hw hB hz1 hk1 hS1 => ?_)
  obtain ⟨hP1, hK1, hD1⟩ := hB
  rw [ht] at hP1
  obtain ⟨hPj, hDj⟩ := va_join (wr := wr) (w1 := w1 u) hP hD isC isR hC hR hRn hdis hk1 hFc hP1 hD1
  exact kk u H1 locs1 hPj hDj hS1
end CALLI

