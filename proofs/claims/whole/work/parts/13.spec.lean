/-! SPEC: lists as texts, over lists of bytes -/
def isSp (b : Nat) : Bool := b == 32 || (decide (9 ≤ b) && decide (b ≤ 13))
def isBl (b : Nat) : Bool := b == 32 || b == 9
/-- a digit's value; 16 if it is none -/
def dg (b : Nat) : Nat := if 48 ≤ b ∧ b ≤ 57 then b - 48 else if 97 ≤ b ∧ b ≤ 102 then b - 87 else if 65 ≤ b ∧ b ≤ 70 then b - 55 else 16
/-- how many of the first 'most' bytes are digits to the base -/
def digs (base : Nat) : Nat → List Nat → Nat
  | 0, _ => 0
  | _ + 1, [] => 0
  | n + 1, b :: l => if dg b < base then digs base n l + 1 else 0
def numOf (base : Nat) (l : List Nat) : Nat := l.foldl (fun a b => a * base + dg b) 0
def lett (b : Nat) : Nat := if b = 97 then 7 else if b = 98 then 8 else if b = 116 then 9 else if b = 110 then 10 else if b = 118 then 11 else if b = 102 then 12 else if b = 114 then 13 else b
/-- a backslash ahead of l: the byte that it means, and how many bytes of l are its own -/
def esc : List Nat → Nat × Nat
  | [] => (92, 0)
  | b :: l => if b = 10 then (32, 1 + (l.takeWhile isBl).length)
    else if b = 120 then (if digs 16 2 l = 0 then (120, 1) else (numOf 16 (l.take (digs 16 2 l)) % 256, 1 + digs 16 2 l))
    else if digs 8 3 (b :: l) = 0 then (lett b, 1) else (numOf 8 ((b :: l).take (digs 8 3 (b :: l))) % 256, digs 8 3 (b :: l))
/-- behind an opening brace, o braces open, w read: the word, and what is left behind the brace that closes -/
def rdB (o : Nat) (w l : List Nat) : Option (List Nat × List Nat) :=
  match l with
  | [] => none
  | b :: l =>
    if b = 123 then rdB (o + 1) (w ++ [b]) l
    else if b = 125 then (if o = 1 then some (w, l) else rdB (o - 1) (w ++ [b]) l)
    else if b = 92 then (match l with
      | [] => none
      | c :: l => rdB o (w ++ [b, c]) l)
    else rdB o (w ++ [b]) l
termination_by l.length
theorem rdB_nil (o : Nat) (w : List Nat) : rdB o w [] = none := by rw [rdB.eq_def]
theorem rdB_cons (o : Nat) (w : List Nat) (b : Nat) (l : List Nat) : rdB o w (b :: l) = (if b = 123 then rdB (o + 1) (w ++ [b]) l
    else if b = 125 then (if o = 1 then some (w, l) else rdB (o - 1) (w ++ [b]) l)
    else if b = 92 then (match l with
      | [] => none
      | c :: l => rdB o (w ++ [b, c]) l)
    else rdB o (w ++ [b]) l) := by rw [rdB.eq_def]
/-- a quoted word up to its quote, a bare one up to a space or the end, w read: the word, and what is left from there on -/
def rdU (q : Bool) (w l : List Nat) : Option (List Nat × List Nat) :=
  match l with
  | [] => if q then none else some (w, [])
  | b :: l =>
    if (if q then b == 34 else isSp b) then some (w, b :: l)
    else if b = 92 then rdU q (w ++ [(esc l).1]) (l.drop (esc l).2)
    else rdU q (w ++ [b]) l
termination_by l.length
decreasing_by all_goals (simp_wf; try omega)
theorem rdU_nil (q : Bool) (w : List Nat) : rdU q w [] = if q then none else some (w, []) := by rw [rdU.eq_def]
theorem rdU_cons (q : Bool) (w : List Nat) (b : Nat) (l : List Nat) : rdU q w (b :: l) = (if (if q then b == 34 else isSp b) then some (w, b :: l)
    else if b = 92 then rdU q (w ++ [(esc l).1]) (l.drop (esc l).2)
    else rdU q (w ++ [b]) l) := by rw [rdU.eq_def]
/-- behind a closing brace or quote: a space or the end -/
def clo (x : Option (List Nat × List Nat)) : Option (List Nat × List Nat) :=
  match x with
  | none => none
  | some (w, []) => some (w, [])
  | some (w, b :: l) => if isSp b then some (w, b :: l) else none
/-- the next element: none (no more), some none (BAD), some (some (word, what is left)) -/
def nxt (l : List Nat) : Option (Option (List Nat × List Nat)) :=
  match l.dropWhile isSp with
  | [] => none
  | b :: l => some (if b = 123 then clo (rdB 1 [] l) else if b = 34 then clo ((rdU true [] l).map fun x => (x.1, x.2.drop 1)) else rdU false [] (b :: l))
/-- all elements; none: BAD -/
def elems (l : List Nat) : Option (List (List Nat)) :=
  match nxt l with
  | none => some []
  | some none => none
  | some (some x) => if x.2.length < l.length then (elems x.2).map (x.1 :: ·) else none
termination_by l.length
/-- WRITTEN -/
def needs (i b : Nat) : Bool := isSp b || b == 34 || b == 36 || b == 59 || b == 91 || b == 92 || b == 93 || b == 123 || b == 125 || (b == 35 && i == 0)
def anyN : Nat → List Nat → Bool
  | _, [] => false
  | i, b :: l => needs i b || anyN (i + 1) l
/-- braces balanced in their order, no backslash -/
def bal : Nat → List Nat → Bool
  | o, [] => o == 0
  | o, b :: l => if b = 123 then bal (o + 1) l else if b = 125 then (o != 0 && bal (o - 1) l) else b != 92 && bal o l
def escB (i b : Nat) : List Nat := (if needs i b then [92] else []) ++ [if b = 9 then 116 else if b = 10 then 110 else if b = 11 then 118 else if b = 12 then 102 else if b = 13 then 114 else b]
def escW : Nat → List Nat → List Nat
  | _, [] => []
  | i, b :: l => escB i b ++ escW (i + 1) l
def wr (e : List Nat) : List Nat := if e ≠ [] ∧ anyN 0 e = false then e else if bal 0 e then [123] ++ e ++ [125] else escW 0 e
def behind (t e : List Nat) : List Nat := t ++ (if t = [] then [] else [32]) ++ wr e
def wrAll : List Nat → List (List Nat) → List Nat
  | t, [] => t
  | t, e :: es => wrAll (behind t e) es
