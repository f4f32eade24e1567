abbrev XS : Type := (Nat → Int32) × (Nat → Int32) × (Nat → Int32) × (Nat → Int64) × (Nat → Int32) × Int32 × Int64 × Int64 × Int64 × Int64 × Int32 × Int32 × Int32 × Int64
/-- the cells of a PostDesk2 in the state u -/
abbrev xw (ad : Nat → Nat) (cd : Nat → ClassId) (u : XS) : va_W := [(ad 0, .inr (0, [.ref (ad 1), .ref (ad 2), .ref (ad 3), .ref (ad 4), .ref (ad 5), .int u.2.2.2.2.2.1, .long u.2.2.2.2.2.2.1, .long u.2.2.2.2.2.2.2.1, .long u.2.2.2.2.2.2.2.2.1, .long u.2.2.2.2.2.2.2.2.2.1, .int u.2.2.2.2.2.2.2.2.2.2.1, .int u.2.2.2.2.2.2.2.2.2.2.2.1, .int u.2.2.2.2.2.2.2.2.2.2.2.2.1, .long u.2.2.2.2.2.2.2.2.2.2.2.2.2])), (ad 1, .inl (cd 1, 10, .inl u.1)), (ad 2, .inl (cd 2, 10, .inl u.2.1)), (ad 3, .inl (cd 3, 1000, .inl u.2.2.1)), (ad 4, .inl (cd 4, 20, .inr (.inl u.2.2.2.1))), (ad 5, .inl (cd 5, 20, .inl u.2.2.2.2.1))]
abbrev xt (cd : Nat → ClassId) : List (ClassId × FieldType) := [(cd 1, .int), (cd 2, .int), (cd 3, .boolean), (cd 4, .long), (cd 5, .int)]
abbrev xat (D : va_G) (ad : Nat → Nat) (cd : Nat → ClassId) (A : Nat → Prop) (u : XS) (t : State) : Prop := va_P D vwCl (xw ad cd u) t.heap ∧ va_K D vwCl (xt cd) t ∧ va_D A (xw ad cd u)
abbrev xPc (D : va_G) (ad : Nat → Nat) (cd : Nat → ClassId) (u : XS) (sz : Nat) (As : List Value) : Array Value → State → Prop := va_Pc (.ref (ad 0) :: As) (fun U => U.heap.size = sz ∧ va_P D vwCl (xw ad cd u) U.heap ∧ va_K D vwCl (xt cd) U ∧ va_D (fun _ => True) (xw ad cd u))
abbrev xPr (D : va_G) (ad : Nat → Nat) (cd : Nat → ClassId) (u : XS) (As : List Value) : Array Value → State → Prop := va_Pc (.ref (ad 0) :: As) (fun U => va_P D vwCl (xw ad cd u) U.heap ∧ va_K D vwCl (xt cd) U)
abbrev YS : Type := (Nat → Int64) × Int32 × (Nat → Int64) × (Nat → Int32) × (Nat → Int32) × (Nat → Int32) × Int64 × Int64 × Int64 × Int32 × Int32 × Int32 × Int64
/-- the cells of a PostDesk2Model in the state u -/
abbrev yw (ad : Nat → Nat) (cd : Nat → ClassId) (u : YS) : va_W := [(ad 0, .inr (1, [.ref (ad 1), .int u.2.1, .ref (ad 2), .ref (ad 3), .ref (ad 4), .ref (ad 5), .long u.2.2.2.2.2.2.1, .long u.2.2.2.2.2.2.2.1, .long u.2.2.2.2.2.2.2.2.1, .int u.2.2.2.2.2.2.2.2.2.1, .int u.2.2.2.2.2.2.2.2.2.2.1, .int u.2.2.2.2.2.2.2.2.2.2.2.1, .long u.2.2.2.2.2.2.2.2.2.2.2.2])), (ad 1, .inl (cd 1, 40, .inr (.inl u.1))), (ad 2, .inl (cd 2, 20, .inr (.inl u.2.2.1))), (ad 3, .inl (cd 3, 20, .inl u.2.2.2.1)), (ad 4, .inl (cd 4, 10, .inl u.2.2.2.2.1)), (ad 5, .inl (cd 5, 1000, .inl u.2.2.2.2.2.1))]
abbrev yt (cd : Nat → ClassId) : List (ClassId × FieldType) := [(cd 1, .long), (cd 2, .long), (cd 3, .int), (cd 4, .int), (cd 5, .boolean)]
abbrev yat (D : va_G) (ad : Nat → Nat) (cd : Nat → ClassId) (A : Nat → Prop) (u : YS) (t : State) : Prop := va_P D vwCl (yw ad cd u) t.heap ∧ va_K D vwCl (yt cd) t ∧ va_D A (yw ad cd u)
abbrev yPc (D : va_G) (ad : Nat → Nat) (cd : Nat → ClassId) (u : YS) (sz : Nat) (As : List Value) : Array Value → State → Prop := va_Pc (.ref (ad 0) :: As) (fun U => U.heap.size = sz ∧ va_P D vwCl (yw ad cd u) U.heap ∧ va_K D vwCl (yt cd) U ∧ va_D (fun _ => True) (yw ad cd u))
abbrev yPr (D : va_G) (ad : Nat → Nat) (cd : Nat → ClassId) (u : YS) (As : List Value) : Array Value → State → Prop := va_Pc (.ref (ad 0) :: As) (fun U => va_P D vwCl (yw ad cd u) U.heap ∧ va_K D vwCl (yt cd) U)
/-- what the first n numbers collected come to -/
def dig (f : Nat → Int64) : Nat → Int64
  | 0 => 0
  | n + 1 => 31 * dig f n + f n
/-- how many of the first m places of kind k hold something -/
def cnt (f : Nat → Int32) (k : Nat) : Nat → Nat
  | 0 => 0
  | m + 1 => cnt f k m + (if f (100 * k + m) = 0 then 0 else 1)
