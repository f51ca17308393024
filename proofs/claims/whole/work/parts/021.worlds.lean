/-! ### the worlds of the class: A the addresses, r the tables (cell, slot) -/
abbrev Tb : Type := Nat → Nat → Int32
/-- an EventLog, in the tables of its Reader: cells 3 .. 6 -/
def logW (A : Nat → Nat) (cI : ClassId) (r : Tb) : va_W := [(A 3, .inr (1, [.ref (A 4), .ref (A 5), .ref (A 6), .int (r 3 3), .int (r 3 4)])), (A 4, .inl (cI, 300, .inl (r 4))), (A 5, .inl (cI, 300, .inl (r 5))), (A 6, .inl (cI, 300, .inl (r 6)))]
/-- Teeth: cells 7, 8 -/
def teethW (A : Nat → Nat) (cI : ClassId) (r : Tb) : va_W := [(A 7, .inr (4, [.ref (A 8), .int (r 7 1), .int (r 7 2)])), (A 8, .inl (cI, 64, .inl (r 8)))]
/-- a Reader: cells 0 .. 8 -/
def readerW (A : Nat → Nat) (cI : ClassId) (r : Tb) : va_W := [(A 0, .inr (2, [.ref (A 1), .ref (A 2), .ref (A 3), .ref (A 7), .int (r 0 4), .int (r 0 5), .int (r 0 6), .int (r 0 7), .int (r 0 8), .int (r 0 9), .int (r 0 10), .int (r 0 11), .int (r 0 12), .int (r 0 13), .int (r 0 14), .int (r 0 15)])), (A 1, .inl (cI, 3, .inl (r 1))), (A 2, .inl (cI, 501, .inl (r 2))), (A 3, .inr (1, [.ref (A 4), .ref (A 5), .ref (A 6), .int (r 3 3), .int (r 3 4)])), (A 4, .inl (cI, 300, .inl (r 4))), (A 5, .inl (cI, 300, .inl (r 5))), (A 6, .inl (cI, 300, .inl (r 6))), (A 7, .inr (4, [.ref (A 8), .int (r 7 1), .int (r 7 2)])), (A 8, .inl (cI, 64, .inl (r 8)))]
/-- a Bench -/
def benchW (b : Nat) (A1 A2 : Nat → Nat) (cI : ClassId) (t ap : Int32) (r1 r2 : Tb) : va_W := (b, .inr (0, [.ref (A1 0), .ref (A2 0), .int t, .int ap])) :: (readerW A1 cI r1 ++ readerW A2 cI r2)
/-- a Span -/
def spanW (a : Nat) (lt lb mt mb : Int32) : va_W := [(a, .inr (3, [.int lt, .int lb, .int mt, .int mb]))]
/-- a PulseWheel without its images' Benches -/
def pwW (P : Nat → Nat) (b : Nat) (A1 A2 : Nat → Nat) (cI cB : ClassId) (tw : Int32) (im : Nat → Option Nat) (tp : Nat → Int32) (t ap : Int32) (r1 r2 : Tb) : va_W := [(P 0, .inr (5, [.ref b, .ref (P 1), .ref (P 2), .int tw])), (P 1, .inl (cB, 4, .inr (.inr (.inr (.inr im))))), (P 2, .inl (cI, 500, .inl tp))] ++ benchW b A1 A2 cI t ap r1 r2
/-- the reference -/
def modelW (A : Nat → Nat) (cI : ClassId) (r : Tb) : va_W := [(A 0, .inr (6, [.ref (A 1), .ref (A 2), .ref (A 3), .ref (A 4), .int (r 0 4), .int (r 0 5), .int (r 0 6), .ref (A 5), .int (r 0 8)])), (A 1, .inl (cI, 3020, .inl (r 1))), (A 2, .inl (cI, 12080, .inl (r 2))), (A 3, .inl (cI, 4, .inl (r 3))), (A 4, .inl (cI, 4, .inl (r 4))), (A 5, .inl (cI, 2000, .inl (r 5)))]
/-- an array of ints alone -/
def arrW (a : Nat) (cI : ClassId) (n : Nat) (f : Nat → Int32) : va_W := [(a, .inl (cI, n, .inl f))]
