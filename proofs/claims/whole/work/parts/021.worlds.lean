/-! ### the worlds of the class: A the addresses, r the tables (cell, slot) -/
abbrev Tb : Type := Nat → Nat → Int32
/-- an EventLog, in the tables of its Reader: cells 3 .. 6 -/
def logW (A : Nat → Nat) (cI : ClassId) (r : Tb) : va_W := [(A 3, .inr (1, [.ref (A 4), .ref (A 5), .ref (A 6), .int (r 3 3), .int (r 3 4)])), (A 4, .inl (cI, 300, .inl (r 4))), (A 5, .inl (cI, 300, .inl (r 5))), (A 6, .inl (cI, 300, .inl (r 6)))]
/-- Teeth: cells 7, 8 -/
def teethW (A : Nat → Nat) (cI : ClassId) (r : Tb) : va_W := [(A 7, .inr (4, [.ref (A 8), .int (r 7 1), .int (r 7 2)])), (A 8, .inl (cI, 64, .inl (r 8)))]
/-- a Reader: cells 0 .. 8 -/
def readerW (A : Nat → Nat) (cI : ClassId) (r : Tb) : va_W := [(A 0, .inr (2, [.ref (A 1), .ref (A 2), .ref (A 3), .ref (A 7), .int (r 0 4), .int (r 0 5), .int (r 0 6), .int (r 0 7), .int (r 0 8), .int (r 0 9), .int (r 0 10), .int (r 0 11), .int (r 0 12), .int (r 0 13), .int (r 0 14), .int (r 0 15)])), (A 1, .inl (cI, 3, .inl (r 1))), (A 2, .inl (cI, 501, .inl (r 2))), (A 3, .inr (1, [.ref (A 4), .ref (A 5), .ref (A 6), .int (r 3 3), .int (r 3 4)])), (A 4, .inl (cI, 300, .inl (r 4))), (A 5, .inl (cI, 300, .inl (r 5))), (A 6, .inl (cI, 300, .inl (r 6))), (A 7, .inr (4, [.ref (A 8), .int (r 7 1), .int (r 7 2)])), (A 8, .inl (cI, 64, .inl (r 8)))]
/-- a Bench -/
def benchW (b : Nat) (A1 A2 : Nat → Nat) (cI : ClassId) (t ap : Int32) (r1 r2 : Tb) : va_W := (b, .inr (0, [.ref (A1 0), .ref (A2 0), .int t, .int ap])) :: (readerW A1 cI r1 ++ readerW A2 cI r2)
/-- a Span -/
def spanW (a : Nat) (lt lb mt mb : Int32) : va_W := [(a, .inr (3, [.int lt, .int lb, .int mt, .int mb]))]
/-- a PulseWheel without its images' Benches -/
def pwW (P : Nat → Nat) (b : Nat) (A1 A2 : Nat → Nat) (cI cB : ClassId) (tw : Int32) (im : Nat → Option Nat) (tp : Nat → Int32) (t ap : Int32) (r1 r2 : Tb) : va_W := [(P 0, .inr (5, [.ref b, .ref (P 1), .ref (P 2), .int tw])), (P 1, .inl (cB, 4, .inr (.inr (.inr (.inr im))))), (P 2, .inl (cI, 500, .inl tp))] ++ benchW b A1 A2 cI t ap r1 r2
/-- the reference -/
def modelW (A : Nat → Nat) (cI : ClassId) (r : Tb) : va_W := [(A 0, .inr (6, [.ref (A 1), .ref (A 2), .ref (A 3), .ref (A 4), .int (r 0 4), .int (r 0 5), .int (r 0 6), .ref (A 5), .int (r 0 8)])), (A 1, .inl (cI, 3020, .inl (r 1))), (A 2, .inl (cI, 12080, .inl (r 2))), (A 3, .inl (cI, 4, .inl (r 3))), (A 4, .inl (cI, 4, .inl (r 4))), (A 5, .inl (cI, 2000, .inl (r 5)))]
/-- an array of ints alone -/
def arrW (a : Nat) (cI : ClassId) (n : Nat) (f : Nat → Int32) : va_W := [(a, .inl (cI, n, .inl f))]
/-! ### a part's new cells in the whole -/
theorem set_mid (pre : va_W) (m e : Nat × va_E) (post : va_W) : (pre ++ (m :: post)).set pre.length e = pre ++ (e :: post) := by
  induction pre with
  | nil => rfl
  | cons a pre ih => simp
set_option maxHeartbeats 400000 in
theorem putL_mid : ∀ (mid pre post w1 : va_W), mid.length = w1.length → putL (pre ++ (mid ++ post)) (List.range' pre.length mid.length) w1 = pre ++ (w1 ++ post) := by
  intro mid
  induction mid with
  | nil =>
    intro pre post w1 h
    cases w1 with
    | nil => rfl
    | cons e w1 => simp at h
  | cons m mid ih =>
    intro pre post w1 h
    cases w1 with
    | nil => simp at h
    | cons e w1 =>
      have h2 : mid.length = w1.length := by simpa using h
      show putL ((pre ++ (m :: (mid ++ post))).set pre.length e) (List.range' (pre.length + 1) mid.length) w1 = _
      rw [set_mid]
      have h3 := ih (pre ++ [e]) post w1 h2
      rw [List.length_append] at h3
      simpa using h3
def selR (ps : List Nat) (r r' : Tb) : Tb := fun c => if ps.contains c then r' c else r c
set_option maxHeartbeats 400000 in
theorem putL_all (ws w1 : va_W) (h : ws.length = w1.length) : putL ws (List.range' 0 ws.length) w1 = w1 := by
  have := putL_mid ws [] [] w1 h
  simpa using this
set_option maxHeartbeats 400000 in
theorem putL_log_log {A : Nat → Nat} {cI : ClassId} {r r' : Tb} : putL (logW A cI r) [0, 1, 2, 3] (logW A cI r') = logW A cI r' := rfl
set_option maxHeartbeats 400000 in
theorem putL_teeth_teeth {A : Nat → Nat} {cI : ClassId} {r r' : Tb} : putL (teethW A cI r) [0, 1] (teethW A cI r') = teethW A cI r' := rfl
set_option maxHeartbeats 400000 in
theorem putL_logteeth_logteeth {A : Nat → Nat} {cI : ClassId} {r r' : Tb} : putL (logW A cI r ++ teethW A cI r) [0, 1, 2, 3, 4, 5] (logW A cI r' ++ teethW A cI r') = logW A cI r' ++ teethW A cI r' := rfl
set_option maxHeartbeats 400000 in
theorem putL_reader_reader {A : Nat → Nat} {cI : ClassId} {r r' : Tb} : putL (readerW A cI r) [0, 1, 2, 3, 4, 5, 6, 7, 8] (readerW A cI r') = readerW A cI r' := putL_all (readerW A cI r) (readerW A cI r') rfl
set_option maxHeartbeats 400000 in
theorem putL_model_model {A : Nat → Nat} {cI : ClassId} {r r' : Tb} : putL (modelW A cI r) [0, 1, 2, 3, 4, 5] (modelW A cI r') = modelW A cI r' := rfl
set_option maxHeartbeats 400000 in
theorem putL_reader_log {A : Nat → Nat} {cI : ClassId} {r r' : Tb} : putL (readerW A cI r) [3, 4, 5, 6] (logW A cI r') = readerW A cI (selR [3, 4, 5, 6] r r') := rfl
set_option maxHeartbeats 400000 in
theorem putL_reader_teeth {A : Nat → Nat} {cI : ClassId} {r r' : Tb} : putL (readerW A cI r) [7, 8] (teethW A cI r') = readerW A cI (selR [7, 8] r r') := rfl
set_option maxHeartbeats 400000 in
theorem putL_reader_logteeth {A : Nat → Nat} {cI : ClassId} {r r' : Tb} : putL (readerW A cI r) [3, 4, 5, 6, 7, 8] (logW A cI r' ++ teethW A cI r') = readerW A cI (selR [3, 4, 5, 6, 7, 8] r r') := rfl
set_option maxHeartbeats 400000 in
theorem putL_bench_bench {b : Nat} {A1 A2 : Nat → Nat} {cI : ClassId} {t ap t' ap' : Int32} {r1 r2 r1' r2' : Tb} : putL (benchW b A1 A2 cI t ap r1 r2) [0, 1, 2, 3, 4, 5, 6, 7, 8, 9, 10, 11, 12, 13, 14, 15, 16, 17, 18] (benchW b A1 A2 cI t' ap' r1' r2') = benchW b A1 A2 cI t' ap' r1' r2' := putL_all (benchW b A1 A2 cI t ap r1 r2) (benchW b A1 A2 cI t' ap' r1' r2') rfl
set_option maxHeartbeats 400000 in
theorem putL_bench_reader1 {b : Nat} {A1 A2 : Nat → Nat} {cI : ClassId} {t ap : Int32} {r1 r2 r1' : Tb} : putL (benchW b A1 A2 cI t ap r1 r2) [1, 2, 3, 4, 5, 6, 7, 8, 9] (readerW A1 cI r1') = benchW b A1 A2 cI t ap r1' r2 := putL_mid (readerW A1 cI r1) [(b, .inr (0, [.ref (A1 0), .ref (A2 0), .int t, .int ap]))] (readerW A2 cI r2) (readerW A1 cI r1') rfl
set_option maxHeartbeats 400000 in
theorem putL_bench_reader2 {b : Nat} {A1 A2 : Nat → Nat} {cI : ClassId} {t ap : Int32} {r1 r2 r2' : Tb} : putL (benchW b A1 A2 cI t ap r1 r2) [10, 11, 12, 13, 14, 15, 16, 17, 18] (readerW A2 cI r2') = benchW b A1 A2 cI t ap r1 r2' := (by have h := putL_mid (readerW A2 cI r2) ([(b, .inr (0, [.ref (A1 0), .ref (A2 0), .int t, .int ap]))] ++ readerW A1 cI r1) [] (readerW A2 cI r2') rfl; rw [List.append_nil, List.append_nil] at h; exact h)
set_option maxHeartbeats 400000 in
theorem putL_pw_pw {P : Nat → Nat} {b : Nat} {A1 A2 : Nat → Nat} {cI cB : ClassId} {tw t ap tw' t' ap' : Int32} {im im' : Nat → Option Nat} {tp tp' : Nat → Int32} {r1 r2 r1' r2' : Tb} : putL (pwW P b A1 A2 cI cB tw im tp t ap r1 r2) [0, 1, 2, 3, 4, 5, 6, 7, 8, 9, 10, 11, 12, 13, 14, 15, 16, 17, 18, 19, 20, 21] (pwW P b A1 A2 cI cB tw' im' tp' t' ap' r1' r2') = pwW P b A1 A2 cI cB tw' im' tp' t' ap' r1' r2' := putL_all (pwW P b A1 A2 cI cB tw im tp t ap r1 r2) (pwW P b A1 A2 cI cB tw' im' tp' t' ap' r1' r2') rfl
set_option maxHeartbeats 400000 in
theorem putL_pw_bench {P : Nat → Nat} {b : Nat} {A1 A2 : Nat → Nat} {cI cB : ClassId} {tw t ap t' ap' : Int32} {im : Nat → Option Nat} {tp : Nat → Int32} {r1 r2 r1' r2' : Tb} : putL (pwW P b A1 A2 cI cB tw im tp t ap r1 r2) [3, 4, 5, 6, 7, 8, 9, 10, 11, 12, 13, 14, 15, 16, 17, 18, 19, 20, 21] (benchW b A1 A2 cI t' ap' r1' r2') = pwW P b A1 A2 cI cB tw im tp t' ap' r1' r2' := (by have h := putL_mid (benchW b A1 A2 cI t ap r1 r2) [(P 0, .inr (5, [.ref b, .ref (P 1), .ref (P 2), .int tw])), (P 1, .inl (cB, 4, .inr (.inr (.inr (.inr im))))), (P 2, .inl (cI, 500, .inl tp))] [] (benchW b A1 A2 cI t' ap' r1' r2') rfl; rw [List.append_nil, List.append_nil] at h; exact h)
set_option maxHeartbeats 400000 in
theorem putL_pw_reader1 {P : Nat → Nat} {b : Nat} {A1 A2 : Nat → Nat} {cI cB : ClassId} {tw t ap : Int32} {im : Nat → Option Nat} {tp : Nat → Int32} {r1 r2 r1' : Tb} : putL (pwW P b A1 A2 cI cB tw im tp t ap r1 r2) [4, 5, 6, 7, 8, 9, 10, 11, 12] (readerW A1 cI r1') = pwW P b A1 A2 cI cB tw im tp t ap r1' r2 := putL_mid (readerW A1 cI r1) ([(P 0, .inr (5, [.ref b, .ref (P 1), .ref (P 2), .int tw])), (P 1, .inl (cB, 4, .inr (.inr (.inr (.inr im))))), (P 2, .inl (cI, 500, .inl tp))] ++ [(b, .inr (0, [.ref (A1 0), .ref (A2 0), .int t, .int ap]))]) (readerW A2 cI r2) (readerW A1 cI r1') rfl
set_option maxHeartbeats 400000 in
theorem putL_pw_reader2 {P : Nat → Nat} {b : Nat} {A1 A2 : Nat → Nat} {cI cB : ClassId} {tw t ap : Int32} {im : Nat → Option Nat} {tp : Nat → Int32} {r1 r2 r2' : Tb} : putL (pwW P b A1 A2 cI cB tw im tp t ap r1 r2) [13, 14, 15, 16, 17, 18, 19, 20, 21] (readerW A2 cI r2') = pwW P b A1 A2 cI cB tw im tp t ap r1 r2' := (by have h := putL_mid (readerW A2 cI r2) ([(P 0, .inr (5, [.ref b, .ref (P 1), .ref (P 2), .int tw])), (P 1, .inl (cB, 4, .inr (.inr (.inr (.inr im))))), (P 2, .inl (cI, 500, .inl tp))] ++ [(b, .inr (0, [.ref (A1 0), .ref (A2 0), .int t, .int ap]))] ++ readerW A1 cI r1) [] (readerW A2 cI r2') rfl; rw [List.append_nil, List.append_nil] at h; exact h)
theorem adr_log {A : Nat → Nat} {cI : ClassId} {r r' : Tb} : (logW A cI r').map (fun q => q.1) = (logW A cI r).map (fun q => q.1) := rfl
theorem adr_teeth {A : Nat → Nat} {cI : ClassId} {r r' : Tb} : (teethW A cI r').map (fun q => q.1) = (teethW A cI r).map (fun q => q.1) := rfl
theorem adr_logteeth {A : Nat → Nat} {cI : ClassId} {r r' : Tb} : (logW A cI r' ++ teethW A cI r').map (fun q => q.1) = (logW A cI r ++ teethW A cI r).map (fun q => q.1) := rfl
theorem adr_reader {A : Nat → Nat} {cI : ClassId} {r r' : Tb} : (readerW A cI r').map (fun q => q.1) = (readerW A cI r).map (fun q => q.1) := rfl
theorem adr_model {A : Nat → Nat} {cI : ClassId} {r r' : Tb} : (modelW A cI r').map (fun q => q.1) = (modelW A cI r).map (fun q => q.1) := rfl
theorem adr_bench {b : Nat} {A1 A2 : Nat → Nat} {cI : ClassId} {t ap t' ap' : Int32} {r1 r2 r1' r2' : Tb} : (benchW b A1 A2 cI t' ap' r1' r2').map (fun q => q.1) = (benchW b A1 A2 cI t ap r1 r2).map (fun q => q.1) := rfl
theorem adr_pw {P : Nat → Nat} {b : Nat} {A1 A2 : Nat → Nat} {cI cB : ClassId} {tw t ap tw' t' ap' : Int32} {im im' : Nat → Option Nat} {tp tp' : Nat → Int32} {r1 r2 r1' r2' : Tb} : (pwW P b A1 A2 cI cB tw' im' tp' t' ap' r1' r2').map (fun q => q.1) = (pwW P b A1 A2 cI cB tw im tp t ap r1 r2).map (fun q => q.1) := rfl
theorem adr_arr {a n : Nat} {cI : ClassId} {f f' : Nat → Int32} : (arrW a cI n f').map (fun q => q.1) = (arrW a cI n f).map (fun q => q.1) := rfl
theorem adr_span {a : Nat} {lt lb mt mb lt' lb' mt' mb' : Int32} : (spanW a lt' lb' mt' mb').map (fun q => q.1) = (spanW a lt lb mt mb).map (fun q => q.1) := rfl
