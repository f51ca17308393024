/-! ### PulseWheel: what makes no object -/
def holdOK (tk : Int32) : Int32 := if tk < 1 then 0 else if tk ≤ 16 then 1 else 0
def turnOK (tc : Int32) : Int32 := if tc < 4 then 0 else if tc ≤ 64 then 1 else 0
def holdR (r : Tb) (tk t : Int32) : Tb := if tk < 1 then r else if tk ≤ 16 then anewV (up2 r 0 4 tk) t else r
def turnR (r : Tb) (tc t : Int32) : Tb := if tc < 4 then r else if tc ≤ 64 then anewV (up2 r 0 5 tc) t else r
def lineV (x : Int32) : Int32 := if x < 0 then 0 else if 7 < x then 0 else 1
def rdV {α : Type} (rd : Int32) (a b c : α) : α := if rd = 0 then a else if rd = 1 then b else c
theorem rdV_0 {α : Type} (a b c : α) : rdV 0 a b c = a := rfl
theorem rdV_1 {α : Type} (a b c : α) : rdV 1 a b c = b := rfl
theorem rdV_n {α : Type} {rd : Int32} (h0 : ¬ rd = 0) (h1 : ¬ rd = 1) (a b c : α) : rdV rd a b c = c := by unfold rdV; rw [if_neg h0, if_neg h1]
def ofV (r : Tb) (w : Int32) : Int32 := if w = 0 then r 0 7 else if w = 1 then r 0 8 else if w = 2 then r 0 9 else if w = 3 then phaseV (r 0 6) else if w = 4 then r 0 6 else if w = 5 then r 0 4 else if w = 6 then r 0 5 else if w = 7 then r 3 3 else if w = 8 then r 0 12 else if w = 9 then r 0 13 else if w = 10 then r 0 14 else if w = 11 then (if r 0 10 = 0 then 0 else 1) else -2000000
def originV (r : Tb) : Int32 := if r 0 10 = 0 then -2000000 else r 0 11
def eventV (r : Tb) (k w : Int32) : Int32 := if k < 0 then -2000000 else if k < minV (r 3 3) 300 then (if w = 0 then r 4 (slotN (r 3 3) k) else if w = 1 then r 5 (slotN (r 3 3) k) else if w = 2 then r 6 (slotN (r 3 3) k) else -2000000) else -2000000
def rowV (r : Tb) : Int32 := minV (absV (r 3 4)) 300
def movedV (r : Tb) (t n : Int32) : Int32 := if n < 1 then -2000000 else if 500 < n then -2000000 else if n ≤ t - r 0 15 then r 0 7 - r 2 (pathN (t - n)) else -2000000
def toothV (r : Tb) (k : Int32) : Int32 := if k < 0 then -1 else if k < r 0 5 then sumAtV r k else -1
def widestV (r : Tb) : Int32 := if r 7 1 = 0 then -1 else nI (greatV (r 8) (lastV (r 0 5)))
def byteV (tw : Int32) (tp : Nat → Int32) (k : Int32) : Int32 := if k < 0 then 192 else if k / 4 < tw then (((tp (k / 4).toNatClampNeg).toUInt32 >>> ((8 * (3 - rem32 k 4) : Int32).toUInt32 &&& Int32.toUInt32 31)).toInt32) &&& 255 else 192
def putT (tw : Int32) (tp : Nat → Int32) (w : Int32) : Nat → Int32 := if 500 ≤ tw then tp else upd tp tw.toNatClampNeg w
def putW (tw : Int32) : Int32 := if 500 ≤ tw then tw else tw + 1

def rm_X5_origin : Room := { frames := 1, cells := 0, slots := 0, locals := 21 }
set_option maxHeartbeats 1000000 in
set_option maxRecDepth 100000 in
theorem c_X5_origin (l : Launch) (D : va_G) (cI cB : ClassId) (P : Nat → Nat) (b : Nat) (A1 : Nat → Nat) (A2 : Nat → Nat) (tw : Int32) (im : Nat → Option Nat) (tp : Nat → Int32) (t : Int32) (ap : Int32) (r1 : Tb) (r2 : Tb) (rd : Int32) : SI l D cI cB yX5_origin wsX5_origin rm_X5_origin [.ref (P 0), .int rd] (pwW P b A1 A2 cI cB tw im tp t ap r1 r2) (rdV rd (originV r1) (originV r2) (-2000000)) := by
  refine SI.of (cc := cX5_origin) (maxL := 3) (ty := .int) (by decide +kernel) rfl (Nat.le_of_ble_eq_true rfl) ?_
  intro p e s m args below meth c ls Q hT hP hD hl hE
  obtain ⟨hx, hb, hr, hlocks, hnm, hml, hown, hts, hK, hN⟩ := hT
  have hl : lv_has ls 3 [(0, .ref (P 0)), (1, .int rd)] := hl
  have hi2 : ∀ w ∈ wsX20, w ∈ wsX5_origin := by decide +kernel
  have hi5 : ∀ w ∈ wsX50, w ∈ wsX5_origin := by decide +kernel
  by_cases c0 : rd = 0
  · subst c0
    refine lv_aload_n hx hb dX5_origin_0 rfl (lv_at hl 0 rfl) ?_
    refine x_get (v := .ref b) (C := RX5) (T := TX5) (N := 4) hx hb hts hi5 hown hK hP 0 rfl rfl 0 (by decide) (hts (.fieldLink RX5 10 "PulseWheel" "bench" "LPulseWheel$Bench;") (by decide +kernel)) rfl rfl dX5_origin_1 ?_
    refine lv_iload_n hx hb dX5_origin_4 rfl (lv_at hl 1 rfl) ?_
    refine kSQ (va_runVN (As := [.int 0]) (rest := []) ⟨hx, hb, hml, hown, hts⟩ (c_X0_readerAt_0 l D cI cB b A1 A2 t ap r1 r2  _) ⟨va_cnB 1 hts gX5_origin_X0_readerAt_n24 rfl rfl rfl (nwm5_24 (args := args) hN) (hts (.initialized RX0) (by decide +kernel)) (by decide +kernel) ⟨Nat.le_of_ble_eq_true rfl, Nat.le_of_ble_eq_true rfl⟩, hts (.instanceMethod yX0_readerAt) (by decide +kernel), hts (.selects RX0 yX0_readerAt yX0_readerAt) (by decide +kernel)⟩ (preV_cut hP hD hK hN (ci := 0) rfl 3 rfl [3, 4, 5, 6, 7, 8, 9, 10, 11, 12, 13, 14, 15, 16, 17, 18, 19, 20, 21] (by decide) rfl) rfl rfl hl.1 rfl (lv_room (Nat.le_of_ble_eq_true rfl)) dX5_origin_5 ⟨Nat.zero_le _, Nat.zero_le _⟩) ?_
    show W _ _ _ _ _ _ _ _ _ _ _ _ _ _ _ (F0 m 8 ls (.ref (A1 0) :: _))
    refine lv_astore_n (lv' := [(2, .ref (A1 0)), (0, .ref (P 0)), (1, .int 0)]) hx hb dX5_origin_8 rfl hl (by decide) rfl (fun ls hl => ?_)
    refine lv_aload_n hx hb dX5_origin_9 rfl (lv_at hl 0 rfl) ?_
    refine lv_ifnull hx hb dX5_origin_10 ?_
    refine lv_aload_n hx hb dX5_origin_13 rfl (lv_at hl 0 rfl) ?_
    refine x_getN (v := .int (r1 0 10)) (C := RX2) (T := TX2) (N := 16) hx hb hts hi2 hown hK hP 4 rfl rfl 10 (by decide) (nwf5_101 (args := args) hN) rfl rfl dX5_origin_14 ?_
    refine lv_if_eq (tgt := 27) hx hb dX5_origin_17 (by decide) (fun c_17 => ?_) (fun c_17 => ?_)
    · skip
      refine lv_ldc (v := -2000000) hx hb hown (hts (.constant RX5 67 (-2000000)) (by decide +kernel)) dX5_origin_27 ?_
      exact hE _ _ _ (by first | (rw [rdV_0]; done) | (rw [rdV_0]; (first | rfl | (unfold originV; rw [if_pos c_17]; done) | (simp only [originV, if_pos c_17]; done) | (simp only [originV, c_17, if_true, if_false]; done) | (simp only [originV, c_17, if_true, if_false, not_true, not_false_iff, reduceIte]; done) | (exfalso; simp_all; done) | (simp [originV, c_17]; done) | (simp_all [originV]; done)))) rfl dX5_origin_29
    · skip
      refine lv_aload_n hx hb dX5_origin_20 rfl (lv_at hl 0 rfl) ?_
      refine x_getN (v := .int (r1 0 11)) (C := RX2) (T := TX2) (N := 16) hx hb hts hi2 hown hK hP 4 rfl rfl 11 (by decide) (nwf5_105 (args := args) hN) rfl rfl dX5_origin_21 ?_
      refine lv_goto (tgt := 29) hx hb dX5_origin_24 (by decide) ?_
      exact hE _ _ _ (by first | (rw [rdV_0]; done) | (rw [rdV_0]; (first | rfl | (unfold originV; rw [if_neg c_17]; done) | (simp only [originV, if_neg c_17]; done) | (simp only [originV, c_17, if_true, if_false]; done) | (simp only [originV, c_17, if_true, if_false, not_true, not_false_iff, reduceIte]; done) | (exfalso; simp_all; done) | (simp [originV, c_17]; done) | (simp_all [originV]; done)))) rfl dX5_origin_29
  by_cases c1 : rd = 1
  · subst c1
    refine lv_aload_n hx hb dX5_origin_0 rfl (lv_at hl 0 rfl) ?_
    refine x_get (v := .ref b) (C := RX5) (T := TX5) (N := 4) hx hb hts hi5 hown hK hP 0 rfl rfl 0 (by decide) (hts (.fieldLink RX5 10 "PulseWheel" "bench" "LPulseWheel$Bench;") (by decide +kernel)) rfl rfl dX5_origin_1 ?_
    refine lv_iload_n hx hb dX5_origin_4 rfl (lv_at hl 1 rfl) ?_
    refine kSQ (va_runVN (As := [.int 1]) (rest := []) ⟨hx, hb, hml, hown, hts⟩ (c_X0_readerAt_1 l D cI cB b A1 A2 t ap r1 r2  _) ⟨va_cnB 1 hts gX5_origin_X0_readerAt_n24 rfl rfl rfl (nwm5_24 (args := args) hN) (hts (.initialized RX0) (by decide +kernel)) (by decide +kernel) ⟨Nat.le_of_ble_eq_true rfl, Nat.le_of_ble_eq_true rfl⟩, hts (.instanceMethod yX0_readerAt) (by decide +kernel), hts (.selects RX0 yX0_readerAt yX0_readerAt) (by decide +kernel)⟩ (preV_cut hP hD hK hN (ci := 0) rfl 3 rfl [3, 4, 5, 6, 7, 8, 9, 10, 11, 12, 13, 14, 15, 16, 17, 18, 19, 20, 21] (by decide) rfl) rfl rfl hl.1 rfl (lv_room (Nat.le_of_ble_eq_true rfl)) dX5_origin_5 ⟨Nat.zero_le _, Nat.zero_le _⟩) ?_
    show W _ _ _ _ _ _ _ _ _ _ _ _ _ _ _ (F0 m 8 ls (.ref (A2 0) :: _))
    refine lv_astore_n (lv' := [(2, .ref (A2 0)), (0, .ref (P 0)), (1, .int 1)]) hx hb dX5_origin_8 rfl hl (by decide) rfl (fun ls hl => ?_)
    refine lv_aload_n hx hb dX5_origin_9 rfl (lv_at hl 0 rfl) ?_
    refine lv_ifnull hx hb dX5_origin_10 ?_
    refine lv_aload_n hx hb dX5_origin_13 rfl (lv_at hl 0 rfl) ?_
    refine x_getN (v := .int (r2 0 10)) (C := RX2) (T := TX2) (N := 16) hx hb hts hi2 hown hK hP 13 rfl rfl 10 (by decide) (nwf5_101 (args := args) hN) rfl rfl dX5_origin_14 ?_
    refine lv_if_eq (tgt := 27) hx hb dX5_origin_17 (by decide) (fun c_17 => ?_) (fun c_17 => ?_)
    · skip
      refine lv_ldc (v := -2000000) hx hb hown (hts (.constant RX5 67 (-2000000)) (by decide +kernel)) dX5_origin_27 ?_
      exact hE _ _ _ (by first | (rw [rdV_1]; done) | (rw [rdV_1]; (first | rfl | (unfold originV; rw [if_pos c_17]; done) | (simp only [originV, if_pos c_17]; done) | (simp only [originV, c_17, if_true, if_false]; done) | (simp only [originV, c_17, if_true, if_false, not_true, not_false_iff, reduceIte]; done) | (exfalso; simp_all; done) | (simp [originV, c_17]; done) | (simp_all [originV]; done)))) rfl dX5_origin_29
    · skip
      refine lv_aload_n hx hb dX5_origin_20 rfl (lv_at hl 0 rfl) ?_
      refine x_getN (v := .int (r2 0 11)) (C := RX2) (T := TX2) (N := 16) hx hb hts hi2 hown hK hP 13 rfl rfl 11 (by decide) (nwf5_105 (args := args) hN) rfl rfl dX5_origin_21 ?_
      refine lv_goto (tgt := 29) hx hb dX5_origin_24 (by decide) ?_
      exact hE _ _ _ (by first | (rw [rdV_1]; done) | (rw [rdV_1]; (first | rfl | (unfold originV; rw [if_neg c_17]; done) | (simp only [originV, if_neg c_17]; done) | (simp only [originV, c_17, if_true, if_false]; done) | (simp only [originV, c_17, if_true, if_false, not_true, not_false_iff, reduceIte]; done) | (exfalso; simp_all; done) | (simp [originV, c_17]; done) | (simp_all [originV]; done)))) rfl dX5_origin_29
  refine lv_aload_n hx hb dX5_origin_0 rfl (lv_at hl 0 rfl) ?_
  refine x_get (v := .ref b) (C := RX5) (T := TX5) (N := 4) hx hb hts hi5 hown hK hP 0 rfl rfl 0 (by decide) (hts (.fieldLink RX5 10 "PulseWheel" "bench" "LPulseWheel$Bench;") (by decide +kernel)) rfl rfl dX5_origin_1 ?_
  refine lv_iload_n hx hb dX5_origin_4 rfl (lv_at hl 1 rfl) ?_
  refine kSQ (va_runVN (As := [.int rd]) (rest := []) ⟨hx, hb, hml, hown, hts⟩ (c_X0_readerAt_n l D cI cB b A1 A2 t ap r1 r2 rd c0 c1 _) ⟨va_cnB 1 hts gX5_origin_X0_readerAt_n24 rfl rfl rfl (nwm5_24 (args := args) hN) (hts (.initialized RX0) (by decide +kernel)) (by decide +kernel) ⟨Nat.le_of_ble_eq_true rfl, Nat.le_of_ble_eq_true rfl⟩, hts (.instanceMethod yX0_readerAt) (by decide +kernel), hts (.selects RX0 yX0_readerAt yX0_readerAt) (by decide +kernel)⟩ (preV_cut hP hD hK hN (ci := 0) rfl 3 rfl [3, 4, 5, 6, 7, 8, 9, 10, 11, 12, 13, 14, 15, 16, 17, 18, 19, 20, 21] (by decide) rfl) rfl rfl hl.1 rfl (lv_room (Nat.le_of_ble_eq_true rfl)) dX5_origin_5 ⟨Nat.zero_le _, Nat.zero_le _⟩) ?_
  show W _ _ _ _ _ _ _ _ _ _ _ _ _ _ _ (F0 m 8 ls (.null :: _))
  refine lv_astore_nN (lv' := [(2, .null), (0, .ref (P 0)), (1, .int rd)]) hx hb dX5_origin_8 rfl hl (by decide) rfl (fun ls hl => ?_)
  refine lv_aload_nN hx hb dX5_origin_9 rfl (lv_at hl 0 rfl) ?_
  refine lv_ifnullN (tgt := 27) hx hb dX5_origin_10 (by decide) ?_
  refine lv_ldc (v := -2000000) hx hb hown (hts (.constant RX5 67 (-2000000)) (by decide +kernel)) dX5_origin_27 ?_
  exact hE _ _ _ (by first | (rw [rdV_n c0 c1]; done) | (rw [rdV_n c0 c1]; (first | rfl | (unfold originV; rw [if_true]; done) | (simp only [originV]; done) | (simp only [originV, if_true, if_false]; done) | (simp only [originV, if_true, if_false, not_true, not_false_iff, reduceIte]; done) | (exfalso; simp_all; done) | (simp [originV]; done) | (simp_all [originV]; done)))) rfl dX5_origin_29

def rm_X5_row : Room := { frames := 2, cells := 0, slots := 0, locals := 60 }
set_option maxHeartbeats 1000000 in
set_option maxRecDepth 100000 in
theorem c_X5_row (l : Launch) (D : va_G) (cI cB : ClassId) (P : Nat → Nat) (b : Nat) (A1 : Nat → Nat) (A2 : Nat → Nat) (tw : Int32) (im : Nat → Option Nat) (tp : Nat → Int32) (t : Int32) (ap : Int32) (r1 : Tb) (r2 : Tb) (rd : Int32) : SI l D cI cB yX5_row wsX5_row rm_X5_row [.ref (P 0), .int rd] (pwW P b A1 A2 cI cB tw im tp t ap r1 r2) (rdV rd (rowV r1) (rowV r2) (0)) := by
  refine SI.of (cc := cX5_row) (maxL := 3) (ty := .int) (by decide +kernel) rfl (Nat.le_of_ble_eq_true rfl) ?_
  intro p e s m args below meth c ls Q hT hP hD hl hE
  obtain ⟨hx, hb, hr, hlocks, hnm, hml, hown, hts, hK, hN⟩ := hT
  have hl : lv_has ls 3 [(0, .ref (P 0)), (1, .int rd)] := hl
  have hi2 : ∀ w ∈ wsX20, w ∈ wsX5_row := by decide +kernel
  have hi5 : ∀ w ∈ wsX50, w ∈ wsX5_row := by decide +kernel
  by_cases c0 : rd = 0
  · subst c0
    refine lv_aload_n hx hb dX5_row_0 rfl (lv_at hl 0 rfl) ?_
    refine x_get (v := .ref b) (C := RX5) (T := TX5) (N := 4) hx hb hts hi5 hown hK hP 0 rfl rfl 0 (by decide) (hts (.fieldLink RX5 10 "PulseWheel" "bench" "LPulseWheel$Bench;") (by decide +kernel)) rfl rfl dX5_row_1 ?_
    refine lv_iload_n hx hb dX5_row_4 rfl (lv_at hl 1 rfl) ?_
    refine kSQ (va_runVN (As := [.int 0]) (rest := []) ⟨hx, hb, hml, hown, hts⟩ (c_X0_readerAt_0 l D cI cB b A1 A2 t ap r1 r2  _) ⟨va_cnB 1 hts gX5_row_X0_readerAt_n24 rfl rfl rfl (nwm5_24 (args := args) hN) (hts (.initialized RX0) (by decide +kernel)) (by decide +kernel) ⟨Nat.le_of_ble_eq_true rfl, Nat.le_of_ble_eq_true rfl⟩, hts (.instanceMethod yX0_readerAt) (by decide +kernel), hts (.selects RX0 yX0_readerAt yX0_readerAt) (by decide +kernel)⟩ (preV_cut hP hD hK hN (ci := 0) rfl 3 rfl [3, 4, 5, 6, 7, 8, 9, 10, 11, 12, 13, 14, 15, 16, 17, 18, 19, 20, 21] (by decide) rfl) rfl rfl hl.1 rfl (lv_room (Nat.le_of_ble_eq_true rfl)) dX5_row_5 ⟨Nat.zero_le _, Nat.zero_le _⟩) ?_
    show W _ _ _ _ _ _ _ _ _ _ _ _ _ _ _ (F0 m 8 ls (.ref (A1 0) :: _))
    refine lv_astore_n (lv' := [(2, .ref (A1 0)), (0, .ref (P 0)), (1, .int 0)]) hx hb dX5_row_8 rfl hl (by decide) rfl (fun ls hl => ?_)
    refine lv_aload_n hx hb dX5_row_9 rfl (lv_at hl 0 rfl) ?_
    refine lv_ifnonnull (tgt := 17) hx hb dX5_row_10 (by decide) ?_
    refine lv_aload_n hx hb dX5_row_17 rfl (lv_at hl 0 rfl) ?_
    refine x_getN (v := .ref (A1 3)) (C := RX2) (T := TX2) (N := 16) hx hb hts hi2 hown hK hP 4 rfl rfl 2 (by decide) (nwf5_83 (args := args) hN) rfl rfl dX5_row_18 ?_
    refine kSI (va_runVN (As := []) (rest := []) ⟨hx, hb, hml, hown, hts⟩ (c_X1_keptOfOneSort l D cI cB A1 r1  _) ⟨va_cnB 0 hts gX5_row_X1_keptOfOneSort_n120 rfl rfl rfl (nwm5_120 (args := args) hN) (hts (.initialized RX1) (by decide +kernel)) (by decide +kernel) ⟨Nat.le_of_ble_eq_true rfl, Nat.le_of_ble_eq_true rfl⟩, hts (.instanceMethod yX1_keptOfOneSort) (by decide +kernel), hts (.selects RX1 yX1_keptOfOneSort yX1_keptOfOneSort) (by decide +kernel)⟩ (preV_cut hP hD hK hN (ci := 1) rfl 7 rfl [7, 8, 9, 10] (by decide) rfl) rfl rfl hl.1 rfl (lv_room (Nat.le_of_ble_eq_true rfl)) dX5_row_21 ⟨Nat.zero_le _, Nat.zero_le _⟩) ?_
    exact hE _ _ _ (by first | (rw [rdV_0]; done) | (rw [rdV_0]; (first | rfl | (unfold rowV; rw [if_true]; done) | (simp only [rowV]; done) | (simp only [rowV, if_true, if_false]; done) | (simp only [rowV, if_true, if_false, not_true, not_false_iff, reduceIte]; done) | (exfalso; simp_all; done) | (simp [rowV]; done) | (simp_all [rowV]; done)))) rfl dX5_row_24
  by_cases c1 : rd = 1
  · subst c1
    refine lv_aload_n hx hb dX5_row_0 rfl (lv_at hl 0 rfl) ?_
    refine x_get (v := .ref b) (C := RX5) (T := TX5) (N := 4) hx hb hts hi5 hown hK hP 0 rfl rfl 0 (by decide) (hts (.fieldLink RX5 10 "PulseWheel" "bench" "LPulseWheel$Bench;") (by decide +kernel)) rfl rfl dX5_row_1 ?_
    refine lv_iload_n hx hb dX5_row_4 rfl (lv_at hl 1 rfl) ?_
    refine kSQ (va_runVN (As := [.int 1]) (rest := []) ⟨hx, hb, hml, hown, hts⟩ (c_X0_readerAt_1 l D cI cB b A1 A2 t ap r1 r2  _) ⟨va_cnB 1 hts gX5_row_X0_readerAt_n24 rfl rfl rfl (nwm5_24 (args := args) hN) (hts (.initialized RX0) (by decide +kernel)) (by decide +kernel) ⟨Nat.le_of_ble_eq_true rfl, Nat.le_of_ble_eq_true rfl⟩, hts (.instanceMethod yX0_readerAt) (by decide +kernel), hts (.selects RX0 yX0_readerAt yX0_readerAt) (by decide +kernel)⟩ (preV_cut hP hD hK hN (ci := 0) rfl 3 rfl [3, 4, 5, 6, 7, 8, 9, 10, 11, 12, 13, 14, 15, 16, 17, 18, 19, 20, 21] (by decide) rfl) rfl rfl hl.1 rfl (lv_room (Nat.le_of_ble_eq_true rfl)) dX5_row_5 ⟨Nat.zero_le _, Nat.zero_le _⟩) ?_
    show W _ _ _ _ _ _ _ _ _ _ _ _ _ _ _ (F0 m 8 ls (.ref (A2 0) :: _))
    refine lv_astore_n (lv' := [(2, .ref (A2 0)), (0, .ref (P 0)), (1, .int 1)]) hx hb dX5_row_8 rfl hl (by decide) rfl (fun ls hl => ?_)
    refine lv_aload_n hx hb dX5_row_9 rfl (lv_at hl 0 rfl) ?_
    refine lv_ifnonnull (tgt := 17) hx hb dX5_row_10 (by decide) ?_
    refine lv_aload_n hx hb dX5_row_17 rfl (lv_at hl 0 rfl) ?_
    refine x_getN (v := .ref (A2 3)) (C := RX2) (T := TX2) (N := 16) hx hb hts hi2 hown hK hP 13 rfl rfl 2 (by decide) (nwf5_83 (args := args) hN) rfl rfl dX5_row_18 ?_
    refine kSI (va_runVN (As := []) (rest := []) ⟨hx, hb, hml, hown, hts⟩ (c_X1_keptOfOneSort l D cI cB A2 r2  _) ⟨va_cnB 0 hts gX5_row_X1_keptOfOneSort_n120 rfl rfl rfl (nwm5_120 (args := args) hN) (hts (.initialized RX1) (by decide +kernel)) (by decide +kernel) ⟨Nat.le_of_ble_eq_true rfl, Nat.le_of_ble_eq_true rfl⟩, hts (.instanceMethod yX1_keptOfOneSort) (by decide +kernel), hts (.selects RX1 yX1_keptOfOneSort yX1_keptOfOneSort) (by decide +kernel)⟩ (preV_cut hP hD hK hN (ci := 1) rfl 16 rfl [16, 17, 18, 19] (by decide) rfl) rfl rfl hl.1 rfl (lv_room (Nat.le_of_ble_eq_true rfl)) dX5_row_21 ⟨Nat.zero_le _, Nat.zero_le _⟩) ?_
    exact hE _ _ _ (by first | (rw [rdV_1]; done) | (rw [rdV_1]; (first | rfl | (unfold rowV; rw [if_true]; done) | (simp only [rowV]; done) | (simp only [rowV, if_true, if_false]; done) | (simp only [rowV, if_true, if_false, not_true, not_false_iff, reduceIte]; done) | (exfalso; simp_all; done) | (simp [rowV]; done) | (simp_all [rowV]; done)))) rfl dX5_row_24
  refine lv_aload_n hx hb dX5_row_0 rfl (lv_at hl 0 rfl) ?_
  refine x_get (v := .ref b) (C := RX5) (T := TX5) (N := 4) hx hb hts hi5 hown hK hP 0 rfl rfl 0 (by decide) (hts (.fieldLink RX5 10 "PulseWheel" "bench" "LPulseWheel$Bench;") (by decide +kernel)) rfl rfl dX5_row_1 ?_
  refine lv_iload_n hx hb dX5_row_4 rfl (lv_at hl 1 rfl) ?_
  refine kSQ (va_runVN (As := [.int rd]) (rest := []) ⟨hx, hb, hml, hown, hts⟩ (c_X0_readerAt_n l D cI cB b A1 A2 t ap r1 r2 rd c0 c1 _) ⟨va_cnB 1 hts gX5_row_X0_readerAt_n24 rfl rfl rfl (nwm5_24 (args := args) hN) (hts (.initialized RX0) (by decide +kernel)) (by decide +kernel) ⟨Nat.le_of_ble_eq_true rfl, Nat.le_of_ble_eq_true rfl⟩, hts (.instanceMethod yX0_readerAt) (by decide +kernel), hts (.selects RX0 yX0_readerAt yX0_readerAt) (by decide +kernel)⟩ (preV_cut hP hD hK hN (ci := 0) rfl 3 rfl [3, 4, 5, 6, 7, 8, 9, 10, 11, 12, 13, 14, 15, 16, 17, 18, 19, 20, 21] (by decide) rfl) rfl rfl hl.1 rfl (lv_room (Nat.le_of_ble_eq_true rfl)) dX5_row_5 ⟨Nat.zero_le _, Nat.zero_le _⟩) ?_
  show W _ _ _ _ _ _ _ _ _ _ _ _ _ _ _ (F0 m 8 ls (.null :: _))
  refine lv_astore_nN (lv' := [(2, .null), (0, .ref (P 0)), (1, .int rd)]) hx hb dX5_row_8 rfl hl (by decide) rfl (fun ls hl => ?_)
  refine lv_aload_nN hx hb dX5_row_9 rfl (lv_at hl 0 rfl) ?_
  refine lv_ifnonnullN hx hb dX5_row_10 ?_
  refine lv_iconst (v := 0) hx hb dX5_row_13 (by decide) ?_
  refine lv_goto (tgt := 24) hx hb dX5_row_14 (by decide) ?_
  exact hE _ _ _ (by first | (rw [rdV_n c0 c1]; done) | (rw [rdV_n c0 c1]; (first | rfl | (unfold rowV; rw [if_true]; done) | (simp only [rowV]; done) | (simp only [rowV, if_true, if_false]; done) | (simp only [rowV, if_true, if_false, not_true, not_false_iff, reduceIte]; done) | (exfalso; simp_all; done) | (simp [rowV]; done) | (simp_all [rowV]; done)))) rfl dX5_row_24

def rm_X5_wholes : Room := { frames := 1, cells := 0, slots := 0, locals := 21 }
set_option maxHeartbeats 1000000 in
set_option maxRecDepth 100000 in
theorem c_X5_wholes (l : Launch) (D : va_G) (cI cB : ClassId) (P : Nat → Nat) (b : Nat) (A1 : Nat → Nat) (A2 : Nat → Nat) (tw : Int32) (im : Nat → Option Nat) (tp : Nat → Int32) (t : Int32) (ap : Int32) (r1 : Tb) (r2 : Tb) (rd : Int32) : SI l D cI cB yX5_wholes wsX5_wholes rm_X5_wholes [.ref (P 0), .int rd] (pwW P b A1 A2 cI cB tw im tp t ap r1 r2) (rdV rd (r1 7 1) (r2 7 1) (-1)) := by
  refine SI.of (cc := cX5_wholes) (maxL := 3) (ty := .int) (by decide +kernel) rfl (Nat.le_of_ble_eq_true rfl) ?_
  intro p e s m args below meth c ls Q hT hP hD hl hE
  obtain ⟨hx, hb, hr, hlocks, hnm, hml, hown, hts, hK, hN⟩ := hT
  have hl : lv_has ls 3 [(0, .ref (P 0)), (1, .int rd)] := hl
  have hi2 : ∀ w ∈ wsX20, w ∈ wsX5_wholes := by decide +kernel
  have hi4 : ∀ w ∈ wsX40, w ∈ wsX5_wholes := by decide +kernel
  have hi5 : ∀ w ∈ wsX50, w ∈ wsX5_wholes := by decide +kernel
  by_cases c0 : rd = 0
  · subst c0
    refine lv_aload_n hx hb dX5_wholes_0 rfl (lv_at hl 0 rfl) ?_
    refine x_get (v := .ref b) (C := RX5) (T := TX5) (N := 4) hx hb hts hi5 hown hK hP 0 rfl rfl 0 (by decide) (hts (.fieldLink RX5 10 "PulseWheel" "bench" "LPulseWheel$Bench;") (by decide +kernel)) rfl rfl dX5_wholes_1 ?_
    refine lv_iload_n hx hb dX5_wholes_4 rfl (lv_at hl 1 rfl) ?_
    refine kSQ (va_runVN (As := [.int 0]) (rest := []) ⟨hx, hb, hml, hown, hts⟩ (c_X0_readerAt_0 l D cI cB b A1 A2 t ap r1 r2  _) ⟨va_cnB 1 hts gX5_wholes_X0_readerAt_n24 rfl rfl rfl (nwm5_24 (args := args) hN) (hts (.initialized RX0) (by decide +kernel)) (by decide +kernel) ⟨Nat.le_of_ble_eq_true rfl, Nat.le_of_ble_eq_true rfl⟩, hts (.instanceMethod yX0_readerAt) (by decide +kernel), hts (.selects RX0 yX0_readerAt yX0_readerAt) (by decide +kernel)⟩ (preV_cut hP hD hK hN (ci := 0) rfl 3 rfl [3, 4, 5, 6, 7, 8, 9, 10, 11, 12, 13, 14, 15, 16, 17, 18, 19, 20, 21] (by decide) rfl) rfl rfl hl.1 rfl (lv_room (Nat.le_of_ble_eq_true rfl)) dX5_wholes_5 ⟨Nat.zero_le _, Nat.zero_le _⟩) ?_
    show W _ _ _ _ _ _ _ _ _ _ _ _ _ _ _ (F0 m 8 ls (.ref (A1 0) :: _))
    refine lv_astore_n (lv' := [(2, .ref (A1 0)), (0, .ref (P 0)), (1, .int 0)]) hx hb dX5_wholes_8 rfl hl (by decide) rfl (fun ls hl => ?_)
    refine lv_aload_n hx hb dX5_wholes_9 rfl (lv_at hl 0 rfl) ?_
    refine lv_ifnonnull (tgt := 17) hx hb dX5_wholes_10 (by decide) ?_
    refine lv_aload_n hx hb dX5_wholes_17 rfl (lv_at hl 0 rfl) ?_
    refine x_getN (v := .ref (A1 7)) (C := RX2) (T := TX2) (N := 16) hx hb hts hi2 hown hK hP 4 rfl rfl 3 (by decide) (nwf5_142 (args := args) hN) rfl rfl dX5_wholes_18 ?_
    refine x_getN (v := .int (r1 7 1)) (C := RX4) (T := TX4) (N := 3) hx hb hts hi4 hown hK hP 11 rfl rfl 1 (by decide) (nwf5_151 (args := args) hN) rfl rfl dX5_wholes_21 ?_
    exact hE _ _ _ (by first | (rw [rdV_0]; done) | (rw [rdV_0]; (first | rfl | (unfold rdV; rw [if_true]; done) | (simp only [rdV]; done) | (simp only [rdV, if_true, if_false]; done) | (simp only [rdV, if_true, if_false, not_true, not_false_iff, reduceIte]; done) | (exfalso; simp_all; done) | (simp [rdV]; done) | (simp_all [rdV]; done)))) rfl dX5_wholes_24
  by_cases c1 : rd = 1
  · subst c1
    refine lv_aload_n hx hb dX5_wholes_0 rfl (lv_at hl 0 rfl) ?_
    refine x_get (v := .ref b) (C := RX5) (T := TX5) (N := 4) hx hb hts hi5 hown hK hP 0 rfl rfl 0 (by decide) (hts (.fieldLink RX5 10 "PulseWheel" "bench" "LPulseWheel$Bench;") (by decide +kernel)) rfl rfl dX5_wholes_1 ?_
    refine lv_iload_n hx hb dX5_wholes_4 rfl (lv_at hl 1 rfl) ?_
    refine kSQ (va_runVN (As := [.int 1]) (rest := []) ⟨hx, hb, hml, hown, hts⟩ (c_X0_readerAt_1 l D cI cB b A1 A2 t ap r1 r2  _) ⟨va_cnB 1 hts gX5_wholes_X0_readerAt_n24 rfl rfl rfl (nwm5_24 (args := args) hN) (hts (.initialized RX0) (by decide +kernel)) (by decide +kernel) ⟨Nat.le_of_ble_eq_true rfl, Nat.le_of_ble_eq_true rfl⟩, hts (.instanceMethod yX0_readerAt) (by decide +kernel), hts (.selects RX0 yX0_readerAt yX0_readerAt) (by decide +kernel)⟩ (preV_cut hP hD hK hN (ci := 0) rfl 3 rfl [3, 4, 5, 6, 7, 8, 9, 10, 11, 12, 13, 14, 15, 16, 17, 18, 19, 20, 21] (by decide) rfl) rfl rfl hl.1 rfl (lv_room (Nat.le_of_ble_eq_true rfl)) dX5_wholes_5 ⟨Nat.zero_le _, Nat.zero_le _⟩) ?_
    show W _ _ _ _ _ _ _ _ _ _ _ _ _ _ _ (F0 m 8 ls (.ref (A2 0) :: _))
    refine lv_astore_n (lv' := [(2, .ref (A2 0)), (0, .ref (P 0)), (1, .int 1)]) hx hb dX5_wholes_8 rfl hl (by decide) rfl (fun ls hl => ?_)
    refine lv_aload_n hx hb dX5_wholes_9 rfl (lv_at hl 0 rfl) ?_
    refine lv_ifnonnull (tgt := 17) hx hb dX5_wholes_10 (by decide) ?_
    refine lv_aload_n hx hb dX5_wholes_17 rfl (lv_at hl 0 rfl) ?_
    refine x_getN (v := .ref (A2 7)) (C := RX2) (T := TX2) (N := 16) hx hb hts hi2 hown hK hP 13 rfl rfl 3 (by decide) (nwf5_142 (args := args) hN) rfl rfl dX5_wholes_18 ?_
    refine x_getN (v := .int (r2 7 1)) (C := RX4) (T := TX4) (N := 3) hx hb hts hi4 hown hK hP 20 rfl rfl 1 (by decide) (nwf5_151 (args := args) hN) rfl rfl dX5_wholes_21 ?_
    exact hE _ _ _ (by first | (rw [rdV_1]; done) | (rw [rdV_1]; (first | rfl | (unfold rdV; rw [if_true]; done) | (simp only [rdV]; done) | (simp only [rdV, if_true, if_false]; done) | (simp only [rdV, if_true, if_false, not_true, not_false_iff, reduceIte]; done) | (exfalso; simp_all; done) | (simp [rdV]; done) | (simp_all [rdV]; done)))) rfl dX5_wholes_24
  refine lv_aload_n hx hb dX5_wholes_0 rfl (lv_at hl 0 rfl) ?_
  refine x_get (v := .ref b) (C := RX5) (T := TX5) (N := 4) hx hb hts hi5 hown hK hP 0 rfl rfl 0 (by decide) (hts (.fieldLink RX5 10 "PulseWheel" "bench" "LPulseWheel$Bench;") (by decide +kernel)) rfl rfl dX5_wholes_1 ?_
  refine lv_iload_n hx hb dX5_wholes_4 rfl (lv_at hl 1 rfl) ?_
  refine kSQ (va_runVN (As := [.int rd]) (rest := []) ⟨hx, hb, hml, hown, hts⟩ (c_X0_readerAt_n l D cI cB b A1 A2 t ap r1 r2 rd c0 c1 _) ⟨va_cnB 1 hts gX5_wholes_X0_readerAt_n24 rfl rfl rfl (nwm5_24 (args := args) hN) (hts (.initialized RX0) (by decide +kernel)) (by decide +kernel) ⟨Nat.le_of_ble_eq_true rfl, Nat.le_of_ble_eq_true rfl⟩, hts (.instanceMethod yX0_readerAt) (by decide +kernel), hts (.selects RX0 yX0_readerAt yX0_readerAt) (by decide +kernel)⟩ (preV_cut hP hD hK hN (ci := 0) rfl 3 rfl [3, 4, 5, 6, 7, 8, 9, 10, 11, 12, 13, 14, 15, 16, 17, 18, 19, 20, 21] (by decide) rfl) rfl rfl hl.1 rfl (lv_room (Nat.le_of_ble_eq_true rfl)) dX5_wholes_5 ⟨Nat.zero_le _, Nat.zero_le _⟩) ?_
  show W _ _ _ _ _ _ _ _ _ _ _ _ _ _ _ (F0 m 8 ls (.null :: _))
  refine lv_astore_nN (lv' := [(2, .null), (0, .ref (P 0)), (1, .int rd)]) hx hb dX5_wholes_8 rfl hl (by decide) rfl (fun ls hl => ?_)
  refine lv_aload_nN hx hb dX5_wholes_9 rfl (lv_at hl 0 rfl) ?_
  refine lv_ifnonnullN hx hb dX5_wholes_10 ?_
  refine lv_iconst (v := -1) hx hb dX5_wholes_13 (by decide) ?_
  refine lv_goto (tgt := 24) hx hb dX5_wholes_14 (by decide) ?_
  exact hE _ _ _ (by first | (rw [rdV_n c0 c1]; done) | (rw [rdV_n c0 c1]; (first | rfl | (unfold rdV; rw [if_true]; done) | (simp only [rdV]; done) | (simp only [rdV, if_true, if_false]; done) | (simp only [rdV, if_true, if_false, not_true, not_false_iff, reduceIte]; done) | (exfalso; simp_all; done) | (simp [rdV]; done) | (simp_all [rdV]; done)))) rfl dX5_wholes_24

def rm_X5_moved : Room := { frames := 2, cells := 0, slots := 0, locals := 43 }
set_option maxHeartbeats 1000000 in
set_option maxRecDepth 100000 in
theorem c_X5_moved (l : Launch) (D : va_G) (cI cB : ClassId) (P : Nat → Nat) (b : Nat) (A1 : Nat → Nat) (A2 : Nat → Nat) (tw : Int32) (im : Nat → Option Nat) (tp : Nat → Int32) (t : Int32) (ap : Int32) (r1 : Tb) (r2 : Tb) (rd n : Int32) : SI l D cI cB yX5_moved wsX5_moved rm_X5_moved [.ref (P 0), .int rd, .int n] (pwW P b A1 A2 cI cB tw im tp t ap r1 r2) (rdV rd (movedV r1 t n) (movedV r2 t n) (-2000000)) := by
  refine SI.of (cc := cX5_moved) (maxL := 4) (ty := .int) (by decide +kernel) rfl (Nat.le_of_ble_eq_true rfl) ?_
  intro p e s m args below meth c ls Q hT hP hD hl hE
  obtain ⟨hx, hb, hr, hlocks, hnm, hml, hown, hts, hK, hN⟩ := hT
  have hl : lv_has ls 4 [(0, .ref (P 0)), (1, .int rd), (2, .int n)] := hl
  have hi0 : ∀ w ∈ wsX00, w ∈ wsX5_moved := by decide +kernel
  have hi2 : ∀ w ∈ wsX20, w ∈ wsX5_moved := by decide +kernel
  have hi5 : ∀ w ∈ wsX50, w ∈ wsX5_moved := by decide +kernel
  by_cases c0 : rd = 0
  · subst c0
    refine lv_aload_n hx hb dX5_moved_0 rfl (lv_at hl 0 rfl) ?_
    refine x_get (v := .ref b) (C := RX5) (T := TX5) (N := 4) hx hb hts hi5 hown hK hP 0 rfl rfl 0 (by decide) (hts (.fieldLink RX5 10 "PulseWheel" "bench" "LPulseWheel$Bench;") (by decide +kernel)) rfl rfl dX5_moved_1 ?_
    refine lv_iload_n hx hb dX5_moved_4 rfl (lv_at hl 1 rfl) ?_
    refine kSQ (va_runVN (As := [.int 0]) (rest := []) ⟨hx, hb, hml, hown, hts⟩ (c_X0_readerAt_0 l D cI cB b A1 A2 t ap r1 r2  _) ⟨va_cnB 1 hts gX5_moved_X0_readerAt_n24 rfl rfl rfl (nwm5_24 (args := args) hN) (hts (.initialized RX0) (by decide +kernel)) (by decide +kernel) ⟨Nat.le_of_ble_eq_true rfl, Nat.le_of_ble_eq_true rfl⟩, hts (.instanceMethod yX0_readerAt) (by decide +kernel), hts (.selects RX0 yX0_readerAt yX0_readerAt) (by decide +kernel)⟩ (preV_cut hP hD hK hN (ci := 0) rfl 3 rfl [3, 4, 5, 6, 7, 8, 9, 10, 11, 12, 13, 14, 15, 16, 17, 18, 19, 20, 21] (by decide) rfl) rfl rfl hl.1 rfl (lv_room (Nat.le_of_ble_eq_true rfl)) dX5_moved_5 ⟨Nat.zero_le _, Nat.zero_le _⟩) ?_
    show W _ _ _ _ _ _ _ _ _ _ _ _ _ _ _ (F0 m 8 ls (.ref (A1 0) :: _))
    refine lv_astore_n (lv' := [(3, .ref (A1 0)), (0, .ref (P 0)), (1, .int 0), (2, .int n)]) hx hb dX5_moved_8 rfl hl (by decide) rfl (fun ls hl => ?_)
    refine lv_aload_n hx hb dX5_moved_9 rfl (lv_at hl 0 rfl) ?_
    refine lv_ifnull hx hb dX5_moved_10 ?_
    refine lv_iload_n hx hb dX5_moved_13 rfl (lv_at hl 3 rfl) ?_
    refine lv_iconst (v := 1) hx hb dX5_moved_14 (by decide) ?_
    refine lv_icmp_lt (tgt := 41) hx hb dX5_moved_15 (by decide) (fun c_15 => ?_) (fun c_15 => ?_)
    · skip
      refine lv_ldc (v := -2000000) hx hb hown (hts (.constant RX5 67 (-2000000)) (by decide +kernel)) dX5_moved_41 ?_
      exact hE _ _ _ (by first | (rw [rdV_0]; done) | (rw [rdV_0]; (first | rfl | (unfold movedV; rw [if_pos c_15]; done) | (simp only [movedV, if_pos c_15]; done) | (simp only [movedV, c_15, if_true, if_false]; done) | (simp only [movedV, c_15, if_true, if_false, not_true, not_false_iff, reduceIte]; done) | (exfalso; simp_all; done) | (simp [movedV, c_15]; done) | (simp_all [movedV]; done)))) rfl dX5_moved_43
    · skip
      refine lv_iload_n hx hb dX5_moved_18 rfl (lv_at hl 3 rfl) ?_
      refine lv_sipush (v := 500) hx hb dX5_moved_19 (by decide) ?_
      refine lv_icmp_gt (tgt := 41) hx hb dX5_moved_22 (by decide) (fun c_22 => ?_) (fun c_22 => ?_)
      · skip
        refine lv_ldc (v := -2000000) hx hb hown (hts (.constant RX5 67 (-2000000)) (by decide +kernel)) dX5_moved_41 ?_
        exact hE _ _ _ (by first | (rw [rdV_0]; done) | (rw [rdV_0]; (first | rfl | (unfold movedV; rw [if_neg c_15, if_pos c_22]; done) | (simp only [movedV, if_neg c_15, if_pos c_22]; done) | (simp only [movedV, c_15, c_22, if_true, if_false]; done) | (simp only [movedV, c_15, c_22, if_true, if_false, not_true, not_false_iff, reduceIte]; done) | (exfalso; simp_all; done) | (simp [movedV, c_15, c_22]; done) | (simp_all [movedV]; done)))) rfl dX5_moved_43
      · skip
        refine lv_iload_n hx hb dX5_moved_25 rfl (lv_at hl 3 rfl) ?_
        refine lv_aload_n hx hb dX5_moved_26 rfl (lv_at hl 1 rfl) ?_
        refine x_get (v := .ref b) (C := RX5) (T := TX5) (N := 4) hx hb hts hi5 hown hK hP 0 rfl rfl 0 (by decide) (hts (.fieldLink RX5 10 "PulseWheel" "bench" "LPulseWheel$Bench;") (by decide +kernel)) rfl rfl dX5_moved_27 ?_
        refine x_getN (v := .int t) (C := RX0) (T := TX0) (N := 4) hx hb hts hi0 hown hK hP 3 rfl rfl 2 (by decide) (nwf5_34 (args := args) hN) rfl rfl dX5_moved_30 ?_
        refine lv_aload_n hx hb dX5_moved_33 rfl (lv_at hl 0 rfl) ?_
        refine x_getN (v := .int (r1 0 15)) (C := RX2) (T := TX2) (N := 16) hx hb hts hi2 hown hK hP 4 rfl rfl 15 (by decide) (nwf5_136 (args := args) hN) rfl rfl dX5_moved_34 ?_
        refine lv_isub hx hb dX5_moved_37 ?_
        refine lv_icmp_le (tgt := 44) hx hb dX5_moved_38 (by decide) (fun c_38 => ?_) (fun c_38 => ?_)
        · skip
          refine lv_aload_n hx hb dX5_moved_44 rfl (lv_at hl 0 rfl) ?_
          refine x_getN (v := .int (r1 0 7)) (C := RX2) (T := TX2) (N := 16) hx hb hts hi2 hown hK hP 4 rfl rfl 7 (by decide) (nwf5_68 (args := args) hN) rfl rfl dX5_moved_45 ?_
          refine lv_aload_n hx hb dX5_moved_48 rfl (lv_at hl 0 rfl) ?_
          refine lv_aload_n hx hb dX5_moved_49 rfl (lv_at hl 1 rfl) ?_
          refine x_get (v := .ref b) (C := RX5) (T := TX5) (N := 4) hx hb hts hi5 hown hK hP 0 rfl rfl 0 (by decide) (hts (.fieldLink RX5 10 "PulseWheel" "bench" "LPulseWheel$Bench;") (by decide +kernel)) rfl rfl dX5_moved_50 ?_
          refine x_getN (v := .int t) (C := RX0) (T := TX0) (N := 4) hx hb hts hi0 hown hK hP 3 rfl rfl 2 (by decide) (nwf5_34 (args := args) hN) rfl rfl dX5_moved_53 ?_
          refine lv_iload_n hx hb dX5_moved_56 rfl (lv_at hl 3 rfl) ?_
          refine lv_isub hx hb dX5_moved_57 ?_
          refine kSI (va_runVN (As := [.int (t - n)]) (rest := [.int (r1 0 7)]) ⟨hx, hb, hml, hown, hts⟩ (c_X2_placeAfter l D cI cB A1 r1 (t - n)  _) ⟨va_cnB 1 hts gX5_moved_X2_placeAfter_n139 rfl rfl rfl (nwm5_139 (args := args) hN) (hts (.initialized RX2) (by decide +kernel)) (by decide +kernel) ⟨Nat.le_of_ble_eq_true rfl, Nat.le_of_ble_eq_true rfl⟩, hts (.instanceMethod yX2_placeAfter) (by decide +kernel), hts (.selects RX2 yX2_placeAfter yX2_placeAfter) (by decide +kernel)⟩ (preV_cut hP hD hK hN (ci := 2) rfl 4 rfl [4, 5, 6, 7, 8, 9, 10, 11, 12] (by decide) rfl) rfl rfl hl.1 rfl (lv_room (Nat.le_of_ble_eq_true rfl)) dX5_moved_58 ⟨Nat.zero_le _, Nat.zero_le _⟩) ?_
          refine lv_isub hx hb dX5_moved_61 ?_
          exact hE _ _ _ (by first | (rw [rdV_0]; done) | (rw [rdV_0]; (first | rfl | (unfold movedV; rw [if_neg c_15, if_neg c_22, if_pos c_38]; done) | (simp only [movedV, if_neg c_15, if_neg c_22, if_pos c_38]; done) | (simp only [movedV, c_15, c_22, c_38, if_true, if_false]; done) | (simp only [movedV, c_15, c_22, c_38, if_true, if_false, not_true, not_false_iff, reduceIte]; done) | (exfalso; simp_all; done) | (simp [movedV, c_15, c_22, c_38]; done) | (simp_all [movedV]; done)))) rfl dX5_moved_62
        · skip
          refine lv_ldc (v := -2000000) hx hb hown (hts (.constant RX5 67 (-2000000)) (by decide +kernel)) dX5_moved_41 ?_
          exact hE _ _ _ (by first | (rw [rdV_0]; done) | (rw [rdV_0]; (first | rfl | (unfold movedV; rw [if_neg c_15, if_neg c_22, if_neg c_38]; done) | (simp only [movedV, if_neg c_15, if_neg c_22, if_neg c_38]; done) | (simp only [movedV, c_15, c_22, c_38, if_true, if_false]; done) | (simp only [movedV, c_15, c_22, c_38, if_true, if_false, not_true, not_false_iff, reduceIte]; done) | (exfalso; simp_all; done) | (simp [movedV, c_15, c_22, c_38]; done) | (simp_all [movedV]; done)))) rfl dX5_moved_43
  by_cases c1 : rd = 1
  · subst c1
    refine lv_aload_n hx hb dX5_moved_0 rfl (lv_at hl 0 rfl) ?_
    refine x_get (v := .ref b) (C := RX5) (T := TX5) (N := 4) hx hb hts hi5 hown hK hP 0 rfl rfl 0 (by decide) (hts (.fieldLink RX5 10 "PulseWheel" "bench" "LPulseWheel$Bench;") (by decide +kernel)) rfl rfl dX5_moved_1 ?_
    refine lv_iload_n hx hb dX5_moved_4 rfl (lv_at hl 1 rfl) ?_
    refine kSQ (va_runVN (As := [.int 1]) (rest := []) ⟨hx, hb, hml, hown, hts⟩ (c_X0_readerAt_1 l D cI cB b A1 A2 t ap r1 r2  _) ⟨va_cnB 1 hts gX5_moved_X0_readerAt_n24 rfl rfl rfl (nwm5_24 (args := args) hN) (hts (.initialized RX0) (by decide +kernel)) (by decide +kernel) ⟨Nat.le_of_ble_eq_true rfl, Nat.le_of_ble_eq_true rfl⟩, hts (.instanceMethod yX0_readerAt) (by decide +kernel), hts (.selects RX0 yX0_readerAt yX0_readerAt) (by decide +kernel)⟩ (preV_cut hP hD hK hN (ci := 0) rfl 3 rfl [3, 4, 5, 6, 7, 8, 9, 10, 11, 12, 13, 14, 15, 16, 17, 18, 19, 20, 21] (by decide) rfl) rfl rfl hl.1 rfl (lv_room (Nat.le_of_ble_eq_true rfl)) dX5_moved_5 ⟨Nat.zero_le _, Nat.zero_le _⟩) ?_
    show W _ _ _ _ _ _ _ _ _ _ _ _ _ _ _ (F0 m 8 ls (.ref (A2 0) :: _))
    refine lv_astore_n (lv' := [(3, .ref (A2 0)), (0, .ref (P 0)), (1, .int 1), (2, .int n)]) hx hb dX5_moved_8 rfl hl (by decide) rfl (fun ls hl => ?_)
    refine lv_aload_n hx hb dX5_moved_9 rfl (lv_at hl 0 rfl) ?_
    refine lv_ifnull hx hb dX5_moved_10 ?_
    refine lv_iload_n hx hb dX5_moved_13 rfl (lv_at hl 3 rfl) ?_
    refine lv_iconst (v := 1) hx hb dX5_moved_14 (by decide) ?_
    refine lv_icmp_lt (tgt := 41) hx hb dX5_moved_15 (by decide) (fun c_15 => ?_) (fun c_15 => ?_)
    · skip
      refine lv_ldc (v := -2000000) hx hb hown (hts (.constant RX5 67 (-2000000)) (by decide +kernel)) dX5_moved_41 ?_
      exact hE _ _ _ (by first | (rw [rdV_1]; done) | (rw [rdV_1]; (first | rfl | (unfold movedV; rw [if_pos c_15]; done) | (simp only [movedV, if_pos c_15]; done) | (simp only [movedV, c_15, if_true, if_false]; done) | (simp only [movedV, c_15, if_true, if_false, not_true, not_false_iff, reduceIte]; done) | (exfalso; simp_all; done) | (simp [movedV, c_15]; done) | (simp_all [movedV]; done)))) rfl dX5_moved_43
    · skip
      refine lv_iload_n hx hb dX5_moved_18 rfl (lv_at hl 3 rfl) ?_
      refine lv_sipush (v := 500) hx hb dX5_moved_19 (by decide) ?_
      refine lv_icmp_gt (tgt := 41) hx hb dX5_moved_22 (by decide) (fun c_22 => ?_) (fun c_22 => ?_)
      · skip
        refine lv_ldc (v := -2000000) hx hb hown (hts (.constant RX5 67 (-2000000)) (by decide +kernel)) dX5_moved_41 ?_
        exact hE _ _ _ (by first | (rw [rdV_1]; done) | (rw [rdV_1]; (first | rfl | (unfold movedV; rw [if_neg c_15, if_pos c_22]; done) | (simp only [movedV, if_neg c_15, if_pos c_22]; done) | (simp only [movedV, c_15, c_22, if_true, if_false]; done) | (simp only [movedV, c_15, c_22, if_true, if_false, not_true, not_false_iff, reduceIte]; done) | (exfalso; simp_all; done) | (simp [movedV, c_15, c_22]; done) | (simp_all [movedV]; done)))) rfl dX5_moved_43
      · skip
        refine lv_iload_n hx hb dX5_moved_25 rfl (lv_at hl 3 rfl) ?_
        refine lv_aload_n hx hb dX5_moved_26 rfl (lv_at hl 1 rfl) ?_
        refine x_get (v := .ref b) (C := RX5) (T := TX5) (N := 4) hx hb hts hi5 hown hK hP 0 rfl rfl 0 (by decide) (hts (.fieldLink RX5 10 "PulseWheel" "bench" "LPulseWheel$Bench;") (by decide +kernel)) rfl rfl dX5_moved_27 ?_
        refine x_getN (v := .int t) (C := RX0) (T := TX0) (N := 4) hx hb hts hi0 hown hK hP 3 rfl rfl 2 (by decide) (nwf5_34 (args := args) hN) rfl rfl dX5_moved_30 ?_
        refine lv_aload_n hx hb dX5_moved_33 rfl (lv_at hl 0 rfl) ?_
        refine x_getN (v := .int (r2 0 15)) (C := RX2) (T := TX2) (N := 16) hx hb hts hi2 hown hK hP 13 rfl rfl 15 (by decide) (nwf5_136 (args := args) hN) rfl rfl dX5_moved_34 ?_
        refine lv_isub hx hb dX5_moved_37 ?_
        refine lv_icmp_le (tgt := 44) hx hb dX5_moved_38 (by decide) (fun c_38 => ?_) (fun c_38 => ?_)
        · skip
          refine lv_aload_n hx hb dX5_moved_44 rfl (lv_at hl 0 rfl) ?_
          refine x_getN (v := .int (r2 0 7)) (C := RX2) (T := TX2) (N := 16) hx hb hts hi2 hown hK hP 13 rfl rfl 7 (by decide) (nwf5_68 (args := args) hN) rfl rfl dX5_moved_45 ?_
          refine lv_aload_n hx hb dX5_moved_48 rfl (lv_at hl 0 rfl) ?_
          refine lv_aload_n hx hb dX5_moved_49 rfl (lv_at hl 1 rfl) ?_
          refine x_get (v := .ref b) (C := RX5) (T := TX5) (N := 4) hx hb hts hi5 hown hK hP 0 rfl rfl 0 (by decide) (hts (.fieldLink RX5 10 "PulseWheel" "bench" "LPulseWheel$Bench;") (by decide +kernel)) rfl rfl dX5_moved_50 ?_
          refine x_getN (v := .int t) (C := RX0) (T := TX0) (N := 4) hx hb hts hi0 hown hK hP 3 rfl rfl 2 (by decide) (nwf5_34 (args := args) hN) rfl rfl dX5_moved_53 ?_
          refine lv_iload_n hx hb dX5_moved_56 rfl (lv_at hl 3 rfl) ?_
          refine lv_isub hx hb dX5_moved_57 ?_
          refine kSI (va_runVN (As := [.int (t - n)]) (rest := [.int (r2 0 7)]) ⟨hx, hb, hml, hown, hts⟩ (c_X2_placeAfter l D cI cB A2 r2 (t - n)  _) ⟨va_cnB 1 hts gX5_moved_X2_placeAfter_n139 rfl rfl rfl (nwm5_139 (args := args) hN) (hts (.initialized RX2) (by decide +kernel)) (by decide +kernel) ⟨Nat.le_of_ble_eq_true rfl, Nat.le_of_ble_eq_true rfl⟩, hts (.instanceMethod yX2_placeAfter) (by decide +kernel), hts (.selects RX2 yX2_placeAfter yX2_placeAfter) (by decide +kernel)⟩ (preV_cut hP hD hK hN (ci := 2) rfl 13 rfl [13, 14, 15, 16, 17, 18, 19, 20, 21] (by decide) rfl) rfl rfl hl.1 rfl (lv_room (Nat.le_of_ble_eq_true rfl)) dX5_moved_58 ⟨Nat.zero_le _, Nat.zero_le _⟩) ?_
          refine lv_isub hx hb dX5_moved_61 ?_
          exact hE _ _ _ (by first | (rw [rdV_1]; done) | (rw [rdV_1]; (first | rfl | (unfold movedV; rw [if_neg c_15, if_neg c_22, if_pos c_38]; done) | (simp only [movedV, if_neg c_15, if_neg c_22, if_pos c_38]; done) | (simp only [movedV, c_15, c_22, c_38, if_true, if_false]; done) | (simp only [movedV, c_15, c_22, c_38, if_true, if_false, not_true, not_false_iff, reduceIte]; done) | (exfalso; simp_all; done) | (simp [movedV, c_15, c_22, c_38]; done) | (simp_all [movedV]; done)))) rfl dX5_moved_62
        · skip
          refine lv_ldc (v := -2000000) hx hb hown (hts (.constant RX5 67 (-2000000)) (by decide +kernel)) dX5_moved_41 ?_
          exact hE _ _ _ (by first | (rw [rdV_1]; done) | (rw [rdV_1]; (first | rfl | (unfold movedV; rw [if_neg c_15, if_neg c_22, if_neg c_38]; done) | (simp only [movedV, if_neg c_15, if_neg c_22, if_neg c_38]; done) | (simp only [movedV, c_15, c_22, c_38, if_true, if_false]; done) | (simp only [movedV, c_15, c_22, c_38, if_true, if_false, not_true, not_false_iff, reduceIte]; done) | (exfalso; simp_all; done) | (simp [movedV, c_15, c_22, c_38]; done) | (simp_all [movedV]; done)))) rfl dX5_moved_43
  refine lv_aload_n hx hb dX5_moved_0 rfl (lv_at hl 0 rfl) ?_
  refine x_get (v := .ref b) (C := RX5) (T := TX5) (N := 4) hx hb hts hi5 hown hK hP 0 rfl rfl 0 (by decide) (hts (.fieldLink RX5 10 "PulseWheel" "bench" "LPulseWheel$Bench;") (by decide +kernel)) rfl rfl dX5_moved_1 ?_
  refine lv_iload_n hx hb dX5_moved_4 rfl (lv_at hl 1 rfl) ?_
  refine kSQ (va_runVN (As := [.int rd]) (rest := []) ⟨hx, hb, hml, hown, hts⟩ (c_X0_readerAt_n l D cI cB b A1 A2 t ap r1 r2 rd c0 c1 _) ⟨va_cnB 1 hts gX5_moved_X0_readerAt_n24 rfl rfl rfl (nwm5_24 (args := args) hN) (hts (.initialized RX0) (by decide +kernel)) (by decide +kernel) ⟨Nat.le_of_ble_eq_true rfl, Nat.le_of_ble_eq_true rfl⟩, hts (.instanceMethod yX0_readerAt) (by decide +kernel), hts (.selects RX0 yX0_readerAt yX0_readerAt) (by decide +kernel)⟩ (preV_cut hP hD hK hN (ci := 0) rfl 3 rfl [3, 4, 5, 6, 7, 8, 9, 10, 11, 12, 13, 14, 15, 16, 17, 18, 19, 20, 21] (by decide) rfl) rfl rfl hl.1 rfl (lv_room (Nat.le_of_ble_eq_true rfl)) dX5_moved_5 ⟨Nat.zero_le _, Nat.zero_le _⟩) ?_
  show W _ _ _ _ _ _ _ _ _ _ _ _ _ _ _ (F0 m 8 ls (.null :: _))
  refine lv_astore_nN (lv' := [(3, .null), (0, .ref (P 0)), (1, .int rd), (2, .int n)]) hx hb dX5_moved_8 rfl hl (by decide) rfl (fun ls hl => ?_)
  refine lv_aload_nN hx hb dX5_moved_9 rfl (lv_at hl 0 rfl) ?_
  refine lv_ifnullN (tgt := 41) hx hb dX5_moved_10 (by decide) ?_
  refine lv_ldc (v := -2000000) hx hb hown (hts (.constant RX5 67 (-2000000)) (by decide +kernel)) dX5_moved_41 ?_
  exact hE _ _ _ (by first | (rw [rdV_n c0 c1]; done) | (rw [rdV_n c0 c1]; (first | rfl | (unfold movedV; rw [if_true]; done) | (simp only [movedV]; done) | (simp only [movedV, if_true, if_false]; done) | (simp only [movedV, if_true, if_false, not_true, not_false_iff, reduceIte]; done) | (exfalso; simp_all; done) | (simp [movedV]; done) | (simp_all [movedV]; done)))) rfl dX5_moved_43

def rm_X5_tooth : Room := { frames := 1, cells := 0, slots := 0, locals := 21 }
set_option maxHeartbeats 1000000 in
set_option maxRecDepth 100000 in
theorem c_X5_tooth (l : Launch) (D : va_G) (cI cB : ClassId) (P : Nat → Nat) (b : Nat) (A1 : Nat → Nat) (A2 : Nat → Nat) (tw : Int32) (im : Nat → Option Nat) (tp : Nat → Int32) (t : Int32) (ap : Int32) (r1 : Tb) (r2 : Tb) (rd k : Int32) : SI l D cI cB yX5_tooth wsX5_tooth rm_X5_tooth [.ref (P 0), .int rd, .int k] (pwW P b A1 A2 cI cB tw im tp t ap r1 r2) (rdV rd (toothV r1 k) (toothV r2 k) (-1)) := by
  refine SI.of (cc := cX5_tooth) (maxL := 4) (ty := .int) (by decide +kernel) rfl (Nat.le_of_ble_eq_true rfl) ?_
  intro p e s m args below meth c ls Q hT hP hD hl hE
  obtain ⟨hx, hb, hr, hlocks, hnm, hml, hown, hts, hK, hN⟩ := hT
  have hl : lv_has ls 4 [(0, .ref (P 0)), (1, .int rd), (2, .int k)] := hl
  have hi2 : ∀ w ∈ wsX20, w ∈ wsX5_tooth := by decide +kernel
  have hi5 : ∀ w ∈ wsX50, w ∈ wsX5_tooth := by decide +kernel
  by_cases c0 : rd = 0
  · subst c0
    refine lv_aload_n hx hb dX5_tooth_0 rfl (lv_at hl 0 rfl) ?_
    refine x_get (v := .ref b) (C := RX5) (T := TX5) (N := 4) hx hb hts hi5 hown hK hP 0 rfl rfl 0 (by decide) (hts (.fieldLink RX5 10 "PulseWheel" "bench" "LPulseWheel$Bench;") (by decide +kernel)) rfl rfl dX5_tooth_1 ?_
    refine lv_iload_n hx hb dX5_tooth_4 rfl (lv_at hl 1 rfl) ?_
    refine kSQ (va_runVN (As := [.int 0]) (rest := []) ⟨hx, hb, hml, hown, hts⟩ (c_X0_readerAt_0 l D cI cB b A1 A2 t ap r1 r2  _) ⟨va_cnB 1 hts gX5_tooth_X0_readerAt_n24 rfl rfl rfl (nwm5_24 (args := args) hN) (hts (.initialized RX0) (by decide +kernel)) (by decide +kernel) ⟨Nat.le_of_ble_eq_true rfl, Nat.le_of_ble_eq_true rfl⟩, hts (.instanceMethod yX0_readerAt) (by decide +kernel), hts (.selects RX0 yX0_readerAt yX0_readerAt) (by decide +kernel)⟩ (preV_cut hP hD hK hN (ci := 0) rfl 3 rfl [3, 4, 5, 6, 7, 8, 9, 10, 11, 12, 13, 14, 15, 16, 17, 18, 19, 20, 21] (by decide) rfl) rfl rfl hl.1 rfl (lv_room (Nat.le_of_ble_eq_true rfl)) dX5_tooth_5 ⟨Nat.zero_le _, Nat.zero_le _⟩) ?_
    show W _ _ _ _ _ _ _ _ _ _ _ _ _ _ _ (F0 m 8 ls (.ref (A1 0) :: _))
    refine lv_astore_n (lv' := [(3, .ref (A1 0)), (0, .ref (P 0)), (1, .int 0), (2, .int k)]) hx hb dX5_tooth_8 rfl hl (by decide) rfl (fun ls hl => ?_)
    refine lv_aload_n hx hb dX5_tooth_9 rfl (lv_at hl 0 rfl) ?_
    refine lv_ifnull hx hb dX5_tooth_10 ?_
    refine lv_iload_n hx hb dX5_tooth_13 rfl (lv_at hl 3 rfl) ?_
    refine lv_if_lt (tgt := 25) hx hb dX5_tooth_14 (by decide) (fun c_14 => ?_) (fun c_14 => ?_)
    · skip
      refine lv_iconst (v := -1) hx hb dX5_tooth_25 (by decide) ?_
      exact hE _ _ _ (by first | (rw [rdV_0]; done) | (rw [rdV_0]; (first | rfl | (unfold toothV; rw [if_pos c_14]; done) | (simp only [toothV, if_pos c_14]; done) | (simp only [toothV, c_14, if_true, if_false]; done) | (simp only [toothV, c_14, if_true, if_false, not_true, not_false_iff, reduceIte]; done) | (exfalso; simp_all; done) | (simp [toothV, c_14]; done) | (simp_all [toothV]; done)))) rfl dX5_tooth_26
    · skip
      refine lv_iload_n hx hb dX5_tooth_17 rfl (lv_at hl 3 rfl) ?_
      refine lv_aload_n hx hb dX5_tooth_18 rfl (lv_at hl 0 rfl) ?_
      refine x_getN (v := .int (r1 0 5)) (C := RX2) (T := TX2) (N := 16) hx hb hts hi2 hown hK hP 4 rfl rfl 5 (by decide) (nwf5_41 (args := args) hN) rfl rfl dX5_tooth_19 ?_
      refine lv_icmp_lt (tgt := 27) hx hb dX5_tooth_22 (by decide) (fun c_22 => ?_) (fun c_22 => ?_)
      · skip
        refine lv_aload_n hx hb dX5_tooth_27 rfl (lv_at hl 0 rfl) ?_
        refine x_getN (v := .ref (A1 7)) (C := RX2) (T := TX2) (N := 16) hx hb hts hi2 hown hK hP 4 rfl rfl 3 (by decide) (nwf5_142 (args := args) hN) rfl rfl dX5_tooth_28 ?_
        refine lv_iload_n hx hb dX5_tooth_31 rfl (lv_at hl 3 rfl) ?_
        refine kSI (va_runVN (As := [.int k]) (rest := []) ⟨hx, hb, hml, hown, hts⟩ (c_X4_sumAt l D cI cB A1 r1 k  _) ⟨va_cnB 1 hts gX5_tooth_X4_sumAt_n146 rfl rfl rfl (nwm5_146 (args := args) hN) (hts (.initialized RX4) (by decide +kernel)) (by decide +kernel) ⟨Nat.le_of_ble_eq_true rfl, Nat.le_of_ble_eq_true rfl⟩, hts (.instanceMethod yX4_sumAt) (by decide +kernel), hts (.selects RX4 yX4_sumAt yX4_sumAt) (by decide +kernel)⟩ (preV_cut hP hD hK hN (ci := 4) rfl 11 rfl [11, 12] (by decide) rfl) rfl rfl hl.1 rfl (lv_room (Nat.le_of_ble_eq_true rfl)) dX5_tooth_32 ⟨Nat.zero_le _, Nat.zero_le _⟩) ?_
        exact hE _ _ _ (by first | (rw [rdV_0]; done) | (rw [rdV_0]; (first | rfl | (unfold toothV; rw [if_neg c_14, if_pos c_22]; done) | (simp only [toothV, if_neg c_14, if_pos c_22]; done) | (simp only [toothV, c_14, c_22, if_true, if_false]; done) | (simp only [toothV, c_14, c_22, if_true, if_false, not_true, not_false_iff, reduceIte]; done) | (exfalso; simp_all; done) | (simp [toothV, c_14, c_22]; done) | (simp_all [toothV]; done)))) rfl dX5_tooth_35
      · skip
        refine lv_iconst (v := -1) hx hb dX5_tooth_25 (by decide) ?_
        exact hE _ _ _ (by first | (rw [rdV_0]; done) | (rw [rdV_0]; (first | rfl | (unfold toothV; rw [if_neg c_14, if_neg c_22]; done) | (simp only [toothV, if_neg c_14, if_neg c_22]; done) | (simp only [toothV, c_14, c_22, if_true, if_false]; done) | (simp only [toothV, c_14, c_22, if_true, if_false, not_true, not_false_iff, reduceIte]; done) | (exfalso; simp_all; done) | (simp [toothV, c_14, c_22]; done) | (simp_all [toothV]; done)))) rfl dX5_tooth_26
  by_cases c1 : rd = 1
  · subst c1
    refine lv_aload_n hx hb dX5_tooth_0 rfl (lv_at hl 0 rfl) ?_
    refine x_get (v := .ref b) (C := RX5) (T := TX5) (N := 4) hx hb hts hi5 hown hK hP 0 rfl rfl 0 (by decide) (hts (.fieldLink RX5 10 "PulseWheel" "bench" "LPulseWheel$Bench;") (by decide +kernel)) rfl rfl dX5_tooth_1 ?_
    refine lv_iload_n hx hb dX5_tooth_4 rfl (lv_at hl 1 rfl) ?_
    refine kSQ (va_runVN (As := [.int 1]) (rest := []) ⟨hx, hb, hml, hown, hts⟩ (c_X0_readerAt_1 l D cI cB b A1 A2 t ap r1 r2  _) ⟨va_cnB 1 hts gX5_tooth_X0_readerAt_n24 rfl rfl rfl (nwm5_24 (args := args) hN) (hts (.initialized RX0) (by decide +kernel)) (by decide +kernel) ⟨Nat.le_of_ble_eq_true rfl, Nat.le_of_ble_eq_true rfl⟩, hts (.instanceMethod yX0_readerAt) (by decide +kernel), hts (.selects RX0 yX0_readerAt yX0_readerAt) (by decide +kernel)⟩ (preV_cut hP hD hK hN (ci := 0) rfl 3 rfl [3, 4, 5, 6, 7, 8, 9, 10, 11, 12, 13, 14, 15, 16, 17, 18, 19, 20, 21] (by decide) rfl) rfl rfl hl.1 rfl (lv_room (Nat.le_of_ble_eq_true rfl)) dX5_tooth_5 ⟨Nat.zero_le _, Nat.zero_le _⟩) ?_
    show W _ _ _ _ _ _ _ _ _ _ _ _ _ _ _ (F0 m 8 ls (.ref (A2 0) :: _))
    refine lv_astore_n (lv' := [(3, .ref (A2 0)), (0, .ref (P 0)), (1, .int 1), (2, .int k)]) hx hb dX5_tooth_8 rfl hl (by decide) rfl (fun ls hl => ?_)
    refine lv_aload_n hx hb dX5_tooth_9 rfl (lv_at hl 0 rfl) ?_
    refine lv_ifnull hx hb dX5_tooth_10 ?_
    refine lv_iload_n hx hb dX5_tooth_13 rfl (lv_at hl 3 rfl) ?_
    refine lv_if_lt (tgt := 25) hx hb dX5_tooth_14 (by decide) (fun c_14 => ?_) (fun c_14 => ?_)
    · skip
      refine lv_iconst (v := -1) hx hb dX5_tooth_25 (by decide) ?_
      exact hE _ _ _ (by first | (rw [rdV_1]; done) | (rw [rdV_1]; (first | rfl | (unfold toothV; rw [if_pos c_14]; done) | (simp only [toothV, if_pos c_14]; done) | (simp only [toothV, c_14, if_true, if_false]; done) | (simp only [toothV, c_14, if_true, if_false, not_true, not_false_iff, reduceIte]; done) | (exfalso; simp_all; done) | (simp [toothV, c_14]; done) | (simp_all [toothV]; done)))) rfl dX5_tooth_26
    · skip
      refine lv_iload_n hx hb dX5_tooth_17 rfl (lv_at hl 3 rfl) ?_
      refine lv_aload_n hx hb dX5_tooth_18 rfl (lv_at hl 0 rfl) ?_
      refine x_getN (v := .int (r2 0 5)) (C := RX2) (T := TX2) (N := 16) hx hb hts hi2 hown hK hP 13 rfl rfl 5 (by decide) (nwf5_41 (args := args) hN) rfl rfl dX5_tooth_19 ?_
      refine lv_icmp_lt (tgt := 27) hx hb dX5_tooth_22 (by decide) (fun c_22 => ?_) (fun c_22 => ?_)
      · skip
        refine lv_aload_n hx hb dX5_tooth_27 rfl (lv_at hl 0 rfl) ?_
        refine x_getN (v := .ref (A2 7)) (C := RX2) (T := TX2) (N := 16) hx hb hts hi2 hown hK hP 13 rfl rfl 3 (by decide) (nwf5_142 (args := args) hN) rfl rfl dX5_tooth_28 ?_
        refine lv_iload_n hx hb dX5_tooth_31 rfl (lv_at hl 3 rfl) ?_
        refine kSI (va_runVN (As := [.int k]) (rest := []) ⟨hx, hb, hml, hown, hts⟩ (c_X4_sumAt l D cI cB A2 r2 k  _) ⟨va_cnB 1 hts gX5_tooth_X4_sumAt_n146 rfl rfl rfl (nwm5_146 (args := args) hN) (hts (.initialized RX4) (by decide +kernel)) (by decide +kernel) ⟨Nat.le_of_ble_eq_true rfl, Nat.le_of_ble_eq_true rfl⟩, hts (.instanceMethod yX4_sumAt) (by decide +kernel), hts (.selects RX4 yX4_sumAt yX4_sumAt) (by decide +kernel)⟩ (preV_cut hP hD hK hN (ci := 4) rfl 20 rfl [20, 21] (by decide) rfl) rfl rfl hl.1 rfl (lv_room (Nat.le_of_ble_eq_true rfl)) dX5_tooth_32 ⟨Nat.zero_le _, Nat.zero_le _⟩) ?_
        exact hE _ _ _ (by first | (rw [rdV_1]; done) | (rw [rdV_1]; (first | rfl | (unfold toothV; rw [if_neg c_14, if_pos c_22]; done) | (simp only [toothV, if_neg c_14, if_pos c_22]; done) | (simp only [toothV, c_14, c_22, if_true, if_false]; done) | (simp only [toothV, c_14, c_22, if_true, if_false, not_true, not_false_iff, reduceIte]; done) | (exfalso; simp_all; done) | (simp [toothV, c_14, c_22]; done) | (simp_all [toothV]; done)))) rfl dX5_tooth_35
      · skip
        refine lv_iconst (v := -1) hx hb dX5_tooth_25 (by decide) ?_
        exact hE _ _ _ (by first | (rw [rdV_1]; done) | (rw [rdV_1]; (first | rfl | (unfold toothV; rw [if_neg c_14, if_neg c_22]; done) | (simp only [toothV, if_neg c_14, if_neg c_22]; done) | (simp only [toothV, c_14, c_22, if_true, if_false]; done) | (simp only [toothV, c_14, c_22, if_true, if_false, not_true, not_false_iff, reduceIte]; done) | (exfalso; simp_all; done) | (simp [toothV, c_14, c_22]; done) | (simp_all [toothV]; done)))) rfl dX5_tooth_26
  refine lv_aload_n hx hb dX5_tooth_0 rfl (lv_at hl 0 rfl) ?_
  refine x_get (v := .ref b) (C := RX5) (T := TX5) (N := 4) hx hb hts hi5 hown hK hP 0 rfl rfl 0 (by decide) (hts (.fieldLink RX5 10 "PulseWheel" "bench" "LPulseWheel$Bench;") (by decide +kernel)) rfl rfl dX5_tooth_1 ?_
  refine lv_iload_n hx hb dX5_tooth_4 rfl (lv_at hl 1 rfl) ?_
  refine kSQ (va_runVN (As := [.int rd]) (rest := []) ⟨hx, hb, hml, hown, hts⟩ (c_X0_readerAt_n l D cI cB b A1 A2 t ap r1 r2 rd c0 c1 _) ⟨va_cnB 1 hts gX5_tooth_X0_readerAt_n24 rfl rfl rfl (nwm5_24 (args := args) hN) (hts (.initialized RX0) (by decide +kernel)) (by decide +kernel) ⟨Nat.le_of_ble_eq_true rfl, Nat.le_of_ble_eq_true rfl⟩, hts (.instanceMethod yX0_readerAt) (by decide +kernel), hts (.selects RX0 yX0_readerAt yX0_readerAt) (by decide +kernel)⟩ (preV_cut hP hD hK hN (ci := 0) rfl 3 rfl [3, 4, 5, 6, 7, 8, 9, 10, 11, 12, 13, 14, 15, 16, 17, 18, 19, 20, 21] (by decide) rfl) rfl rfl hl.1 rfl (lv_room (Nat.le_of_ble_eq_true rfl)) dX5_tooth_5 ⟨Nat.zero_le _, Nat.zero_le _⟩) ?_
  show W _ _ _ _ _ _ _ _ _ _ _ _ _ _ _ (F0 m 8 ls (.null :: _))
  refine lv_astore_nN (lv' := [(3, .null), (0, .ref (P 0)), (1, .int rd), (2, .int k)]) hx hb dX5_tooth_8 rfl hl (by decide) rfl (fun ls hl => ?_)
  refine lv_aload_nN hx hb dX5_tooth_9 rfl (lv_at hl 0 rfl) ?_
  refine lv_ifnullN (tgt := 25) hx hb dX5_tooth_10 (by decide) ?_
  refine lv_iconst (v := -1) hx hb dX5_tooth_25 (by decide) ?_
  exact hE _ _ _ (by first | (rw [rdV_n c0 c1]; done) | (rw [rdV_n c0 c1]; (first | rfl | (unfold toothV; rw [if_true]; done) | (simp only [toothV]; done) | (simp only [toothV, if_true, if_false]; done) | (simp only [toothV, if_true, if_false, not_true, not_false_iff, reduceIte]; done) | (exfalso; simp_all; done) | (simp [toothV]; done) | (simp_all [toothV]; done)))) rfl dX5_tooth_26

def rm_X5_widest : Room := { frames := 1, cells := 0, slots := 0, locals := 23 }
set_option maxHeartbeats 1000000 in
set_option maxRecDepth 100000 in
theorem c_X5_widest (l : Launch) (D : va_G) (cI cB : ClassId) (P : Nat → Nat) (b : Nat) (A1 : Nat → Nat) (A2 : Nat → Nat) (tw : Int32) (im : Nat → Option Nat) (tp : Nat → Int32) (t : Int32) (ap : Int32) (r1 : Tb) (r2 : Tb) (rd : Int32) : SI l D cI cB yX5_widest wsX5_widest rm_X5_widest [.ref (P 0), .int rd] (pwW P b A1 A2 cI cB tw im tp t ap r1 r2) (rdV rd (widestV r1) (widestV r2) (-1)) := by
  refine SI.of (cc := cX5_widest) (maxL := 3) (ty := .int) (by decide +kernel) rfl (Nat.le_of_ble_eq_true rfl) ?_
  intro p e s m args below meth c ls Q hT hP hD hl hE
  obtain ⟨hx, hb, hr, hlocks, hnm, hml, hown, hts, hK, hN⟩ := hT
  have hl : lv_has ls 3 [(0, .ref (P 0)), (1, .int rd)] := hl
  have hi2 : ∀ w ∈ wsX20, w ∈ wsX5_widest := by decide +kernel
  have hi4 : ∀ w ∈ wsX40, w ∈ wsX5_widest := by decide +kernel
  have hi5 : ∀ w ∈ wsX50, w ∈ wsX5_widest := by decide +kernel
  by_cases c0 : rd = 0
  · subst c0
    refine lv_aload_n hx hb dX5_widest_0 rfl (lv_at hl 0 rfl) ?_
    refine x_get (v := .ref b) (C := RX5) (T := TX5) (N := 4) hx hb hts hi5 hown hK hP 0 rfl rfl 0 (by decide) (hts (.fieldLink RX5 10 "PulseWheel" "bench" "LPulseWheel$Bench;") (by decide +kernel)) rfl rfl dX5_widest_1 ?_
    refine lv_iload_n hx hb dX5_widest_4 rfl (lv_at hl 1 rfl) ?_
    refine kSQ (va_runVN (As := [.int 0]) (rest := []) ⟨hx, hb, hml, hown, hts⟩ (c_X0_readerAt_0 l D cI cB b A1 A2 t ap r1 r2  _) ⟨va_cnB 1 hts gX5_widest_X0_readerAt_n24 rfl rfl rfl (nwm5_24 (args := args) hN) (hts (.initialized RX0) (by decide +kernel)) (by decide +kernel) ⟨Nat.le_of_ble_eq_true rfl, Nat.le_of_ble_eq_true rfl⟩, hts (.instanceMethod yX0_readerAt) (by decide +kernel), hts (.selects RX0 yX0_readerAt yX0_readerAt) (by decide +kernel)⟩ (preV_cut hP hD hK hN (ci := 0) rfl 3 rfl [3, 4, 5, 6, 7, 8, 9, 10, 11, 12, 13, 14, 15, 16, 17, 18, 19, 20, 21] (by decide) rfl) rfl rfl hl.1 rfl (lv_room (Nat.le_of_ble_eq_true rfl)) dX5_widest_5 ⟨Nat.zero_le _, Nat.zero_le _⟩) ?_
    show W _ _ _ _ _ _ _ _ _ _ _ _ _ _ _ (F0 m 8 ls (.ref (A1 0) :: _))
    refine lv_astore_n (lv' := [(2, .ref (A1 0)), (0, .ref (P 0)), (1, .int 0)]) hx hb dX5_widest_8 rfl hl (by decide) rfl (fun ls hl => ?_)
    refine lv_aload_n hx hb dX5_widest_9 rfl (lv_at hl 0 rfl) ?_
    refine lv_ifnull hx hb dX5_widest_10 ?_
    refine lv_aload_n hx hb dX5_widest_13 rfl (lv_at hl 0 rfl) ?_
    refine x_getN (v := .ref (A1 7)) (C := RX2) (T := TX2) (N := 16) hx hb hts hi2 hown hK hP 4 rfl rfl 3 (by decide) (nwf5_142 (args := args) hN) rfl rfl dX5_widest_14 ?_
    refine x_getN (v := .int (r1 7 1)) (C := RX4) (T := TX4) (N := 3) hx hb hts hi4 hown hK hP 11 rfl rfl 1 (by decide) (nwf5_151 (args := args) hN) rfl rfl dX5_widest_17 ?_
    refine lv_if_ne (tgt := 25) hx hb dX5_widest_20 (by decide) (fun c_20 => ?_) (fun c_20 => ?_)
    · skip
      refine lv_aload_n hx hb dX5_widest_25 rfl (lv_at hl 0 rfl) ?_
      refine x_getN (v := .ref (A1 7)) (C := RX2) (T := TX2) (N := 16) hx hb hts hi2 hown hK hP 4 rfl rfl 3 (by decide) (nwf5_142 (args := args) hN) rfl rfl dX5_widest_26 ?_
      refine lv_aload_n hx hb dX5_widest_29 rfl (lv_at hl 0 rfl) ?_
      refine x_getN (v := .int (r1 0 5)) (C := RX2) (T := TX2) (N := 16) hx hb hts hi2 hown hK hP 4 rfl rfl 5 (by decide) (nwf5_41 (args := args) hN) rfl rfl dX5_widest_30 ?_
      refine kSI (va_runVN (As := [.int (r1 0 5)]) (rest := []) ⟨hx, hb, hml, hown, hts⟩ (c_X4_firstGreatest l D cI cB A1 r1 (r1 0 5)  _) ⟨va_cnB 1 hts gX5_widest_X4_firstGreatest_n154 rfl rfl rfl (nwm5_154 (args := args) hN) (hts (.initialized RX4) (by decide +kernel)) (by decide +kernel) ⟨Nat.le_of_ble_eq_true rfl, Nat.le_of_ble_eq_true rfl⟩, hts (.instanceMethod yX4_firstGreatest) (by decide +kernel), hts (.selects RX4 yX4_firstGreatest yX4_firstGreatest) (by decide +kernel)⟩ (preV_cut hP hD hK hN (ci := 4) rfl 11 rfl [11, 12] (by decide) rfl) rfl rfl hl.1 rfl (lv_room (Nat.le_of_ble_eq_true rfl)) dX5_widest_33 ⟨Nat.zero_le _, Nat.zero_le _⟩) ?_
      exact hE _ _ _ (by first | (rw [rdV_0]; done) | (rw [rdV_0]; (first | rfl | (unfold widestV; rw [if_neg c_20]; done) | (simp only [widestV, if_neg c_20]; done) | (simp only [widestV, c_20, if_true, if_false]; done) | (simp only [widestV, c_20, if_true, if_false, not_true, not_false_iff, reduceIte]; done) | (exfalso; simp_all; done) | (simp [widestV, c_20]; done) | (simp_all [widestV]; done)))) rfl dX5_widest_36
    · skip
      refine lv_iconst (v := -1) hx hb dX5_widest_23 (by decide) ?_
      exact hE _ _ _ (by first | (rw [rdV_0]; done) | (rw [rdV_0]; (first | rfl | (unfold widestV; rw [if_pos c_20]; done) | (simp only [widestV, if_pos c_20]; done) | (simp only [widestV, c_20, if_true, if_false]; done) | (simp only [widestV, c_20, if_true, if_false, not_true, not_false_iff, reduceIte]; done) | (exfalso; simp_all; done) | (simp [widestV, c_20]; done) | (simp_all [widestV]; done)))) rfl dX5_widest_24
  by_cases c1 : rd = 1
  · subst c1
    refine lv_aload_n hx hb dX5_widest_0 rfl (lv_at hl 0 rfl) ?_
    refine x_get (v := .ref b) (C := RX5) (T := TX5) (N := 4) hx hb hts hi5 hown hK hP 0 rfl rfl 0 (by decide) (hts (.fieldLink RX5 10 "PulseWheel" "bench" "LPulseWheel$Bench;") (by decide +kernel)) rfl rfl dX5_widest_1 ?_
    refine lv_iload_n hx hb dX5_widest_4 rfl (lv_at hl 1 rfl) ?_
    refine kSQ (va_runVN (As := [.int 1]) (rest := []) ⟨hx, hb, hml, hown, hts⟩ (c_X0_readerAt_1 l D cI cB b A1 A2 t ap r1 r2  _) ⟨va_cnB 1 hts gX5_widest_X0_readerAt_n24 rfl rfl rfl (nwm5_24 (args := args) hN) (hts (.initialized RX0) (by decide +kernel)) (by decide +kernel) ⟨Nat.le_of_ble_eq_true rfl, Nat.le_of_ble_eq_true rfl⟩, hts (.instanceMethod yX0_readerAt) (by decide +kernel), hts (.selects RX0 yX0_readerAt yX0_readerAt) (by decide +kernel)⟩ (preV_cut hP hD hK hN (ci := 0) rfl 3 rfl [3, 4, 5, 6, 7, 8, 9, 10, 11, 12, 13, 14, 15, 16, 17, 18, 19, 20, 21] (by decide) rfl) rfl rfl hl.1 rfl (lv_room (Nat.le_of_ble_eq_true rfl)) dX5_widest_5 ⟨Nat.zero_le _, Nat.zero_le _⟩) ?_
    show W _ _ _ _ _ _ _ _ _ _ _ _ _ _ _ (F0 m 8 ls (.ref (A2 0) :: _))
    refine lv_astore_n (lv' := [(2, .ref (A2 0)), (0, .ref (P 0)), (1, .int 1)]) hx hb dX5_widest_8 rfl hl (by decide) rfl (fun ls hl => ?_)
    refine lv_aload_n hx hb dX5_widest_9 rfl (lv_at hl 0 rfl) ?_
    refine lv_ifnull hx hb dX5_widest_10 ?_
    refine lv_aload_n hx hb dX5_widest_13 rfl (lv_at hl 0 rfl) ?_
    refine x_getN (v := .ref (A2 7)) (C := RX2) (T := TX2) (N := 16) hx hb hts hi2 hown hK hP 13 rfl rfl 3 (by decide) (nwf5_142 (args := args) hN) rfl rfl dX5_widest_14 ?_
    refine x_getN (v := .int (r2 7 1)) (C := RX4) (T := TX4) (N := 3) hx hb hts hi4 hown hK hP 20 rfl rfl 1 (by decide) (nwf5_151 (args := args) hN) rfl rfl dX5_widest_17 ?_
    refine lv_if_ne (tgt := 25) hx hb dX5_widest_20 (by decide) (fun c_20 => ?_) (fun c_20 => ?_)
    · skip
      refine lv_aload_n hx hb dX5_widest_25 rfl (lv_at hl 0 rfl) ?_
      refine x_getN (v := .ref (A2 7)) (C := RX2) (T := TX2) (N := 16) hx hb hts hi2 hown hK hP 13 rfl rfl 3 (by decide) (nwf5_142 (args := args) hN) rfl rfl dX5_widest_26 ?_
      refine lv_aload_n hx hb dX5_widest_29 rfl (lv_at hl 0 rfl) ?_
      refine x_getN (v := .int (r2 0 5)) (C := RX2) (T := TX2) (N := 16) hx hb hts hi2 hown hK hP 13 rfl rfl 5 (by decide) (nwf5_41 (args := args) hN) rfl rfl dX5_widest_30 ?_
      refine kSI (va_runVN (As := [.int (r2 0 5)]) (rest := []) ⟨hx, hb, hml, hown, hts⟩ (c_X4_firstGreatest l D cI cB A2 r2 (r2 0 5)  _) ⟨va_cnB 1 hts gX5_widest_X4_firstGreatest_n154 rfl rfl rfl (nwm5_154 (args := args) hN) (hts (.initialized RX4) (by decide +kernel)) (by decide +kernel) ⟨Nat.le_of_ble_eq_true rfl, Nat.le_of_ble_eq_true rfl⟩, hts (.instanceMethod yX4_firstGreatest) (by decide +kernel), hts (.selects RX4 yX4_firstGreatest yX4_firstGreatest) (by decide +kernel)⟩ (preV_cut hP hD hK hN (ci := 4) rfl 20 rfl [20, 21] (by decide) rfl) rfl rfl hl.1 rfl (lv_room (Nat.le_of_ble_eq_true rfl)) dX5_widest_33 ⟨Nat.zero_le _, Nat.zero_le _⟩) ?_
      exact hE _ _ _ (by first | (rw [rdV_1]; done) | (rw [rdV_1]; (first | rfl | (unfold widestV; rw [if_neg c_20]; done) | (simp only [widestV, if_neg c_20]; done) | (simp only [widestV, c_20, if_true, if_false]; done) | (simp only [widestV, c_20, if_true, if_false, not_true, not_false_iff, reduceIte]; done) | (exfalso; simp_all; done) | (simp [widestV, c_20]; done) | (simp_all [widestV]; done)))) rfl dX5_widest_36
    · skip
      refine lv_iconst (v := -1) hx hb dX5_widest_23 (by decide) ?_
      exact hE _ _ _ (by first | (rw [rdV_1]; done) | (rw [rdV_1]; (first | rfl | (unfold widestV; rw [if_pos c_20]; done) | (simp only [widestV, if_pos c_20]; done) | (simp only [widestV, c_20, if_true, if_false]; done) | (simp only [widestV, c_20, if_true, if_false, not_true, not_false_iff, reduceIte]; done) | (exfalso; simp_all; done) | (simp [widestV, c_20]; done) | (simp_all [widestV]; done)))) rfl dX5_widest_24
  refine lv_aload_n hx hb dX5_widest_0 rfl (lv_at hl 0 rfl) ?_
  refine x_get (v := .ref b) (C := RX5) (T := TX5) (N := 4) hx hb hts hi5 hown hK hP 0 rfl rfl 0 (by decide) (hts (.fieldLink RX5 10 "PulseWheel" "bench" "LPulseWheel$Bench;") (by decide +kernel)) rfl rfl dX5_widest_1 ?_
  refine lv_iload_n hx hb dX5_widest_4 rfl (lv_at hl 1 rfl) ?_
  refine kSQ (va_runVN (As := [.int rd]) (rest := []) ⟨hx, hb, hml, hown, hts⟩ (c_X0_readerAt_n l D cI cB b A1 A2 t ap r1 r2 rd c0 c1 _) ⟨va_cnB 1 hts gX5_widest_X0_readerAt_n24 rfl rfl rfl (nwm5_24 (args := args) hN) (hts (.initialized RX0) (by decide +kernel)) (by decide +kernel) ⟨Nat.le_of_ble_eq_true rfl, Nat.le_of_ble_eq_true rfl⟩, hts (.instanceMethod yX0_readerAt) (by decide +kernel), hts (.selects RX0 yX0_readerAt yX0_readerAt) (by decide +kernel)⟩ (preV_cut hP hD hK hN (ci := 0) rfl 3 rfl [3, 4, 5, 6, 7, 8, 9, 10, 11, 12, 13, 14, 15, 16, 17, 18, 19, 20, 21] (by decide) rfl) rfl rfl hl.1 rfl (lv_room (Nat.le_of_ble_eq_true rfl)) dX5_widest_5 ⟨Nat.zero_le _, Nat.zero_le _⟩) ?_
  show W _ _ _ _ _ _ _ _ _ _ _ _ _ _ _ (F0 m 8 ls (.null :: _))
  refine lv_astore_nN (lv' := [(2, .null), (0, .ref (P 0)), (1, .int rd)]) hx hb dX5_widest_8 rfl hl (by decide) rfl (fun ls hl => ?_)
  refine lv_aload_nN hx hb dX5_widest_9 rfl (lv_at hl 0 rfl) ?_
  refine lv_ifnullN (tgt := 23) hx hb dX5_widest_10 (by decide) ?_
  refine lv_iconst (v := -1) hx hb dX5_widest_23 (by decide) ?_
  exact hE _ _ _ (by first | (rw [rdV_n c0 c1]; done) | (rw [rdV_n c0 c1]; (first | rfl | (unfold widestV; rw [if_true]; done) | (simp only [widestV]; done) | (simp only [widestV, if_true, if_false]; done) | (simp only [widestV, if_true, if_false, not_true, not_false_iff, reduceIte]; done) | (exfalso; simp_all; done) | (simp [widestV]; done) | (simp_all [widestV]; done)))) rfl dX5_widest_24

def rm_X5_of : Room := { frames := 1, cells := 0, slots := 0, locals := 21 }
set_option maxHeartbeats 1000000 in
set_option maxRecDepth 100000 in
theorem c_X5_of (l : Launch) (D : va_G) (cI cB : ClassId) (P : Nat → Nat) (b : Nat) (A1 : Nat → Nat) (A2 : Nat → Nat) (tw : Int32) (im : Nat → Option Nat) (tp : Nat → Int32) (t : Int32) (ap : Int32) (r1 : Tb) (r2 : Tb) (rd w : Int32) : SI l D cI cB yX5_of wsX5_of rm_X5_of [.ref (P 0), .int rd, .int w] (pwW P b A1 A2 cI cB tw im tp t ap r1 r2) (rdV rd (ofV r1 w) (ofV r2 w) (-2000000)) := by
  refine SI.of (cc := cX5_of) (maxL := 4) (ty := .int) (by decide +kernel) rfl (Nat.le_of_ble_eq_true rfl) ?_
  intro p e s m args below meth c ls Q hT hP hD hl hE
  obtain ⟨hx, hb, hr, hlocks, hnm, hml, hown, hts, hK, hN⟩ := hT
  have hl : lv_has ls 4 [(0, .ref (P 0)), (1, .int rd), (2, .int w)] := hl
  have hi1 : ∀ w ∈ wsX10, w ∈ wsX5_of := by decide +kernel
  have hi2 : ∀ w ∈ wsX20, w ∈ wsX5_of := by decide +kernel
  have hi5 : ∀ w ∈ wsX50, w ∈ wsX5_of := by decide +kernel
  by_cases c0 : rd = 0
  · subst c0
    refine lv_aload_n hx hb dX5_of_0 rfl (lv_at hl 0 rfl) ?_
    refine x_get (v := .ref b) (C := RX5) (T := TX5) (N := 4) hx hb hts hi5 hown hK hP 0 rfl rfl 0 (by decide) (hts (.fieldLink RX5 10 "PulseWheel" "bench" "LPulseWheel$Bench;") (by decide +kernel)) rfl rfl dX5_of_1 ?_
    refine lv_iload_n hx hb dX5_of_4 rfl (lv_at hl 1 rfl) ?_
    refine kSQ (va_runVN (As := [.int 0]) (rest := []) ⟨hx, hb, hml, hown, hts⟩ (c_X0_readerAt_0 l D cI cB b A1 A2 t ap r1 r2  _) ⟨va_cnB 1 hts gX5_of_X0_readerAt_n24 rfl rfl rfl (nwm5_24 (args := args) hN) (hts (.initialized RX0) (by decide +kernel)) (by decide +kernel) ⟨Nat.le_of_ble_eq_true rfl, Nat.le_of_ble_eq_true rfl⟩, hts (.instanceMethod yX0_readerAt) (by decide +kernel), hts (.selects RX0 yX0_readerAt yX0_readerAt) (by decide +kernel)⟩ (preV_cut hP hD hK hN (ci := 0) rfl 3 rfl [3, 4, 5, 6, 7, 8, 9, 10, 11, 12, 13, 14, 15, 16, 17, 18, 19, 20, 21] (by decide) rfl) rfl rfl hl.1 rfl (lv_room (Nat.le_of_ble_eq_true rfl)) dX5_of_5 ⟨Nat.zero_le _, Nat.zero_le _⟩) ?_
    show W _ _ _ _ _ _ _ _ _ _ _ _ _ _ _ (F0 m 8 ls (.ref (A1 0) :: _))
    refine lv_astore_n (lv' := [(3, .ref (A1 0)), (0, .ref (P 0)), (1, .int 0), (2, .int w)]) hx hb dX5_of_8 rfl hl (by decide) rfl (fun ls hl => ?_)
    refine lv_aload_n hx hb dX5_of_9 rfl (lv_at hl 0 rfl) ?_
    refine lv_ifnonnull (tgt := 16) hx hb dX5_of_10 (by decide) ?_
    refine lv_iload_n hx hb dX5_of_16 rfl (lv_at hl 3 rfl) ?_
    by_cases c_17_0 : w = 0
    · refine lv_tableIn (tgt := 80) hx hb dX5_of_17 (by rw [c_17_0]; decide) (by rw [c_17_0]; decide) (by rw [c_17_0]; rfl) (by decide) ?_
      refine lv_aload_n hx hb dX5_of_80 rfl (lv_at hl 0 rfl) ?_
      refine x_getN (v := .int (r1 0 7)) (C := RX2) (T := TX2) (N := 16) hx hb hts hi2 hown hK hP 4 rfl rfl 7 (by decide) (nwf5_68 (args := args) hN) rfl rfl dX5_of_81 ?_
      exact hE _ _ _ (by first | (rw [rdV_0]; done) | (rw [rdV_0]; (first | rfl | (unfold ofV; rw [if_pos c_17_0]; done) | (simp only [ofV, if_pos c_17_0]; done) | (simp only [ofV, c_17_0, if_true, if_false]; done) | (simp only [ofV, c_17_0, if_true, if_false, not_true, not_false_iff, reduceIte]; done) | (exfalso; simp_all; done) | (simp [ofV, c_17_0]; done) | (simp_all [ofV]; done)))) rfl dX5_of_84
    by_cases c_17_1 : w = 1
    · refine lv_tableIn (tgt := 85) hx hb dX5_of_17 (by rw [c_17_1]; decide) (by rw [c_17_1]; decide) (by rw [c_17_1]; rfl) (by decide) ?_
      refine lv_aload_n hx hb dX5_of_85 rfl (lv_at hl 0 rfl) ?_
      refine x_getN (v := .int (r1 0 8)) (C := RX2) (T := TX2) (N := 16) hx hb hts hi2 hown hK hP 4 rfl rfl 8 (by decide) (nwf5_71 (args := args) hN) rfl rfl dX5_of_86 ?_
      exact hE _ _ _ (by first | (rw [rdV_0]; done) | (rw [rdV_0]; (first | rfl | (unfold ofV; rw [if_neg c_17_0, if_pos c_17_1]; done) | (simp only [ofV, if_neg c_17_0, if_pos c_17_1]; done) | (simp only [ofV, c_17_0, c_17_1, if_true, if_false]; done) | (simp only [ofV, c_17_0, c_17_1, if_true, if_false, not_true, not_false_iff, reduceIte]; done) | (exfalso; simp_all; done) | (simp [ofV, c_17_0, c_17_1]; done) | (simp_all [ofV]; done)))) rfl dX5_of_89
    by_cases c_17_2 : w = 2
    · refine lv_tableIn (tgt := 90) hx hb dX5_of_17 (by rw [c_17_2]; decide) (by rw [c_17_2]; decide) (by rw [c_17_2]; rfl) (by decide) ?_
      refine lv_aload_n hx hb dX5_of_90 rfl (lv_at hl 0 rfl) ?_
      refine x_getN (v := .int (r1 0 9)) (C := RX2) (T := TX2) (N := 16) hx hb hts hi2 hown hK hP 4 rfl rfl 9 (by decide) (nwf5_74 (args := args) hN) rfl rfl dX5_of_91 ?_
      exact hE _ _ _ (by first | (rw [rdV_0]; done) | (rw [rdV_0]; (first | rfl | (unfold ofV; rw [if_neg c_17_0, if_neg c_17_1, if_pos c_17_2]; done) | (simp only [ofV, if_neg c_17_0, if_neg c_17_1, if_pos c_17_2]; done) | (simp only [ofV, c_17_0, c_17_1, c_17_2, if_true, if_false]; done) | (simp only [ofV, c_17_0, c_17_1, c_17_2, if_true, if_false, not_true, not_false_iff, reduceIte]; done) | (exfalso; simp_all; done) | (simp [ofV, c_17_0, c_17_1, c_17_2]; done) | (simp_all [ofV]; done)))) rfl dX5_of_94
    by_cases c_17_3 : w = 3
    · refine lv_tableIn (tgt := 95) hx hb dX5_of_17 (by rw [c_17_3]; decide) (by rw [c_17_3]; decide) (by rw [c_17_3]; rfl) (by decide) ?_
      refine lv_aload_n hx hb dX5_of_95 rfl (lv_at hl 0 rfl) ?_
      refine kSI (va_runVN (As := []) (rest := []) ⟨hx, hb, hml, hown, hts⟩ (c_X2_phase l D cI cB A1 r1  _) ⟨va_cnB 0 hts gX5_of_X2_phase_n77 rfl rfl rfl (nwm5_77 (args := args) hN) (hts (.initialized RX2) (by decide +kernel)) (by decide +kernel) ⟨Nat.le_of_ble_eq_true rfl, Nat.le_of_ble_eq_true rfl⟩, hts (.instanceMethod yX2_phase) (by decide +kernel), hts (.selects RX2 yX2_phase yX2_phase) (by decide +kernel)⟩ (preV_cut hP hD hK hN (ci := 2) rfl 4 rfl [4, 5, 6, 7, 8, 9, 10, 11, 12] (by decide) rfl) rfl rfl hl.1 rfl (lv_room (Nat.le_of_ble_eq_true rfl)) dX5_of_96 ⟨Nat.zero_le _, Nat.zero_le _⟩) ?_
      exact hE _ _ _ (by first | (rw [rdV_0]; done) | (rw [rdV_0]; (first | rfl | (unfold ofV; rw [if_neg c_17_0, if_neg c_17_1, if_neg c_17_2, if_pos c_17_3]; done) | (simp only [ofV, if_neg c_17_0, if_neg c_17_1, if_neg c_17_2, if_pos c_17_3]; done) | (simp only [ofV, c_17_0, c_17_1, c_17_2, c_17_3, if_true, if_false]; done) | (simp only [ofV, c_17_0, c_17_1, c_17_2, c_17_3, if_true, if_false, not_true, not_false_iff, reduceIte]; done) | (exfalso; simp_all; done) | (simp [ofV, c_17_0, c_17_1, c_17_2, c_17_3]; done) | (simp_all [ofV]; done)))) rfl dX5_of_99
    by_cases c_17_4 : w = 4
    · refine lv_tableIn (tgt := 100) hx hb dX5_of_17 (by rw [c_17_4]; decide) (by rw [c_17_4]; decide) (by rw [c_17_4]; rfl) (by decide) ?_
      refine lv_aload_n hx hb dX5_of_100 rfl (lv_at hl 0 rfl) ?_
      refine x_getN (v := .int (r1 0 6)) (C := RX2) (T := TX2) (N := 16) hx hb hts hi2 hown hK hP 4 rfl rfl 6 (by decide) (nwf5_80 (args := args) hN) rfl rfl dX5_of_101 ?_
      exact hE _ _ _ (by first | (rw [rdV_0]; done) | (rw [rdV_0]; (first | rfl | (unfold ofV; rw [if_neg c_17_0, if_neg c_17_1, if_neg c_17_2, if_neg c_17_3, if_pos c_17_4]; done) | (simp only [ofV, if_neg c_17_0, if_neg c_17_1, if_neg c_17_2, if_neg c_17_3, if_pos c_17_4]; done) | (simp only [ofV, c_17_0, c_17_1, c_17_2, c_17_3, c_17_4, if_true, if_false]; done) | (simp only [ofV, c_17_0, c_17_1, c_17_2, c_17_3, c_17_4, if_true, if_false, not_true, not_false_iff, reduceIte]; done) | (exfalso; simp_all; done) | (simp [ofV, c_17_0, c_17_1, c_17_2, c_17_3, c_17_4]; done) | (simp_all [ofV]; done)))) rfl dX5_of_104
    by_cases c_17_5 : w = 5
    · refine lv_tableIn (tgt := 105) hx hb dX5_of_17 (by rw [c_17_5]; decide) (by rw [c_17_5]; decide) (by rw [c_17_5]; rfl) (by decide) ?_
      refine lv_aload_n hx hb dX5_of_105 rfl (lv_at hl 0 rfl) ?_
      refine x_getN (v := .int (r1 0 4)) (C := RX2) (T := TX2) (N := 16) hx hb hts hi2 hown hK hP 4 rfl rfl 4 (by decide) (nwf5_28 (args := args) hN) rfl rfl dX5_of_106 ?_
      exact hE _ _ _ (by first | (rw [rdV_0]; done) | (rw [rdV_0]; (first | rfl | (unfold ofV; rw [if_neg c_17_0, if_neg c_17_1, if_neg c_17_2, if_neg c_17_3, if_neg c_17_4, if_pos c_17_5]; done) | (simp only [ofV, if_neg c_17_0, if_neg c_17_1, if_neg c_17_2, if_neg c_17_3, if_neg c_17_4, if_pos c_17_5]; done) | (simp only [ofV, c_17_0, c_17_1, c_17_2, c_17_3, c_17_4, c_17_5, if_true, if_false]; done) | (simp only [ofV, c_17_0, c_17_1, c_17_2, c_17_3, c_17_4, c_17_5, if_true, if_false, not_true, not_false_iff, reduceIte]; done) | (exfalso; simp_all; done) | (simp [ofV, c_17_0, c_17_1, c_17_2, c_17_3, c_17_4, c_17_5]; done) | (simp_all [ofV]; done)))) rfl dX5_of_109
    by_cases c_17_6 : w = 6
    · refine lv_tableIn (tgt := 110) hx hb dX5_of_17 (by rw [c_17_6]; decide) (by rw [c_17_6]; decide) (by rw [c_17_6]; rfl) (by decide) ?_
      refine lv_aload_n hx hb dX5_of_110 rfl (lv_at hl 0 rfl) ?_
      refine x_getN (v := .int (r1 0 5)) (C := RX2) (T := TX2) (N := 16) hx hb hts hi2 hown hK hP 4 rfl rfl 5 (by decide) (nwf5_41 (args := args) hN) rfl rfl dX5_of_111 ?_
      exact hE _ _ _ (by first | (rw [rdV_0]; done) | (rw [rdV_0]; (first | rfl | (unfold ofV; rw [if_neg c_17_0, if_neg c_17_1, if_neg c_17_2, if_neg c_17_3, if_neg c_17_4, if_neg c_17_5, if_pos c_17_6]; done) | (simp only [ofV, if_neg c_17_0, if_neg c_17_1, if_neg c_17_2, if_neg c_17_3, if_neg c_17_4, if_neg c_17_5, if_pos c_17_6]; done) | (simp only [ofV, c_17_0, c_17_1, c_17_2, c_17_3, c_17_4, c_17_5, c_17_6, if_true, if_false]; done) | (simp only [ofV, c_17_0, c_17_1, c_17_2, c_17_3, c_17_4, c_17_5, c_17_6, if_true, if_false, not_true, not_false_iff, reduceIte]; done) | (exfalso; simp_all; done) | (simp [ofV, c_17_0, c_17_1, c_17_2, c_17_3, c_17_4, c_17_5, c_17_6]; done) | (simp_all [ofV]; done)))) rfl dX5_of_114
    by_cases c_17_7 : w = 7
    · refine lv_tableIn (tgt := 115) hx hb dX5_of_17 (by rw [c_17_7]; decide) (by rw [c_17_7]; decide) (by rw [c_17_7]; rfl) (by decide) ?_
      refine lv_aload_n hx hb dX5_of_115 rfl (lv_at hl 0 rfl) ?_
      refine x_getN (v := .ref (A1 3)) (C := RX2) (T := TX2) (N := 16) hx hb hts hi2 hown hK hP 4 rfl rfl 2 (by decide) (nwf5_83 (args := args) hN) rfl rfl dX5_of_116 ?_
      refine x_getN (v := .int (r1 3 3)) (C := RX1) (T := TX1) (N := 5) hx hb hts hi1 hown hK hP 7 rfl rfl 3 (by decide) (nwf5_87 (args := args) hN) rfl rfl dX5_of_119 ?_
      exact hE _ _ _ (by first | (rw [rdV_0]; done) | (rw [rdV_0]; (first | rfl | (unfold ofV; rw [if_neg c_17_0, if_neg c_17_1, if_neg c_17_2, if_neg c_17_3, if_neg c_17_4, if_neg c_17_5, if_neg c_17_6, if_pos c_17_7]; done) | (simp only [ofV, if_neg c_17_0, if_neg c_17_1, if_neg c_17_2, if_neg c_17_3, if_neg c_17_4, if_neg c_17_5, if_neg c_17_6, if_pos c_17_7]; done) | (simp only [ofV, c_17_0, c_17_1, c_17_2, c_17_3, c_17_4, c_17_5, c_17_6, c_17_7, if_true, if_false]; done) | (simp only [ofV, c_17_0, c_17_1, c_17_2, c_17_3, c_17_4, c_17_5, c_17_6, c_17_7, if_true, if_false, not_true, not_false_iff, reduceIte]; done) | (exfalso; simp_all; done) | (simp [ofV, c_17_0, c_17_1, c_17_2, c_17_3, c_17_4, c_17_5, c_17_6, c_17_7]; done) | (simp_all [ofV]; done)))) rfl dX5_of_122
    by_cases c_17_8 : w = 8
    · refine lv_tableIn (tgt := 123) hx hb dX5_of_17 (by rw [c_17_8]; decide) (by rw [c_17_8]; decide) (by rw [c_17_8]; rfl) (by decide) ?_
      refine lv_aload_n hx hb dX5_of_123 rfl (lv_at hl 0 rfl) ?_
      refine x_getN (v := .int (r1 0 12)) (C := RX2) (T := TX2) (N := 16) hx hb hts hi2 hown hK hP 4 rfl rfl 12 (by decide) (nwf5_92 (args := args) hN) rfl rfl dX5_of_124 ?_
      exact hE _ _ _ (by first | (rw [rdV_0]; done) | (rw [rdV_0]; (first | rfl | (unfold ofV; rw [if_neg c_17_0, if_neg c_17_1, if_neg c_17_2, if_neg c_17_3, if_neg c_17_4, if_neg c_17_5, if_neg c_17_6, if_neg c_17_7, if_pos c_17_8]; done) | (simp only [ofV, if_neg c_17_0, if_neg c_17_1, if_neg c_17_2, if_neg c_17_3, if_neg c_17_4, if_neg c_17_5, if_neg c_17_6, if_neg c_17_7, if_pos c_17_8]; done) | (simp only [ofV, c_17_0, c_17_1, c_17_2, c_17_3, c_17_4, c_17_5, c_17_6, c_17_7, c_17_8, if_true, if_false]; done) | (simp only [ofV, c_17_0, c_17_1, c_17_2, c_17_3, c_17_4, c_17_5, c_17_6, c_17_7, c_17_8, if_true, if_false, not_true, not_false_iff, reduceIte]; done) | (exfalso; simp_all; done) | (simp [ofV, c_17_0, c_17_1, c_17_2, c_17_3, c_17_4, c_17_5, c_17_6, c_17_7, c_17_8]; done) | (simp_all [ofV]; done)))) rfl dX5_of_127
    by_cases c_17_9 : w = 9
    · refine lv_tableIn (tgt := 128) hx hb dX5_of_17 (by rw [c_17_9]; decide) (by rw [c_17_9]; decide) (by rw [c_17_9]; rfl) (by decide) ?_
      refine lv_aload_n hx hb dX5_of_128 rfl (lv_at hl 0 rfl) ?_
      refine x_getN (v := .int (r1 0 13)) (C := RX2) (T := TX2) (N := 16) hx hb hts hi2 hown hK hP 4 rfl rfl 13 (by decide) (nwf5_95 (args := args) hN) rfl rfl dX5_of_129 ?_
      exact hE _ _ _ (by first | (rw [rdV_0]; done) | (rw [rdV_0]; (first | rfl | (unfold ofV; rw [if_neg c_17_0, if_neg c_17_1, if_neg c_17_2, if_neg c_17_3, if_neg c_17_4, if_neg c_17_5, if_neg c_17_6, if_neg c_17_7, if_neg c_17_8, if_pos c_17_9]; done) | (simp only [ofV, if_neg c_17_0, if_neg c_17_1, if_neg c_17_2, if_neg c_17_3, if_neg c_17_4, if_neg c_17_5, if_neg c_17_6, if_neg c_17_7, if_neg c_17_8, if_pos c_17_9]; done) | (simp only [ofV, c_17_0, c_17_1, c_17_2, c_17_3, c_17_4, c_17_5, c_17_6, c_17_7, c_17_8, c_17_9, if_true, if_false]; done) | (simp only [ofV, c_17_0, c_17_1, c_17_2, c_17_3, c_17_4, c_17_5, c_17_6, c_17_7, c_17_8, c_17_9, if_true, if_false, not_true, not_false_iff, reduceIte]; done) | (exfalso; simp_all; done) | (simp [ofV, c_17_0, c_17_1, c_17_2, c_17_3, c_17_4, c_17_5, c_17_6, c_17_7, c_17_8, c_17_9]; done) | (simp_all [ofV]; done)))) rfl dX5_of_132
    by_cases c_17_10 : w = 10
    · refine lv_tableIn (tgt := 133) hx hb dX5_of_17 (by rw [c_17_10]; decide) (by rw [c_17_10]; decide) (by rw [c_17_10]; rfl) (by decide) ?_
      refine lv_aload_n hx hb dX5_of_133 rfl (lv_at hl 0 rfl) ?_
      refine x_getN (v := .int (r1 0 14)) (C := RX2) (T := TX2) (N := 16) hx hb hts hi2 hown hK hP 4 rfl rfl 14 (by decide) (nwf5_98 (args := args) hN) rfl rfl dX5_of_134 ?_
      exact hE _ _ _ (by first | (rw [rdV_0]; done) | (rw [rdV_0]; (first | rfl | (unfold ofV; rw [if_neg c_17_0, if_neg c_17_1, if_neg c_17_2, if_neg c_17_3, if_neg c_17_4, if_neg c_17_5, if_neg c_17_6, if_neg c_17_7, if_neg c_17_8, if_neg c_17_9, if_pos c_17_10]; done) | (simp only [ofV, if_neg c_17_0, if_neg c_17_1, if_neg c_17_2, if_neg c_17_3, if_neg c_17_4, if_neg c_17_5, if_neg c_17_6, if_neg c_17_7, if_neg c_17_8, if_neg c_17_9, if_pos c_17_10]; done) | (simp only [ofV, c_17_0, c_17_1, c_17_2, c_17_3, c_17_4, c_17_5, c_17_6, c_17_7, c_17_8, c_17_9, c_17_10, if_true, if_false]; done) | (simp only [ofV, c_17_0, c_17_1, c_17_2, c_17_3, c_17_4, c_17_5, c_17_6, c_17_7, c_17_8, c_17_9, c_17_10, if_true, if_false, not_true, not_false_iff, reduceIte]; done) | (exfalso; simp_all; done) | (simp [ofV, c_17_0, c_17_1, c_17_2, c_17_3, c_17_4, c_17_5, c_17_6, c_17_7, c_17_8, c_17_9, c_17_10]; done) | (simp_all [ofV]; done)))) rfl dX5_of_137
    by_cases c_17_11 : w = 11
    · refine lv_tableIn (tgt := 138) hx hb dX5_of_17 (by rw [c_17_11]; decide) (by rw [c_17_11]; decide) (by rw [c_17_11]; rfl) (by decide) ?_
      refine lv_aload_n hx hb dX5_of_138 rfl (lv_at hl 0 rfl) ?_
      refine x_getN (v := .int (r1 0 10)) (C := RX2) (T := TX2) (N := 16) hx hb hts hi2 hown hK hP 4 rfl rfl 10 (by decide) (nwf5_101 (args := args) hN) rfl rfl dX5_of_139 ?_
      refine lv_if_eq (tgt := 149) hx hb dX5_of_142 (by decide) (fun c_142 => ?_) (fun c_142 => ?_)
      · skip
        refine lv_iconst (v := 0) hx hb dX5_of_149 (by decide) ?_
        exact hE _ _ _ (by first | (rw [rdV_0]; done) | (rw [rdV_0]; (first | rfl | (unfold ofV; rw [if_neg c_17_0, if_neg c_17_1, if_neg c_17_2, if_neg c_17_3, if_neg c_17_4, if_neg c_17_5, if_neg c_17_6, if_neg c_17_7, if_neg c_17_8, if_neg c_17_9, if_neg c_17_10, if_pos c_17_11, if_pos c_142]; done) | (simp only [ofV, if_neg c_17_0, if_neg c_17_1, if_neg c_17_2, if_neg c_17_3, if_neg c_17_4, if_neg c_17_5, if_neg c_17_6, if_neg c_17_7, if_neg c_17_8, if_neg c_17_9, if_neg c_17_10, if_pos c_17_11, if_pos c_142]; done) | (simp only [ofV, c_17_0, c_17_1, c_17_2, c_17_3, c_17_4, c_17_5, c_17_6, c_17_7, c_17_8, c_17_9, c_17_10, c_17_11, c_142, if_true, if_false]; done) | (simp only [ofV, c_17_0, c_17_1, c_17_2, c_17_3, c_17_4, c_17_5, c_17_6, c_17_7, c_17_8, c_17_9, c_17_10, c_17_11, c_142, if_true, if_false, not_true, not_false_iff, reduceIte]; done) | (exfalso; simp_all; done) | (simp [ofV, c_17_0, c_17_1, c_17_2, c_17_3, c_17_4, c_17_5, c_17_6, c_17_7, c_17_8, c_17_9, c_17_10, c_17_11, c_142]; done) | (simp_all [ofV]; done)))) rfl dX5_of_150
      · skip
        refine lv_iconst (v := 1) hx hb dX5_of_145 (by decide) ?_
        refine lv_goto (tgt := 150) hx hb dX5_of_146 (by decide) ?_
        exact hE _ _ _ (by first | (rw [rdV_0]; done) | (rw [rdV_0]; (first | rfl | (unfold ofV; rw [if_neg c_17_0, if_neg c_17_1, if_neg c_17_2, if_neg c_17_3, if_neg c_17_4, if_neg c_17_5, if_neg c_17_6, if_neg c_17_7, if_neg c_17_8, if_neg c_17_9, if_neg c_17_10, if_pos c_17_11, if_neg c_142]; done) | (simp only [ofV, if_neg c_17_0, if_neg c_17_1, if_neg c_17_2, if_neg c_17_3, if_neg c_17_4, if_neg c_17_5, if_neg c_17_6, if_neg c_17_7, if_neg c_17_8, if_neg c_17_9, if_neg c_17_10, if_pos c_17_11, if_neg c_142]; done) | (simp only [ofV, c_17_0, c_17_1, c_17_2, c_17_3, c_17_4, c_17_5, c_17_6, c_17_7, c_17_8, c_17_9, c_17_10, c_17_11, c_142, if_true, if_false]; done) | (simp only [ofV, c_17_0, c_17_1, c_17_2, c_17_3, c_17_4, c_17_5, c_17_6, c_17_7, c_17_8, c_17_9, c_17_10, c_17_11, c_142, if_true, if_false, not_true, not_false_iff, reduceIte]; done) | (exfalso; simp_all; done) | (simp [ofV, c_17_0, c_17_1, c_17_2, c_17_3, c_17_4, c_17_5, c_17_6, c_17_7, c_17_8, c_17_9, c_17_10, c_17_11, c_142]; done) | (simp_all [ofV]; done)))) rfl dX5_of_150
    have k_17_0 : ¬ Int32.toInt w = 0 := fun h => c_17_0 (Int32.toInt_inj.mp (h.trans (by decide)))
    have k_17_1 : ¬ Int32.toInt w = 1 := fun h => c_17_1 (Int32.toInt_inj.mp (h.trans (by decide)))
    have k_17_2 : ¬ Int32.toInt w = 2 := fun h => c_17_2 (Int32.toInt_inj.mp (h.trans (by decide)))
    have k_17_3 : ¬ Int32.toInt w = 3 := fun h => c_17_3 (Int32.toInt_inj.mp (h.trans (by decide)))
    have k_17_4 : ¬ Int32.toInt w = 4 := fun h => c_17_4 (Int32.toInt_inj.mp (h.trans (by decide)))
    have k_17_5 : ¬ Int32.toInt w = 5 := fun h => c_17_5 (Int32.toInt_inj.mp (h.trans (by decide)))
    have k_17_6 : ¬ Int32.toInt w = 6 := fun h => c_17_6 (Int32.toInt_inj.mp (h.trans (by decide)))
    have k_17_7 : ¬ Int32.toInt w = 7 := fun h => c_17_7 (Int32.toInt_inj.mp (h.trans (by decide)))
    have k_17_8 : ¬ Int32.toInt w = 8 := fun h => c_17_8 (Int32.toInt_inj.mp (h.trans (by decide)))
    have k_17_9 : ¬ Int32.toInt w = 9 := fun h => c_17_9 (Int32.toInt_inj.mp (h.trans (by decide)))
    have k_17_10 : ¬ Int32.toInt w = 10 := fun h => c_17_10 (Int32.toInt_inj.mp (h.trans (by decide)))
    have k_17_11 : ¬ Int32.toInt w = 11 := fun h => c_17_11 (Int32.toInt_inj.mp (h.trans (by decide)))
    refine lv_tableOut (tgt := 151) hx hb dX5_of_17 (by omega) (by decide) ?_
    refine lv_ldc (v := -2000000) hx hb hown (hts (.constant RX5 67 (-2000000)) (by decide +kernel)) dX5_of_151 ?_
    exact hE _ _ _ (by first | (rw [rdV_0]; done) | (rw [rdV_0]; (first | rfl | (unfold ofV; rw [if_neg c_17_0, if_neg c_17_1, if_neg c_17_2, if_neg c_17_3, if_neg c_17_4, if_neg c_17_5, if_neg c_17_6, if_neg c_17_7, if_neg c_17_8, if_neg c_17_9, if_neg c_17_10, if_neg c_17_11]; done) | (simp only [ofV, if_neg c_17_0, if_neg c_17_1, if_neg c_17_2, if_neg c_17_3, if_neg c_17_4, if_neg c_17_5, if_neg c_17_6, if_neg c_17_7, if_neg c_17_8, if_neg c_17_9, if_neg c_17_10, if_neg c_17_11]; done) | (simp only [ofV, c_17_0, c_17_1, c_17_2, c_17_3, c_17_4, c_17_5, c_17_6, c_17_7, c_17_8, c_17_9, c_17_10, c_17_11, if_true, if_false]; done) | (simp only [ofV, c_17_0, c_17_1, c_17_2, c_17_3, c_17_4, c_17_5, c_17_6, c_17_7, c_17_8, c_17_9, c_17_10, c_17_11, if_true, if_false, not_true, not_false_iff, reduceIte]; done) | (exfalso; simp_all; done) | (simp [ofV, c_17_0, c_17_1, c_17_2, c_17_3, c_17_4, c_17_5, c_17_6, c_17_7, c_17_8, c_17_9, c_17_10, c_17_11]; done) | (simp_all [ofV]; done)))) rfl dX5_of_153
  by_cases c1 : rd = 1
  · subst c1
    refine lv_aload_n hx hb dX5_of_0 rfl (lv_at hl 0 rfl) ?_
    refine x_get (v := .ref b) (C := RX5) (T := TX5) (N := 4) hx hb hts hi5 hown hK hP 0 rfl rfl 0 (by decide) (hts (.fieldLink RX5 10 "PulseWheel" "bench" "LPulseWheel$Bench;") (by decide +kernel)) rfl rfl dX5_of_1 ?_
    refine lv_iload_n hx hb dX5_of_4 rfl (lv_at hl 1 rfl) ?_
    refine kSQ (va_runVN (As := [.int 1]) (rest := []) ⟨hx, hb, hml, hown, hts⟩ (c_X0_readerAt_1 l D cI cB b A1 A2 t ap r1 r2  _) ⟨va_cnB 1 hts gX5_of_X0_readerAt_n24 rfl rfl rfl (nwm5_24 (args := args) hN) (hts (.initialized RX0) (by decide +kernel)) (by decide +kernel) ⟨Nat.le_of_ble_eq_true rfl, Nat.le_of_ble_eq_true rfl⟩, hts (.instanceMethod yX0_readerAt) (by decide +kernel), hts (.selects RX0 yX0_readerAt yX0_readerAt) (by decide +kernel)⟩ (preV_cut hP hD hK hN (ci := 0) rfl 3 rfl [3, 4, 5, 6, 7, 8, 9, 10, 11, 12, 13, 14, 15, 16, 17, 18, 19, 20, 21] (by decide) rfl) rfl rfl hl.1 rfl (lv_room (Nat.le_of_ble_eq_true rfl)) dX5_of_5 ⟨Nat.zero_le _, Nat.zero_le _⟩) ?_
    show W _ _ _ _ _ _ _ _ _ _ _ _ _ _ _ (F0 m 8 ls (.ref (A2 0) :: _))
    refine lv_astore_n (lv' := [(3, .ref (A2 0)), (0, .ref (P 0)), (1, .int 1), (2, .int w)]) hx hb dX5_of_8 rfl hl (by decide) rfl (fun ls hl => ?_)
    refine lv_aload_n hx hb dX5_of_9 rfl (lv_at hl 0 rfl) ?_
    refine lv_ifnonnull (tgt := 16) hx hb dX5_of_10 (by decide) ?_
    refine lv_iload_n hx hb dX5_of_16 rfl (lv_at hl 3 rfl) ?_
    by_cases c_17_0 : w = 0
    · refine lv_tableIn (tgt := 80) hx hb dX5_of_17 (by rw [c_17_0]; decide) (by rw [c_17_0]; decide) (by rw [c_17_0]; rfl) (by decide) ?_
      refine lv_aload_n hx hb dX5_of_80 rfl (lv_at hl 0 rfl) ?_
      refine x_getN (v := .int (r2 0 7)) (C := RX2) (T := TX2) (N := 16) hx hb hts hi2 hown hK hP 13 rfl rfl 7 (by decide) (nwf5_68 (args := args) hN) rfl rfl dX5_of_81 ?_
      exact hE _ _ _ (by first | (rw [rdV_1]; done) | (rw [rdV_1]; (first | rfl | (unfold ofV; rw [if_pos c_17_0]; done) | (simp only [ofV, if_pos c_17_0]; done) | (simp only [ofV, c_17_0, if_true, if_false]; done) | (simp only [ofV, c_17_0, if_true, if_false, not_true, not_false_iff, reduceIte]; done) | (exfalso; simp_all; done) | (simp [ofV, c_17_0]; done) | (simp_all [ofV]; done)))) rfl dX5_of_84
    by_cases c_17_1 : w = 1
    · refine lv_tableIn (tgt := 85) hx hb dX5_of_17 (by rw [c_17_1]; decide) (by rw [c_17_1]; decide) (by rw [c_17_1]; rfl) (by decide) ?_
      refine lv_aload_n hx hb dX5_of_85 rfl (lv_at hl 0 rfl) ?_
      refine x_getN (v := .int (r2 0 8)) (C := RX2) (T := TX2) (N := 16) hx hb hts hi2 hown hK hP 13 rfl rfl 8 (by decide) (nwf5_71 (args := args) hN) rfl rfl dX5_of_86 ?_
      exact hE _ _ _ (by first | (rw [rdV_1]; done) | (rw [rdV_1]; (first | rfl | (unfold ofV; rw [if_neg c_17_0, if_pos c_17_1]; done) | (simp only [ofV, if_neg c_17_0, if_pos c_17_1]; done) | (simp only [ofV, c_17_0, c_17_1, if_true, if_false]; done) | (simp only [ofV, c_17_0, c_17_1, if_true, if_false, not_true, not_false_iff, reduceIte]; done) | (exfalso; simp_all; done) | (simp [ofV, c_17_0, c_17_1]; done) | (simp_all [ofV]; done)))) rfl dX5_of_89
    by_cases c_17_2 : w = 2
    · refine lv_tableIn (tgt := 90) hx hb dX5_of_17 (by rw [c_17_2]; decide) (by rw [c_17_2]; decide) (by rw [c_17_2]; rfl) (by decide) ?_
      refine lv_aload_n hx hb dX5_of_90 rfl (lv_at hl 0 rfl) ?_
      refine x_getN (v := .int (r2 0 9)) (C := RX2) (T := TX2) (N := 16) hx hb hts hi2 hown hK hP 13 rfl rfl 9 (by decide) (nwf5_74 (args := args) hN) rfl rfl dX5_of_91 ?_
      exact hE _ _ _ (by first | (rw [rdV_1]; done) | (rw [rdV_1]; (first | rfl | (unfold ofV; rw [if_neg c_17_0, if_neg c_17_1, if_pos c_17_2]; done) | (simp only [ofV, if_neg c_17_0, if_neg c_17_1, if_pos c_17_2]; done) | (simp only [ofV, c_17_0, c_17_1, c_17_2, if_true, if_false]; done) | (simp only [ofV, c_17_0, c_17_1, c_17_2, if_true, if_false, not_true, not_false_iff, reduceIte]; done) | (exfalso; simp_all; done) | (simp [ofV, c_17_0, c_17_1, c_17_2]; done) | (simp_all [ofV]; done)))) rfl dX5_of_94
    by_cases c_17_3 : w = 3
    · refine lv_tableIn (tgt := 95) hx hb dX5_of_17 (by rw [c_17_3]; decide) (by rw [c_17_3]; decide) (by rw [c_17_3]; rfl) (by decide) ?_
      refine lv_aload_n hx hb dX5_of_95 rfl (lv_at hl 0 rfl) ?_
      refine kSI (va_runVN (As := []) (rest := []) ⟨hx, hb, hml, hown, hts⟩ (c_X2_phase l D cI cB A2 r2  _) ⟨va_cnB 0 hts gX5_of_X2_phase_n77 rfl rfl rfl (nwm5_77 (args := args) hN) (hts (.initialized RX2) (by decide +kernel)) (by decide +kernel) ⟨Nat.le_of_ble_eq_true rfl, Nat.le_of_ble_eq_true rfl⟩, hts (.instanceMethod yX2_phase) (by decide +kernel), hts (.selects RX2 yX2_phase yX2_phase) (by decide +kernel)⟩ (preV_cut hP hD hK hN (ci := 2) rfl 13 rfl [13, 14, 15, 16, 17, 18, 19, 20, 21] (by decide) rfl) rfl rfl hl.1 rfl (lv_room (Nat.le_of_ble_eq_true rfl)) dX5_of_96 ⟨Nat.zero_le _, Nat.zero_le _⟩) ?_
      exact hE _ _ _ (by first | (rw [rdV_1]; done) | (rw [rdV_1]; (first | rfl | (unfold ofV; rw [if_neg c_17_0, if_neg c_17_1, if_neg c_17_2, if_pos c_17_3]; done) | (simp only [ofV, if_neg c_17_0, if_neg c_17_1, if_neg c_17_2, if_pos c_17_3]; done) | (simp only [ofV, c_17_0, c_17_1, c_17_2, c_17_3, if_true, if_false]; done) | (simp only [ofV, c_17_0, c_17_1, c_17_2, c_17_3, if_true, if_false, not_true, not_false_iff, reduceIte]; done) | (exfalso; simp_all; done) | (simp [ofV, c_17_0, c_17_1, c_17_2, c_17_3]; done) | (simp_all [ofV]; done)))) rfl dX5_of_99
    by_cases c_17_4 : w = 4
    · refine lv_tableIn (tgt := 100) hx hb dX5_of_17 (by rw [c_17_4]; decide) (by rw [c_17_4]; decide) (by rw [c_17_4]; rfl) (by decide) ?_
      refine lv_aload_n hx hb dX5_of_100 rfl (lv_at hl 0 rfl) ?_
      refine x_getN (v := .int (r2 0 6)) (C := RX2) (T := TX2) (N := 16) hx hb hts hi2 hown hK hP 13 rfl rfl 6 (by decide) (nwf5_80 (args := args) hN) rfl rfl dX5_of_101 ?_
      exact hE _ _ _ (by first | (rw [rdV_1]; done) | (rw [rdV_1]; (first | rfl | (unfold ofV; rw [if_neg c_17_0, if_neg c_17_1, if_neg c_17_2, if_neg c_17_3, if_pos c_17_4]; done) | (simp only [ofV, if_neg c_17_0, if_neg c_17_1, if_neg c_17_2, if_neg c_17_3, if_pos c_17_4]; done) | (simp only [ofV, c_17_0, c_17_1, c_17_2, c_17_3, c_17_4, if_true, if_false]; done) | (simp only [ofV, c_17_0, c_17_1, c_17_2, c_17_3, c_17_4, if_true, if_false, not_true, not_false_iff, reduceIte]; done) | (exfalso; simp_all; done) | (simp [ofV, c_17_0, c_17_1, c_17_2, c_17_3, c_17_4]; done) | (simp_all [ofV]; done)))) rfl dX5_of_104
    by_cases c_17_5 : w = 5
    · refine lv_tableIn (tgt := 105) hx hb dX5_of_17 (by rw [c_17_5]; decide) (by rw [c_17_5]; decide) (by rw [c_17_5]; rfl) (by decide) ?_
      refine lv_aload_n hx hb dX5_of_105 rfl (lv_at hl 0 rfl) ?_
      refine x_getN (v := .int (r2 0 4)) (C := RX2) (T := TX2) (N := 16) hx hb hts hi2 hown hK hP 13 rfl rfl 4 (by decide) (nwf5_28 (args := args) hN) rfl rfl dX5_of_106 ?_
      exact hE _ _ _ (by first | (rw [rdV_1]; done) | (rw [rdV_1]; (first | rfl | (unfold ofV; rw [if_neg c_17_0, if_neg c_17_1, if_neg c_17_2, if_neg c_17_3, if_neg c_17_4, if_pos c_17_5]; done) | (simp only [ofV, if_neg c_17_0, if_neg c_17_1, if_neg c_17_2, if_neg c_17_3, if_neg c_17_4, if_pos c_17_5]; done) | (simp only [ofV, c_17_0, c_17_1, c_17_2, c_17_3, c_17_4, c_17_5, if_true, if_false]; done) | (simp only [ofV, c_17_0, c_17_1, c_17_2, c_17_3, c_17_4, c_17_5, if_true, if_false, not_true, not_false_iff, reduceIte]; done) | (exfalso; simp_all; done) | (simp [ofV, c_17_0, c_17_1, c_17_2, c_17_3, c_17_4, c_17_5]; done) | (simp_all [ofV]; done)))) rfl dX5_of_109
    by_cases c_17_6 : w = 6
    · refine lv_tableIn (tgt := 110) hx hb dX5_of_17 (by rw [c_17_6]; decide) (by rw [c_17_6]; decide) (by rw [c_17_6]; rfl) (by decide) ?_
      refine lv_aload_n hx hb dX5_of_110 rfl (lv_at hl 0 rfl) ?_
      refine x_getN (v := .int (r2 0 5)) (C := RX2) (T := TX2) (N := 16) hx hb hts hi2 hown hK hP 13 rfl rfl 5 (by decide) (nwf5_41 (args := args) hN) rfl rfl dX5_of_111 ?_
      exact hE _ _ _ (by first | (rw [rdV_1]; done) | (rw [rdV_1]; (first | rfl | (unfold ofV; rw [if_neg c_17_0, if_neg c_17_1, if_neg c_17_2, if_neg c_17_3, if_neg c_17_4, if_neg c_17_5, if_pos c_17_6]; done) | (simp only [ofV, if_neg c_17_0, if_neg c_17_1, if_neg c_17_2, if_neg c_17_3, if_neg c_17_4, if_neg c_17_5, if_pos c_17_6]; done) | (simp only [ofV, c_17_0, c_17_1, c_17_2, c_17_3, c_17_4, c_17_5, c_17_6, if_true, if_false]; done) | (simp only [ofV, c_17_0, c_17_1, c_17_2, c_17_3, c_17_4, c_17_5, c_17_6, if_true, if_false, not_true, not_false_iff, reduceIte]; done) | (exfalso; simp_all; done) | (simp [ofV, c_17_0, c_17_1, c_17_2, c_17_3, c_17_4, c_17_5, c_17_6]; done) | (simp_all [ofV]; done)))) rfl dX5_of_114
    by_cases c_17_7 : w = 7
    · refine lv_tableIn (tgt := 115) hx hb dX5_of_17 (by rw [c_17_7]; decide) (by rw [c_17_7]; decide) (by rw [c_17_7]; rfl) (by decide) ?_
      refine lv_aload_n hx hb dX5_of_115 rfl (lv_at hl 0 rfl) ?_
      refine x_getN (v := .ref (A2 3)) (C := RX2) (T := TX2) (N := 16) hx hb hts hi2 hown hK hP 13 rfl rfl 2 (by decide) (nwf5_83 (args := args) hN) rfl rfl dX5_of_116 ?_
      refine x_getN (v := .int (r2 3 3)) (C := RX1) (T := TX1) (N := 5) hx hb hts hi1 hown hK hP 16 rfl rfl 3 (by decide) (nwf5_87 (args := args) hN) rfl rfl dX5_of_119 ?_
      exact hE _ _ _ (by first | (rw [rdV_1]; done) | (rw [rdV_1]; (first | rfl | (unfold ofV; rw [if_neg c_17_0, if_neg c_17_1, if_neg c_17_2, if_neg c_17_3, if_neg c_17_4, if_neg c_17_5, if_neg c_17_6, if_pos c_17_7]; done) | (simp only [ofV, if_neg c_17_0, if_neg c_17_1, if_neg c_17_2, if_neg c_17_3, if_neg c_17_4, if_neg c_17_5, if_neg c_17_6, if_pos c_17_7]; done) | (simp only [ofV, c_17_0, c_17_1, c_17_2, c_17_3, c_17_4, c_17_5, c_17_6, c_17_7, if_true, if_false]; done) | (simp only [ofV, c_17_0, c_17_1, c_17_2, c_17_3, c_17_4, c_17_5, c_17_6, c_17_7, if_true, if_false, not_true, not_false_iff, reduceIte]; done) | (exfalso; simp_all; done) | (simp [ofV, c_17_0, c_17_1, c_17_2, c_17_3, c_17_4, c_17_5, c_17_6, c_17_7]; done) | (simp_all [ofV]; done)))) rfl dX5_of_122
    by_cases c_17_8 : w = 8
    · refine lv_tableIn (tgt := 123) hx hb dX5_of_17 (by rw [c_17_8]; decide) (by rw [c_17_8]; decide) (by rw [c_17_8]; rfl) (by decide) ?_
      refine lv_aload_n hx hb dX5_of_123 rfl (lv_at hl 0 rfl) ?_
      refine x_getN (v := .int (r2 0 12)) (C := RX2) (T := TX2) (N := 16) hx hb hts hi2 hown hK hP 13 rfl rfl 12 (by decide) (nwf5_92 (args := args) hN) rfl rfl dX5_of_124 ?_
      exact hE _ _ _ (by first | (rw [rdV_1]; done) | (rw [rdV_1]; (first | rfl | (unfold ofV; rw [if_neg c_17_0, if_neg c_17_1, if_neg c_17_2, if_neg c_17_3, if_neg c_17_4, if_neg c_17_5, if_neg c_17_6, if_neg c_17_7, if_pos c_17_8]; done) | (simp only [ofV, if_neg c_17_0, if_neg c_17_1, if_neg c_17_2, if_neg c_17_3, if_neg c_17_4, if_neg c_17_5, if_neg c_17_6, if_neg c_17_7, if_pos c_17_8]; done) | (simp only [ofV, c_17_0, c_17_1, c_17_2, c_17_3, c_17_4, c_17_5, c_17_6, c_17_7, c_17_8, if_true, if_false]; done) | (simp only [ofV, c_17_0, c_17_1, c_17_2, c_17_3, c_17_4, c_17_5, c_17_6, c_17_7, c_17_8, if_true, if_false, not_true, not_false_iff, reduceIte]; done) | (exfalso; simp_all; done) | (simp [ofV, c_17_0, c_17_1, c_17_2, c_17_3, c_17_4, c_17_5, c_17_6, c_17_7, c_17_8]; done) | (simp_all [ofV]; done)))) rfl dX5_of_127
    by_cases c_17_9 : w = 9
    · refine lv_tableIn (tgt := 128) hx hb dX5_of_17 (by rw [c_17_9]; decide) (by rw [c_17_9]; decide) (by rw [c_17_9]; rfl) (by decide) ?_
      refine lv_aload_n hx hb dX5_of_128 rfl (lv_at hl 0 rfl) ?_
      refine x_getN (v := .int (r2 0 13)) (C := RX2) (T := TX2) (N := 16) hx hb hts hi2 hown hK hP 13 rfl rfl 13 (by decide) (nwf5_95 (args := args) hN) rfl rfl dX5_of_129 ?_
      exact hE _ _ _ (by first | (rw [rdV_1]; done) | (rw [rdV_1]; (first | rfl | (unfold ofV; rw [if_neg c_17_0, if_neg c_17_1, if_neg c_17_2, if_neg c_17_3, if_neg c_17_4, if_neg c_17_5, if_neg c_17_6, if_neg c_17_7, if_neg c_17_8, if_pos c_17_9]; done) | (simp only [ofV, if_neg c_17_0, if_neg c_17_1, if_neg c_17_2, if_neg c_17_3, if_neg c_17_4, if_neg c_17_5, if_neg c_17_6, if_neg c_17_7, if_neg c_17_8, if_pos c_17_9]; done) | (simp only [ofV, c_17_0, c_17_1, c_17_2, c_17_3, c_17_4, c_17_5, c_17_6, c_17_7, c_17_8, c_17_9, if_true, if_false]; done) | (simp only [ofV, c_17_0, c_17_1, c_17_2, c_17_3, c_17_4, c_17_5, c_17_6, c_17_7, c_17_8, c_17_9, if_true, if_false, not_true, not_false_iff, reduceIte]; done) | (exfalso; simp_all; done) | (simp [ofV, c_17_0, c_17_1, c_17_2, c_17_3, c_17_4, c_17_5, c_17_6, c_17_7, c_17_8, c_17_9]; done) | (simp_all [ofV]; done)))) rfl dX5_of_132
    by_cases c_17_10 : w = 10
    · refine lv_tableIn (tgt := 133) hx hb dX5_of_17 (by rw [c_17_10]; decide) (by rw [c_17_10]; decide) (by rw [c_17_10]; rfl) (by decide) ?_
      refine lv_aload_n hx hb dX5_of_133 rfl (lv_at hl 0 rfl) ?_
      refine x_getN (v := .int (r2 0 14)) (C := RX2) (T := TX2) (N := 16) hx hb hts hi2 hown hK hP 13 rfl rfl 14 (by decide) (nwf5_98 (args := args) hN) rfl rfl dX5_of_134 ?_
      exact hE _ _ _ (by first | (rw [rdV_1]; done) | (rw [rdV_1]; (first | rfl | (unfold ofV; rw [if_neg c_17_0, if_neg c_17_1, if_neg c_17_2, if_neg c_17_3, if_neg c_17_4, if_neg c_17_5, if_neg c_17_6, if_neg c_17_7, if_neg c_17_8, if_neg c_17_9, if_pos c_17_10]; done) | (simp only [ofV, if_neg c_17_0, if_neg c_17_1, if_neg c_17_2, if_neg c_17_3, if_neg c_17_4, if_neg c_17_5, if_neg c_17_6, if_neg c_17_7, if_neg c_17_8, if_neg c_17_9, if_pos c_17_10]; done) | (simp only [ofV, c_17_0, c_17_1, c_17_2, c_17_3, c_17_4, c_17_5, c_17_6, c_17_7, c_17_8, c_17_9, c_17_10, if_true, if_false]; done) | (simp only [ofV, c_17_0, c_17_1, c_17_2, c_17_3, c_17_4, c_17_5, c_17_6, c_17_7, c_17_8, c_17_9, c_17_10, if_true, if_false, not_true, not_false_iff, reduceIte]; done) | (exfalso; simp_all; done) | (simp [ofV, c_17_0, c_17_1, c_17_2, c_17_3, c_17_4, c_17_5, c_17_6, c_17_7, c_17_8, c_17_9, c_17_10]; done) | (simp_all [ofV]; done)))) rfl dX5_of_137
    by_cases c_17_11 : w = 11
    · refine lv_tableIn (tgt := 138) hx hb dX5_of_17 (by rw [c_17_11]; decide) (by rw [c_17_11]; decide) (by rw [c_17_11]; rfl) (by decide) ?_
      refine lv_aload_n hx hb dX5_of_138 rfl (lv_at hl 0 rfl) ?_
      refine x_getN (v := .int (r2 0 10)) (C := RX2) (T := TX2) (N := 16) hx hb hts hi2 hown hK hP 13 rfl rfl 10 (by decide) (nwf5_101 (args := args) hN) rfl rfl dX5_of_139 ?_
      refine lv_if_eq (tgt := 149) hx hb dX5_of_142 (by decide) (fun c_142 => ?_) (fun c_142 => ?_)
      · skip
        refine lv_iconst (v := 0) hx hb dX5_of_149 (by decide) ?_
        exact hE _ _ _ (by first | (rw [rdV_1]; done) | (rw [rdV_1]; (first | rfl | (unfold ofV; rw [if_neg c_17_0, if_neg c_17_1, if_neg c_17_2, if_neg c_17_3, if_neg c_17_4, if_neg c_17_5, if_neg c_17_6, if_neg c_17_7, if_neg c_17_8, if_neg c_17_9, if_neg c_17_10, if_pos c_17_11, if_pos c_142]; done) | (simp only [ofV, if_neg c_17_0, if_neg c_17_1, if_neg c_17_2, if_neg c_17_3, if_neg c_17_4, if_neg c_17_5, if_neg c_17_6, if_neg c_17_7, if_neg c_17_8, if_neg c_17_9, if_neg c_17_10, if_pos c_17_11, if_pos c_142]; done) | (simp only [ofV, c_17_0, c_17_1, c_17_2, c_17_3, c_17_4, c_17_5, c_17_6, c_17_7, c_17_8, c_17_9, c_17_10, c_17_11, c_142, if_true, if_false]; done) | (simp only [ofV, c_17_0, c_17_1, c_17_2, c_17_3, c_17_4, c_17_5, c_17_6, c_17_7, c_17_8, c_17_9, c_17_10, c_17_11, c_142, if_true, if_false, not_true, not_false_iff, reduceIte]; done) | (exfalso; simp_all; done) | (simp [ofV, c_17_0, c_17_1, c_17_2, c_17_3, c_17_4, c_17_5, c_17_6, c_17_7, c_17_8, c_17_9, c_17_10, c_17_11, c_142]; done) | (simp_all [ofV]; done)))) rfl dX5_of_150
      · skip
        refine lv_iconst (v := 1) hx hb dX5_of_145 (by decide) ?_
        refine lv_goto (tgt := 150) hx hb dX5_of_146 (by decide) ?_
        exact hE _ _ _ (by first | (rw [rdV_1]; done) | (rw [rdV_1]; (first | rfl | (unfold ofV; rw [if_neg c_17_0, if_neg c_17_1, if_neg c_17_2, if_neg c_17_3, if_neg c_17_4, if_neg c_17_5, if_neg c_17_6, if_neg c_17_7, if_neg c_17_8, if_neg c_17_9, if_neg c_17_10, if_pos c_17_11, if_neg c_142]; done) | (simp only [ofV, if_neg c_17_0, if_neg c_17_1, if_neg c_17_2, if_neg c_17_3, if_neg c_17_4, if_neg c_17_5, if_neg c_17_6, if_neg c_17_7, if_neg c_17_8, if_neg c_17_9, if_neg c_17_10, if_pos c_17_11, if_neg c_142]; done) | (simp only [ofV, c_17_0, c_17_1, c_17_2, c_17_3, c_17_4, c_17_5, c_17_6, c_17_7, c_17_8, c_17_9, c_17_10, c_17_11, c_142, if_true, if_false]; done) | (simp only [ofV, c_17_0, c_17_1, c_17_2, c_17_3, c_17_4, c_17_5, c_17_6, c_17_7, c_17_8, c_17_9, c_17_10, c_17_11, c_142, if_true, if_false, not_true, not_false_iff, reduceIte]; done) | (exfalso; simp_all; done) | (simp [ofV, c_17_0, c_17_1, c_17_2, c_17_3, c_17_4, c_17_5, c_17_6, c_17_7, c_17_8, c_17_9, c_17_10, c_17_11, c_142]; done) | (simp_all [ofV]; done)))) rfl dX5_of_150
    have k_17_0 : ¬ Int32.toInt w = 0 := fun h => c_17_0 (Int32.toInt_inj.mp (h.trans (by decide)))
    have k_17_1 : ¬ Int32.toInt w = 1 := fun h => c_17_1 (Int32.toInt_inj.mp (h.trans (by decide)))
    have k_17_2 : ¬ Int32.toInt w = 2 := fun h => c_17_2 (Int32.toInt_inj.mp (h.trans (by decide)))
    have k_17_3 : ¬ Int32.toInt w = 3 := fun h => c_17_3 (Int32.toInt_inj.mp (h.trans (by decide)))
    have k_17_4 : ¬ Int32.toInt w = 4 := fun h => c_17_4 (Int32.toInt_inj.mp (h.trans (by decide)))
    have k_17_5 : ¬ Int32.toInt w = 5 := fun h => c_17_5 (Int32.toInt_inj.mp (h.trans (by decide)))
    have k_17_6 : ¬ Int32.toInt w = 6 := fun h => c_17_6 (Int32.toInt_inj.mp (h.trans (by decide)))
    have k_17_7 : ¬ Int32.toInt w = 7 := fun h => c_17_7 (Int32.toInt_inj.mp (h.trans (by decide)))
    have k_17_8 : ¬ Int32.toInt w = 8 := fun h => c_17_8 (Int32.toInt_inj.mp (h.trans (by decide)))
    have k_17_9 : ¬ Int32.toInt w = 9 := fun h => c_17_9 (Int32.toInt_inj.mp (h.trans (by decide)))
    have k_17_10 : ¬ Int32.toInt w = 10 := fun h => c_17_10 (Int32.toInt_inj.mp (h.trans (by decide)))
    have k_17_11 : ¬ Int32.toInt w = 11 := fun h => c_17_11 (Int32.toInt_inj.mp (h.trans (by decide)))
    refine lv_tableOut (tgt := 151) hx hb dX5_of_17 (by omega) (by decide) ?_
    refine lv_ldc (v := -2000000) hx hb hown (hts (.constant RX5 67 (-2000000)) (by decide +kernel)) dX5_of_151 ?_
    exact hE _ _ _ (by first | (rw [rdV_1]; done) | (rw [rdV_1]; (first | rfl | (unfold ofV; rw [if_neg c_17_0, if_neg c_17_1, if_neg c_17_2, if_neg c_17_3, if_neg c_17_4, if_neg c_17_5, if_neg c_17_6, if_neg c_17_7, if_neg c_17_8, if_neg c_17_9, if_neg c_17_10, if_neg c_17_11]; done) | (simp only [ofV, if_neg c_17_0, if_neg c_17_1, if_neg c_17_2, if_neg c_17_3, if_neg c_17_4, if_neg c_17_5, if_neg c_17_6, if_neg c_17_7, if_neg c_17_8, if_neg c_17_9, if_neg c_17_10, if_neg c_17_11]; done) | (simp only [ofV, c_17_0, c_17_1, c_17_2, c_17_3, c_17_4, c_17_5, c_17_6, c_17_7, c_17_8, c_17_9, c_17_10, c_17_11, if_true, if_false]; done) | (simp only [ofV, c_17_0, c_17_1, c_17_2, c_17_3, c_17_4, c_17_5, c_17_6, c_17_7, c_17_8, c_17_9, c_17_10, c_17_11, if_true, if_false, not_true, not_false_iff, reduceIte]; done) | (exfalso; simp_all; done) | (simp [ofV, c_17_0, c_17_1, c_17_2, c_17_3, c_17_4, c_17_5, c_17_6, c_17_7, c_17_8, c_17_9, c_17_10, c_17_11]; done) | (simp_all [ofV]; done)))) rfl dX5_of_153
  refine lv_aload_n hx hb dX5_of_0 rfl (lv_at hl 0 rfl) ?_
  refine x_get (v := .ref b) (C := RX5) (T := TX5) (N := 4) hx hb hts hi5 hown hK hP 0 rfl rfl 0 (by decide) (hts (.fieldLink RX5 10 "PulseWheel" "bench" "LPulseWheel$Bench;") (by decide +kernel)) rfl rfl dX5_of_1 ?_
  refine lv_iload_n hx hb dX5_of_4 rfl (lv_at hl 1 rfl) ?_
  refine kSQ (va_runVN (As := [.int rd]) (rest := []) ⟨hx, hb, hml, hown, hts⟩ (c_X0_readerAt_n l D cI cB b A1 A2 t ap r1 r2 rd c0 c1 _) ⟨va_cnB 1 hts gX5_of_X0_readerAt_n24 rfl rfl rfl (nwm5_24 (args := args) hN) (hts (.initialized RX0) (by decide +kernel)) (by decide +kernel) ⟨Nat.le_of_ble_eq_true rfl, Nat.le_of_ble_eq_true rfl⟩, hts (.instanceMethod yX0_readerAt) (by decide +kernel), hts (.selects RX0 yX0_readerAt yX0_readerAt) (by decide +kernel)⟩ (preV_cut hP hD hK hN (ci := 0) rfl 3 rfl [3, 4, 5, 6, 7, 8, 9, 10, 11, 12, 13, 14, 15, 16, 17, 18, 19, 20, 21] (by decide) rfl) rfl rfl hl.1 rfl (lv_room (Nat.le_of_ble_eq_true rfl)) dX5_of_5 ⟨Nat.zero_le _, Nat.zero_le _⟩) ?_
  show W _ _ _ _ _ _ _ _ _ _ _ _ _ _ _ (F0 m 8 ls (.null :: _))
  refine lv_astore_nN (lv' := [(3, .null), (0, .ref (P 0)), (1, .int rd), (2, .int w)]) hx hb dX5_of_8 rfl hl (by decide) rfl (fun ls hl => ?_)
  refine lv_aload_nN hx hb dX5_of_9 rfl (lv_at hl 0 rfl) ?_
  refine lv_ifnonnullN hx hb dX5_of_10 ?_
  refine lv_ldc (v := -2000000) hx hb hown (hts (.constant RX5 67 (-2000000)) (by decide +kernel)) dX5_of_13 ?_
  exact hE _ _ _ (by first | (rw [rdV_n c0 c1]; done) | (rw [rdV_n c0 c1]; (first | rfl | (unfold ofV; rw [if_true]; done) | (simp only [ofV]; done) | (simp only [ofV, if_true, if_false]; done) | (simp only [ofV, if_true, if_false, not_true, not_false_iff, reduceIte]; done) | (exfalso; simp_all; done) | (simp [ofV]; done) | (simp_all [ofV]; done)))) rfl dX5_of_15

def rm_X5_event : Room := { frames := 2, cells := 0, slots := 0, locals := 60 }
set_option maxHeartbeats 1000000 in
set_option maxRecDepth 100000 in
theorem c_X5_event (l : Launch) (D : va_G) (cI cB : ClassId) (P : Nat → Nat) (b : Nat) (A1 : Nat → Nat) (A2 : Nat → Nat) (tw : Int32) (im : Nat → Option Nat) (tp : Nat → Int32) (t : Int32) (ap : Int32) (r1 : Tb) (r2 : Tb) (rd k w : Int32) : SI l D cI cB yX5_event wsX5_event rm_X5_event [.ref (P 0), .int rd, .int k, .int w] (pwW P b A1 A2 cI cB tw im tp t ap r1 r2) (rdV rd (eventV r1 k w) (eventV r2 k w) (-2000000)) := by
  refine SI.of (cc := cX5_event) (maxL := 5) (ty := .int) (by decide +kernel) rfl (Nat.le_of_ble_eq_true rfl) ?_
  intro p e s m args below meth c ls Q hT hP hD hl hE
  obtain ⟨hx, hb, hr, hlocks, hnm, hml, hown, hts, hK, hN⟩ := hT
  have hl : lv_has ls 5 [(0, .ref (P 0)), (1, .int rd), (2, .int k), (3, .int w)] := hl
  have hi2 : ∀ w ∈ wsX20, w ∈ wsX5_event := by decide +kernel
  have hi5 : ∀ w ∈ wsX50, w ∈ wsX5_event := by decide +kernel
  by_cases c0 : rd = 0
  · subst c0
    refine lv_aload_n hx hb dX5_event_0 rfl (lv_at hl 0 rfl) ?_
    refine x_get (v := .ref b) (C := RX5) (T := TX5) (N := 4) hx hb hts hi5 hown hK hP 0 rfl rfl 0 (by decide) (hts (.fieldLink RX5 10 "PulseWheel" "bench" "LPulseWheel$Bench;") (by decide +kernel)) rfl rfl dX5_event_1 ?_
    refine lv_iload_n hx hb dX5_event_4 rfl (lv_at hl 1 rfl) ?_
    refine kSQ (va_runVN (As := [.int 0]) (rest := []) ⟨hx, hb, hml, hown, hts⟩ (c_X0_readerAt_0 l D cI cB b A1 A2 t ap r1 r2  _) ⟨va_cnB 1 hts gX5_event_X0_readerAt_n24 rfl rfl rfl (nwm5_24 (args := args) hN) (hts (.initialized RX0) (by decide +kernel)) (by decide +kernel) ⟨Nat.le_of_ble_eq_true rfl, Nat.le_of_ble_eq_true rfl⟩, hts (.instanceMethod yX0_readerAt) (by decide +kernel), hts (.selects RX0 yX0_readerAt yX0_readerAt) (by decide +kernel)⟩ (preV_cut hP hD hK hN (ci := 0) rfl 3 rfl [3, 4, 5, 6, 7, 8, 9, 10, 11, 12, 13, 14, 15, 16, 17, 18, 19, 20, 21] (by decide) rfl) rfl rfl hl.1 rfl (lv_room (Nat.le_of_ble_eq_true rfl)) dX5_event_5 ⟨Nat.zero_le _, Nat.zero_le _⟩) ?_
    show W _ _ _ _ _ _ _ _ _ _ _ _ _ _ _ (F0 m 8 ls (.ref (A1 0) :: _))
    refine lv_astore (lv' := [(4, .ref (A1 0)), (0, .ref (P 0)), (1, .int 0), (2, .int k), (3, .int w)]) hx hb dX5_event_8 hl (by decide) rfl (fun ls hl => ?_)
    refine lv_aload hx hb dX5_event_10 (lv_at hl 0 rfl) ?_
    refine lv_ifnull hx hb dX5_event_12 ?_
    refine lv_iload_n hx hb dX5_event_15 rfl (lv_at hl 3 rfl) ?_
    refine lv_if_lt (tgt := 31) hx hb dX5_event_16 (by decide) (fun c_16 => ?_) (fun c_16 => ?_)
    · skip
      refine lv_ldc (v := -2000000) hx hb hown (hts (.constant RX5 67 (-2000000)) (by decide +kernel)) dX5_event_31 ?_
      exact hE _ _ _ (by first | (rw [rdV_0]; done) | (rw [rdV_0]; (first | rfl | (unfold eventV; rw [if_pos c_16]; done) | (simp only [eventV, if_pos c_16]; done) | (simp only [eventV, c_16, if_true, if_false]; done) | (simp only [eventV, c_16, if_true, if_false, not_true, not_false_iff, reduceIte]; done) | (exfalso; simp_all; done) | (simp [eventV, c_16]; done) | (simp_all [eventV]; done)))) rfl dX5_event_33
    · skip
      refine lv_iload_n hx hb dX5_event_19 rfl (lv_at hl 3 rfl) ?_
      refine lv_aload hx hb dX5_event_20 (lv_at hl 0 rfl) ?_
      refine x_getN (v := .ref (A1 3)) (C := RX2) (T := TX2) (N := 16) hx hb hts hi2 hown hK hP 4 rfl rfl 2 (by decide) (nwf5_83 (args := args) hN) rfl rfl dX5_event_22 ?_
      refine kSI (va_runVN (As := []) (rest := [.int k]) ⟨hx, hb, hml, hown, hts⟩ (c_X1_kept l D cI cB A1 r1  _) ⟨va_cnB 0 hts gX5_event_X1_kept_n108 rfl rfl rfl (nwm5_108 (args := args) hN) (hts (.initialized RX1) (by decide +kernel)) (by decide +kernel) ⟨Nat.le_of_ble_eq_true rfl, Nat.le_of_ble_eq_true rfl⟩, hts (.instanceMethod yX1_kept) (by decide +kernel), hts (.selects RX1 yX1_kept yX1_kept) (by decide +kernel)⟩ (preV_cut hP hD hK hN (ci := 1) rfl 7 rfl [7, 8, 9, 10] (by decide) rfl) rfl rfl hl.1 rfl (lv_room (Nat.le_of_ble_eq_true rfl)) dX5_event_25 ⟨Nat.zero_le _, Nat.zero_le _⟩) ?_
      refine lv_icmp_lt (tgt := 34) hx hb dX5_event_28 (by decide) (fun c_28 => ?_) (fun c_28 => ?_)
      · skip
        refine lv_iload_n hx hb dX5_event_34 rfl (lv_at hl 4 rfl) ?_
        by_cases c_35_0 : w = 0
        · refine lv_tableIn (tgt := 60) hx hb dX5_event_35 (by rw [c_35_0]; decide) (by rw [c_35_0]; decide) (by rw [c_35_0]; rfl) (by decide) ?_
          refine lv_aload hx hb dX5_event_60 (lv_at hl 0 rfl) ?_
          refine x_getN (v := .ref (A1 3)) (C := RX2) (T := TX2) (N := 16) hx hb hts hi2 hown hK hP 4 rfl rfl 2 (by decide) (nwf5_83 (args := args) hN) rfl rfl dX5_event_62 ?_
          refine lv_iload_n hx hb dX5_event_65 rfl (lv_at hl 3 rfl) ?_
          refine kSI (va_runVN (As := [.int k]) (rest := []) ⟨hx, hb, hml, hown, hts⟩ (c_X1_sortAt l D cI cB A1 r1 k  _) ⟨va_cnB 1 hts gX5_event_X1_sortAt_n111 rfl rfl rfl (nwm5_111 (args := args) hN) (hts (.initialized RX1) (by decide +kernel)) (by decide +kernel) ⟨Nat.le_of_ble_eq_true rfl, Nat.le_of_ble_eq_true rfl⟩, hts (.instanceMethod yX1_sortAt) (by decide +kernel), hts (.selects RX1 yX1_sortAt yX1_sortAt) (by decide +kernel)⟩ (preV_cut hP hD hK hN (ci := 1) rfl 7 rfl [7, 8, 9, 10] (by decide) rfl) rfl rfl hl.1 rfl (lv_room (Nat.le_of_ble_eq_true rfl)) dX5_event_66 ⟨Nat.zero_le _, Nat.zero_le _⟩) ?_
          exact hE _ _ _ (by first | (rw [rdV_0]; done) | (rw [rdV_0]; (first | rfl | (unfold eventV; rw [if_neg c_16, if_pos c_28, if_pos c_35_0]; done) | (simp only [eventV, if_neg c_16, if_pos c_28, if_pos c_35_0]; done) | (simp only [eventV, c_16, c_28, c_35_0, if_true, if_false]; done) | (simp only [eventV, c_16, c_28, c_35_0, if_true, if_false, not_true, not_false_iff, reduceIte]; done) | (exfalso; simp_all; done) | (simp [eventV, c_16, c_28, c_35_0]; done) | (simp_all [eventV]; done)))) rfl dX5_event_69
        by_cases c_35_1 : w = 1
        · refine lv_tableIn (tgt := 70) hx hb dX5_event_35 (by rw [c_35_1]; decide) (by rw [c_35_1]; decide) (by rw [c_35_1]; rfl) (by decide) ?_
          refine lv_aload hx hb dX5_event_70 (lv_at hl 0 rfl) ?_
          refine x_getN (v := .ref (A1 3)) (C := RX2) (T := TX2) (N := 16) hx hb hts hi2 hown hK hP 4 rfl rfl 2 (by decide) (nwf5_83 (args := args) hN) rfl rfl dX5_event_72 ?_
          refine lv_iload_n hx hb dX5_event_75 rfl (lv_at hl 3 rfl) ?_
          refine kSI (va_runVN (As := [.int k]) (rest := []) ⟨hx, hb, hml, hown, hts⟩ (c_X1_tickAt l D cI cB A1 r1 k  _) ⟨va_cnB 1 hts gX5_event_X1_tickAt_n114 rfl rfl rfl (nwm5_114 (args := args) hN) (hts (.initialized RX1) (by decide +kernel)) (by decide +kernel) ⟨Nat.le_of_ble_eq_true rfl, Nat.le_of_ble_eq_true rfl⟩, hts (.instanceMethod yX1_tickAt) (by decide +kernel), hts (.selects RX1 yX1_tickAt yX1_tickAt) (by decide +kernel)⟩ (preV_cut hP hD hK hN (ci := 1) rfl 7 rfl [7, 8, 9, 10] (by decide) rfl) rfl rfl hl.1 rfl (lv_room (Nat.le_of_ble_eq_true rfl)) dX5_event_76 ⟨Nat.zero_le _, Nat.zero_le _⟩) ?_
          exact hE _ _ _ (by first | (rw [rdV_0]; done) | (rw [rdV_0]; (first | rfl | (unfold eventV; rw [if_neg c_16, if_pos c_28, if_neg c_35_0, if_pos c_35_1]; done) | (simp only [eventV, if_neg c_16, if_pos c_28, if_neg c_35_0, if_pos c_35_1]; done) | (simp only [eventV, c_16, c_28, c_35_0, c_35_1, if_true, if_false]; done) | (simp only [eventV, c_16, c_28, c_35_0, c_35_1, if_true, if_false, not_true, not_false_iff, reduceIte]; done) | (exfalso; simp_all; done) | (simp [eventV, c_16, c_28, c_35_0, c_35_1]; done) | (simp_all [eventV]; done)))) rfl dX5_event_79
        by_cases c_35_2 : w = 2
        · refine lv_tableIn (tgt := 80) hx hb dX5_event_35 (by rw [c_35_2]; decide) (by rw [c_35_2]; decide) (by rw [c_35_2]; rfl) (by decide) ?_
          refine lv_aload hx hb dX5_event_80 (lv_at hl 0 rfl) ?_
          refine x_getN (v := .ref (A1 3)) (C := RX2) (T := TX2) (N := 16) hx hb hts hi2 hown hK hP 4 rfl rfl 2 (by decide) (nwf5_83 (args := args) hN) rfl rfl dX5_event_82 ?_
          refine lv_iload_n hx hb dX5_event_85 rfl (lv_at hl 3 rfl) ?_
          refine kSI (va_runVN (As := [.int k]) (rest := []) ⟨hx, hb, hml, hown, hts⟩ (c_X1_placeAt l D cI cB A1 r1 k  _) ⟨va_cnB 1 hts gX5_event_X1_placeAt_n117 rfl rfl rfl (nwm5_117 (args := args) hN) (hts (.initialized RX1) (by decide +kernel)) (by decide +kernel) ⟨Nat.le_of_ble_eq_true rfl, Nat.le_of_ble_eq_true rfl⟩, hts (.instanceMethod yX1_placeAt) (by decide +kernel), hts (.selects RX1 yX1_placeAt yX1_placeAt) (by decide +kernel)⟩ (preV_cut hP hD hK hN (ci := 1) rfl 7 rfl [7, 8, 9, 10] (by decide) rfl) rfl rfl hl.1 rfl (lv_room (Nat.le_of_ble_eq_true rfl)) dX5_event_86 ⟨Nat.zero_le _, Nat.zero_le _⟩) ?_
          exact hE _ _ _ (by first | (rw [rdV_0]; done) | (rw [rdV_0]; (first | rfl | (unfold eventV; rw [if_neg c_16, if_pos c_28, if_neg c_35_0, if_neg c_35_1, if_pos c_35_2]; done) | (simp only [eventV, if_neg c_16, if_pos c_28, if_neg c_35_0, if_neg c_35_1, if_pos c_35_2]; done) | (simp only [eventV, c_16, c_28, c_35_0, c_35_1, c_35_2, if_true, if_false]; done) | (simp only [eventV, c_16, c_28, c_35_0, c_35_1, c_35_2, if_true, if_false, not_true, not_false_iff, reduceIte]; done) | (exfalso; simp_all; done) | (simp [eventV, c_16, c_28, c_35_0, c_35_1, c_35_2]; done) | (simp_all [eventV]; done)))) rfl dX5_event_89
        have k_35_0 : ¬ Int32.toInt w = 0 := fun h => c_35_0 (Int32.toInt_inj.mp (h.trans (by decide)))
        have k_35_1 : ¬ Int32.toInt w = 1 := fun h => c_35_1 (Int32.toInt_inj.mp (h.trans (by decide)))
        have k_35_2 : ¬ Int32.toInt w = 2 := fun h => c_35_2 (Int32.toInt_inj.mp (h.trans (by decide)))
        refine lv_tableOut (tgt := 90) hx hb dX5_event_35 (by omega) (by decide) ?_
        refine lv_ldc (v := -2000000) hx hb hown (hts (.constant RX5 67 (-2000000)) (by decide +kernel)) dX5_event_90 ?_
        exact hE _ _ _ (by first | (rw [rdV_0]; done) | (rw [rdV_0]; (first | rfl | (unfold eventV; rw [if_neg c_16, if_pos c_28, if_neg c_35_0, if_neg c_35_1, if_neg c_35_2]; done) | (simp only [eventV, if_neg c_16, if_pos c_28, if_neg c_35_0, if_neg c_35_1, if_neg c_35_2]; done) | (simp only [eventV, c_16, c_28, c_35_0, c_35_1, c_35_2, if_true, if_false]; done) | (simp only [eventV, c_16, c_28, c_35_0, c_35_1, c_35_2, if_true, if_false, not_true, not_false_iff, reduceIte]; done) | (exfalso; simp_all; done) | (simp [eventV, c_16, c_28, c_35_0, c_35_1, c_35_2]; done) | (simp_all [eventV]; done)))) rfl dX5_event_92
      · skip
        refine lv_ldc (v := -2000000) hx hb hown (hts (.constant RX5 67 (-2000000)) (by decide +kernel)) dX5_event_31 ?_
        exact hE _ _ _ (by first | (rw [rdV_0]; done) | (rw [rdV_0]; (first | rfl | (unfold eventV; rw [if_neg c_16, if_neg c_28]; done) | (simp only [eventV, if_neg c_16, if_neg c_28]; done) | (simp only [eventV, c_16, c_28, if_true, if_false]; done) | (simp only [eventV, c_16, c_28, if_true, if_false, not_true, not_false_iff, reduceIte]; done) | (exfalso; simp_all; done) | (simp [eventV, c_16, c_28]; done) | (simp_all [eventV]; done)))) rfl dX5_event_33
  by_cases c1 : rd = 1
  · subst c1
    refine lv_aload_n hx hb dX5_event_0 rfl (lv_at hl 0 rfl) ?_
    refine x_get (v := .ref b) (C := RX5) (T := TX5) (N := 4) hx hb hts hi5 hown hK hP 0 rfl rfl 0 (by decide) (hts (.fieldLink RX5 10 "PulseWheel" "bench" "LPulseWheel$Bench;") (by decide +kernel)) rfl rfl dX5_event_1 ?_
    refine lv_iload_n hx hb dX5_event_4 rfl (lv_at hl 1 rfl) ?_
    refine kSQ (va_runVN (As := [.int 1]) (rest := []) ⟨hx, hb, hml, hown, hts⟩ (c_X0_readerAt_1 l D cI cB b A1 A2 t ap r1 r2  _) ⟨va_cnB 1 hts gX5_event_X0_readerAt_n24 rfl rfl rfl (nwm5_24 (args := args) hN) (hts (.initialized RX0) (by decide +kernel)) (by decide +kernel) ⟨Nat.le_of_ble_eq_true rfl, Nat.le_of_ble_eq_true rfl⟩, hts (.instanceMethod yX0_readerAt) (by decide +kernel), hts (.selects RX0 yX0_readerAt yX0_readerAt) (by decide +kernel)⟩ (preV_cut hP hD hK hN (ci := 0) rfl 3 rfl [3, 4, 5, 6, 7, 8, 9, 10, 11, 12, 13, 14, 15, 16, 17, 18, 19, 20, 21] (by decide) rfl) rfl rfl hl.1 rfl (lv_room (Nat.le_of_ble_eq_true rfl)) dX5_event_5 ⟨Nat.zero_le _, Nat.zero_le _⟩) ?_
    show W _ _ _ _ _ _ _ _ _ _ _ _ _ _ _ (F0 m 8 ls (.ref (A2 0) :: _))
    refine lv_astore (lv' := [(4, .ref (A2 0)), (0, .ref (P 0)), (1, .int 1), (2, .int k), (3, .int w)]) hx hb dX5_event_8 hl (by decide) rfl (fun ls hl => ?_)
    refine lv_aload hx hb dX5_event_10 (lv_at hl 0 rfl) ?_
    refine lv_ifnull hx hb dX5_event_12 ?_
    refine lv_iload_n hx hb dX5_event_15 rfl (lv_at hl 3 rfl) ?_
    refine lv_if_lt (tgt := 31) hx hb dX5_event_16 (by decide) (fun c_16 => ?_) (fun c_16 => ?_)
    · skip
      refine lv_ldc (v := -2000000) hx hb hown (hts (.constant RX5 67 (-2000000)) (by decide +kernel)) dX5_event_31 ?_
      exact hE _ _ _ (by first | (rw [rdV_1]; done) | (rw [rdV_1]; (first | rfl | (unfold eventV; rw [if_pos c_16]; done) | (simp only [eventV, if_pos c_16]; done) | (simp only [eventV, c_16, if_true, if_false]; done) | (simp only [eventV, c_16, if_true, if_false, not_true, not_false_iff, reduceIte]; done) | (exfalso; simp_all; done) | (simp [eventV, c_16]; done) | (simp_all [eventV]; done)))) rfl dX5_event_33
    · skip
      refine lv_iload_n hx hb dX5_event_19 rfl (lv_at hl 3 rfl) ?_
      refine lv_aload hx hb dX5_event_20 (lv_at hl 0 rfl) ?_
      refine x_getN (v := .ref (A2 3)) (C := RX2) (T := TX2) (N := 16) hx hb hts hi2 hown hK hP 13 rfl rfl 2 (by decide) (nwf5_83 (args := args) hN) rfl rfl dX5_event_22 ?_
      refine kSI (va_runVN (As := []) (rest := [.int k]) ⟨hx, hb, hml, hown, hts⟩ (c_X1_kept l D cI cB A2 r2  _) ⟨va_cnB 0 hts gX5_event_X1_kept_n108 rfl rfl rfl (nwm5_108 (args := args) hN) (hts (.initialized RX1) (by decide +kernel)) (by decide +kernel) ⟨Nat.le_of_ble_eq_true rfl, Nat.le_of_ble_eq_true rfl⟩, hts (.instanceMethod yX1_kept) (by decide +kernel), hts (.selects RX1 yX1_kept yX1_kept) (by decide +kernel)⟩ (preV_cut hP hD hK hN (ci := 1) rfl 16 rfl [16, 17, 18, 19] (by decide) rfl) rfl rfl hl.1 rfl (lv_room (Nat.le_of_ble_eq_true rfl)) dX5_event_25 ⟨Nat.zero_le _, Nat.zero_le _⟩) ?_
      refine lv_icmp_lt (tgt := 34) hx hb dX5_event_28 (by decide) (fun c_28 => ?_) (fun c_28 => ?_)
      · skip
        refine lv_iload_n hx hb dX5_event_34 rfl (lv_at hl 4 rfl) ?_
        by_cases c_35_0 : w = 0
        · refine lv_tableIn (tgt := 60) hx hb dX5_event_35 (by rw [c_35_0]; decide) (by rw [c_35_0]; decide) (by rw [c_35_0]; rfl) (by decide) ?_
          refine lv_aload hx hb dX5_event_60 (lv_at hl 0 rfl) ?_
          refine x_getN (v := .ref (A2 3)) (C := RX2) (T := TX2) (N := 16) hx hb hts hi2 hown hK hP 13 rfl rfl 2 (by decide) (nwf5_83 (args := args) hN) rfl rfl dX5_event_62 ?_
          refine lv_iload_n hx hb dX5_event_65 rfl (lv_at hl 3 rfl) ?_
          refine kSI (va_runVN (As := [.int k]) (rest := []) ⟨hx, hb, hml, hown, hts⟩ (c_X1_sortAt l D cI cB A2 r2 k  _) ⟨va_cnB 1 hts gX5_event_X1_sortAt_n111 rfl rfl rfl (nwm5_111 (args := args) hN) (hts (.initialized RX1) (by decide +kernel)) (by decide +kernel) ⟨Nat.le_of_ble_eq_true rfl, Nat.le_of_ble_eq_true rfl⟩, hts (.instanceMethod yX1_sortAt) (by decide +kernel), hts (.selects RX1 yX1_sortAt yX1_sortAt) (by decide +kernel)⟩ (preV_cut hP hD hK hN (ci := 1) rfl 16 rfl [16, 17, 18, 19] (by decide) rfl) rfl rfl hl.1 rfl (lv_room (Nat.le_of_ble_eq_true rfl)) dX5_event_66 ⟨Nat.zero_le _, Nat.zero_le _⟩) ?_
          exact hE _ _ _ (by first | (rw [rdV_1]; done) | (rw [rdV_1]; (first | rfl | (unfold eventV; rw [if_neg c_16, if_pos c_28, if_pos c_35_0]; done) | (simp only [eventV, if_neg c_16, if_pos c_28, if_pos c_35_0]; done) | (simp only [eventV, c_16, c_28, c_35_0, if_true, if_false]; done) | (simp only [eventV, c_16, c_28, c_35_0, if_true, if_false, not_true, not_false_iff, reduceIte]; done) | (exfalso; simp_all; done) | (simp [eventV, c_16, c_28, c_35_0]; done) | (simp_all [eventV]; done)))) rfl dX5_event_69
        by_cases c_35_1 : w = 1
        · refine lv_tableIn (tgt := 70) hx hb dX5_event_35 (by rw [c_35_1]; decide) (by rw [c_35_1]; decide) (by rw [c_35_1]; rfl) (by decide) ?_
          refine lv_aload hx hb dX5_event_70 (lv_at hl 0 rfl) ?_
          refine x_getN (v := .ref (A2 3)) (C := RX2) (T := TX2) (N := 16) hx hb hts hi2 hown hK hP 13 rfl rfl 2 (by decide) (nwf5_83 (args := args) hN) rfl rfl dX5_event_72 ?_
          refine lv_iload_n hx hb dX5_event_75 rfl (lv_at hl 3 rfl) ?_
          refine kSI (va_runVN (As := [.int k]) (rest := []) ⟨hx, hb, hml, hown, hts⟩ (c_X1_tickAt l D cI cB A2 r2 k  _) ⟨va_cnB 1 hts gX5_event_X1_tickAt_n114 rfl rfl rfl (nwm5_114 (args := args) hN) (hts (.initialized RX1) (by decide +kernel)) (by decide +kernel) ⟨Nat.le_of_ble_eq_true rfl, Nat.le_of_ble_eq_true rfl⟩, hts (.instanceMethod yX1_tickAt) (by decide +kernel), hts (.selects RX1 yX1_tickAt yX1_tickAt) (by decide +kernel)⟩ (preV_cut hP hD hK hN (ci := 1) rfl 16 rfl [16, 17, 18, 19] (by decide) rfl) rfl rfl hl.1 rfl (lv_room (Nat.le_of_ble_eq_true rfl)) dX5_event_76 ⟨Nat.zero_le _, Nat.zero_le _⟩) ?_
          exact hE _ _ _ (by first | (rw [rdV_1]; done) | (rw [rdV_1]; (first | rfl | (unfold eventV; rw [if_neg c_16, if_pos c_28, if_neg c_35_0, if_pos c_35_1]; done) | (simp only [eventV, if_neg c_16, if_pos c_28, if_neg c_35_0, if_pos c_35_1]; done) | (simp only [eventV, c_16, c_28, c_35_0, c_35_1, if_true, if_false]; done) | (simp only [eventV, c_16, c_28, c_35_0, c_35_1, if_true, if_false, not_true, not_false_iff, reduceIte]; done) | (exfalso; simp_all; done) | (simp [eventV, c_16, c_28, c_35_0, c_35_1]; done) | (simp_all [eventV]; done)))) rfl dX5_event_79
        by_cases c_35_2 : w = 2
        · refine lv_tableIn (tgt := 80) hx hb dX5_event_35 (by rw [c_35_2]; decide) (by rw [c_35_2]; decide) (by rw [c_35_2]; rfl) (by decide) ?_
          refine lv_aload hx hb dX5_event_80 (lv_at hl 0 rfl) ?_
          refine x_getN (v := .ref (A2 3)) (C := RX2) (T := TX2) (N := 16) hx hb hts hi2 hown hK hP 13 rfl rfl 2 (by decide) (nwf5_83 (args := args) hN) rfl rfl dX5_event_82 ?_
          refine lv_iload_n hx hb dX5_event_85 rfl (lv_at hl 3 rfl) ?_
          refine kSI (va_runVN (As := [.int k]) (rest := []) ⟨hx, hb, hml, hown, hts⟩ (c_X1_placeAt l D cI cB A2 r2 k  _) ⟨va_cnB 1 hts gX5_event_X1_placeAt_n117 rfl rfl rfl (nwm5_117 (args := args) hN) (hts (.initialized RX1) (by decide +kernel)) (by decide +kernel) ⟨Nat.le_of_ble_eq_true rfl, Nat.le_of_ble_eq_true rfl⟩, hts (.instanceMethod yX1_placeAt) (by decide +kernel), hts (.selects RX1 yX1_placeAt yX1_placeAt) (by decide +kernel)⟩ (preV_cut hP hD hK hN (ci := 1) rfl 16 rfl [16, 17, 18, 19] (by decide) rfl) rfl rfl hl.1 rfl (lv_room (Nat.le_of_ble_eq_true rfl)) dX5_event_86 ⟨Nat.zero_le _, Nat.zero_le _⟩) ?_
          exact hE _ _ _ (by first | (rw [rdV_1]; done) | (rw [rdV_1]; (first | rfl | (unfold eventV; rw [if_neg c_16, if_pos c_28, if_neg c_35_0, if_neg c_35_1, if_pos c_35_2]; done) | (simp only [eventV, if_neg c_16, if_pos c_28, if_neg c_35_0, if_neg c_35_1, if_pos c_35_2]; done) | (simp only [eventV, c_16, c_28, c_35_0, c_35_1, c_35_2, if_true, if_false]; done) | (simp only [eventV, c_16, c_28, c_35_0, c_35_1, c_35_2, if_true, if_false, not_true, not_false_iff, reduceIte]; done) | (exfalso; simp_all; done) | (simp [eventV, c_16, c_28, c_35_0, c_35_1, c_35_2]; done) | (simp_all [eventV]; done)))) rfl dX5_event_89
        have k_35_0 : ¬ Int32.toInt w = 0 := fun h => c_35_0 (Int32.toInt_inj.mp (h.trans (by decide)))
        have k_35_1 : ¬ Int32.toInt w = 1 := fun h => c_35_1 (Int32.toInt_inj.mp (h.trans (by decide)))
        have k_35_2 : ¬ Int32.toInt w = 2 := fun h => c_35_2 (Int32.toInt_inj.mp (h.trans (by decide)))
        refine lv_tableOut (tgt := 90) hx hb dX5_event_35 (by omega) (by decide) ?_
        refine lv_ldc (v := -2000000) hx hb hown (hts (.constant RX5 67 (-2000000)) (by decide +kernel)) dX5_event_90 ?_
        exact hE _ _ _ (by first | (rw [rdV_1]; done) | (rw [rdV_1]; (first | rfl | (unfold eventV; rw [if_neg c_16, if_pos c_28, if_neg c_35_0, if_neg c_35_1, if_neg c_35_2]; done) | (simp only [eventV, if_neg c_16, if_pos c_28, if_neg c_35_0, if_neg c_35_1, if_neg c_35_2]; done) | (simp only [eventV, c_16, c_28, c_35_0, c_35_1, c_35_2, if_true, if_false]; done) | (simp only [eventV, c_16, c_28, c_35_0, c_35_1, c_35_2, if_true, if_false, not_true, not_false_iff, reduceIte]; done) | (exfalso; simp_all; done) | (simp [eventV, c_16, c_28, c_35_0, c_35_1, c_35_2]; done) | (simp_all [eventV]; done)))) rfl dX5_event_92
      · skip
        refine lv_ldc (v := -2000000) hx hb hown (hts (.constant RX5 67 (-2000000)) (by decide +kernel)) dX5_event_31 ?_
        exact hE _ _ _ (by first | (rw [rdV_1]; done) | (rw [rdV_1]; (first | rfl | (unfold eventV; rw [if_neg c_16, if_neg c_28]; done) | (simp only [eventV, if_neg c_16, if_neg c_28]; done) | (simp only [eventV, c_16, c_28, if_true, if_false]; done) | (simp only [eventV, c_16, c_28, if_true, if_false, not_true, not_false_iff, reduceIte]; done) | (exfalso; simp_all; done) | (simp [eventV, c_16, c_28]; done) | (simp_all [eventV]; done)))) rfl dX5_event_33
  refine lv_aload_n hx hb dX5_event_0 rfl (lv_at hl 0 rfl) ?_
  refine x_get (v := .ref b) (C := RX5) (T := TX5) (N := 4) hx hb hts hi5 hown hK hP 0 rfl rfl 0 (by decide) (hts (.fieldLink RX5 10 "PulseWheel" "bench" "LPulseWheel$Bench;") (by decide +kernel)) rfl rfl dX5_event_1 ?_
  refine lv_iload_n hx hb dX5_event_4 rfl (lv_at hl 1 rfl) ?_
  refine kSQ (va_runVN (As := [.int rd]) (rest := []) ⟨hx, hb, hml, hown, hts⟩ (c_X0_readerAt_n l D cI cB b A1 A2 t ap r1 r2 rd c0 c1 _) ⟨va_cnB 1 hts gX5_event_X0_readerAt_n24 rfl rfl rfl (nwm5_24 (args := args) hN) (hts (.initialized RX0) (by decide +kernel)) (by decide +kernel) ⟨Nat.le_of_ble_eq_true rfl, Nat.le_of_ble_eq_true rfl⟩, hts (.instanceMethod yX0_readerAt) (by decide +kernel), hts (.selects RX0 yX0_readerAt yX0_readerAt) (by decide +kernel)⟩ (preV_cut hP hD hK hN (ci := 0) rfl 3 rfl [3, 4, 5, 6, 7, 8, 9, 10, 11, 12, 13, 14, 15, 16, 17, 18, 19, 20, 21] (by decide) rfl) rfl rfl hl.1 rfl (lv_room (Nat.le_of_ble_eq_true rfl)) dX5_event_5 ⟨Nat.zero_le _, Nat.zero_le _⟩) ?_
  show W _ _ _ _ _ _ _ _ _ _ _ _ _ _ _ (F0 m 8 ls (.null :: _))
  refine lv_astoreN (lv' := [(4, .null), (0, .ref (P 0)), (1, .int rd), (2, .int k), (3, .int w)]) hx hb dX5_event_8 hl (by decide) rfl (fun ls hl => ?_)
  refine lv_aloadN hx hb dX5_event_10 (lv_at hl 0 rfl) ?_
  refine lv_ifnullN (tgt := 31) hx hb dX5_event_12 (by decide) ?_
  refine lv_ldc (v := -2000000) hx hb hown (hts (.constant RX5 67 (-2000000)) (by decide +kernel)) dX5_event_31 ?_
  exact hE _ _ _ (by first | (rw [rdV_n c0 c1]; done) | (rw [rdV_n c0 c1]; (first | rfl | (unfold eventV; rw [if_true]; done) | (simp only [eventV]; done) | (simp only [eventV, if_true, if_false]; done) | (simp only [eventV, if_true, if_false, not_true, not_false_iff, reduceIte]; done) | (exfalso; simp_all; done) | (simp [eventV]; done) | (simp_all [eventV]; done)))) rfl dX5_event_33

def rm_X5_apart : Room := { frames := 0, cells := 0, slots := 0, locals := 0 }
set_option maxHeartbeats 1000000 in
set_option maxRecDepth 100000 in
theorem c_X5_apart (l : Launch) (D : va_G) (cI cB : ClassId) (P : Nat → Nat) (b : Nat) (A1 : Nat → Nat) (A2 : Nat → Nat) (tw : Int32) (im : Nat → Option Nat) (tp : Nat → Int32) (t : Int32) (ap : Int32) (r1 : Tb) (r2 : Tb) : SI l D cI cB yX5_apart wsX5_apart rm_X5_apart [.ref (P 0)] (pwW P b A1 A2 cI cB tw im tp t ap r1 r2) ap := by
  refine SI.of (cc := cX5_apart) (maxL := 1) (ty := .int) (by decide +kernel) rfl (Nat.le_of_ble_eq_true rfl) ?_
  intro p e s m args below meth c ls Q hT hP hD hl hE
  obtain ⟨hx, hb, hr, hlocks, hnm, hml, hown, hts, hK, hN⟩ := hT
  have hl : lv_has ls 1 [(0, .ref (P 0))] := hl
  have hi0 : ∀ w ∈ wsX00, w ∈ wsX5_apart := by decide +kernel
  have hi5 : ∀ w ∈ wsX50, w ∈ wsX5_apart := by decide +kernel
  refine lv_aload_n hx hb dX5_apart_0 rfl (lv_at hl 0 rfl) ?_
  refine x_get (v := .ref b) (C := RX5) (T := TX5) (N := 4) hx hb hts hi5 hown hK hP 0 rfl rfl 0 (by decide) (hts (.fieldLink RX5 10 "PulseWheel" "bench" "LPulseWheel$Bench;") (by decide +kernel)) rfl rfl dX5_apart_1 ?_
  refine x_getN (v := .int ap) (C := RX0) (T := TX0) (N := 4) hx hb hts hi0 hown hK hP 3 rfl rfl 3 (by decide) (nwf5_157 (args := args) hN) rfl rfl dX5_apart_4 ?_
  exact hE _ _ _ (by rfl) rfl dX5_apart_7

def rm_X5_areLineBits : Room := { frames := 0, cells := 0, slots := 0, locals := 0 }
set_option maxHeartbeats 1000000 in
set_option maxRecDepth 100000 in
theorem c_X5_areLineBits (l : Launch) (D : va_G) (cI cB : ClassId) (x : Int32) : SI l D cI cB yX5_areLineBits wsX5_areLineBits rm_X5_areLineBits [.int x] [] (lineV x) := by
  refine SI.of (cc := cX5_areLineBits) (maxL := 1) (ty := .boolean) (by decide +kernel) rfl (Nat.le_of_ble_eq_true rfl) ?_
  intro p e s m args below meth c ls Q hT hP hD hl hE
  obtain ⟨hx, hb, hr, hlocks, hnm, hml, hown, hts, hK, hN⟩ := hT
  have hl : lv_has ls 1 [(0, .int x)] := hl
  refine lv_iload_n hx hb dX5_areLineBits_0 rfl (lv_at hl 0 rfl) ?_
  refine lv_if_lt (tgt := 14) hx hb dX5_areLineBits_1 (by decide) (fun c_1 => ?_) (fun c_1 => ?_)
  · skip
    refine lv_iconst (v := 0) hx hb dX5_areLineBits_14 (by decide) ?_
    exact hE _ _ _ (by first | rfl | (unfold lineV; rw [if_pos c_1]; done) | (simp only [lineV, if_pos c_1]; done) | (simp only [lineV, c_1, if_true, if_false]; done) | (simp only [lineV, c_1, if_true, if_false, not_true, not_false_iff, reduceIte]; done) | (exfalso; simp_all; done) | (simp [lineV, c_1]; done) | (simp_all [lineV]; done)) rfl dX5_areLineBits_15
  · skip
    refine lv_iload_n hx hb dX5_areLineBits_4 rfl (lv_at hl 0 rfl) ?_
    refine lv_bipush (v := 7) hx hb dX5_areLineBits_5 (by decide) ?_
    refine lv_icmp_gt (tgt := 14) hx hb dX5_areLineBits_7 (by decide) (fun c_7 => ?_) (fun c_7 => ?_)
    · skip
      refine lv_iconst (v := 0) hx hb dX5_areLineBits_14 (by decide) ?_
      exact hE _ _ _ (by first | rfl | (unfold lineV; rw [if_neg c_1, if_pos c_7]; done) | (simp only [lineV, if_neg c_1, if_pos c_7]; done) | (simp only [lineV, c_1, c_7, if_true, if_false]; done) | (simp only [lineV, c_1, c_7, if_true, if_false, not_true, not_false_iff, reduceIte]; done) | (exfalso; simp_all; done) | (simp [lineV, c_1, c_7]; done) | (simp_all [lineV]; done)) rfl dX5_areLineBits_15
    · skip
      refine lv_iconst (v := 1) hx hb dX5_areLineBits_10 (by decide) ?_
      refine lv_goto (tgt := 15) hx hb dX5_areLineBits_11 (by decide) ?_
      exact hE _ _ _ (by first | rfl | (unfold lineV; rw [if_neg c_1, if_neg c_7]; done) | (simp only [lineV, if_neg c_1, if_neg c_7]; done) | (simp only [lineV, c_1, c_7, if_true, if_false]; done) | (simp only [lineV, c_1, c_7, if_true, if_false, not_true, not_false_iff, reduceIte]; done) | (exfalso; simp_all; done) | (simp [lineV, c_1, c_7]; done) | (simp_all [lineV]; done)) rfl dX5_areLineBits_15

def rm_X5_tapeBytes : Room := { frames := 0, cells := 0, slots := 0, locals := 0 }
set_option maxHeartbeats 1000000 in
set_option maxRecDepth 100000 in
theorem c_X5_tapeBytes (l : Launch) (D : va_G) (cI cB : ClassId) (P : Nat → Nat) (b : Nat) (A1 : Nat → Nat) (A2 : Nat → Nat) (tw : Int32) (im : Nat → Option Nat) (tp : Nat → Int32) (t : Int32) (ap : Int32) (r1 : Tb) (r2 : Tb) : SI l D cI cB yX5_tapeBytes wsX5_tapeBytes rm_X5_tapeBytes [.ref (P 0)] (pwW P b A1 A2 cI cB tw im tp t ap r1 r2) (tw * 4) := by
  refine SI.of (cc := cX5_tapeBytes) (maxL := 1) (ty := .int) (by decide +kernel) rfl (Nat.le_of_ble_eq_true rfl) ?_
  intro p e s m args below meth c ls Q hT hP hD hl hE
  obtain ⟨hx, hb, hr, hlocks, hnm, hml, hown, hts, hK, hN⟩ := hT
  have hl : lv_has ls 1 [(0, .ref (P 0))] := hl
  have hi5 : ∀ w ∈ wsX50, w ∈ wsX5_tapeBytes := by decide +kernel
  refine lv_aload_n hx hb dX5_tapeBytes_0 rfl (lv_at hl 0 rfl) ?_
  refine x_get (v := .int tw) (C := RX5) (T := TX5) (N := 4) hx hb hts hi5 hown hK hP 0 rfl rfl 3 (by decide) (hts (.fieldLink RX5 53 "PulseWheel" "tapeWords" "I") (by decide +kernel)) rfl rfl dX5_tapeBytes_1 ?_
  refine lv_iconst (v := 4) hx hb dX5_tapeBytes_4 (by decide) ?_
  refine lv_imul hx hb dX5_tapeBytes_5 ?_
  exact hE _ _ _ (by rfl) rfl dX5_tapeBytes_6
