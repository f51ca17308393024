/-! ### copyFrom: two of a kind -/
theorem putL_app : ∀ (is1 : List Nat) (w1 : va_W), is1.length = w1.length → ∀ (ws : va_W) (is2 : List Nat) (w2 : va_W), putL ws (is1 ++ is2) (w1 ++ w2) = putL (putL ws is1 w1) is2 w2 := by
  intro is1
  induction is1 with
  | nil => intro w1 h ws is2 w2; cases w1 with
    | nil => cases is2 <;> cases w2 <;> rfl
    | cons e w1 => simp at h
  | cons i is1 ih => intro w1 h ws is2 w2; cases w1 with
    | nil => simp at h
    | cons e w1 => exact ih w1 (by simpa using h) (ws.set i e) is2 w2

theorem putL_log2_log2 {A B : Nat → Nat} {cI : ClassId} {r q r' : Tb} : putL (logW A cI r ++ logW B cI q) [0, 1, 2, 3, 4, 5, 6, 7] (logW A cI r' ++ logW B cI q) = logW A cI r' ++ logW B cI q := putL_all (logW A cI r ++ logW B cI q) (logW A cI r' ++ logW B cI q) rfl
theorem adr_log2 {A B : Nat → Nat} {cI : ClassId} {r q r' : Tb} : (logW A cI r' ++ logW B cI q).map (fun q => q.1) = (logW A cI r ++ logW B cI q).map (fun q => q.1) := rfl
theorem putL_teeth2_teeth2 {A B : Nat → Nat} {cI : ClassId} {r q r' : Tb} : putL (teethW A cI r ++ teethW B cI q) [0, 1, 2, 3] (teethW A cI r' ++ teethW B cI q) = teethW A cI r' ++ teethW B cI q := putL_all (teethW A cI r ++ teethW B cI q) (teethW A cI r' ++ teethW B cI q) rfl
theorem adr_teeth2 {A B : Nat → Nat} {cI : ClassId} {r q r' : Tb} : (teethW A cI r' ++ teethW B cI q).map (fun q => q.1) = (teethW A cI r ++ teethW B cI q).map (fun q => q.1) := rfl
theorem putL_reader2_reader2 {A B : Nat → Nat} {cI : ClassId} {r q r' : Tb} : putL (readerW A cI r ++ readerW B cI q) [0, 1, 2, 3, 4, 5, 6, 7, 8, 9, 10, 11, 12, 13, 14, 15, 16, 17] (readerW A cI r' ++ readerW B cI q) = readerW A cI r' ++ readerW B cI q := putL_all (readerW A cI r ++ readerW B cI q) (readerW A cI r' ++ readerW B cI q) rfl
theorem adr_reader2 {A B : Nat → Nat} {cI : ClassId} {r q r' : Tb} : (readerW A cI r' ++ readerW B cI q).map (fun q => q.1) = (readerW A cI r ++ readerW B cI q).map (fun q => q.1) := rfl
theorem putL_reader2_log2 {A B : Nat → Nat} {cI : ClassId} {r q r' : Tb} : putL (readerW A cI r ++ readerW B cI q) [3, 4, 5, 6, 12, 13, 14, 15] (logW A cI r' ++ logW B cI q) = readerW A cI (selR [3, 4, 5, 6] r r') ++ readerW B cI q := by
  refine (putL_app [3, 4, 5, 6] (logW A cI r') rfl (readerW A cI r ++ readerW B cI q) [12, 13, 14, 15] (logW B cI q)).trans ?_
  have h1 : putL (readerW A cI r ++ readerW B cI q) [3, 4, 5, 6] (logW A cI r') = readerW A cI (selR [3, 4, 5, 6] r r') ++ readerW B cI q := putL_mid (logW A cI r) [(A 0, .inr (2, [.ref (A 1), .ref (A 2), .ref (A 3), .ref (A 7), .int (r 0 4), .int (r 0 5), .int (r 0 6), .int (r 0 7), .int (r 0 8), .int (r 0 9), .int (r 0 10), .int (r 0 11), .int (r 0 12), .int (r 0 13), .int (r 0 14), .int (r 0 15)])), (A 1, .inl (cI, 3, .inl (r 1))), (A 2, .inl (cI, 501, .inl (r 2)))] (teethW A cI r ++ readerW B cI q) (logW A cI r') rfl
  rw [h1]
  exact putL_mid (logW B cI q) (readerW A cI (selR [3, 4, 5, 6] r r') ++ [(B 0, .inr (2, [.ref (B 1), .ref (B 2), .ref (B 3), .ref (B 7), .int (q 0 4), .int (q 0 5), .int (q 0 6), .int (q 0 7), .int (q 0 8), .int (q 0 9), .int (q 0 10), .int (q 0 11), .int (q 0 12), .int (q 0 13), .int (q 0 14), .int (q 0 15)])), (B 1, .inl (cI, 3, .inl (q 1))), (B 2, .inl (cI, 501, .inl (q 2)))]) (teethW B cI q) (logW B cI q) rfl
theorem putL_reader2_teeth2 {A B : Nat → Nat} {cI : ClassId} {r q r' : Tb} : putL (readerW A cI r ++ readerW B cI q) [7, 8, 16, 17] (teethW A cI r' ++ teethW B cI q) = readerW A cI (selR [7, 8] r r') ++ readerW B cI q := by
  refine (putL_app [7, 8] (teethW A cI r') rfl (readerW A cI r ++ readerW B cI q) [16, 17] (teethW B cI q)).trans ?_
  have h1 : putL (readerW A cI r ++ readerW B cI q) [7, 8] (teethW A cI r') = readerW A cI (selR [7, 8] r r') ++ readerW B cI q := putL_mid (teethW A cI r) ([(A 0, .inr (2, [.ref (A 1), .ref (A 2), .ref (A 3), .ref (A 7), .int (r 0 4), .int (r 0 5), .int (r 0 6), .int (r 0 7), .int (r 0 8), .int (r 0 9), .int (r 0 10), .int (r 0 11), .int (r 0 12), .int (r 0 13), .int (r 0 14), .int (r 0 15)])), (A 1, .inl (cI, 3, .inl (r 1))), (A 2, .inl (cI, 501, .inl (r 2)))] ++ logW A cI r) (readerW B cI q) (teethW A cI r') rfl
  rw [h1]
  have h2 := putL_mid (teethW B cI q) (readerW A cI (selR [7, 8] r r') ++ ([(B 0, .inr (2, [.ref (B 1), .ref (B 2), .ref (B 3), .ref (B 7), .int (q 0 4), .int (q 0 5), .int (q 0 6), .int (q 0 7), .int (q 0 8), .int (q 0 9), .int (q 0 10), .int (q 0 11), .int (q 0 12), .int (q 0 13), .int (q 0 14), .int (q 0 15)])), (B 1, .inl (cI, 3, .inl (q 1))), (B 2, .inl (cI, 501, .inl (q 2)))] ++ logW B cI q)) [] (teethW B cI q) rfl
  simp only [List.append_nil] at h2
  exact h2
theorem adr_bench2 {b bq : Nat} {A1 A2 B1 B2 : Nat → Nat} {cI : ClassId} {t ap u aq t' ap' : Int32} {r1 r2 q1 q2 r1' r2' : Tb} : (benchW b A1 A2 cI t' ap' r1' r2' ++ benchW bq B1 B2 cI u aq q1 q2).map (fun q => q.1) = (benchW b A1 A2 cI t ap r1 r2 ++ benchW bq B1 B2 cI u aq q1 q2).map (fun q => q.1) := rfl
theorem putL_bench2_reader21 {b bq : Nat} {A1 A2 B1 B2 : Nat → Nat} {cI : ClassId} {t ap u aq : Int32} {r1 r2 q1 q2 r1' : Tb} : putL (benchW b A1 A2 cI t ap r1 r2 ++ benchW bq B1 B2 cI u aq q1 q2) [1, 2, 3, 4, 5, 6, 7, 8, 9, 20, 21, 22, 23, 24, 25, 26, 27, 28] (readerW A1 cI r1' ++ readerW B1 cI q1) = benchW b A1 A2 cI t ap r1' r2 ++ benchW bq B1 B2 cI u aq q1 q2 := by
  refine (putL_app [1, 2, 3, 4, 5, 6, 7, 8, 9] (readerW A1 cI r1') rfl (benchW b A1 A2 cI t ap r1 r2 ++ benchW bq B1 B2 cI u aq q1 q2) [20, 21, 22, 23, 24, 25, 26, 27, 28] (readerW B1 cI q1)).trans ?_
  have h1 : putL (benchW b A1 A2 cI t ap r1 r2 ++ benchW bq B1 B2 cI u aq q1 q2) [1, 2, 3, 4, 5, 6, 7, 8, 9] (readerW A1 cI r1') = benchW b A1 A2 cI t ap r1' r2 ++ benchW bq B1 B2 cI u aq q1 q2 := putL_mid (readerW A1 cI r1) [(b, .inr (0, [.ref (A1 0), .ref (A2 0), .int t, .int ap]))] (readerW A2 cI r2 ++ benchW bq B1 B2 cI u aq q1 q2) (readerW A1 cI r1') rfl
  rw [h1]
  exact putL_mid (readerW B1 cI q1) (benchW b A1 A2 cI t ap r1' r2 ++ [(bq, .inr (0, [.ref (B1 0), .ref (B2 0), .int u, .int aq]))]) (readerW B2 cI q2) (readerW B1 cI q1) rfl
theorem putL_bench2_reader22 {b bq : Nat} {A1 A2 B1 B2 : Nat → Nat} {cI : ClassId} {t ap u aq : Int32} {r1 r2 q1 q2 r2' : Tb} : putL (benchW b A1 A2 cI t ap r1 r2 ++ benchW bq B1 B2 cI u aq q1 q2) [10, 11, 12, 13, 14, 15, 16, 17, 18, 29, 30, 31, 32, 33, 34, 35, 36, 37] (readerW A2 cI r2' ++ readerW B2 cI q2) = benchW b A1 A2 cI t ap r1 r2' ++ benchW bq B1 B2 cI u aq q1 q2 := by
  refine (putL_app [10, 11, 12, 13, 14, 15, 16, 17, 18] (readerW A2 cI r2') rfl (benchW b A1 A2 cI t ap r1 r2 ++ benchW bq B1 B2 cI u aq q1 q2) [29, 30, 31, 32, 33, 34, 35, 36, 37] (readerW B2 cI q2)).trans ?_
  have h1 : putL (benchW b A1 A2 cI t ap r1 r2 ++ benchW bq B1 B2 cI u aq q1 q2) [10, 11, 12, 13, 14, 15, 16, 17, 18] (readerW A2 cI r2') = benchW b A1 A2 cI t ap r1 r2' ++ benchW bq B1 B2 cI u aq q1 q2 := putL_mid (readerW A2 cI r2) ([(b, .inr (0, [.ref (A1 0), .ref (A2 0), .int t, .int ap]))] ++ readerW A1 cI r1) (benchW bq B1 B2 cI u aq q1 q2) (readerW A2 cI r2') rfl
  rw [h1]
  have h2 := putL_mid (readerW B2 cI q2) (benchW b A1 A2 cI t ap r1 r2' ++ ([(bq, .inr (0, [.ref (B1 0), .ref (B2 0), .int u, .int aq]))] ++ readerW B1 cI q1)) [] (readerW B2 cI q2) rfl
  simp only [List.append_nil] at h2
  exact h2
def copyLog (r q : Tb) : Tb := up2 (up2 (up1 (up1 (up1 r 4 (va_cpy (q 4) (r 4) 0 0 300)) 5 (va_cpy (q 5) (r 5) 0 0 300)) 6 (va_cpy (q 6) (r 6) 0 0 300)) 3 3 (q 3 3)) 3 4 (q 3 4)
def copyTeeth (r q : Tb) : Tb := up2 (up2 (up1 r 8 (va_cpy (q 8) (r 8) 0 0 64)) 7 1 (q 7 1)) 7 2 (q 7 2)
def copyR (r q : Tb) : Tb := up2 (up2 (up2 (up2 (up2 (up2 (up2 (up2 (up2 (up2 (up2 (up2 (copyTeeth (copyLog (up1 (up1 r 1 (va_cpy (q 1) (r 1) 0 0 3)) 2 (va_cpy (q 2) (r 2) 0 0 501)) q) q) 0 4 (q 0 4)) 0 5 (q 0 5)) 0 6 (q 0 6)) 0 7 (q 0 7)) 0 8 (q 0 8)) 0 9 (q 0 9)) 0 10 (q 0 10)) 0 11 (q 0 11)) 0 12 (q 0 12)) 0 13 (q 0 13)) 0 14 (q 0 14)) 0 15 (q 0 15)
theorem sel_copyLog (r q : Tb) : selR [3, 4, 5, 6] r (copyLog r q) = copyLog r q := by
  funext c
  unfold selR copyLog up2 up1
  by_cases h3 : c = 3
  · subst h3; rfl
  · by_cases h4 : c = 4
    · subst h4; rfl
    · by_cases h5 : c = 5
      · subst h5; rfl
      · by_cases h6 : c = 6
        · subst h6; rfl
        · simp [h3, h4, h5, h6]
theorem sel_copyTeeth (r q : Tb) : selR [7, 8] r (copyTeeth r q) = copyTeeth r q := by
  funext c
  unfold selR copyTeeth up2 up1
  by_cases h7 : c = 7
  · subst h7; rfl
  · by_cases h8 : c = 8
    · subst h8; rfl
    · simp [h7, h8]
theorem fits_bool_of {v : Int32} (h : v = 0 ∨ v = 1) : narrow .boolean (.int v) = .int v := by rcases h with rfl | rfl <;> rfl
theorem fits_bool {v : Int32} (h : v = 0 ∨ v = 1) : fits .boolean (.int v) = true := by rcases h with rfl | rfl <;> rfl

def rm_X1_copyFrom : Room := { frames := 1, cells := 0, slots := 0, locals := 60 }
set_option maxHeartbeats 1000000 in
set_option maxRecDepth 100000 in
theorem c_X1_copyFrom (l : Launch) (D : va_G) (cI cB : ClassId) (A : Nat → Nat) (r : Tb) (B : Nat → Nat) (q : Tb) : CV l D cI cB yX1_copyFrom wsX1_copyFrom rm_X1_copyFrom [.ref (A 3), .ref (B 3)] (logW A cI r ++ logW B cI q) (logW A cI (copyLog r q) ++ logW B cI q) := by
  refine CV.of (cc := cX1_copyFrom) (maxL := 2)  (by decide +kernel) rfl (Nat.le_of_ble_eq_true rfl) ?_
  intro p e s m args below meth c ls A0 Q hT hH hA hl hE
  obtain ⟨hx, hb, hr, hlocks, hnm, hml, hown, hts, hK, hN⟩ := hT
  have hl : lv_has ls 2 [(0, .ref (A 3)), (1, .ref (B 3))] := hl
  have hi1 : ∀ w ∈ wsX10, w ∈ wsX1_copyFrom := by decide +kernel
  refine lv_aload_n hx hb dX1_copyFrom_0 rfl (lv_at hl 1 rfl) ?_
  refine x_get (v := .ref (B 4)) (C := RX1) (T := TX1) (N := 5) hx hb hts hi1 hown hK hH.1 4 rfl rfl 0 (by decide) (hts (.fieldLink RX1 9 "PulseWheel$EventLog" "sorts" "[I") (by decide +kernel)) rfl rfl dX1_copyFrom_1 ?_
  refine lv_iconst (v := 0) hx hb dX1_copyFrom_4 (by decide) ?_
  refine lv_aload_n hx hb dX1_copyFrom_5 rfl (lv_at hl 0 rfl) ?_
  refine x_get (v := .ref (A 4)) (C := RX1) (T := TX1) (N := 5) hx hb hts hi1 hown hK hH.1 0 rfl rfl 0 (by decide) (hts (.fieldLink RX1 9 "PulseWheel$EventLog" "sorts" "[I") (by decide +kernel)) rfl rfl dX1_copyFrom_6 ?_
  refine lv_iconst (v := 0) hx hb dX1_copyFrom_9 (by decide) ?_
  refine lv_sipush (v := 300) hx hb dX1_copyFrom_10 (by decide) ?_
  obtain ⟨r_1, er_1⟩ : ∃ z, z = up1 r 4 (va_cpy (q 4) (r 4) 0 0 300) := ⟨_, rfl⟩
  refine x_cpy (ws' := (logW A cI r_1 ++ logW B cI q)) (sp := 0) (dp := 0) (nn := 300) hx hb (hml.trans hl.1.symm) hown (hts (.methodLink RX1 41 arraycopyName) (by decide +kernel)) (hts (.native arraycopyName) (by decide +kernel)) (hts (.static arraycopyName) (by decide +kernel)) (hts (.initialized "java/lang/System") (by decide +kernel)) hK hH 5 1 rfl rfl (by decide) (by decide) (by decide) (by decide) (by decide) (by decide) (by decide) (by decide) (Nat.le_of_ble_eq_true rfl) (by decide) dX1_copyFrom_13 (by rw [er_1]; rfl) (fun H locs hH => ?_)
  refine lv_aload_n hx hb dX1_copyFrom_16 rfl (lv_at hl 1 rfl) ?_
  refine x_get (v := .ref (B 5)) (C := RX1) (T := TX1) (N := 5) hx hb hts hi1 hown hK hH.1 4 rfl rfl 1 (by decide) (hts (.fieldLink RX1 15 "PulseWheel$EventLog" "ticks" "[I") (by decide +kernel)) rfl rfl dX1_copyFrom_17 ?_
  refine lv_iconst (v := 0) hx hb dX1_copyFrom_20 (by decide) ?_
  refine lv_aload_n hx hb dX1_copyFrom_21 rfl (lv_at hl 0 rfl) ?_
  refine x_get (v := .ref (A 5)) (C := RX1) (T := TX1) (N := 5) hx hb hts hi1 hown hK hH.1 0 rfl rfl 1 (by decide) (hts (.fieldLink RX1 15 "PulseWheel$EventLog" "ticks" "[I") (by decide +kernel)) rfl rfl dX1_copyFrom_22 ?_
  refine lv_iconst (v := 0) hx hb dX1_copyFrom_25 (by decide) ?_
  refine lv_sipush (v := 300) hx hb dX1_copyFrom_26 (by decide) ?_
  obtain ⟨r_2, er_2⟩ : ∃ z, z = up1 r_1 5 (va_cpy (q 5) (r_1 5) 0 0 300) := ⟨_, rfl⟩
  refine x_cpy (ws' := (logW A cI r_2 ++ logW B cI q)) (sp := 0) (dp := 0) (nn := 300) hx hb (hml.trans hl.1.symm) hown (hts (.methodLink RX1 41 arraycopyName) (by decide +kernel)) (hts (.native arraycopyName) (by decide +kernel)) (hts (.static arraycopyName) (by decide +kernel)) (hts (.initialized "java/lang/System") (by decide +kernel)) hK hH 6 2 rfl rfl (by decide) (by decide) (by decide) (by decide) (by decide) (by decide) (by decide) (by decide) (Nat.le_of_ble_eq_true rfl) (by decide) dX1_copyFrom_29 (by rw [er_2]; rfl) (fun H locs hH => ?_)
  refine lv_aload_n hx hb dX1_copyFrom_32 rfl (lv_at hl 1 rfl) ?_
  refine x_get (v := .ref (B 6)) (C := RX1) (T := TX1) (N := 5) hx hb hts hi1 hown hK hH.1 4 rfl rfl 2 (by decide) (hts (.fieldLink RX1 18 "PulseWheel$EventLog" "places" "[I") (by decide +kernel)) rfl rfl dX1_copyFrom_33 ?_
  refine lv_iconst (v := 0) hx hb dX1_copyFrom_36 (by decide) ?_
  refine lv_aload_n hx hb dX1_copyFrom_37 rfl (lv_at hl 0 rfl) ?_
  refine x_get (v := .ref (A 6)) (C := RX1) (T := TX1) (N := 5) hx hb hts hi1 hown hK hH.1 0 rfl rfl 2 (by decide) (hts (.fieldLink RX1 18 "PulseWheel$EventLog" "places" "[I") (by decide +kernel)) rfl rfl dX1_copyFrom_38 ?_
  refine lv_iconst (v := 0) hx hb dX1_copyFrom_41 (by decide) ?_
  refine lv_sipush (v := 300) hx hb dX1_copyFrom_42 (by decide) ?_
  obtain ⟨r_3, er_3⟩ : ∃ z, z = up1 r_2 6 (va_cpy (q 6) (r_2 6) 0 0 300) := ⟨_, rfl⟩
  refine x_cpy (ws' := (logW A cI r_3 ++ logW B cI q)) (sp := 0) (dp := 0) (nn := 300) hx hb (hml.trans hl.1.symm) hown (hts (.methodLink RX1 41 arraycopyName) (by decide +kernel)) (hts (.native arraycopyName) (by decide +kernel)) (hts (.static arraycopyName) (by decide +kernel)) (hts (.initialized "java/lang/System") (by decide +kernel)) hK hH 7 3 rfl rfl (by decide) (by decide) (by decide) (by decide) (by decide) (by decide) (by decide) (by decide) (Nat.le_of_ble_eq_true rfl) (by decide) dX1_copyFrom_45 (by rw [er_3]; rfl) (fun H locs hH => ?_)
  refine lv_aload_n hx hb dX1_copyFrom_48 rfl (lv_at hl 0 rfl) ?_
  refine lv_aload_n hx hb dX1_copyFrom_49 rfl (lv_at hl 1 rfl) ?_
  refine x_get (v := .int (q 3 3)) (C := RX1) (T := TX1) (N := 5) hx hb hts hi1 hown hK hH.1 4 rfl rfl 3 (by decide) (hts (.fieldLink RX1 21 "PulseWheel$EventLog" "count" "I") (by decide +kernel)) rfl rfl dX1_copyFrom_50 ?_
  obtain ⟨r_4, er_4⟩ : ∃ z, z = up2 r_3 3 3 (q 3 3) := ⟨_, rfl⟩
  refine x_put (ws' := (logW A cI r_4 ++ logW B cI q)) (v := .int (q 3 3)) (ty := .int) (C := RX1) (T := TX1) (N := 5) hx hb hts hi1 tyX1_ok nmX1 hown hK hH 0 rfl rfl 3 (by decide) (hts (.fieldLink RX1 21 "PulseWheel$EventLog" "count" "I") (by decide +kernel)) rfl rfl rfl (rfl) (rfl) (Nat.le_of_ble_eq_true rfl) dX1_copyFrom_53 (by rw [er_4]; rfl) (fun H locs hH => ?_)
  refine lv_aload_n hx hb dX1_copyFrom_56 rfl (lv_at hl 0 rfl) ?_
  refine lv_aload_n hx hb dX1_copyFrom_57 rfl (lv_at hl 1 rfl) ?_
  refine x_get (v := .int (q 3 4)) (C := RX1) (T := TX1) (N := 5) hx hb hts hi1 hown hK hH.1 4 rfl rfl 4 (by decide) (hts (.fieldLink RX1 25 "PulseWheel$EventLog" "streak" "I") (by decide +kernel)) rfl rfl dX1_copyFrom_58 ?_
  obtain ⟨r_5, er_5⟩ : ∃ z, z = up2 r_4 3 4 (q 3 4) := ⟨_, rfl⟩
  refine x_put (ws' := (logW A cI r_5 ++ logW B cI q)) (v := .int (q 3 4)) (ty := .int) (C := RX1) (T := TX1) (N := 5) hx hb hts hi1 tyX1_ok nmX1 hown hK hH 0 rfl rfl 4 (by decide) (hts (.fieldLink RX1 25 "PulseWheel$EventLog" "streak" "I") (by decide +kernel)) rfl rfl rfl (rfl) (rfl) (Nat.le_of_ble_eq_true rfl) dX1_copyFrom_61 (by rw [er_5]; rfl) (fun H locs hH => ?_)
  have hf_r : r_5 = copyLog r q := by subst er_5; subst er_4; subst er_3; subst er_2; subst er_1; rfl
  exact hE _ _ _ _ _ hH ((congrArg (fun zz => (logW A cI zz ++ logW B cI q)) hf_r)) dX1_copyFrom_64

def rm_X4_copyFrom : Room := { frames := 1, cells := 0, slots := 0, locals := 60 }
set_option maxHeartbeats 1000000 in
set_option maxRecDepth 100000 in
theorem c_X4_copyFrom (l : Launch) (D : va_G) (cI cB : ClassId) (A : Nat → Nat) (r : Tb) (B : Nat → Nat) (q : Tb) : CV l D cI cB yX4_copyFrom wsX4_copyFrom rm_X4_copyFrom [.ref (A 7), .ref (B 7)] (teethW A cI r ++ teethW B cI q) (teethW A cI (copyTeeth r q) ++ teethW B cI q) := by
  refine CV.of (cc := cX4_copyFrom) (maxL := 2)  (by decide +kernel) rfl (Nat.le_of_ble_eq_true rfl) ?_
  intro p e s m args below meth c ls A0 Q hT hH hA hl hE
  obtain ⟨hx, hb, hr, hlocks, hnm, hml, hown, hts, hK, hN⟩ := hT
  have hl : lv_has ls 2 [(0, .ref (A 7)), (1, .ref (B 7))] := hl
  have hi4 : ∀ w ∈ wsX40, w ∈ wsX4_copyFrom := by decide +kernel
  refine lv_aload_n hx hb dX4_copyFrom_0 rfl (lv_at hl 1 rfl) ?_
  refine x_get (v := .ref (B 8)) (C := RX4) (T := TX4) (N := 3) hx hb hts hi4 hown hK hH.1 2 rfl rfl 0 (by decide) (hts (.fieldLink RX4 9 "PulseWheel$Teeth" "sums" "[I") (by decide +kernel)) rfl rfl dX4_copyFrom_1 ?_
  refine lv_iconst (v := 0) hx hb dX4_copyFrom_4 (by decide) ?_
  refine lv_aload_n hx hb dX4_copyFrom_5 rfl (lv_at hl 0 rfl) ?_
  refine x_get (v := .ref (A 8)) (C := RX4) (T := TX4) (N := 3) hx hb hts hi4 hown hK hH.1 0 rfl rfl 0 (by decide) (hts (.fieldLink RX4 9 "PulseWheel$Teeth" "sums" "[I") (by decide +kernel)) rfl rfl dX4_copyFrom_6 ?_
  refine lv_iconst (v := 0) hx hb dX4_copyFrom_9 (by decide) ?_
  refine lv_aload_n hx hb dX4_copyFrom_10 rfl (lv_at hl 0 rfl) ?_
  refine x_get (v := .ref (A 8)) (C := RX4) (T := TX4) (N := 3) hx hb hts hi4 hown hK hH.1 0 rfl rfl 0 (by decide) (hts (.fieldLink RX4 9 "PulseWheel$Teeth" "sums" "[I") (by decide +kernel)) rfl rfl dX4_copyFrom_11 ?_
  refine x_alen (v := 64) hx hb hK hH.1 1 rfl rfl dX4_copyFrom_14 ?_
  obtain ⟨r_1, er_1⟩ : ∃ z, z = up1 r 8 (va_cpy (q 8) (r 8) 0 0 64) := ⟨_, rfl⟩
  refine x_cpy (ws' := (teethW A cI r_1 ++ teethW B cI q)) (sp := 0) (dp := 0) (nn := 64) hx hb (hml.trans hl.1.symm) hown (hts (.methodLink RX4 44 arraycopyName) (by decide +kernel)) (hts (.native arraycopyName) (by decide +kernel)) (hts (.static arraycopyName) (by decide +kernel)) (hts (.initialized "java/lang/System") (by decide +kernel)) hK hH 3 1 rfl rfl (by decide) (by decide) (by decide) (by decide) (by decide) (by decide) (by decide) (by decide) (Nat.le_of_ble_eq_true rfl) (by decide) dX4_copyFrom_15 (by rw [er_1]; rfl) (fun H locs hH => ?_)
  refine lv_aload_n hx hb dX4_copyFrom_18 rfl (lv_at hl 0 rfl) ?_
  refine lv_aload_n hx hb dX4_copyFrom_19 rfl (lv_at hl 1 rfl) ?_
  refine x_get (v := .int (q 7 1)) (C := RX4) (T := TX4) (N := 3) hx hb hts hi4 hown hK hH.1 2 rfl rfl 1 (by decide) (hts (.fieldLink RX4 21 "PulseWheel$Teeth" "wholeTurns" "I") (by decide +kernel)) rfl rfl dX4_copyFrom_20 ?_
  obtain ⟨r_2, er_2⟩ : ∃ z, z = up2 r_1 7 1 (q 7 1) := ⟨_, rfl⟩
  refine x_put (ws' := (teethW A cI r_2 ++ teethW B cI q)) (v := .int (q 7 1)) (ty := .int) (C := RX4) (T := TX4) (N := 3) hx hb hts hi4 tyX4_ok nmX4 hown hK hH 0 rfl rfl 1 (by decide) (hts (.fieldLink RX4 21 "PulseWheel$Teeth" "wholeTurns" "I") (by decide +kernel)) rfl rfl rfl (rfl) (rfl) (Nat.le_of_ble_eq_true rfl) dX4_copyFrom_23 (by rw [er_2]; rfl) (fun H locs hH => ?_)
  refine lv_aload_n hx hb dX4_copyFrom_26 rfl (lv_at hl 0 rfl) ?_
  refine lv_aload_n hx hb dX4_copyFrom_27 rfl (lv_at hl 1 rfl) ?_
  refine x_get (v := .int (q 7 2)) (C := RX4) (T := TX4) (N := 3) hx hb hts hi4 hown hK hH.1 2 rfl rfl 2 (by decide) (hts (.fieldLink RX4 25 "PulseWheel$Teeth" "eventsAtZero" "I") (by decide +kernel)) rfl rfl dX4_copyFrom_28 ?_
  obtain ⟨r_3, er_3⟩ : ∃ z, z = up2 r_2 7 2 (q 7 2) := ⟨_, rfl⟩
  refine x_put (ws' := (teethW A cI r_3 ++ teethW B cI q)) (v := .int (q 7 2)) (ty := .int) (C := RX4) (T := TX4) (N := 3) hx hb hts hi4 tyX4_ok nmX4 hown hK hH 0 rfl rfl 2 (by decide) (hts (.fieldLink RX4 25 "PulseWheel$Teeth" "eventsAtZero" "I") (by decide +kernel)) rfl rfl rfl (rfl) (rfl) (Nat.le_of_ble_eq_true rfl) dX4_copyFrom_31 (by rw [er_3]; rfl) (fun H locs hH => ?_)
  have hf_r : r_3 = copyTeeth r q := by subst er_3; subst er_2; subst er_1; rfl
  exact hE _ _ _ _ _ hH ((congrArg (fun zz => (teethW A cI zz ++ teethW B cI q)) hf_r)) dX4_copyFrom_34

def rm_X2_copyFrom : Room := { frames := 2, cells := 0, slots := 0, locals := 81 }
set_option maxHeartbeats 1000000 in
set_option maxRecDepth 100000 in
theorem c_X2_copyFrom (l : Launch) (D : va_G) (cI cB : ClassId) (A : Nat → Nat) (r : Tb) (B : Nat → Nat) (q : Tb) (h10 : q 0 10 = 0 ∨ q 0 10 = 1) : CV l D cI cB yX2_copyFrom wsX2_copyFrom rm_X2_copyFrom [.ref (A 0), .ref (B 0)] (readerW A cI r ++ readerW B cI q) (readerW A cI (copyR r q) ++ readerW B cI q) := by
  refine CV.of (cc := cX2_copyFrom) (maxL := 2)  (by decide +kernel) rfl (Nat.le_of_ble_eq_true rfl) ?_
  intro p e s m args below meth c ls A0 Q hT hH hA hl hE
  obtain ⟨hx, hb, hr, hlocks, hnm, hml, hown, hts, hK, hN⟩ := hT
  have hl : lv_has ls 2 [(0, .ref (A 0)), (1, .ref (B 0))] := hl
  have hi2 : ∀ w ∈ wsX20, w ∈ wsX2_copyFrom := by decide +kernel
  refine lv_aload_n hx hb dX2_copyFrom_0 rfl (lv_at hl 1 rfl) ?_
  refine x_get (v := .ref (B 1)) (C := RX2) (T := TX2) (N := 16) hx hb hts hi2 hown hK hH.1 9 rfl rfl 0 (by decide) (hts (.fieldLink RX2 9 "PulseWheel$Reader" "runs" "[I") (by decide +kernel)) rfl rfl dX2_copyFrom_1 ?_
  refine lv_iconst (v := 0) hx hb dX2_copyFrom_4 (by decide) ?_
  refine lv_aload_n hx hb dX2_copyFrom_5 rfl (lv_at hl 0 rfl) ?_
  refine x_get (v := .ref (A 1)) (C := RX2) (T := TX2) (N := 16) hx hb hts hi2 hown hK hH.1 0 rfl rfl 0 (by decide) (hts (.fieldLink RX2 9 "PulseWheel$Reader" "runs" "[I") (by decide +kernel)) rfl rfl dX2_copyFrom_6 ?_
  refine lv_iconst (v := 0) hx hb dX2_copyFrom_9 (by decide) ?_
  refine lv_aload_n hx hb dX2_copyFrom_10 rfl (lv_at hl 0 rfl) ?_
  refine x_get (v := .ref (A 1)) (C := RX2) (T := TX2) (N := 16) hx hb hts hi2 hown hK hH.1 0 rfl rfl 0 (by decide) (hts (.fieldLink RX2 9 "PulseWheel$Reader" "runs" "[I") (by decide +kernel)) rfl rfl dX2_copyFrom_11 ?_
  refine x_alen (v := 3) hx hb hK hH.1 1 rfl rfl dX2_copyFrom_14 ?_
  obtain ⟨r_1, er_1⟩ : ∃ z, z = up1 r 1 (va_cpy (q 1) (r 1) 0 0 3) := ⟨_, rfl⟩
  refine x_cpy (ws' := (readerW A cI r_1 ++ readerW B cI q)) (sp := 0) (dp := 0) (nn := 3) hx hb (hml.trans hl.1.symm) hown (hts (.methodLink RX2 118 arraycopyName) (by decide +kernel)) (hts (.native arraycopyName) (by decide +kernel)) (hts (.static arraycopyName) (by decide +kernel)) (hts (.initialized "java/lang/System") (by decide +kernel)) hK hH 10 1 rfl rfl (by decide) (by decide) (by decide) (by decide) (by decide) (by decide) (by decide) (by decide) (Nat.le_of_ble_eq_true rfl) (by decide) dX2_copyFrom_15 (by rw [er_1]; rfl) (fun H locs hH => ?_)
  refine lv_aload_n hx hb dX2_copyFrom_18 rfl (lv_at hl 1 rfl) ?_
  refine x_get (v := .ref (B 2)) (C := RX2) (T := TX2) (N := 16) hx hb hts hi2 hown hK hH.1 9 rfl rfl 1 (by decide) (hts (.fieldLink RX2 15 "PulseWheel$Reader" "path" "[I") (by decide +kernel)) rfl rfl dX2_copyFrom_19 ?_
  refine lv_iconst (v := 0) hx hb dX2_copyFrom_22 (by decide) ?_
  refine lv_aload_n hx hb dX2_copyFrom_23 rfl (lv_at hl 0 rfl) ?_
  refine x_get (v := .ref (A 2)) (C := RX2) (T := TX2) (N := 16) hx hb hts hi2 hown hK hH.1 0 rfl rfl 1 (by decide) (hts (.fieldLink RX2 15 "PulseWheel$Reader" "path" "[I") (by decide +kernel)) rfl rfl dX2_copyFrom_24 ?_
  refine lv_iconst (v := 0) hx hb dX2_copyFrom_27 (by decide) ?_
  refine lv_aload_n hx hb dX2_copyFrom_28 rfl (lv_at hl 0 rfl) ?_
  refine x_get (v := .ref (A 2)) (C := RX2) (T := TX2) (N := 16) hx hb hts hi2 hown hK hH.1 0 rfl rfl 1 (by decide) (hts (.fieldLink RX2 15 "PulseWheel$Reader" "path" "[I") (by decide +kernel)) rfl rfl dX2_copyFrom_29 ?_
  refine x_alen (v := 501) hx hb hK hH.1 2 rfl rfl dX2_copyFrom_32 ?_
  obtain ⟨r_2, er_2⟩ : ∃ z, z = up1 r_1 2 (va_cpy (q 2) (r_1 2) 0 0 501) := ⟨_, rfl⟩
  refine x_cpy (ws' := (readerW A cI r_2 ++ readerW B cI q)) (sp := 0) (dp := 0) (nn := 501) hx hb (hml.trans hl.1.symm) hown (hts (.methodLink RX2 118 arraycopyName) (by decide +kernel)) (hts (.native arraycopyName) (by decide +kernel)) (hts (.static arraycopyName) (by decide +kernel)) (hts (.initialized "java/lang/System") (by decide +kernel)) hK hH 11 2 rfl rfl (by decide) (by decide) (by decide) (by decide) (by decide) (by decide) (by decide) (by decide) (Nat.le_of_ble_eq_true rfl) (by decide) dX2_copyFrom_33 (by rw [er_2]; rfl) (fun H locs hH => ?_)
  refine lv_aload_n hx hb dX2_copyFrom_36 rfl (lv_at hl 0 rfl) ?_
  refine x_get (v := .ref (A 3)) (C := RX2) (T := TX2) (N := 16) hx hb hts hi2 hown hK hH.1 0 rfl rfl 2 (by decide) (hts (.fieldLink RX2 21 "PulseWheel$Reader" "log" "LPulseWheel$EventLog;") (by decide +kernel)) rfl rfl dX2_copyFrom_37 ?_
  refine lv_aload_n hx hb dX2_copyFrom_40 rfl (lv_at hl 1 rfl) ?_
  refine x_get (v := .ref (B 3)) (C := RX2) (T := TX2) (N := 16) hx hb hts hi2 hown hK hH.1 9 rfl rfl 2 (by decide) (hts (.fieldLink RX2 21 "PulseWheel$Reader" "log" "LPulseWheel$EventLog;") (by decide +kernel)) rfl rfl dX2_copyFrom_41 ?_
  obtain ⟨r_3, er_3⟩ : ∃ z, z = copyLog r_2 q := ⟨_, rfl⟩
  refine kCV (ws' := (readerW A cI r_3 ++ readerW B cI q)) (va_runVN (As := [.ref (B 3)]) (rest := []) ⟨hx, hb, hml, hown, hts⟩ (c_X1_copyFrom l D cI cB A r_2 B q  _) ⟨va_cnB 1 hts gX2_copyFrom_X1_copyFrom_n124 rfl rfl rfl (nwm2_124 (args := args) hN) (hts (.initialized RX1) (by decide +kernel)) (by decide +kernel) ⟨Nat.le_of_ble_eq_true rfl, Nat.le_of_ble_eq_true rfl⟩, hts (.instanceMethod yX1_copyFrom) (by decide +kernel), hts (.selects RX1 yX1_copyFrom yX1_copyFrom) (by decide +kernel)⟩ (preV_cut hH.1 hH.2.1 hK hN (ci := 1) rfl 3 rfl [3, 4, 5, 6, 12, 13, 14, 15] (by decide) rfl) rfl rfl hl.1 rfl (lv_room (Nat.le_of_ble_eq_true rfl)) dX2_copyFrom_44 ⟨Nat.zero_le _, Nat.zero_le _⟩) hH hA [3, 4, 5, 6, 12, 13, 14, 15] rfl adr_log2 (by rw [er_3]; exact putL_reader2_log2.trans (congrArg (fun zz => (readerW A cI zz ++ readerW B cI q)) (sel_copyLog _ _))) (fun H locs hH => ?_)
  refine lv_aload_n hx hb dX2_copyFrom_47 rfl (lv_at hl 0 rfl) ?_
  refine x_get (v := .ref (A 7)) (C := RX2) (T := TX2) (N := 16) hx hb hts hi2 hown hK hH.1 0 rfl rfl 3 (by decide) (hts (.fieldLink RX2 28 "PulseWheel$Reader" "teeth" "LPulseWheel$Teeth;") (by decide +kernel)) rfl rfl dX2_copyFrom_48 ?_
  refine lv_aload_n hx hb dX2_copyFrom_51 rfl (lv_at hl 1 rfl) ?_
  refine x_get (v := .ref (B 7)) (C := RX2) (T := TX2) (N := 16) hx hb hts hi2 hown hK hH.1 9 rfl rfl 3 (by decide) (hts (.fieldLink RX2 28 "PulseWheel$Reader" "teeth" "LPulseWheel$Teeth;") (by decide +kernel)) rfl rfl dX2_copyFrom_52 ?_
  obtain ⟨r_4, er_4⟩ : ∃ z, z = copyTeeth r_3 q := ⟨_, rfl⟩
  refine kCV (ws' := (readerW A cI r_4 ++ readerW B cI q)) (va_runVN (As := [.ref (B 7)]) (rest := []) ⟨hx, hb, hml, hown, hts⟩ (c_X4_copyFrom l D cI cB A r_3 B q  _) ⟨va_cnB 1 hts gX2_copyFrom_X4_copyFrom_n128 rfl rfl rfl (nwm2_128 (args := args) hN) (hts (.initialized RX4) (by decide +kernel)) (by decide +kernel) ⟨Nat.le_of_ble_eq_true rfl, Nat.le_of_ble_eq_true rfl⟩, hts (.instanceMethod yX4_copyFrom) (by decide +kernel), hts (.selects RX4 yX4_copyFrom yX4_copyFrom) (by decide +kernel)⟩ (preV_cut hH.1 hH.2.1 hK hN (ci := 4) rfl 7 rfl [7, 8, 16, 17] (by decide) rfl) rfl rfl hl.1 rfl (lv_room (Nat.le_of_ble_eq_true rfl)) dX2_copyFrom_55 ⟨Nat.zero_le _, Nat.zero_le _⟩) hH hA [7, 8, 16, 17] rfl adr_teeth2 (by rw [er_4]; exact putL_reader2_teeth2.trans (congrArg (fun zz => (readerW A cI zz ++ readerW B cI q)) (sel_copyTeeth _ _))) (fun H locs hH => ?_)
  refine lv_aload_n hx hb dX2_copyFrom_58 rfl (lv_at hl 0 rfl) ?_
  refine lv_aload_n hx hb dX2_copyFrom_59 rfl (lv_at hl 1 rfl) ?_
  refine x_get (v := .int (q 0 4)) (C := RX2) (T := TX2) (N := 16) hx hb hts hi2 hown hK hH.1 9 rfl rfl 4 (by decide) (hts (.fieldLink RX2 32 "PulseWheel$Reader" "holdTicks" "I") (by decide +kernel)) rfl rfl dX2_copyFrom_60 ?_
  obtain ⟨r_5, er_5⟩ : ∃ z, z = up2 r_4 0 4 (q 0 4) := ⟨_, rfl⟩
  refine x_put (ws' := (readerW A cI r_5 ++ readerW B cI q)) (v := .int (q 0 4)) (ty := .int) (C := RX2) (T := TX2) (N := 16) hx hb hts hi2 tyX2_ok nmX2 hown hK hH 0 rfl rfl 4 (by decide) (hts (.fieldLink RX2 32 "PulseWheel$Reader" "holdTicks" "I") (by decide +kernel)) rfl rfl rfl (rfl) (rfl) (Nat.le_of_ble_eq_true rfl) dX2_copyFrom_63 (by rw [er_5]; rfl) (fun H locs hH => ?_)
  refine lv_aload_n hx hb dX2_copyFrom_66 rfl (lv_at hl 0 rfl) ?_
  refine lv_aload_n hx hb dX2_copyFrom_67 rfl (lv_at hl 1 rfl) ?_
  refine x_get (v := .int (q 0 5)) (C := RX2) (T := TX2) (N := 16) hx hb hts hi2 hown hK hH.1 9 rfl rfl 5 (by decide) (hts (.fieldLink RX2 36 "PulseWheel$Reader" "turnCounts" "I") (by decide +kernel)) rfl rfl dX2_copyFrom_68 ?_
  obtain ⟨r_6, er_6⟩ : ∃ z, z = up2 r_5 0 5 (q 0 5) := ⟨_, rfl⟩
  refine x_put (ws' := (readerW A cI r_6 ++ readerW B cI q)) (v := .int (q 0 5)) (ty := .int) (C := RX2) (T := TX2) (N := 16) hx hb hts hi2 tyX2_ok nmX2 hown hK hH 0 rfl rfl 5 (by decide) (hts (.fieldLink RX2 36 "PulseWheel$Reader" "turnCounts" "I") (by decide +kernel)) rfl rfl rfl (rfl) (rfl) (Nat.le_of_ble_eq_true rfl) dX2_copyFrom_71 (by rw [er_6]; rfl) (fun H locs hH => ?_)
  refine lv_aload_n hx hb dX2_copyFrom_74 rfl (lv_at hl 0 rfl) ?_
  refine lv_aload_n hx hb dX2_copyFrom_75 rfl (lv_at hl 1 rfl) ?_
  refine x_get (v := .int (q 0 6)) (C := RX2) (T := TX2) (N := 16) hx hb hts hi2 hown hK hH.1 9 rfl rfl 6 (by decide) (hts (.fieldLink RX2 49 "PulseWheel$Reader" "clean" "I") (by decide +kernel)) rfl rfl dX2_copyFrom_76 ?_
  obtain ⟨r_7, er_7⟩ : ∃ z, z = up2 r_6 0 6 (q 0 6) := ⟨_, rfl⟩
  refine x_put (ws' := (readerW A cI r_7 ++ readerW B cI q)) (v := .int (q 0 6)) (ty := .int) (C := RX2) (T := TX2) (N := 16) hx hb hts hi2 tyX2_ok nmX2 hown hK hH 0 rfl rfl 6 (by decide) (hts (.fieldLink RX2 49 "PulseWheel$Reader" "clean" "I") (by decide +kernel)) rfl rfl rfl (rfl) (rfl) (Nat.le_of_ble_eq_true rfl) dX2_copyFrom_79 (by rw [er_7]; rfl) (fun H locs hH => ?_)
  refine lv_aload_n hx hb dX2_copyFrom_82 rfl (lv_at hl 0 rfl) ?_
  refine lv_aload_n hx hb dX2_copyFrom_83 rfl (lv_at hl 1 rfl) ?_
  refine x_get (v := .int (q 0 7)) (C := RX2) (T := TX2) (N := 16) hx hb hts hi2 hown hK hH.1 9 rfl rfl 7 (by decide) (hts (.fieldLink RX2 52 "PulseWheel$Reader" "place" "I") (by decide +kernel)) rfl rfl dX2_copyFrom_84 ?_
  obtain ⟨r_8, er_8⟩ : ∃ z, z = up2 r_7 0 7 (q 0 7) := ⟨_, rfl⟩
  refine x_put (ws' := (readerW A cI r_8 ++ readerW B cI q)) (v := .int (q 0 7)) (ty := .int) (C := RX2) (T := TX2) (N := 16) hx hb hts hi2 tyX2_ok nmX2 hown hK hH 0 rfl rfl 7 (by decide) (hts (.fieldLink RX2 52 "PulseWheel$Reader" "place" "I") (by decide +kernel)) rfl rfl rfl (rfl) (rfl) (Nat.le_of_ble_eq_true rfl) dX2_copyFrom_87 (by rw [er_8]; rfl) (fun H locs hH => ?_)
  refine lv_aload_n hx hb dX2_copyFrom_90 rfl (lv_at hl 0 rfl) ?_
  refine lv_aload_n hx hb dX2_copyFrom_91 rfl (lv_at hl 1 rfl) ?_
  refine x_get (v := .int (q 0 8)) (C := RX2) (T := TX2) (N := 16) hx hb hts hi2 hown hK hH.1 9 rfl rfl 8 (by decide) (hts (.fieldLink RX2 55 "PulseWheel$Reader" "low" "I") (by decide +kernel)) rfl rfl dX2_copyFrom_92 ?_
  obtain ⟨r_9, er_9⟩ : ∃ z, z = up2 r_8 0 8 (q 0 8) := ⟨_, rfl⟩
  refine x_put (ws' := (readerW A cI r_9 ++ readerW B cI q)) (v := .int (q 0 8)) (ty := .int) (C := RX2) (T := TX2) (N := 16) hx hb hts hi2 tyX2_ok nmX2 hown hK hH 0 rfl rfl 8 (by decide) (hts (.fieldLink RX2 55 "PulseWheel$Reader" "low" "I") (by decide +kernel)) rfl rfl rfl (rfl) (rfl) (Nat.le_of_ble_eq_true rfl) dX2_copyFrom_95 (by rw [er_9]; rfl) (fun H locs hH => ?_)
  refine lv_aload_n hx hb dX2_copyFrom_98 rfl (lv_at hl 0 rfl) ?_
  refine lv_aload_n hx hb dX2_copyFrom_99 rfl (lv_at hl 1 rfl) ?_
  refine x_get (v := .int (q 0 9)) (C := RX2) (T := TX2) (N := 16) hx hb hts hi2 hown hK hH.1 9 rfl rfl 9 (by decide) (hts (.fieldLink RX2 58 "PulseWheel$Reader" "high" "I") (by decide +kernel)) rfl rfl dX2_copyFrom_100 ?_
  obtain ⟨r_10, er_10⟩ : ∃ z, z = up2 r_9 0 9 (q 0 9) := ⟨_, rfl⟩
  refine x_put (ws' := (readerW A cI r_10 ++ readerW B cI q)) (v := .int (q 0 9)) (ty := .int) (C := RX2) (T := TX2) (N := 16) hx hb hts hi2 tyX2_ok nmX2 hown hK hH 0 rfl rfl 9 (by decide) (hts (.fieldLink RX2 58 "PulseWheel$Reader" "high" "I") (by decide +kernel)) rfl rfl rfl (rfl) (rfl) (Nat.le_of_ble_eq_true rfl) dX2_copyFrom_103 (by rw [er_10]; rfl) (fun H locs hH => ?_)
  refine lv_aload_n hx hb dX2_copyFrom_106 rfl (lv_at hl 0 rfl) ?_
  refine lv_aload_n hx hb dX2_copyFrom_107 rfl (lv_at hl 1 rfl) ?_
  refine x_get (v := .int (q 0 10)) (C := RX2) (T := TX2) (N := 16) hx hb hts hi2 hown hK hH.1 9 rfl rfl 10 (by decide) (hts (.fieldLink RX2 61 "PulseWheel$Reader" "hasOrigin" "Z") (by decide +kernel)) rfl rfl dX2_copyFrom_108 ?_
  obtain ⟨r_11, er_11⟩ : ∃ z, z = up2 r_10 0 10 (q 0 10) := ⟨_, rfl⟩
  refine x_put (ws' := (readerW A cI r_11 ++ readerW B cI q)) (v := .int (q 0 10)) (ty := .boolean) (C := RX2) (T := TX2) (N := 16) hx hb hts hi2 tyX2_ok nmX2 hown hK hH 0 rfl rfl 10 (by decide) (hts (.fieldLink RX2 61 "PulseWheel$Reader" "hasOrigin" "Z") (by decide +kernel)) rfl rfl rfl (fits_bool_of h10) (fits_bool h10) (Nat.le_of_ble_eq_true rfl) dX2_copyFrom_111 (by rw [er_11]; rfl) (fun H locs hH => ?_)
  refine lv_aload_n hx hb dX2_copyFrom_114 rfl (lv_at hl 0 rfl) ?_
  refine lv_aload_n hx hb dX2_copyFrom_115 rfl (lv_at hl 1 rfl) ?_
  refine x_get (v := .int (q 0 11)) (C := RX2) (T := TX2) (N := 16) hx hb hts hi2 hown hK hH.1 9 rfl rfl 11 (by decide) (hts (.fieldLink RX2 65 "PulseWheel$Reader" "originPlace" "I") (by decide +kernel)) rfl rfl dX2_copyFrom_116 ?_
  obtain ⟨r_12, er_12⟩ : ∃ z, z = up2 r_11 0 11 (q 0 11) := ⟨_, rfl⟩
  refine x_put (ws' := (readerW A cI r_12 ++ readerW B cI q)) (v := .int (q 0 11)) (ty := .int) (C := RX2) (T := TX2) (N := 16) hx hb hts hi2 tyX2_ok nmX2 hown hK hH 0 rfl rfl 11 (by decide) (hts (.fieldLink RX2 65 "PulseWheel$Reader" "originPlace" "I") (by decide +kernel)) rfl rfl rfl (rfl) (rfl) (Nat.le_of_ble_eq_true rfl) dX2_copyFrom_119 (by rw [er_12]; rfl) (fun H locs hH => ?_)
  refine lv_aload_n hx hb dX2_copyFrom_122 rfl (lv_at hl 0 rfl) ?_
  refine lv_aload_n hx hb dX2_copyFrom_123 rfl (lv_at hl 1 rfl) ?_
  refine x_get (v := .int (q 0 12)) (C := RX2) (T := TX2) (N := 16) hx hb hts hi2 hown hK hH.1 9 rfl rfl 12 (by decide) (hts (.fieldLink RX2 68 "PulseWheel$Reader" "faults" "I") (by decide +kernel)) rfl rfl dX2_copyFrom_124 ?_
  obtain ⟨r_13, er_13⟩ : ∃ z, z = up2 r_12 0 12 (q 0 12) := ⟨_, rfl⟩
  refine x_put (ws' := (readerW A cI r_13 ++ readerW B cI q)) (v := .int (q 0 12)) (ty := .int) (C := RX2) (T := TX2) (N := 16) hx hb hts hi2 tyX2_ok nmX2 hown hK hH 0 rfl rfl 12 (by decide) (hts (.fieldLink RX2 68 "PulseWheel$Reader" "faults" "I") (by decide +kernel)) rfl rfl rfl (rfl) (rfl) (Nat.le_of_ble_eq_true rfl) dX2_copyFrom_127 (by rw [er_13]; rfl) (fun H locs hH => ?_)
  refine lv_aload_n hx hb dX2_copyFrom_130 rfl (lv_at hl 0 rfl) ?_
  refine lv_aload_n hx hb dX2_copyFrom_131 rfl (lv_at hl 1 rfl) ?_
  refine x_get (v := .int (q 0 13)) (C := RX2) (T := TX2) (N := 16) hx hb hts hi2 hown hK hH.1 9 rfl rfl 13 (by decide) (hts (.fieldLink RX2 71 "PulseWheel$Reader" "slips" "I") (by decide +kernel)) rfl rfl dX2_copyFrom_132 ?_
  obtain ⟨r_14, er_14⟩ : ∃ z, z = up2 r_13 0 13 (q 0 13) := ⟨_, rfl⟩
  refine x_put (ws' := (readerW A cI r_14 ++ readerW B cI q)) (v := .int (q 0 13)) (ty := .int) (C := RX2) (T := TX2) (N := 16) hx hb hts hi2 tyX2_ok nmX2 hown hK hH 0 rfl rfl 13 (by decide) (hts (.fieldLink RX2 71 "PulseWheel$Reader" "slips" "I") (by decide +kernel)) rfl rfl rfl (rfl) (rfl) (Nat.le_of_ble_eq_true rfl) dX2_copyFrom_135 (by rw [er_14]; rfl) (fun H locs hH => ?_)
  refine lv_aload_n hx hb dX2_copyFrom_138 rfl (lv_at hl 0 rfl) ?_
  refine lv_aload_n hx hb dX2_copyFrom_139 rfl (lv_at hl 1 rfl) ?_
  refine x_get (v := .int (q 0 14)) (C := RX2) (T := TX2) (N := 16) hx hb hts hi2 hown hK hH.1 9 rfl rfl 14 (by decide) (hts (.fieldLink RX2 74 "PulseWheel$Reader" "zeros" "I") (by decide +kernel)) rfl rfl dX2_copyFrom_140 ?_
  obtain ⟨r_15, er_15⟩ : ∃ z, z = up2 r_14 0 14 (q 0 14) := ⟨_, rfl⟩
  refine x_put (ws' := (readerW A cI r_15 ++ readerW B cI q)) (v := .int (q 0 14)) (ty := .int) (C := RX2) (T := TX2) (N := 16) hx hb hts hi2 tyX2_ok nmX2 hown hK hH 0 rfl rfl 14 (by decide) (hts (.fieldLink RX2 74 "PulseWheel$Reader" "zeros" "I") (by decide +kernel)) rfl rfl rfl (rfl) (rfl) (Nat.le_of_ble_eq_true rfl) dX2_copyFrom_143 (by rw [er_15]; rfl) (fun H locs hH => ?_)
  refine lv_aload_n hx hb dX2_copyFrom_146 rfl (lv_at hl 0 rfl) ?_
  refine lv_aload_n hx hb dX2_copyFrom_147 rfl (lv_at hl 1 rfl) ?_
  refine x_get (v := .int (q 0 15)) (C := RX2) (T := TX2) (N := 16) hx hb hts hi2 hown hK hH.1 9 rfl rfl 15 (by decide) (hts (.fieldLink RX2 77 "PulseWheel$Reader" "beganAt" "I") (by decide +kernel)) rfl rfl dX2_copyFrom_148 ?_
  obtain ⟨r_16, er_16⟩ : ∃ z, z = up2 r_15 0 15 (q 0 15) := ⟨_, rfl⟩
  refine x_put (ws' := (readerW A cI r_16 ++ readerW B cI q)) (v := .int (q 0 15)) (ty := .int) (C := RX2) (T := TX2) (N := 16) hx hb hts hi2 tyX2_ok nmX2 hown hK hH 0 rfl rfl 15 (by decide) (hts (.fieldLink RX2 77 "PulseWheel$Reader" "beganAt" "I") (by decide +kernel)) rfl rfl rfl (rfl) (rfl) (Nat.le_of_ble_eq_true rfl) dX2_copyFrom_151 (by rw [er_16]; rfl) (fun H locs hH => ?_)
  have hf_r : r_16 = copyR r q := by subst er_16; subst er_15; subst er_14; subst er_13; subst er_12; subst er_11; subst er_10; subst er_9; subst er_8; subst er_7; subst er_6; subst er_5; subst er_4; subst er_3; subst er_2; subst er_1; rfl
  exact hE _ _ _ _ _ hH ((congrArg (fun zz => (readerW A cI zz ++ readerW B cI q)) hf_r)) dX2_copyFrom_154

def rm_X0_copyFrom : Room := { frames := 3, cells := 0, slots := 0, locals := 102 }
set_option maxHeartbeats 1000000 in
set_option maxRecDepth 100000 in
theorem c_X0_copyFrom (l : Launch) (D : va_G) (cI cB : ClassId) (b : Nat) (A1 : Nat → Nat) (A2 : Nat → Nat) (t : Int32) (ap : Int32) (r1 : Tb) (r2 : Tb) (bq : Nat) (B1 : Nat → Nat) (B2 : Nat → Nat) (u : Int32) (aq : Int32) (q1 : Tb) (q2 : Tb) (h1 : q1 0 10 = 0 ∨ q1 0 10 = 1) (h2 : q2 0 10 = 0 ∨ q2 0 10 = 1) : CV l D cI cB yX0_copyFrom wsX0_copyFrom rm_X0_copyFrom [.ref b, .ref bq] (benchW b A1 A2 cI t ap r1 r2 ++ benchW bq B1 B2 cI u aq q1 q2) (benchW b A1 A2 cI u aq (copyR r1 q1) (copyR r2 q2) ++ benchW bq B1 B2 cI u aq q1 q2) := by
  refine CV.of (cc := cX0_copyFrom) (maxL := 2)  (by decide +kernel) rfl (Nat.le_of_ble_eq_true rfl) ?_
  intro p e s m args below meth c ls A0 Q hT hH hA hl hE
  obtain ⟨hx, hb, hr, hlocks, hnm, hml, hown, hts, hK, hN⟩ := hT
  have hl : lv_has ls 2 [(0, .ref b), (1, .ref bq)] := hl
  have hi0 : ∀ w ∈ wsX00, w ∈ wsX0_copyFrom := by decide +kernel
  refine lv_aload_n hx hb dX0_copyFrom_0 rfl (lv_at hl 0 rfl) ?_
  refine x_get (v := .ref (A1 0)) (C := RX0) (T := TX0) (N := 4) hx hb hts hi0 hown hK hH.1 0 rfl rfl 0 (by decide) (hts (.fieldLink RX0 12 "PulseWheel$Bench" "first" "LPulseWheel$Reader;") (by decide +kernel)) rfl rfl dX0_copyFrom_1 ?_
  refine lv_aload_n hx hb dX0_copyFrom_4 rfl (lv_at hl 1 rfl) ?_
  refine x_get (v := .ref (B1 0)) (C := RX0) (T := TX0) (N := 4) hx hb hts hi0 hown hK hH.1 19 rfl rfl 0 (by decide) (hts (.fieldLink RX0 12 "PulseWheel$Bench" "first" "LPulseWheel$Reader;") (by decide +kernel)) rfl rfl dX0_copyFrom_5 ?_
  obtain ⟨r1_1, er1_1⟩ : ∃ z, z = copyR r1 q1 := ⟨_, rfl⟩
  refine kCV (ws' := (benchW b A1 A2 cI t ap r1_1 r2 ++ benchW bq B1 B2 cI u aq q1 q2)) (va_runVN (As := [.ref (B1 0)]) (rest := []) ⟨hx, hb, hml, hown, hts⟩ (c_X2_copyFrom l D cI cB A1 r1 B1 q1 h1 _) ⟨va_cnB 1 hts gX0_copyFrom_X2_copyFrom_n55 rfl rfl rfl (nwm0_55 (args := args) hN) (hts (.initialized RX2) (by decide +kernel)) (by decide +kernel) ⟨Nat.le_of_ble_eq_true rfl, Nat.le_of_ble_eq_true rfl⟩, hts (.instanceMethod yX2_copyFrom) (by decide +kernel), hts (.selects RX2 yX2_copyFrom yX2_copyFrom) (by decide +kernel)⟩ (preV_cut hH.1 hH.2.1 hK hN (ci := 2) rfl 1 rfl [1, 2, 3, 4, 5, 6, 7, 8, 9, 20, 21, 22, 23, 24, 25, 26, 27, 28] (by decide) rfl) rfl rfl hl.1 rfl (lv_room (Nat.le_of_ble_eq_true rfl)) dX0_copyFrom_8 ⟨Nat.zero_le _, Nat.zero_le _⟩) hH hA [1, 2, 3, 4, 5, 6, 7, 8, 9, 20, 21, 22, 23, 24, 25, 26, 27, 28] rfl adr_reader2 (by rw [er1_1]; exact putL_bench2_reader21) (fun H locs hH => ?_)
  refine lv_aload_n hx hb dX0_copyFrom_11 rfl (lv_at hl 0 rfl) ?_
  refine x_get (v := .ref (A2 0)) (C := RX0) (T := TX0) (N := 4) hx hb hts hi0 hown hK hH.1 0 rfl rfl 1 (by decide) (hts (.fieldLink RX0 18 "PulseWheel$Bench" "second" "LPulseWheel$Reader;") (by decide +kernel)) rfl rfl dX0_copyFrom_12 ?_
  refine lv_aload_n hx hb dX0_copyFrom_15 rfl (lv_at hl 1 rfl) ?_
  refine x_get (v := .ref (B2 0)) (C := RX0) (T := TX0) (N := 4) hx hb hts hi0 hown hK hH.1 19 rfl rfl 1 (by decide) (hts (.fieldLink RX0 18 "PulseWheel$Bench" "second" "LPulseWheel$Reader;") (by decide +kernel)) rfl rfl dX0_copyFrom_16 ?_
  obtain ⟨r2_2, er2_2⟩ : ∃ z, z = copyR r2 q2 := ⟨_, rfl⟩
  refine kCV (ws' := (benchW b A1 A2 cI t ap r1_1 r2_2 ++ benchW bq B1 B2 cI u aq q1 q2)) (va_runVN (As := [.ref (B2 0)]) (rest := []) ⟨hx, hb, hml, hown, hts⟩ (c_X2_copyFrom l D cI cB A2 r2 B2 q2 h2 _) ⟨va_cnB 1 hts gX0_copyFrom_X2_copyFrom_n55 rfl rfl rfl (nwm0_55 (args := args) hN) (hts (.initialized RX2) (by decide +kernel)) (by decide +kernel) ⟨Nat.le_of_ble_eq_true rfl, Nat.le_of_ble_eq_true rfl⟩, hts (.instanceMethod yX2_copyFrom) (by decide +kernel), hts (.selects RX2 yX2_copyFrom yX2_copyFrom) (by decide +kernel)⟩ (preV_cut hH.1 hH.2.1 hK hN (ci := 2) rfl 10 rfl [10, 11, 12, 13, 14, 15, 16, 17, 18, 29, 30, 31, 32, 33, 34, 35, 36, 37] (by decide) rfl) rfl rfl hl.1 rfl (lv_room (Nat.le_of_ble_eq_true rfl)) dX0_copyFrom_19 ⟨Nat.zero_le _, Nat.zero_le _⟩) hH hA [10, 11, 12, 13, 14, 15, 16, 17, 18, 29, 30, 31, 32, 33, 34, 35, 36, 37] rfl adr_reader2 (by rw [er2_2]; exact putL_bench2_reader22) (fun H locs hH => ?_)
  refine lv_aload_n hx hb dX0_copyFrom_22 rfl (lv_at hl 0 rfl) ?_
  refine lv_aload_n hx hb dX0_copyFrom_23 rfl (lv_at hl 1 rfl) ?_
  refine x_get (v := .int u) (C := RX0) (T := TX0) (N := 4) hx hb hts hi0 hown hK hH.1 19 rfl rfl 2 (by decide) (hts (.fieldLink RX0 25 "PulseWheel$Bench" "ticks" "I") (by decide +kernel)) rfl rfl dX0_copyFrom_24 ?_
  refine x_put (ws' := (benchW b A1 A2 cI u ap r1_1 r2_2 ++ benchW bq B1 B2 cI u aq q1 q2)) (v := .int u) (ty := .int) (C := RX0) (T := TX0) (N := 4) hx hb hts hi0 tyX0_ok nmX0 hown hK hH 0 rfl rfl 2 (by decide) (hts (.fieldLink RX0 25 "PulseWheel$Bench" "ticks" "I") (by decide +kernel)) rfl rfl rfl (rfl) (rfl) (Nat.le_of_ble_eq_true rfl) dX0_copyFrom_27 (rfl) (fun H locs hH => ?_)
  refine lv_aload_n hx hb dX0_copyFrom_30 rfl (lv_at hl 0 rfl) ?_
  refine lv_aload_n hx hb dX0_copyFrom_31 rfl (lv_at hl 1 rfl) ?_
  refine x_get (v := .int aq) (C := RX0) (T := TX0) (N := 4) hx hb hts hi0 hown hK hH.1 19 rfl rfl 3 (by decide) (hts (.fieldLink RX0 21 "PulseWheel$Bench" "apartSince" "I") (by decide +kernel)) rfl rfl dX0_copyFrom_32 ?_
  refine x_put (ws' := (benchW b A1 A2 cI u aq r1_1 r2_2 ++ benchW bq B1 B2 cI u aq q1 q2)) (v := .int aq) (ty := .int) (C := RX0) (T := TX0) (N := 4) hx hb hts hi0 tyX0_ok nmX0 hown hK hH 0 rfl rfl 3 (by decide) (hts (.fieldLink RX0 21 "PulseWheel$Bench" "apartSince" "I") (by decide +kernel)) rfl rfl rfl (rfl) (rfl) (Nat.le_of_ble_eq_true rfl) dX0_copyFrom_35 (rfl) (fun H locs hH => ?_)
  have hf_t : u = u := by subst er2_2; subst er1_1; rfl
  have hf_ap : aq = aq := by subst er2_2; subst er1_1; rfl
  have hf_r1 : r1_1 = copyR r1 q1 := by subst er2_2; subst er1_1; rfl
  have hf_r2 : r2_2 = copyR r2 q2 := by subst er2_2; subst er1_1; rfl
  exact hE _ _ _ _ _ hH (((congrArg (fun zz => (benchW b A1 A2 cI zz aq r1_1 r2_2 ++ benchW bq B1 B2 cI u aq q1 q2)) hf_t).trans ((congrArg (fun zz => (benchW b A1 A2 cI u zz r1_1 r2_2 ++ benchW bq B1 B2 cI u aq q1 q2)) hf_ap).trans ((congrArg (fun zz => (benchW b A1 A2 cI u aq zz r2_2 ++ benchW bq B1 B2 cI u aq q1 q2)) hf_r1).trans (congrArg (fun zz => (benchW b A1 A2 cI u aq (copyR r1 q1) zz ++ benchW bq B1 B2 cI u aq q1 q2)) hf_r2))))) dX0_copyFrom_38
