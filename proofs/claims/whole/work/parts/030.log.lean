/-! ### pure words: Java's remainder, Math.floorMod, the log -/
def rem32 (x y : Int32) : Int32 := x - x / y * y
def fm (x y : Int32) : Int32 := if 0 ≤ x ^^^ y then rem32 x y else if rem32 x y = 0 then rem32 x y else rem32 x y + y
def slotV (n k : Int32) : Int32 := if 0 ≤ n - 1 - k then rem32 (n - 1 - k) 300 else 0
def slotN (n k : Int32) : Nat := (slotV n k).toNatClampNeg
theorem slot_ok (n k : Int32) : slotV n k = nI (slotN n k) ∧ slotN n k < 300 := by
  unfold slotN slotV
  by_cases h : 0 ≤ n - 1 - k
  · rw [if_pos h]
    obtain ⟨j, hj, e⟩ := nI_of (Int32.not_lt.mpr h)
    have e3 : rem32 (n - 1 - k) 300 = nI (j % 300) := by
      rw [e]
      exact pk_rem (d := 300) hj (by decide) (by decide)
    have h3 : j % 300 < 300 := Nat.mod_lt _ (by decide)
    rw [e3, nI_clamp (by omega)]
    exact ⟨rfl, h3⟩
  · rw [if_neg h]; exact ⟨by decide, by decide⟩
def streakV (so st : Int32) : Int32 := if so = 1 then (if 0 < st then st + so else so) else if so = -1 then (if 0 ≤ st then so else st + so) else so
def logAdd (r : Tb) (so ti pl : Int32) : Tb :=
  up2 (up2 (up2 (up2 (up2 r 3 3 (r 3 3 + 1)) 3 4 (streakV so (r 3 4))) 4 (slotN (r 3 3 + 1) 0) so) 5 (slotN (r 3 3 + 1) 0) ti) 6 (slotN (r 3 3 + 1) 0) pl
def logForget (r : Tb) : Tb := up2 (up2 r 3 3 0) 3 4 0
theorem sel_logForget (r : Tb) : selR [3, 4, 5, 6] r (logForget r) = logForget r := by
  funext c
  unfold selR logForget up2
  by_cases h3 : c = 3
  · subst h3; rfl
  · simp [h3]
theorem sel_logAdd (r : Tb) (so ti pl : Int32) : selR [3, 4, 5, 6] r (logAdd r so ti pl) = logAdd r so ti pl := by
  funext c
  unfold selR logAdd up2
  by_cases h3 : c = 3
  · subst h3; rfl
  · by_cases h4 : c = 4
    · subst h4; rfl
    · by_cases h5 : c = 5
      · subst h5; rfl
      · by_cases h6 : c = 6
        · subst h6; rfl
        · simp [h3, h4, h5, h6]
def minV (x y : Int32) : Int32 := if y < x then y else x
def absV (x : Int32) : Int32 := if 0 ≤ x then x else 0 - x

def rm_J9_floorMod_7cf53 : Room := { frames := 0, cells := 0, slots := 0, locals := 0 }
set_option maxHeartbeats 1000000 in
set_option maxRecDepth 100000 in
theorem c_J9_floorMod_7cf53 (l : Launch) (D : va_G) (cI cB : ClassId) (x y : Int32) (hy : ¬ y = 0) : SI l D cI cB yJ9_floorMod_7cf53 wsJ9_floorMod_7cf53 rm_J9_floorMod_7cf53 [.int x, .int y] [] (fm x y) := by
  refine SI.of (cc := cJ9_floorMod_7cf53) (maxL := 3) (ty := .int) (by decide +kernel) rfl (Nat.le_of_ble_eq_true rfl) ?_
  intro p e s m args below meth c ls Q hT hP hD hl hE
  obtain ⟨hx, hb, hr, hlocks, hnm, hml, hown, hts, hK, hN⟩ := hT
  have hl : lv_has ls 3 [(0, .int x), (1, .int y)] := hl
  refine lv_iload_n hx hb dJ9_floorMod_7cf53_0 rfl (lv_at hl 0 rfl) ?_
  refine lv_iload_n hx hb dJ9_floorMod_7cf53_1 rfl (lv_at hl 1 rfl) ?_
  refine lv_irem hx hb dJ9_floorMod_7cf53_2 (hy) ?_
  refine lv_istore_n (lv' := [(2, .int (x - x / y * y)), (0, .int x), (1, .int y)]) hx hb dJ9_floorMod_7cf53_3 rfl hl (by decide) rfl (fun ls hl => ?_)
  refine lv_iload_n hx hb dJ9_floorMod_7cf53_4 rfl (lv_at hl 1 rfl) ?_
  refine lv_iload_n hx hb dJ9_floorMod_7cf53_5 rfl (lv_at hl 2 rfl) ?_
  refine lv_ixor hx hb dJ9_floorMod_7cf53_6 ?_
  refine lv_if_ge (tgt := 18) hx hb dJ9_floorMod_7cf53_7 (by decide) (fun c_7 => ?_) (fun c_7 => ?_)
  · skip
    refine lv_iload_n hx hb dJ9_floorMod_7cf53_18 rfl (lv_at hl 0 rfl) ?_
    exact hE _ _ _ (by first | rfl | (unfold fm  rem32; rw [if_pos c_7]; done) | (simp only [fm, rem32, if_pos c_7]; done) | (simp only [fm, rem32, c_7, if_true, if_false]; done) | (simp only [fm, rem32, c_7, if_true, if_false, not_true, not_false_iff, reduceIte]; done) | (exfalso; simp_all; done) | (simp [fm, rem32, c_7]; done) | (simp_all [fm, rem32]; done)) rfl dJ9_floorMod_7cf53_19
  · skip
    refine lv_iload_n hx hb dJ9_floorMod_7cf53_10 rfl (lv_at hl 0 rfl) ?_
    refine lv_if_eq (tgt := 18) hx hb dJ9_floorMod_7cf53_11 (by decide) (fun c_11 => ?_) (fun c_11 => ?_)
    · skip
      refine lv_iload_n hx hb dJ9_floorMod_7cf53_18 rfl (lv_at hl 0 rfl) ?_
      exact hE _ _ _ (by first | rfl | (unfold fm  rem32; rw [if_neg c_7, if_pos c_11]; done) | (simp only [fm, rem32, if_neg c_7, if_pos c_11]; done) | (simp only [fm, rem32, c_7, c_11, if_true, if_false]; done) | (simp only [fm, rem32, c_7, c_11, if_true, if_false, not_true, not_false_iff, reduceIte]; done) | (exfalso; simp_all; done) | (simp [fm, rem32, c_7, c_11]; done) | (simp_all [fm, rem32]; done)) rfl dJ9_floorMod_7cf53_19
    · skip
      refine lv_iload_n hx hb dJ9_floorMod_7cf53_14 rfl (lv_at hl 0 rfl) ?_
      refine lv_iload_n hx hb dJ9_floorMod_7cf53_15 rfl (lv_at hl 2 rfl) ?_
      refine lv_iadd hx hb dJ9_floorMod_7cf53_16 ?_
      exact hE _ _ _ (by first | rfl | (unfold fm  rem32; rw [if_neg c_7, if_neg c_11]; done) | (simp only [fm, rem32, if_neg c_7, if_neg c_11]; done) | (simp only [fm, rem32, c_7, c_11, if_true, if_false]; done) | (simp only [fm, rem32, c_7, c_11, if_true, if_false, not_true, not_false_iff, reduceIte]; done) | (exfalso; simp_all; done) | (simp [fm, rem32, c_7, c_11]; done) | (simp_all [fm, rem32]; done)) rfl dJ9_floorMod_7cf53_17

def rm_X1_forget : Room := { frames := 0, cells := 0, slots := 0, locals := 0 }
set_option maxHeartbeats 1000000 in
set_option maxRecDepth 100000 in
theorem c_X1_forget (l : Launch) (D : va_G) (cI cB : ClassId) (A : Nat → Nat) (r : Tb) : CV l D cI cB yX1_forget wsX1_forget rm_X1_forget [.ref (A 3)] (logW A cI r) (logW A cI (logForget r)) := by
  refine CV.of (cc := cX1_forget) (maxL := 1)  (by decide +kernel) rfl (Nat.le_of_ble_eq_true rfl) ?_
  intro p e s m args below meth c ls A0 Q hT hH hA hl hE
  obtain ⟨hx, hb, hr, hlocks, hnm, hml, hown, hts, hK, hN⟩ := hT
  have hl : lv_has ls 1 [(0, .ref (A 3))] := hl
  have hi1 : ∀ w ∈ wsX10, w ∈ wsX1_forget := by decide +kernel
  refine lv_aload_n hx hb dX1_forget_0 rfl (lv_at hl 0 rfl) ?_
  refine lv_iconst (v := 0) hx hb dX1_forget_1 (by decide) ?_
  obtain ⟨r_1, er_1⟩ : ∃ z, z = up2 r 3 3 0 := ⟨_, rfl⟩
  refine x_put (ws' := (logW A cI r_1)) (v := .int 0) (ty := .int) (C := RX1) (T := TX1) (N := 5) hx hb hts hi1 tyX1_ok nmX1 hown hK hH 0 rfl rfl 3 (by decide) (hts (.fieldLink RX1 21 "PulseWheel$EventLog" "count" "I") (by decide +kernel)) rfl rfl rfl (rfl) (rfl) (Nat.le_of_ble_eq_true rfl) dX1_forget_2 (by rw [er_1]; rfl) (fun H locs hH => ?_)
  refine lv_aload_n hx hb dX1_forget_5 rfl (lv_at hl 0 rfl) ?_
  refine lv_iconst (v := 0) hx hb dX1_forget_6 (by decide) ?_
  obtain ⟨r_2, er_2⟩ : ∃ z, z = up2 r_1 3 4 0 := ⟨_, rfl⟩
  refine x_put (ws' := (logW A cI r_2)) (v := .int 0) (ty := .int) (C := RX1) (T := TX1) (N := 5) hx hb hts hi1 tyX1_ok nmX1 hown hK hH 0 rfl rfl 4 (by decide) (hts (.fieldLink RX1 25 "PulseWheel$EventLog" "streak" "I") (by decide +kernel)) rfl rfl rfl (rfl) (rfl) (Nat.le_of_ble_eq_true rfl) dX1_forget_7 (by rw [er_2]; rfl) (fun H locs hH => ?_)
  have hf_r : r_2 = logForget r := by subst er_2; subst er_1; rfl
  exact hE _ _ _ _ _ hH ((congrArg (fun zz => (logW A cI zz)) hf_r)) dX1_forget_10

def rm_X1_kept : Room := { frames := 1, cells := 0, slots := 0, locals := 40 }
set_option maxHeartbeats 1000000 in
set_option maxRecDepth 100000 in
theorem c_X1_kept (l : Launch) (D : va_G) (cI cB : ClassId) (A : Nat → Nat) (r : Tb) : SI l D cI cB yX1_kept wsX1_kept rm_X1_kept [.ref (A 3)] (logW A cI r) (minV (r 3 3) 300) := by
  refine SI.of (cc := cX1_kept) (maxL := 1) (ty := .int) (by decide +kernel) rfl (Nat.le_of_ble_eq_true rfl) ?_
  intro p e s m args below meth c ls Q hT hP hD hl hE
  obtain ⟨hx, hb, hr, hlocks, hnm, hml, hown, hts, hK, hN⟩ := hT
  have hl : lv_has ls 1 [(0, .ref (A 3))] := hl
  have hi1 : ∀ w ∈ wsX10, w ∈ wsX1_kept := by decide +kernel
  refine lv_aload_n hx hb dX1_kept_0 rfl (lv_at hl 0 rfl) ?_
  refine x_get (v := .int (r 3 3)) (C := RX1) (T := TX1) (N := 5) hx hb hts hi1 hown hK hP 0 rfl rfl 3 (by decide) (hts (.fieldLink RX1 21 "PulseWheel$EventLog" "count" "I") (by decide +kernel)) rfl rfl dX1_kept_1 ?_
  refine lv_sipush (v := 300) hx hb dX1_kept_4 (by decide) ?_
  refine va_mmin hx hb (hml.trans hl.1.symm) hown (hts (.methodLink RX1 32 Lib.Math.min.name) (by decide +kernel)) (hts (.static Lib.Math.min.name) (by decide +kernel)) (hts (.initialized "java/lang/Math") (by decide +kernel)) (hts (.code Lib.Math.min.name Lib.Math.min.code 2 (some .int)) (by decide +kernel)) (Nat.le_of_ble_eq_true rfl) (Nat.le_of_ble_eq_true rfl) (Nat.zero_le _) (Nat.zero_le _) dX1_kept_7 ?_
  exact hE _ _ _ (by rfl) rfl dX1_kept_10

def rm_X1_keptOfOneSort : Room := { frames := 1, cells := 0, slots := 0, locals := 40 }
set_option maxHeartbeats 1000000 in
set_option maxRecDepth 100000 in
theorem c_X1_keptOfOneSort (l : Launch) (D : va_G) (cI cB : ClassId) (A : Nat → Nat) (r : Tb) : SI l D cI cB yX1_keptOfOneSort wsX1_keptOfOneSort rm_X1_keptOfOneSort [.ref (A 3)] (logW A cI r) (minV (absV (r 3 4)) 300) := by
  refine SI.of (cc := cX1_keptOfOneSort) (maxL := 1) (ty := .int) (by decide +kernel) rfl (Nat.le_of_ble_eq_true rfl) ?_
  intro p e s m args below meth c ls Q hT hP hD hl hE
  obtain ⟨hx, hb, hr, hlocks, hnm, hml, hown, hts, hK, hN⟩ := hT
  have hl : lv_has ls 1 [(0, .ref (A 3))] := hl
  have hi1 : ∀ w ∈ wsX10, w ∈ wsX1_keptOfOneSort := by decide +kernel
  refine lv_aload_n hx hb dX1_keptOfOneSort_0 rfl (lv_at hl 0 rfl) ?_
  refine x_get (v := .int (r 3 4)) (C := RX1) (T := TX1) (N := 5) hx hb hts hi1 hown hK hP 0 rfl rfl 4 (by decide) (hts (.fieldLink RX1 25 "PulseWheel$EventLog" "streak" "I") (by decide +kernel)) rfl rfl dX1_keptOfOneSort_1 ?_
  refine va_mabs hx hb (hml.trans hl.1.symm) hown (hts (.methodLink RX1 38 Lib.Math.abs.name) (by decide +kernel)) (hts (.static Lib.Math.abs.name) (by decide +kernel)) (hts (.initialized "java/lang/Math") (by decide +kernel)) (hts (.code Lib.Math.abs.name Lib.Math.abs.code 1 (some .int)) (by decide +kernel)) (Nat.le_of_ble_eq_true rfl) (Nat.le_of_ble_eq_true rfl) (Nat.zero_le _) (Nat.zero_le _) dX1_keptOfOneSort_4 ?_
  refine lv_sipush (v := 300) hx hb dX1_keptOfOneSort_7 (by decide) ?_
  refine va_mmin hx hb (hml.trans hl.1.symm) hown (hts (.methodLink RX1 32 Lib.Math.min.name) (by decide +kernel)) (hts (.static Lib.Math.min.name) (by decide +kernel)) (hts (.initialized "java/lang/Math") (by decide +kernel)) (hts (.code Lib.Math.min.name Lib.Math.min.code 2 (some .int)) (by decide +kernel)) (Nat.le_of_ble_eq_true rfl) (Nat.le_of_ble_eq_true rfl) (Nat.zero_le _) (Nat.zero_le _) dX1_keptOfOneSort_10 ?_
  exact hE _ _ _ (by rfl) rfl dX1_keptOfOneSort_13

def rm_X1_slotOf : Room := { frames := 0, cells := 0, slots := 0, locals := 0 }
set_option maxHeartbeats 1000000 in
set_option maxRecDepth 100000 in
theorem c_X1_slotOf (l : Launch) (D : va_G) (cI cB : ClassId) (A : Nat → Nat) (r : Tb) (k : Int32) : SI l D cI cB yX1_slotOf wsX1_slotOf rm_X1_slotOf [.ref (A 3), .int k] (logW A cI r) (slotV (r 3 3) k) := by
  refine SI.of (cc := cX1_slotOf) (maxL := 3) (ty := .int) (by decide +kernel) rfl (Nat.le_of_ble_eq_true rfl) ?_
  intro p e s m args below meth c ls Q hT hP hD hl hE
  obtain ⟨hx, hb, hr, hlocks, hnm, hml, hown, hts, hK, hN⟩ := hT
  have hl : lv_has ls 3 [(0, .ref (A 3)), (1, .int k)] := hl
  have hi1 : ∀ w ∈ wsX10, w ∈ wsX1_slotOf := by decide +kernel
  refine lv_aload_n hx hb dX1_slotOf_0 rfl (lv_at hl 0 rfl) ?_
  refine x_get (v := .int (r 3 3)) (C := RX1) (T := TX1) (N := 5) hx hb hts hi1 hown hK hP 0 rfl rfl 3 (by decide) (hts (.fieldLink RX1 21 "PulseWheel$EventLog" "count" "I") (by decide +kernel)) rfl rfl dX1_slotOf_1 ?_
  refine lv_iconst (v := 1) hx hb dX1_slotOf_4 (by decide) ?_
  refine lv_isub hx hb dX1_slotOf_5 ?_
  refine lv_iload_n hx hb dX1_slotOf_6 rfl (lv_at hl 1 rfl) ?_
  refine lv_isub hx hb dX1_slotOf_7 ?_
  refine lv_istore_n (lv' := [(2, .int (((r 3 3) - 1) - k)), (0, .ref (A 3)), (1, .int k)]) hx hb dX1_slotOf_8 rfl hl (by decide) rfl (fun ls hl => ?_)
  refine lv_iload_n hx hb dX1_slotOf_9 rfl (lv_at hl 0 rfl) ?_
  refine lv_if_ge (tgt := 17) hx hb dX1_slotOf_10 (by decide) (fun c_10 => ?_) (fun c_10 => ?_)
  · skip
    refine lv_iload_n hx hb dX1_slotOf_17 rfl (lv_at hl 0 rfl) ?_
    refine lv_sipush (v := 300) hx hb dX1_slotOf_18 (by decide) ?_
    refine lv_irem hx hb dX1_slotOf_21 (by decide) ?_
    exact hE _ _ _ (by first | rfl | (unfold slotV  rem32; rw [if_pos c_10]; done) | (simp only [slotV, rem32, if_pos c_10]; done) | (simp only [slotV, rem32, c_10, if_true, if_false]; done) | (simp only [slotV, rem32, c_10, if_true, if_false, not_true, not_false_iff, reduceIte]; done) | (exfalso; simp_all; done) | (simp [slotV, rem32, c_10]; done) | (simp_all [slotV, rem32]; done)) rfl dX1_slotOf_22
  · skip
    refine lv_iconst (v := 0) hx hb dX1_slotOf_13 (by decide) ?_
    refine lv_goto (tgt := 22) hx hb dX1_slotOf_14 (by decide) ?_
    exact hE _ _ _ (by first | rfl | (unfold slotV  rem32; rw [if_neg c_10]; done) | (simp only [slotV, rem32, if_neg c_10]; done) | (simp only [slotV, rem32, c_10, if_true, if_false]; done) | (simp only [slotV, rem32, c_10, if_true, if_false, not_true, not_false_iff, reduceIte]; done) | (exfalso; simp_all; done) | (simp [slotV, rem32, c_10]; done) | (simp_all [slotV, rem32]; done)) rfl dX1_slotOf_22

def rm_X1_sortAt : Room := { frames := 1, cells := 0, slots := 0, locals := 22 }
set_option maxHeartbeats 1000000 in
set_option maxRecDepth 100000 in
theorem c_X1_sortAt (l : Launch) (D : va_G) (cI cB : ClassId) (A : Nat → Nat) (r : Tb) (k : Int32) : SI l D cI cB yX1_sortAt wsX1_sortAt rm_X1_sortAt [.ref (A 3), .int k] (logW A cI r) (r 4 (slotN (r 3 3) k)) := by
  refine SI.of (cc := cX1_sortAt) (maxL := 2) (ty := .int) (by decide +kernel) rfl (Nat.le_of_ble_eq_true rfl) ?_
  intro p e s m args below meth c ls Q hT hP hD hl hE
  obtain ⟨hx, hb, hr, hlocks, hnm, hml, hown, hts, hK, hN⟩ := hT
  have hl : lv_has ls 2 [(0, .ref (A 3)), (1, .int k)] := hl
  have hi1 : ∀ w ∈ wsX10, w ∈ wsX1_sortAt := by decide +kernel
  refine lv_aload_n hx hb dX1_sortAt_0 rfl (lv_at hl 0 rfl) ?_
  refine x_get (v := .ref (A 4)) (C := RX1) (T := TX1) (N := 5) hx hb hts hi1 hown hK hP 0 rfl rfl 0 (by decide) (hts (.fieldLink RX1 9 "PulseWheel$EventLog" "sorts" "[I") (by decide +kernel)) rfl rfl dX1_sortAt_1 ?_
  refine lv_aload_n hx hb dX1_sortAt_4 rfl (lv_at hl 0 rfl) ?_
  refine lv_iload_n hx hb dX1_sortAt_5 rfl (lv_at hl 1 rfl) ?_
  refine kSI (va_runV (As := [.int k]) (rest := [.ref (A 4)]) ⟨hx, hb, hml, hown, hts⟩ (c_X1_slotOf l D cI cB A r k  _) (cwV 1 hts gX1_sortAt_X1_slotOf rfl rfl rfl (by decide +kernel) ⟨Nat.le_of_ble_eq_true rfl, Nat.le_of_ble_eq_true rfl⟩) (preV_cut hP hD hK hN (ci := 1) rfl 0 rfl [0, 1, 2, 3] (by decide) rfl) rfl rfl hl.1 rfl (lv_room (Nat.le_of_ble_eq_true rfl)) dX1_sortAt_6 ⟨Nat.zero_le _, Nat.zero_le _⟩) ?_
  have hq_1 := ix_in (i := (slotV (r 3 3) k)) (n := 300) (slotN (r 3 3) k) ((slot_ok (r 3 3) k).1) ((slot_ok (r 3 3) k).2) (by decide)
  refine x_ild (v := r 4 (slotN (r 3 3) k)) hx hb hK hP 1 rfl hq_1.1 (by rw [hq_1.2]) dX1_sortAt_9 ?_
  exact hE _ _ _ (by rfl) rfl dX1_sortAt_10

def rm_X1_tickAt : Room := { frames := 1, cells := 0, slots := 0, locals := 22 }
set_option maxHeartbeats 1000000 in
set_option maxRecDepth 100000 in
theorem c_X1_tickAt (l : Launch) (D : va_G) (cI cB : ClassId) (A : Nat → Nat) (r : Tb) (k : Int32) : SI l D cI cB yX1_tickAt wsX1_tickAt rm_X1_tickAt [.ref (A 3), .int k] (logW A cI r) (r 5 (slotN (r 3 3) k)) := by
  refine SI.of (cc := cX1_tickAt) (maxL := 2) (ty := .int) (by decide +kernel) rfl (Nat.le_of_ble_eq_true rfl) ?_
  intro p e s m args below meth c ls Q hT hP hD hl hE
  obtain ⟨hx, hb, hr, hlocks, hnm, hml, hown, hts, hK, hN⟩ := hT
  have hl : lv_has ls 2 [(0, .ref (A 3)), (1, .int k)] := hl
  have hi1 : ∀ w ∈ wsX10, w ∈ wsX1_tickAt := by decide +kernel
  refine lv_aload_n hx hb dX1_tickAt_0 rfl (lv_at hl 0 rfl) ?_
  refine x_get (v := .ref (A 5)) (C := RX1) (T := TX1) (N := 5) hx hb hts hi1 hown hK hP 0 rfl rfl 1 (by decide) (hts (.fieldLink RX1 15 "PulseWheel$EventLog" "ticks" "[I") (by decide +kernel)) rfl rfl dX1_tickAt_1 ?_
  refine lv_aload_n hx hb dX1_tickAt_4 rfl (lv_at hl 0 rfl) ?_
  refine lv_iload_n hx hb dX1_tickAt_5 rfl (lv_at hl 1 rfl) ?_
  refine kSI (va_runV (As := [.int k]) (rest := [.ref (A 5)]) ⟨hx, hb, hml, hown, hts⟩ (c_X1_slotOf l D cI cB A r k  _) (cwV 1 hts gX1_tickAt_X1_slotOf rfl rfl rfl (by decide +kernel) ⟨Nat.le_of_ble_eq_true rfl, Nat.le_of_ble_eq_true rfl⟩) (preV_cut hP hD hK hN (ci := 1) rfl 0 rfl [0, 1, 2, 3] (by decide) rfl) rfl rfl hl.1 rfl (lv_room (Nat.le_of_ble_eq_true rfl)) dX1_tickAt_6 ⟨Nat.zero_le _, Nat.zero_le _⟩) ?_
  have hq_1 := ix_in (i := (slotV (r 3 3) k)) (n := 300) (slotN (r 3 3) k) ((slot_ok (r 3 3) k).1) ((slot_ok (r 3 3) k).2) (by decide)
  refine x_ild (v := r 5 (slotN (r 3 3) k)) hx hb hK hP 2 rfl hq_1.1 (by rw [hq_1.2]) dX1_tickAt_9 ?_
  exact hE _ _ _ (by rfl) rfl dX1_tickAt_10

def rm_X1_placeAt : Room := { frames := 1, cells := 0, slots := 0, locals := 22 }
set_option maxHeartbeats 1000000 in
set_option maxRecDepth 100000 in
theorem c_X1_placeAt (l : Launch) (D : va_G) (cI cB : ClassId) (A : Nat → Nat) (r : Tb) (k : Int32) : SI l D cI cB yX1_placeAt wsX1_placeAt rm_X1_placeAt [.ref (A 3), .int k] (logW A cI r) (r 6 (slotN (r 3 3) k)) := by
  refine SI.of (cc := cX1_placeAt) (maxL := 2) (ty := .int) (by decide +kernel) rfl (Nat.le_of_ble_eq_true rfl) ?_
  intro p e s m args below meth c ls Q hT hP hD hl hE
  obtain ⟨hx, hb, hr, hlocks, hnm, hml, hown, hts, hK, hN⟩ := hT
  have hl : lv_has ls 2 [(0, .ref (A 3)), (1, .int k)] := hl
  have hi1 : ∀ w ∈ wsX10, w ∈ wsX1_placeAt := by decide +kernel
  refine lv_aload_n hx hb dX1_placeAt_0 rfl (lv_at hl 0 rfl) ?_
  refine x_get (v := .ref (A 6)) (C := RX1) (T := TX1) (N := 5) hx hb hts hi1 hown hK hP 0 rfl rfl 2 (by decide) (hts (.fieldLink RX1 18 "PulseWheel$EventLog" "places" "[I") (by decide +kernel)) rfl rfl dX1_placeAt_1 ?_
  refine lv_aload_n hx hb dX1_placeAt_4 rfl (lv_at hl 0 rfl) ?_
  refine lv_iload_n hx hb dX1_placeAt_5 rfl (lv_at hl 1 rfl) ?_
  refine kSI (va_runV (As := [.int k]) (rest := [.ref (A 6)]) ⟨hx, hb, hml, hown, hts⟩ (c_X1_slotOf l D cI cB A r k  _) (cwV 1 hts gX1_placeAt_X1_slotOf rfl rfl rfl (by decide +kernel) ⟨Nat.le_of_ble_eq_true rfl, Nat.le_of_ble_eq_true rfl⟩) (preV_cut hP hD hK hN (ci := 1) rfl 0 rfl [0, 1, 2, 3] (by decide) rfl) rfl rfl hl.1 rfl (lv_room (Nat.le_of_ble_eq_true rfl)) dX1_placeAt_6 ⟨Nat.zero_le _, Nat.zero_le _⟩) ?_
  have hq_1 := ix_in (i := (slotV (r 3 3) k)) (n := 300) (slotN (r 3 3) k) ((slot_ok (r 3 3) k).1) ((slot_ok (r 3 3) k).2) (by decide)
  refine x_ild (v := r 6 (slotN (r 3 3) k)) hx hb hK hP 3 rfl hq_1.1 (by rw [hq_1.2]) dX1_placeAt_9 ?_
  exact hE _ _ _ (by rfl) rfl dX1_placeAt_10

def rm_X1_add : Room := { frames := 1, cells := 0, slots := 0, locals := 22 }
set_option maxHeartbeats 1000000 in
set_option maxRecDepth 100000 in
theorem c_X1_add (l : Launch) (D : va_G) (cI cB : ClassId) (A : Nat → Nat) (r : Tb) (so ti pl : Int32) : CV l D cI cB yX1_add wsX1_add rm_X1_add [.ref (A 3), .int so, .int ti, .int pl] (logW A cI r) (logW A cI (logAdd r so ti pl)) := by
  refine CV.of (cc := cX1_add) (maxL := 6)  (by decide +kernel) rfl (Nat.le_of_ble_eq_true rfl) ?_
  intro p e s m args below meth c ls A0 Q hT hH hA hl hE
  obtain ⟨hx, hb, hr, hlocks, hnm, hml, hown, hts, hK, hN⟩ := hT
  have hl : lv_has ls 6 [(0, .ref (A 3)), (1, .int so), (2, .int ti), (3, .int pl)] := hl
  have hi1 : ∀ w ∈ wsX10, w ∈ wsX1_add := by decide +kernel
  refine lv_aload_n hx hb dX1_add_0 rfl (lv_at hl 0 rfl) ?_
  refine lv_dup hx hb dX1_add_1 rfl ?_
  refine x_get (v := .int (r 3 3)) (C := RX1) (T := TX1) (N := 5) hx hb hts hi1 hown hK hH.1 0 rfl rfl 3 (by decide) (hts (.fieldLink RX1 21 "PulseWheel$EventLog" "count" "I") (by decide +kernel)) rfl rfl dX1_add_2 ?_
  refine lv_iconst (v := 1) hx hb dX1_add_5 (by decide) ?_
  refine lv_iadd hx hb dX1_add_6 ?_
  obtain ⟨r_1, er_1⟩ : ∃ z, z = up2 r 3 3 ((r 3 3) + 1) := ⟨_, rfl⟩
  refine x_put (ws' := (logW A cI r_1)) (v := .int ((r 3 3) + 1)) (ty := .int) (C := RX1) (T := TX1) (N := 5) hx hb hts hi1 tyX1_ok nmX1 hown hK hH 0 rfl rfl 3 (by decide) (hts (.fieldLink RX1 21 "PulseWheel$EventLog" "count" "I") (by decide +kernel)) rfl rfl rfl (rfl) (rfl) (Nat.le_of_ble_eq_true rfl) dX1_add_7 (by rw [er_1]; rfl) (fun H locs hH => ?_)
  have K57 : ∀ (v : Int32), (v = streakV so (r 3 4)) → ∀ (H : Heap) (locs : List Loc) (ls : Array Slot), Hd D A0 s (logW A cI r_1) H locs → lv_has ls 6 [(0, .ref (A 3)), (1, .int so), (2, .int ti), (3, .int pl)] → W p l e rm_X1_add s m args below meth c H locs 0 0 Q (F0 m 57 ls [.int v, .ref (A 3)]) := by
    intro v hv H locs ls hH hl
    obtain ⟨r_2, er_2⟩ : ∃ z, z = up2 r_1 3 4 v := ⟨_, rfl⟩
    refine x_put (ws' := (logW A cI r_2)) (v := .int v) (ty := .int) (C := RX1) (T := TX1) (N := 5) hx hb hts hi1 tyX1_ok nmX1 hown hK hH 0 rfl rfl 4 (by decide) (hts (.fieldLink RX1 25 "PulseWheel$EventLog" "streak" "I") (by decide +kernel)) rfl rfl rfl (rfl) (rfl) (Nat.le_of_ble_eq_true rfl) dX1_add_57 (by rw [er_2]; rfl) (fun H locs hH => ?_)
    refine lv_aload_n hx hb dX1_add_60 rfl (lv_at hl 0 rfl) ?_
    refine lv_iconst (v := 0) hx hb dX1_add_61 (by decide) ?_
    refine kSI (va_runV (As := [.int 0]) (rest := []) ⟨hx, hb, hml, hown, hts⟩ (c_X1_slotOf l D cI cB A r_2 0  _) (cwV 1 hts gX1_add_X1_slotOf rfl rfl rfl (by decide +kernel) ⟨Nat.le_of_ble_eq_true rfl, Nat.le_of_ble_eq_true rfl⟩) (preV_cut hH.1 hH.2.1 hK hN (ci := 1) rfl 0 rfl [0, 1, 2, 3] (by decide) rfl) rfl rfl hl.1 rfl (lv_room (Nat.le_of_ble_eq_true rfl)) dX1_add_62 ⟨Nat.zero_le _, Nat.zero_le _⟩) ?_
    refine x_top (y := slotV ((r 3 3) + 1) 0) (by rw [show r_2 3 3 = ((r 3 3) + 1) from (congrFun (congrFun er_2 3) 3).trans (congrFun (congrFun er_1 3) 3)]) ?_
    refine x_top (y := nI (slotN (r 3 3 + 1) 0)) ((slot_ok _ _).1) ?_
    refine lv_istore (lv' := [(5, .int (nI (slotN (r 3 3 + 1) 0))), (0, .ref (A 3)), (1, .int so), (2, .int ti), (3, .int pl)]) hx hb dX1_add_65 hl (by decide) rfl (fun ls hl => ?_)
    refine lv_aload_n hx hb dX1_add_67 rfl (lv_at hl 1 rfl) ?_
    refine x_get (v := .ref (A 4)) (C := RX1) (T := TX1) (N := 5) hx hb hts hi1 hown hK hH.1 0 rfl rfl 0 (by decide) (hts (.fieldLink RX1 9 "PulseWheel$EventLog" "sorts" "[I") (by decide +kernel)) rfl rfl dX1_add_68 ?_
    refine lv_iload hx hb dX1_add_71 (lv_at hl 0 rfl) ?_
    refine lv_iload_n hx hb dX1_add_73 rfl (lv_at hl 2 rfl) ?_
    have hq_3 := ix_in (i := (nI (slotN (r 3 3 + 1) 0))) (n := 300) (slotN (r 3 3 + 1) 0) (rfl) ((slot_ok _ _).2) (by decide)
    obtain ⟨r_4, er_4⟩ : ∃ z, z = up2 r_2 4 (slotN (r 3 3 + 1) 0) so := ⟨_, rfl⟩
    refine x_ist (ws' := (logW A cI r_4)) hx hb hK hH 1 rfl hq_3.1 hq_3.2 dX1_add_74 (by rw [er_4]; rfl) (fun H locs hH => ?_)
    refine lv_aload_n hx hb dX1_add_75 rfl (lv_at hl 1 rfl) ?_
    refine x_get (v := .ref (A 5)) (C := RX1) (T := TX1) (N := 5) hx hb hts hi1 hown hK hH.1 0 rfl rfl 1 (by decide) (hts (.fieldLink RX1 15 "PulseWheel$EventLog" "ticks" "[I") (by decide +kernel)) rfl rfl dX1_add_76 ?_
    refine lv_iload hx hb dX1_add_79 (lv_at hl 0 rfl) ?_
    refine lv_iload_n hx hb dX1_add_81 rfl (lv_at hl 3 rfl) ?_
    have hq_5 := ix_in (i := (nI (slotN (r 3 3 + 1) 0))) (n := 300) (slotN (r 3 3 + 1) 0) (rfl) ((slot_ok _ _).2) (by decide)
    obtain ⟨r_6, er_6⟩ : ∃ z, z = up2 r_4 5 (slotN (r 3 3 + 1) 0) ti := ⟨_, rfl⟩
    refine x_ist (ws' := (logW A cI r_6)) hx hb hK hH 2 rfl hq_5.1 hq_5.2 dX1_add_82 (by rw [er_6]; rfl) (fun H locs hH => ?_)
    refine lv_aload_n hx hb dX1_add_83 rfl (lv_at hl 1 rfl) ?_
    refine x_get (v := .ref (A 6)) (C := RX1) (T := TX1) (N := 5) hx hb hts hi1 hown hK hH.1 0 rfl rfl 2 (by decide) (hts (.fieldLink RX1 18 "PulseWheel$EventLog" "places" "[I") (by decide +kernel)) rfl rfl dX1_add_84 ?_
    refine lv_iload hx hb dX1_add_87 (lv_at hl 0 rfl) ?_
    refine lv_iload_n hx hb dX1_add_89 rfl (lv_at hl 4 rfl) ?_
    have hq_7 := ix_in (i := (nI (slotN (r 3 3 + 1) 0))) (n := 300) (slotN (r 3 3 + 1) 0) (rfl) ((slot_ok _ _).2) (by decide)
    obtain ⟨r_8, er_8⟩ : ∃ z, z = up2 r_6 6 (slotN (r 3 3 + 1) 0) pl := ⟨_, rfl⟩
    refine x_ist (ws' := (logW A cI r_8)) hx hb hK hH 3 rfl hq_7.1 hq_7.2 dX1_add_90 (by rw [er_8]; rfl) (fun H locs hH => ?_)
    have hf_r : r_8 = logAdd r so ti pl := by subst er_8; subst er_6; subst er_4; subst er_2; subst hv; subst er_1; rfl
    exact hE _ _ _ _ _ hH ((congrArg (fun zz => (logW A cI zz)) hf_r)) dX1_add_91
  refine lv_iload_n hx hb dX1_add_10 rfl (lv_at hl 1 rfl) ?_
  refine lv_iconst (v := 1) hx hb dX1_add_11 (by decide) ?_
  refine lv_icmp_ne (tgt := 22) hx hb dX1_add_12 (by decide) (fun c_12 => ?_) (fun c_12 => ?_)
  · skip
    refine lv_iload_n hx hb dX1_add_22 rfl (lv_at hl 1 rfl) ?_
    refine lv_iconst (v := -1) hx hb dX1_add_23 (by decide) ?_
    refine lv_icmp_ne (tgt := 38) hx hb dX1_add_24 (by decide) (fun c_24 => ?_) (fun c_24 => ?_)
    · skip
      refine lv_iconst (v := 0) hx hb dX1_add_38 (by decide) ?_
      refine lv_istore (lv' := [(4, .int 0), (0, .ref (A 3)), (1, .int so), (2, .int ti), (3, .int pl)]) hx hb dX1_add_39 hl (by decide) rfl (fun ls hl => ?_)
      refine lv_aload_n hx hb dX1_add_41 rfl (lv_at hl 1 rfl) ?_
      refine lv_iload hx hb dX1_add_42 (lv_at hl 0 rfl) ?_
      refine lv_if_eq (tgt := 56) hx hb dX1_add_44 (by decide) (fun c_44 => ?_) (fun c_44 => ?_)
      · skip
        refine lv_iload_n hx hb dX1_add_56 rfl (lv_at hl 2 rfl) ?_
        exact K57 so (by first | (simp only [streakV, if_neg c_12, if_neg c_24, if_pos c_44]; done) | (exfalso; simp_all; done)) _ _ ls hH (lv_sub hl [1, 2, 3, 4] rfl)
      · exact absurd (by decide) c_44
    · skip
      refine lv_aload_n hx hb dX1_add_27 rfl (lv_at hl 0 rfl) ?_
      refine x_get (v := .int (r_1 3 4)) (C := RX1) (T := TX1) (N := 5) hx hb hts hi1 hown hK hH.1 0 rfl rfl 4 (by decide) (hts (.fieldLink RX1 25 "PulseWheel$EventLog" "streak" "I") (by decide +kernel)) rfl rfl dX1_add_28 ?_
      refine x_top (y := r 3 4) (congrFun (congrFun er_1 3) 4) ?_
      refine lv_if_ge (tgt := 38) hx hb dX1_add_31 (by decide) (fun c_31 => ?_) (fun c_31 => ?_)
      · skip
        refine lv_iconst (v := 0) hx hb dX1_add_38 (by decide) ?_
        refine lv_istore (lv' := [(4, .int 0), (0, .ref (A 3)), (1, .int so), (2, .int ti), (3, .int pl)]) hx hb dX1_add_39 hl (by decide) rfl (fun ls hl => ?_)
        refine lv_aload_n hx hb dX1_add_41 rfl (lv_at hl 1 rfl) ?_
        refine lv_iload hx hb dX1_add_42 (lv_at hl 0 rfl) ?_
        refine lv_if_eq (tgt := 56) hx hb dX1_add_44 (by decide) (fun c_44 => ?_) (fun c_44 => ?_)
        · skip
          refine lv_iload_n hx hb dX1_add_56 rfl (lv_at hl 2 rfl) ?_
          exact K57 so (by first | (simp only [streakV, if_neg c_12, if_pos c_24, if_pos c_31, if_pos c_44]; done) | (exfalso; simp_all; done)) _ _ ls hH (lv_sub hl [1, 2, 3, 4] rfl)
        · exact absurd (by decide) c_44
      · skip
        refine lv_iconst (v := 1) hx hb dX1_add_34 (by decide) ?_
        refine lv_goto (tgt := 39) hx hb dX1_add_35 (by decide) ?_
        refine lv_istore (lv' := [(4, .int 1), (0, .ref (A 3)), (1, .int so), (2, .int ti), (3, .int pl)]) hx hb dX1_add_39 hl (by decide) rfl (fun ls hl => ?_)
        refine lv_aload_n hx hb dX1_add_41 rfl (lv_at hl 1 rfl) ?_
        refine lv_iload hx hb dX1_add_42 (lv_at hl 0 rfl) ?_
        refine lv_if_eq (tgt := 56) hx hb dX1_add_44 (by decide) (fun c_44 => ?_) (fun c_44 => ?_)
        · exact absurd c_44 (by decide)
        · skip
          refine lv_aload_n hx hb dX1_add_47 rfl (lv_at hl 1 rfl) ?_
          refine x_get (v := .int (r_1 3 4)) (C := RX1) (T := TX1) (N := 5) hx hb hts hi1 hown hK hH.1 0 rfl rfl 4 (by decide) (hts (.fieldLink RX1 25 "PulseWheel$EventLog" "streak" "I") (by decide +kernel)) rfl rfl dX1_add_48 ?_
          refine x_top (y := r 3 4) (congrFun (congrFun er_1 3) 4) ?_
          refine lv_iload_n hx hb dX1_add_51 rfl (lv_at hl 2 rfl) ?_
          refine lv_iadd hx hb dX1_add_52 ?_
          refine lv_goto (tgt := 57) hx hb dX1_add_53 (by decide) ?_
          exact K57 ((r 3 4) + so) (by first | (simp only [streakV, if_neg c_12, if_pos c_24, if_neg c_31, if_neg c_44]; done) | (exfalso; simp_all; done)) _ _ ls hH (lv_sub hl [1, 2, 3, 4] rfl)
  · skip
    refine lv_aload_n hx hb dX1_add_15 rfl (lv_at hl 0 rfl) ?_
    refine x_get (v := .int (r_1 3 4)) (C := RX1) (T := TX1) (N := 5) hx hb hts hi1 hown hK hH.1 0 rfl rfl 4 (by decide) (hts (.fieldLink RX1 25 "PulseWheel$EventLog" "streak" "I") (by decide +kernel)) rfl rfl dX1_add_16 ?_
    refine x_top (y := r 3 4) (congrFun (congrFun er_1 3) 4) ?_
    refine lv_if_gt (tgt := 34) hx hb dX1_add_19 (by decide) (fun c_19 => ?_) (fun c_19 => ?_)
    · skip
      refine lv_iconst (v := 1) hx hb dX1_add_34 (by decide) ?_
      refine lv_goto (tgt := 39) hx hb dX1_add_35 (by decide) ?_
      refine lv_istore (lv' := [(4, .int 1), (0, .ref (A 3)), (1, .int so), (2, .int ti), (3, .int pl)]) hx hb dX1_add_39 hl (by decide) rfl (fun ls hl => ?_)
      refine lv_aload_n hx hb dX1_add_41 rfl (lv_at hl 1 rfl) ?_
      refine lv_iload hx hb dX1_add_42 (lv_at hl 0 rfl) ?_
      refine lv_if_eq (tgt := 56) hx hb dX1_add_44 (by decide) (fun c_44 => ?_) (fun c_44 => ?_)
      · exact absurd c_44 (by decide)
      · skip
        refine lv_aload_n hx hb dX1_add_47 rfl (lv_at hl 1 rfl) ?_
        refine x_get (v := .int (r_1 3 4)) (C := RX1) (T := TX1) (N := 5) hx hb hts hi1 hown hK hH.1 0 rfl rfl 4 (by decide) (hts (.fieldLink RX1 25 "PulseWheel$EventLog" "streak" "I") (by decide +kernel)) rfl rfl dX1_add_48 ?_
        refine x_top (y := r 3 4) (congrFun (congrFun er_1 3) 4) ?_
        refine lv_iload_n hx hb dX1_add_51 rfl (lv_at hl 2 rfl) ?_
        refine lv_iadd hx hb dX1_add_52 ?_
        refine lv_goto (tgt := 57) hx hb dX1_add_53 (by decide) ?_
        exact K57 ((r 3 4) + so) (by first | (simp only [streakV, if_pos c_12, if_pos c_19, if_neg c_44]; done) | (exfalso; simp_all; done)) _ _ ls hH (lv_sub hl [1, 2, 3, 4] rfl)
    · skip
      refine lv_iload_n hx hb dX1_add_22 rfl (lv_at hl 1 rfl) ?_
      refine lv_iconst (v := -1) hx hb dX1_add_23 (by decide) ?_
      refine lv_icmp_ne (tgt := 38) hx hb dX1_add_24 (by decide) (fun c_24 => ?_) (fun c_24 => ?_)
      · skip
        refine lv_iconst (v := 0) hx hb dX1_add_38 (by decide) ?_
        refine lv_istore (lv' := [(4, .int 0), (0, .ref (A 3)), (1, .int so), (2, .int ti), (3, .int pl)]) hx hb dX1_add_39 hl (by decide) rfl (fun ls hl => ?_)
        refine lv_aload_n hx hb dX1_add_41 rfl (lv_at hl 1 rfl) ?_
        refine lv_iload hx hb dX1_add_42 (lv_at hl 0 rfl) ?_
        refine lv_if_eq (tgt := 56) hx hb dX1_add_44 (by decide) (fun c_44 => ?_) (fun c_44 => ?_)
        · skip
          refine lv_iload_n hx hb dX1_add_56 rfl (lv_at hl 2 rfl) ?_
          exact K57 so (by first | (simp only [streakV, if_pos c_12, if_neg c_19, if_neg c_24, if_pos c_44]; done) | (exfalso; simp_all; done)) _ _ ls hH (lv_sub hl [1, 2, 3, 4] rfl)
        · exact absurd (by decide) c_44
      · skip
        refine lv_aload_n hx hb dX1_add_27 rfl (lv_at hl 0 rfl) ?_
        refine x_get (v := .int (r_1 3 4)) (C := RX1) (T := TX1) (N := 5) hx hb hts hi1 hown hK hH.1 0 rfl rfl 4 (by decide) (hts (.fieldLink RX1 25 "PulseWheel$EventLog" "streak" "I") (by decide +kernel)) rfl rfl dX1_add_28 ?_
        refine x_top (y := r 3 4) (congrFun (congrFun er_1 3) 4) ?_
        refine lv_if_ge (tgt := 38) hx hb dX1_add_31 (by decide) (fun c_31 => ?_) (fun c_31 => ?_)
        · skip
          refine lv_iconst (v := 0) hx hb dX1_add_38 (by decide) ?_
          refine lv_istore (lv' := [(4, .int 0), (0, .ref (A 3)), (1, .int so), (2, .int ti), (3, .int pl)]) hx hb dX1_add_39 hl (by decide) rfl (fun ls hl => ?_)
          refine lv_aload_n hx hb dX1_add_41 rfl (lv_at hl 1 rfl) ?_
          refine lv_iload hx hb dX1_add_42 (lv_at hl 0 rfl) ?_
          refine lv_if_eq (tgt := 56) hx hb dX1_add_44 (by decide) (fun c_44 => ?_) (fun c_44 => ?_)
          · skip
            refine lv_iload_n hx hb dX1_add_56 rfl (lv_at hl 2 rfl) ?_
            exact K57 so (by first | (simp only [streakV, if_pos c_12, if_neg c_19, if_pos c_24, if_pos c_31, if_pos c_44]; done) | (exfalso; simp_all; done)) _ _ ls hH (lv_sub hl [1, 2, 3, 4] rfl)
          · exact absurd (by decide) c_44
        · skip
          refine lv_iconst (v := 1) hx hb dX1_add_34 (by decide) ?_
          refine lv_goto (tgt := 39) hx hb dX1_add_35 (by decide) ?_
          refine lv_istore (lv' := [(4, .int 1), (0, .ref (A 3)), (1, .int so), (2, .int ti), (3, .int pl)]) hx hb dX1_add_39 hl (by decide) rfl (fun ls hl => ?_)
          refine lv_aload_n hx hb dX1_add_41 rfl (lv_at hl 1 rfl) ?_
          refine lv_iload hx hb dX1_add_42 (lv_at hl 0 rfl) ?_
          refine lv_if_eq (tgt := 56) hx hb dX1_add_44 (by decide) (fun c_44 => ?_) (fun c_44 => ?_)
          · exact absurd c_44 (by decide)
          · skip
            refine lv_aload_n hx hb dX1_add_47 rfl (lv_at hl 1 rfl) ?_
            refine x_get (v := .int (r_1 3 4)) (C := RX1) (T := TX1) (N := 5) hx hb hts hi1 hown hK hH.1 0 rfl rfl 4 (by decide) (hts (.fieldLink RX1 25 "PulseWheel$EventLog" "streak" "I") (by decide +kernel)) rfl rfl dX1_add_48 ?_
            refine x_top (y := r 3 4) (congrFun (congrFun er_1 3) 4) ?_
            refine lv_iload_n hx hb dX1_add_51 rfl (lv_at hl 2 rfl) ?_
            refine lv_iadd hx hb dX1_add_52 ?_
            refine lv_goto (tgt := 57) hx hb dX1_add_53 (by decide) ?_
            exact K57 ((r 3 4) + so) (by first | (simp only [streakV, if_pos c_12, if_neg c_19, if_pos c_24, if_neg c_31, if_neg c_44]; done) | (exfalso; simp_all; done)) _ _ ls hH (lv_sub hl [1, 2, 3, 4] rfl)
