/-! ### the reference: words -/
theorem nIs2 (a b c : Nat) : nI a + nI b + nI c = nI (a + b + c) := by rw [nI_add, nI_add]
theorem up2_eq {r : Tb} {c k : Nat} {v : Int32} : up2 r c k v c k = v := by simp [up2, upd]
theorem up2_ne {r : Tb} {c k j : Nat} {v : Int32} (h : j ≠ k) : up2 r c k v c j = r c j := by simp [up2, upd, h]
theorem up2_row {r : Tb} {c k c1 : Nat} {v : Int32} (h : c1 ≠ c) : up2 r c k v c1 = r c1 := by simp [up2, h]
theorem up1_row {r : Tb} {c c1 : Nat} {f : Nat → Int32} (h : c1 ≠ c) : up1 r c f c1 = r c1 := by simp [up1, h]
theorem up1_eq {r : Tb} {c : Nat} {f : Nat → Int32} : up1 r c f c = f := by simp [up1]
def isRdV (x : Int32) : Int32 := if x = 0 then 1 else if x = 1 then 1 else 0
def phOf (c : Int32) : Int32 := if c &&& 3 = 0 then 0 else if c &&& 3 = 1 then 1 else if c &&& 3 = 3 then 2 else 3
def downV (a b : Int32) : Int32 := if 0 ≤ a then a / b else if a / b * b = a then a / b else a / b - 1
def latV (n k : Int32) : Int32 := if k < 0 then -1 else if 300 ≤ k then -1 else if k < n then rem32 (n - 1 - k) 300 else -1
/-- event(b, sort), sort a count: n events there are -/
def ev1 (r : Tb) (b n : Nat) (so : Int32) : Tb := up2 (up2 (up2 (up2 (up2 (up2 (up2 r 1 (b + 6) (r 1 (b + 6) + so)) 1 (b + 7) (r 1 (b + 7) + so)) 1 (b + 8) (r 1 (b + 8) + so)) 1 (b + 20 + n % 300) so) 1 (b + 320 + n % 300) (r 0 4)) 1 (b + 620 + n % 300) (r 1 (b + 6) + so)) 1 (b + 9) (r 1 (b + 9) + 1)
/-- event(b, FAULT) -/
def ev0 (r : Tb) (b n : Nat) : Tb := up2 (up2 (up2 (up2 (up2 (up2 (up2 (up2 r 1 (b + 6) (r 1 (b + 6) + 0)) 1 (b + 7) (r 1 (b + 7) + (-2))) 1 (b + 8) (r 1 (b + 8) + 2)) 1 (b + 10) (r 1 (b + 10) + 1)) 1 (b + 20 + n % 300) 0) 1 (b + 320 + n % 300) (r 0 4)) 1 (b + 620 + n % 300) (r 1 (b + 6) + 0)) 1 (b + 9) (r 1 (b + 9) + 1)
def clearN (r : Tb) (b i : Nat) : Nat → Int32 := fun j => if b ≤ j ∧ j < b + i then 0 else r 1 j
def anewM (r : Tb) (b : Nat) (ho tu : Int32) : Tb := up2 (up2 (up1 r 1 (clearN r b 1510)) 1 b ho) 1 (b + 1) tu
theorem clear_0 {r : Tb} {b : Nat} : r = up1 r 1 (clearN r b 0) := by
  funext c
  unfold up1
  by_cases hc : c = 1
  · subst hc
    rw [if_pos rfl]
    funext j
    unfold clearN
    rw [if_neg (by omega)]
  · rw [if_neg hc]
theorem clear_step {r : Tb} {b i : Nat} : up2 (up1 r 1 (clearN r b i)) 1 (b + i) 0 = up1 r 1 (clearN r b (i + 1)) := by
  funext c
  unfold up1 up2
  by_cases hc : c = 1
  · subst hc
    simp only [if_true]
    funext j
    unfold upd clearN
    by_cases hj : j = b + i
    · rw [if_pos hj, if_pos (by omega)]
    · rw [if_neg hj]
      by_cases h2 : b ≤ j ∧ j < b + i
      · rw [if_pos h2, if_pos (by omega)]
      · rw [if_neg h2, if_neg (by omega)]
  · simp only [if_neg hc]

def rm_X6_isReader : Room := { frames := 0, cells := 0, slots := 0, locals := 0 }
set_option maxHeartbeats 1000000 in
set_option maxRecDepth 100000 in
theorem c_X6_isReader (l : Launch) (D : va_G) (cI cB : ClassId) (x : Int32) : SI l D cI cB yX6_isReader wsX6_isReader rm_X6_isReader [.int x] [] (isRdV x) := by
  refine SI.of (cc := cX6_isReader) (maxL := 1) (ty := .boolean) (by decide +kernel) rfl (Nat.le_of_ble_eq_true rfl) ?_
  intro p e s m args below meth c ls Q hT hP hD hl hE
  obtain ⟨hx, hb, hr, hlocks, hnm, hml, hown, hts, hK, hN⟩ := hT
  have hl : lv_has ls 1 [(0, .int x)] := hl
  refine lv_iload_n hx hb dX6_isReader_0 rfl (lv_at hl 0 rfl) ?_
  refine lv_if_eq (tgt := 9) hx hb dX6_isReader_1 (by decide) (fun c_1 => ?_) (fun c_1 => ?_)
  · skip
    refine lv_iconst (v := 1) hx hb dX6_isReader_9 (by decide) ?_
    refine lv_goto (tgt := 14) hx hb dX6_isReader_10 (by decide) ?_
    exact hE _ _ _ (by first | rfl | (unfold isRdV; rw [if_pos c_1]; done) | (simp only [isRdV, if_pos c_1]; done) | (simp only [isRdV, c_1, if_true, if_false]; done) | (simp only [isRdV, c_1, if_true, if_false, not_true, not_false_iff, reduceIte]; done) | (exfalso; simp_all; done) | (simp [isRdV, c_1]; done) | (simp_all [isRdV]; done)) rfl dX6_isReader_14
  · skip
    refine lv_iload_n hx hb dX6_isReader_4 rfl (lv_at hl 0 rfl) ?_
    refine lv_iconst (v := 1) hx hb dX6_isReader_5 (by decide) ?_
    refine lv_icmp_ne (tgt := 13) hx hb dX6_isReader_6 (by decide) (fun c_6 => ?_) (fun c_6 => ?_)
    · skip
      refine lv_iconst (v := 0) hx hb dX6_isReader_13 (by decide) ?_
      exact hE _ _ _ (by first | rfl | (unfold isRdV; rw [if_neg c_1, if_neg c_6]; done) | (simp only [isRdV, if_neg c_1, if_neg c_6]; done) | (simp only [isRdV, c_1, c_6, if_true, if_false]; done) | (simp only [isRdV, c_1, c_6, if_true, if_false, not_true, not_false_iff, reduceIte]; done) | (exfalso; simp_all; done) | (simp [isRdV, c_1, c_6]; done) | (simp_all [isRdV]; done)) rfl dX6_isReader_14
    · skip
      refine lv_iconst (v := 1) hx hb dX6_isReader_9 (by decide) ?_
      refine lv_goto (tgt := 14) hx hb dX6_isReader_10 (by decide) ?_
      exact hE _ _ _ (by first | rfl | (unfold isRdV; rw [if_neg c_1, if_pos c_6]; done) | (simp only [isRdV, if_neg c_1, if_pos c_6]; done) | (simp only [isRdV, c_1, c_6, if_true, if_false]; done) | (simp only [isRdV, c_1, c_6, if_true, if_false, not_true, not_false_iff, reduceIte]; done) | (exfalso; simp_all; done) | (simp [isRdV, c_1, c_6]; done) | (simp_all [isRdV]; done)) rfl dX6_isReader_14

def rm_X6_phaseOf : Room := { frames := 0, cells := 0, slots := 0, locals := 0 }
set_option maxHeartbeats 1000000 in
set_option maxRecDepth 100000 in
theorem c_X6_phaseOf (l : Launch) (D : va_G) (cI cB : ClassId) (x : Int32) : SI l D cI cB yX6_phaseOf wsX6_phaseOf rm_X6_phaseOf [.int x] [] (phOf x) := by
  refine SI.of (cc := cX6_phaseOf) (maxL := 1) (ty := .int) (by decide +kernel) rfl (Nat.le_of_ble_eq_true rfl) ?_
  intro p e s m args below meth c ls Q hT hP hD hl hE
  obtain ⟨hx, hb, hr, hlocks, hnm, hml, hown, hts, hK, hN⟩ := hT
  have hl : lv_has ls 1 [(0, .int x)] := hl
  refine lv_iload_n hx hb dX6_phaseOf_0 rfl (lv_at hl 0 rfl) ?_
  refine lv_iconst (v := 3) hx hb dX6_phaseOf_1 (by decide) ?_
  refine lv_iand hx hb dX6_phaseOf_2 ?_
  refine lv_if_ne (tgt := 10) hx hb dX6_phaseOf_3 (by decide) (fun c_3 => ?_) (fun c_3 => ?_)
  · skip
    refine lv_iload_n hx hb dX6_phaseOf_10 rfl (lv_at hl 0 rfl) ?_
    refine lv_iconst (v := 3) hx hb dX6_phaseOf_11 (by decide) ?_
    refine lv_iand hx hb dX6_phaseOf_12 ?_
    refine lv_iconst (v := 1) hx hb dX6_phaseOf_13 (by decide) ?_
    refine lv_icmp_ne (tgt := 21) hx hb dX6_phaseOf_14 (by decide) (fun c_14 => ?_) (fun c_14 => ?_)
    · skip
      refine lv_iload_n hx hb dX6_phaseOf_21 rfl (lv_at hl 0 rfl) ?_
      refine lv_iconst (v := 3) hx hb dX6_phaseOf_22 (by decide) ?_
      refine lv_iand hx hb dX6_phaseOf_23 ?_
      refine lv_iconst (v := 3) hx hb dX6_phaseOf_24 (by decide) ?_
      refine lv_icmp_ne (tgt := 32) hx hb dX6_phaseOf_25 (by decide) (fun c_25 => ?_) (fun c_25 => ?_)
      · skip
        refine lv_iconst (v := 3) hx hb dX6_phaseOf_32 (by decide) ?_
        exact hE _ _ _ (by first | rfl | (unfold phOf; rw [if_neg c_3, if_neg c_14, if_neg c_25]; done) | (simp only [phOf, if_neg c_3, if_neg c_14, if_neg c_25]; done) | (simp only [phOf, c_3, c_14, c_25, if_true, if_false]; done) | (simp only [phOf, c_3, c_14, c_25, if_true, if_false, not_true, not_false_iff, reduceIte]; done) | (exfalso; simp_all; done) | (simp [phOf, c_3, c_14, c_25]; done) | (simp_all [phOf]; done)) rfl dX6_phaseOf_33
      · skip
        refine lv_iconst (v := 2) hx hb dX6_phaseOf_28 (by decide) ?_
        refine lv_goto (tgt := 33) hx hb dX6_phaseOf_29 (by decide) ?_
        exact hE _ _ _ (by first | rfl | (unfold phOf; rw [if_neg c_3, if_neg c_14, if_pos c_25]; done) | (simp only [phOf, if_neg c_3, if_neg c_14, if_pos c_25]; done) | (simp only [phOf, c_3, c_14, c_25, if_true, if_false]; done) | (simp only [phOf, c_3, c_14, c_25, if_true, if_false, not_true, not_false_iff, reduceIte]; done) | (exfalso; simp_all; done) | (simp [phOf, c_3, c_14, c_25]; done) | (simp_all [phOf]; done)) rfl dX6_phaseOf_33
    · skip
      refine lv_iconst (v := 1) hx hb dX6_phaseOf_17 (by decide) ?_
      refine lv_goto (tgt := 33) hx hb dX6_phaseOf_18 (by decide) ?_
      exact hE _ _ _ (by first | rfl | (unfold phOf; rw [if_neg c_3, if_pos c_14]; done) | (simp only [phOf, if_neg c_3, if_pos c_14]; done) | (simp only [phOf, c_3, c_14, if_true, if_false]; done) | (simp only [phOf, c_3, c_14, if_true, if_false, not_true, not_false_iff, reduceIte]; done) | (exfalso; simp_all; done) | (simp [phOf, c_3, c_14]; done) | (simp_all [phOf]; done)) rfl dX6_phaseOf_33
  · skip
    refine lv_iconst (v := 0) hx hb dX6_phaseOf_6 (by decide) ?_
    refine lv_goto (tgt := 33) hx hb dX6_phaseOf_7 (by decide) ?_
    exact hE _ _ _ (by first | rfl | (unfold phOf; rw [if_pos c_3]; done) | (simp only [phOf, if_pos c_3]; done) | (simp only [phOf, c_3, if_true, if_false]; done) | (simp only [phOf, c_3, if_true, if_false, not_true, not_false_iff, reduceIte]; done) | (exfalso; simp_all; done) | (simp [phOf, c_3]; done) | (simp_all [phOf]; done)) rfl dX6_phaseOf_33

def rm_X6_down : Room := { frames := 0, cells := 0, slots := 0, locals := 0 }
set_option maxHeartbeats 1000000 in
set_option maxRecDepth 100000 in
theorem c_X6_down (l : Launch) (D : va_G) (cI cB : ClassId) (x y : Int32) (hy : ¬ y = 0) : SI l D cI cB yX6_down wsX6_down rm_X6_down [.int x, .int y] [] (downV x y) := by
  refine SI.of (cc := cX6_down) (maxL := 3) (ty := .int) (by decide +kernel) rfl (Nat.le_of_ble_eq_true rfl) ?_
  intro p e s m args below meth c ls Q hT hP hD hl hE
  obtain ⟨hx, hb, hr, hlocks, hnm, hml, hown, hts, hK, hN⟩ := hT
  have hl : lv_has ls 3 [(0, .int x), (1, .int y)] := hl
  refine lv_iload_n hx hb dX6_down_0 rfl (lv_at hl 0 rfl) ?_
  refine lv_iload_n hx hb dX6_down_1 rfl (lv_at hl 1 rfl) ?_
  refine lv_idiv hx hb dX6_down_2 (hy) ?_
  refine lv_istore_n (lv' := [(2, .int (x / y)), (0, .int x), (1, .int y)]) hx hb dX6_down_3 rfl hl (by decide) rfl (fun ls hl => ?_)
  refine lv_iload_n hx hb dX6_down_4 rfl (lv_at hl 1 rfl) ?_
  refine lv_if_ge (tgt := 21) hx hb dX6_down_5 (by decide) (fun c_5 => ?_) (fun c_5 => ?_)
  · skip
    refine lv_iload_n hx hb dX6_down_21 rfl (lv_at hl 0 rfl) ?_
    exact hE _ _ _ (by first | rfl | (unfold downV; rw [if_pos c_5]; done) | (simp only [downV, if_pos c_5]; done) | (simp only [downV, c_5, if_true, if_false]; done) | (simp only [downV, c_5, if_true, if_false, not_true, not_false_iff, reduceIte]; done) | (exfalso; simp_all; done) | (simp [downV, c_5]; done) | (simp_all [downV]; done)) rfl dX6_down_22
  · skip
    refine lv_iload_n hx hb dX6_down_8 rfl (lv_at hl 0 rfl) ?_
    refine lv_iload_n hx hb dX6_down_9 rfl (lv_at hl 2 rfl) ?_
    refine lv_imul hx hb dX6_down_10 ?_
    refine lv_iload_n hx hb dX6_down_11 rfl (lv_at hl 1 rfl) ?_
    refine lv_icmp_eq (tgt := 21) hx hb dX6_down_12 (by decide) (fun c_12 => ?_) (fun c_12 => ?_)
    · skip
      refine lv_iload_n hx hb dX6_down_21 rfl (lv_at hl 0 rfl) ?_
      exact hE _ _ _ (by first | rfl | (unfold downV; rw [if_neg c_5, if_pos c_12]; done) | (simp only [downV, if_neg c_5, if_pos c_12]; done) | (simp only [downV, c_5, c_12, if_true, if_false]; done) | (simp only [downV, c_5, c_12, if_true, if_false, not_true, not_false_iff, reduceIte]; done) | (exfalso; simp_all; done) | (simp [downV, c_5, c_12]; done) | (simp_all [downV]; done)) rfl dX6_down_22
    · skip
      refine lv_iload_n hx hb dX6_down_15 rfl (lv_at hl 0 rfl) ?_
      refine lv_iconst (v := 1) hx hb dX6_down_16 (by decide) ?_
      refine lv_isub hx hb dX6_down_17 ?_
      refine lv_goto (tgt := 22) hx hb dX6_down_18 (by decide) ?_
      exact hE _ _ _ (by first | rfl | (unfold downV; rw [if_neg c_5, if_neg c_12]; done) | (simp only [downV, if_neg c_5, if_neg c_12]; done) | (simp only [downV, c_5, c_12, if_true, if_false]; done) | (simp only [downV, c_5, c_12, if_true, if_false, not_true, not_false_iff, reduceIte]; done) | (exfalso; simp_all; done) | (simp [downV, c_5, c_12]; done) | (simp_all [downV]; done)) rfl dX6_down_22

def rm_X6_latest : Room := { frames := 0, cells := 0, slots := 0, locals := 0 }
set_option maxHeartbeats 1000000 in
set_option maxRecDepth 100000 in
theorem c_X6_latest (l : Launch) (D : va_G) (cI cB : ClassId) (A : Nat → Nat) (r : Tb) (k : Int32) (b : Nat) (hb : b ≤ 1510) : SI l D cI cB yX6_latest wsX6_latest rm_X6_latest [.ref (A 0), .int (nI b), .int k] (modelW A cI r) (latV (r 1 (b + 9)) k) := by
  refine SI.of (cc := cX6_latest) (maxL := 4) (ty := .int) (by decide +kernel) rfl (Nat.le_of_ble_eq_true rfl) ?_
  intro p e s m args below meth c ls Q hT hP hD hl hE
  obtain ⟨hx, hb, hr, hlocks, hnm, hml, hown, hts, hK, hN⟩ := hT
  have hl : lv_has ls 4 [(0, .ref (A 0)), (1, .int (nI b)), (2, .int k)] := hl
  have hi6 : ∀ w ∈ wsX60, w ∈ wsX6_latest := by decide +kernel
  refine lv_aload_n hx hb dX6_latest_0 rfl (lv_at hl 0 rfl) ?_
  refine x_get (v := .ref (A 1)) (C := RX6) (T := TX6) (N := 9) hx hb hts hi6 hown hK hP 0 rfl rfl 0 (by decide) (hts (.fieldLink RX6 7 "PulseWheelModel" "now" "[I") (by decide +kernel)) rfl rfl dX6_latest_1 ?_
  refine lv_iload_n hx hb dX6_latest_4 rfl (lv_at hl 1 rfl) ?_
  refine lv_bipush (v := 9) hx hb dX6_latest_5 (by decide) ?_
  refine lv_iadd hx hb dX6_latest_7 ?_
  have hq_1 := ix_in (i := ((nI b) + 9)) (n := 3020) (b + 9) (nI_add b 9) (by omega) (by decide)
  refine x_ild (v := r 1 (b + 9)) hx hb hK hP 1 rfl hq_1.1 (by rw [hq_1.2]) dX6_latest_8 ?_
  refine lv_istore_n (lv' := [(3, .int (r 1 (b + 9))), (0, .ref (A 0)), (1, .int (nI b)), (2, .int k)]) hx hb dX6_latest_9 rfl hl (by decide) rfl (fun ls hl => ?_)
  refine lv_iload_n hx hb dX6_latest_10 rfl (lv_at hl 3 rfl) ?_
  refine lv_if_lt (tgt := 26) hx hb dX6_latest_11 (by decide) (fun c_11 => ?_) (fun c_11 => ?_)
  · skip
    refine lv_iconst (v := -1) hx hb dX6_latest_26 (by decide) ?_
    refine lv_goto (tgt := 39) hx hb dX6_latest_27 (by decide) ?_
    exact hE _ _ _ (by first | rfl | (unfold latV  rem32; rw [if_pos c_11]; done) | (simp only [latV, rem32, if_pos c_11]; done) | (simp only [latV, rem32, c_11, if_true, if_false]; done) | (simp only [latV, rem32, c_11, if_true, if_false, not_true, not_false_iff, reduceIte]; done) | (exfalso; simp_all; done) | (simp [latV, rem32, c_11]; done) | (simp_all [latV, rem32]; done)) rfl dX6_latest_39
  · skip
    refine lv_iload_n hx hb dX6_latest_14 rfl (lv_at hl 3 rfl) ?_
    refine lv_sipush (v := 300) hx hb dX6_latest_15 (by decide) ?_
    refine lv_icmp_ge (tgt := 26) hx hb dX6_latest_18 (by decide) (fun c_18 => ?_) (fun c_18 => ?_)
    · skip
      refine lv_iconst (v := -1) hx hb dX6_latest_26 (by decide) ?_
      refine lv_goto (tgt := 39) hx hb dX6_latest_27 (by decide) ?_
      exact hE _ _ _ (by first | rfl | (unfold latV  rem32; rw [if_neg c_11, if_pos c_18]; done) | (simp only [latV, rem32, if_neg c_11, if_pos c_18]; done) | (simp only [latV, rem32, c_11, c_18, if_true, if_false]; done) | (simp only [latV, rem32, c_11, c_18, if_true, if_false, not_true, not_false_iff, reduceIte]; done) | (exfalso; simp_all; done) | (simp [latV, rem32, c_11, c_18]; done) | (simp_all [latV, rem32]; done)) rfl dX6_latest_39
    · skip
      refine lv_iload_n hx hb dX6_latest_21 rfl (lv_at hl 3 rfl) ?_
      refine lv_iload_n hx hb dX6_latest_22 rfl (lv_at hl 0 rfl) ?_
      refine lv_icmp_lt (tgt := 30) hx hb dX6_latest_23 (by decide) (fun c_23 => ?_) (fun c_23 => ?_)
      · skip
        refine lv_iload_n hx hb dX6_latest_30 rfl (lv_at hl 0 rfl) ?_
        refine lv_iconst (v := 1) hx hb dX6_latest_31 (by decide) ?_
        refine lv_isub hx hb dX6_latest_32 ?_
        refine lv_iload_n hx hb dX6_latest_33 rfl (lv_at hl 3 rfl) ?_
        refine lv_isub hx hb dX6_latest_34 ?_
        refine lv_sipush (v := 300) hx hb dX6_latest_35 (by decide) ?_
        refine lv_irem hx hb dX6_latest_38 (by decide) ?_
        exact hE _ _ _ (by first | rfl | (unfold latV  rem32; rw [if_neg c_11, if_neg c_18, if_pos c_23]; done) | (simp only [latV, rem32, if_neg c_11, if_neg c_18, if_pos c_23]; done) | (simp only [latV, rem32, c_11, c_18, c_23, if_true, if_false]; done) | (simp only [latV, rem32, c_11, c_18, c_23, if_true, if_false, not_true, not_false_iff, reduceIte]; done) | (exfalso; simp_all; done) | (simp [latV, rem32, c_11, c_18, c_23]; done) | (simp_all [latV, rem32]; done)) rfl dX6_latest_39
      · skip
        refine lv_iconst (v := -1) hx hb dX6_latest_26 (by decide) ?_
        refine lv_goto (tgt := 39) hx hb dX6_latest_27 (by decide) ?_
        exact hE _ _ _ (by first | rfl | (unfold latV  rem32; rw [if_neg c_11, if_neg c_18, if_neg c_23]; done) | (simp only [latV, rem32, if_neg c_11, if_neg c_18, if_neg c_23]; done) | (simp only [latV, rem32, c_11, c_18, c_23, if_true, if_false]; done) | (simp only [latV, rem32, c_11, c_18, c_23, if_true, if_false, not_true, not_false_iff, reduceIte]; done) | (exfalso; simp_all; done) | (simp [latV, rem32, c_11, c_18, c_23]; done) | (simp_all [latV, rem32]; done)) rfl dX6_latest_39

def rm_X6_event1 : Room := { frames := 0, cells := 0, slots := 0, locals := 0 }
set_option maxHeartbeats 1000000 in
set_option maxRecDepth 100000 in
theorem c_X6_event1 (l : Launch) (D : va_G) (cI cB : ClassId) (A : Nat → Nat) (r : Tb) (so : Int32) (b : Nat) (n : Nat) (hb : b ≤ 1510) (hn : r 1 (b + 9) = nI n) (hn2 : n < 2 ^ 31) (hso : ¬ so = 0) : CV l D cI cB yX6_event wsX6_event rm_X6_event1 [.ref (A 0), .int (nI b), .int so] (modelW A cI r) (modelW A cI (ev1 r b n so)) := by
  refine CV.of (cc := cX6_event) (maxL := 4)  (by decide +kernel) rfl (Nat.le_of_ble_eq_true rfl) ?_
  intro p e s m args below meth c ls A0 Q hT hH hA hl hE
  obtain ⟨hx, hb, hr, hlocks, hnm, hml, hown, hts, hK, hN⟩ := hT
  have hl : lv_has ls 4 [(0, .ref (A 0)), (1, .int (nI b)), (2, .int so)] := hl
  have hi6 : ∀ w ∈ wsX60, w ∈ wsX6_event := by decide +kernel
  refine lv_aload_n hx hb dX6_event_0 rfl (lv_at hl 0 rfl) ?_
  refine x_get (v := .ref (A 1)) (C := RX6) (T := TX6) (N := 9) hx hb hts hi6 hown hK hH.1 0 rfl rfl 0 (by decide) (hts (.fieldLink RX6 7 "PulseWheelModel" "now" "[I") (by decide +kernel)) rfl rfl dX6_event_1 ?_
  refine lv_iload_n hx hb dX6_event_4 rfl (lv_at hl 1 rfl) ?_
  refine lv_bipush (v := 9) hx hb dX6_event_5 (by decide) ?_
  refine lv_iadd hx hb dX6_event_7 ?_
  have hq_1 := ix_in (i := ((nI b) + 9)) (n := 3020) (b + 9) (nI_add b 9) (by omega) (by decide)
  refine x_ild (v := r 1 (b + 9)) hx hb hK hH.1 1 rfl hq_1.1 (by rw [hq_1.2]) dX6_event_8 ?_
  refine lv_sipush (v := 300) hx hb dX6_event_9 (by decide) ?_
  refine lv_irem hx hb dX6_event_12 (by decide) ?_
  refine x_top (y := nI (n % 300)) (by rw [hn]; exact pk_rem (d := 300) hn2 (by decide) (by decide)) ?_
  refine lv_istore_n (lv' := [(3, .int (nI (n % 300))), (0, .ref (A 0)), (1, .int (nI b)), (2, .int so)]) hx hb dX6_event_13 rfl hl (by decide) rfl (fun ls hl => ?_)
  have hmod : n % 300 < 300 := Nat.mod_lt _ (by decide)
  refine lv_aload_n hx hb dX6_event_14 rfl (lv_at hl 1 rfl) ?_
  refine x_get (v := .ref (A 1)) (C := RX6) (T := TX6) (N := 9) hx hb hts hi6 hown hK hH.1 0 rfl rfl 0 (by decide) (hts (.fieldLink RX6 7 "PulseWheelModel" "now" "[I") (by decide +kernel)) rfl rfl dX6_event_15 ?_
  refine lv_iload_n hx hb dX6_event_18 rfl (lv_at hl 2 rfl) ?_
  refine lv_bipush (v := 6) hx hb dX6_event_19 (by decide) ?_
  refine lv_iadd hx hb dX6_event_21 ?_
  refine lv_dup2_11 hx hb dX6_event_22 rfl rfl ?_
  have hq_2 := ix_in (i := ((nI b) + 6)) (n := 3020) (b + 6) (nI_add b 6) (by omega) (by decide)
  refine x_ild (v := r 1 (b + 6)) hx hb hK hH.1 1 rfl hq_2.1 (by rw [hq_2.2]) dX6_event_23 ?_
  refine lv_iload_n hx hb dX6_event_24 rfl (lv_at hl 3 rfl) ?_
  refine lv_iadd hx hb dX6_event_25 ?_
  have hq_3 := ix_in (i := ((nI b) + 6)) (n := 3020) (b + 6) (nI_add b 6) (by omega) (by decide)
  obtain ⟨r_4, er_4⟩ : ∃ z, z = up2 r 1 (b + 6) ((r 1 (b + 6)) + so) := ⟨_, rfl⟩
  refine x_ist (ws' := (modelW A cI r_4)) hx hb hK hH 1 rfl hq_3.1 hq_3.2 dX6_event_26 (by rw [er_4]; rfl) (fun H locs hH => ?_)
  refine lv_aload_n hx hb dX6_event_27 rfl (lv_at hl 1 rfl) ?_
  refine x_get (v := .ref (A 1)) (C := RX6) (T := TX6) (N := 9) hx hb hts hi6 hown hK hH.1 0 rfl rfl 0 (by decide) (hts (.fieldLink RX6 7 "PulseWheelModel" "now" "[I") (by decide +kernel)) rfl rfl dX6_event_28 ?_
  refine lv_iload_n hx hb dX6_event_31 rfl (lv_at hl 2 rfl) ?_
  refine lv_bipush (v := 7) hx hb dX6_event_32 (by decide) ?_
  refine lv_iadd hx hb dX6_event_34 ?_
  refine lv_dup2_11 hx hb dX6_event_35 rfl rfl ?_
  have hq_5 := ix_in (i := ((nI b) + 7)) (n := 3020) (b + 7) (nI_add b 7) (by omega) (by decide)
  refine x_ild (v := r_4 1 (b + 7)) hx hb hK hH.1 1 rfl hq_5.1 (by rw [hq_5.2]) dX6_event_36 ?_
  refine x_top (y := r 1 (b + 7)) (by rw [er_4, up2_ne (j := b + 7) (k := b + 6) (by omega)]) ?_
  refine lv_iload_n hx hb dX6_event_37 rfl (lv_at hl 3 rfl) ?_
  refine lv_if_ne (tgt := 46) hx hb dX6_event_38 (by decide) (fun c_38 => ?_) (fun c_38 => ?_)
  · skip
    refine lv_iload_n hx hb dX6_event_46 rfl (lv_at hl 3 rfl) ?_
    refine lv_iadd hx hb dX6_event_47 ?_
    have hq_6 := ix_in (i := ((nI b) + 7)) (n := 3020) (b + 7) (nI_add b 7) (by omega) (by decide)
    obtain ⟨r_7, er_7⟩ : ∃ z, z = up2 r_4 1 (b + 7) ((r 1 (b + 7)) + so) := ⟨_, rfl⟩
    refine x_ist (ws' := (modelW A cI r_7)) hx hb hK hH 1 rfl hq_6.1 hq_6.2 dX6_event_48 (by rw [er_7]; rfl) (fun H locs hH => ?_)
    refine lv_aload_n hx hb dX6_event_49 rfl (lv_at hl 1 rfl) ?_
    refine x_get (v := .ref (A 1)) (C := RX6) (T := TX6) (N := 9) hx hb hts hi6 hown hK hH.1 0 rfl rfl 0 (by decide) (hts (.fieldLink RX6 7 "PulseWheelModel" "now" "[I") (by decide +kernel)) rfl rfl dX6_event_50 ?_
    refine lv_iload_n hx hb dX6_event_53 rfl (lv_at hl 2 rfl) ?_
    refine lv_bipush (v := 8) hx hb dX6_event_54 (by decide) ?_
    refine lv_iadd hx hb dX6_event_56 ?_
    refine lv_dup2_11 hx hb dX6_event_57 rfl rfl ?_
    have hq_8 := ix_in (i := ((nI b) + 8)) (n := 3020) (b + 8) (nI_add b 8) (by omega) (by decide)
    refine x_ild (v := r_7 1 (b + 8)) hx hb hK hH.1 1 rfl hq_8.1 (by rw [hq_8.2]) dX6_event_58 ?_
    refine x_top (y := r 1 (b + 8)) (by rw [er_7, up2_ne (j := b + 8) (k := b + 7) (by omega), er_4, up2_ne (j := b + 8) (k := b + 6) (by omega)]) ?_
    refine lv_iload_n hx hb dX6_event_59 rfl (lv_at hl 3 rfl) ?_
    refine lv_if_ne (tgt := 67) hx hb dX6_event_60 (by decide) (fun c_60 => ?_) (fun c_60 => ?_)
    · skip
      refine lv_iload_n hx hb dX6_event_67 rfl (lv_at hl 3 rfl) ?_
      refine lv_iadd hx hb dX6_event_68 ?_
      have hq_9 := ix_in (i := ((nI b) + 8)) (n := 3020) (b + 8) (nI_add b 8) (by omega) (by decide)
      obtain ⟨r_10, er_10⟩ : ∃ z, z = up2 r_7 1 (b + 8) ((r 1 (b + 8)) + so) := ⟨_, rfl⟩
      refine x_ist (ws' := (modelW A cI r_10)) hx hb hK hH 1 rfl hq_9.1 hq_9.2 dX6_event_69 (by rw [er_10]; rfl) (fun H locs hH => ?_)
      refine lv_iload_n hx hb dX6_event_70 rfl (lv_at hl 3 rfl) ?_
      refine lv_if_ne (tgt := 87) hx hb dX6_event_71 (by decide) (fun c_71 => ?_) (fun c_71 => ?_)
      · skip
        refine lv_aload_n hx hb dX6_event_87 rfl (lv_at hl 1 rfl) ?_
        refine x_get (v := .ref (A 1)) (C := RX6) (T := TX6) (N := 9) hx hb hts hi6 hown hK hH.1 0 rfl rfl 0 (by decide) (hts (.fieldLink RX6 7 "PulseWheelModel" "now" "[I") (by decide +kernel)) rfl rfl dX6_event_88 ?_
        refine lv_iload_n hx hb dX6_event_91 rfl (lv_at hl 2 rfl) ?_
        refine lv_bipush (v := 20) hx hb dX6_event_92 (by decide) ?_
        refine lv_iadd hx hb dX6_event_94 ?_
        refine lv_iload_n hx hb dX6_event_95 rfl (lv_at hl 0 rfl) ?_
        refine lv_iadd hx hb dX6_event_96 ?_
        refine lv_iload_n hx hb dX6_event_97 rfl (lv_at hl 3 rfl) ?_
        have hq_11 := ix_in (i := (((nI b) + 20) + (nI (n % 300)))) (n := 3020) (b + 20 + (n % 300)) (nIs2 b 20 (n % 300)) (by omega) (by decide)
        obtain ⟨r_12, er_12⟩ : ∃ z, z = up2 r_10 1 (b + 20 + (n % 300)) so := ⟨_, rfl⟩
        refine x_ist (ws' := (modelW A cI r_12)) hx hb hK hH 1 rfl hq_11.1 hq_11.2 dX6_event_98 (by rw [er_12]; rfl) (fun H locs hH => ?_)
        refine lv_aload_n hx hb dX6_event_99 rfl (lv_at hl 1 rfl) ?_
        refine x_get (v := .ref (A 1)) (C := RX6) (T := TX6) (N := 9) hx hb hts hi6 hown hK hH.1 0 rfl rfl 0 (by decide) (hts (.fieldLink RX6 7 "PulseWheelModel" "now" "[I") (by decide +kernel)) rfl rfl dX6_event_100 ?_
        refine lv_iload_n hx hb dX6_event_103 rfl (lv_at hl 2 rfl) ?_
        refine lv_sipush (v := 320) hx hb dX6_event_104 (by decide) ?_
        refine lv_iadd hx hb dX6_event_107 ?_
        refine lv_iload_n hx hb dX6_event_108 rfl (lv_at hl 0 rfl) ?_
        refine lv_iadd hx hb dX6_event_109 ?_
        refine lv_aload_n hx hb dX6_event_110 rfl (lv_at hl 1 rfl) ?_
        refine x_get (v := .int (r_12 0 4)) (C := RX6) (T := TX6) (N := 9) hx hb hts hi6 hown hK hH.1 0 rfl rfl 4 (by decide) (hts (.fieldLink RX6 37 "PulseWheelModel" "ticks" "I") (by decide +kernel)) rfl rfl dX6_event_111 ?_
        refine x_top (y := r 0 4) ((congrFun (congrFun er_12 0) 4).trans ((congrFun (congrFun er_10 0) 4).trans ((congrFun (congrFun er_7 0) 4).trans (congrFun (congrFun er_4 0) 4)))) ?_
        have hq_13 := ix_in (i := (((nI b) + 320) + (nI (n % 300)))) (n := 3020) (b + 320 + (n % 300)) (nIs2 b 320 (n % 300)) (by omega) (by decide)
        obtain ⟨r_14, er_14⟩ : ∃ z, z = up2 r_12 1 (b + 320 + (n % 300)) (r 0 4) := ⟨_, rfl⟩
        refine x_ist (ws' := (modelW A cI r_14)) hx hb hK hH 1 rfl hq_13.1 hq_13.2 dX6_event_114 (by rw [er_14]; rfl) (fun H locs hH => ?_)
        refine lv_aload_n hx hb dX6_event_115 rfl (lv_at hl 1 rfl) ?_
        refine x_get (v := .ref (A 1)) (C := RX6) (T := TX6) (N := 9) hx hb hts hi6 hown hK hH.1 0 rfl rfl 0 (by decide) (hts (.fieldLink RX6 7 "PulseWheelModel" "now" "[I") (by decide +kernel)) rfl rfl dX6_event_116 ?_
        refine lv_iload_n hx hb dX6_event_119 rfl (lv_at hl 2 rfl) ?_
        refine lv_sipush (v := 620) hx hb dX6_event_120 (by decide) ?_
        refine lv_iadd hx hb dX6_event_123 ?_
        refine lv_iload_n hx hb dX6_event_124 rfl (lv_at hl 0 rfl) ?_
        refine lv_iadd hx hb dX6_event_125 ?_
        refine lv_aload_n hx hb dX6_event_126 rfl (lv_at hl 1 rfl) ?_
        refine x_get (v := .ref (A 1)) (C := RX6) (T := TX6) (N := 9) hx hb hts hi6 hown hK hH.1 0 rfl rfl 0 (by decide) (hts (.fieldLink RX6 7 "PulseWheelModel" "now" "[I") (by decide +kernel)) rfl rfl dX6_event_127 ?_
        refine lv_iload_n hx hb dX6_event_130 rfl (lv_at hl 2 rfl) ?_
        refine lv_bipush (v := 6) hx hb dX6_event_131 (by decide) ?_
        refine lv_iadd hx hb dX6_event_133 ?_
        have hq_15 := ix_in (i := ((nI b) + 6)) (n := 3020) (b + 6) (nI_add b 6) (by omega) (by decide)
        refine x_ild (v := r_14 1 (b + 6)) hx hb hK hH.1 1 rfl hq_15.1 (by rw [hq_15.2]) dX6_event_134 ?_
        refine x_top (y := ((r 1 (b + 6)) + so)) (by rw [er_14, up2_ne (j := b + 6) (k := b + 320 + (n % 300)) (by omega), er_12, up2_ne (j := b + 6) (k := b + 20 + (n % 300)) (by omega), er_10, up2_ne (j := b + 6) (k := b + 8) (by omega), er_7, up2_ne (j := b + 6) (k := b + 7) (by omega), er_4, up2_eq]) ?_
        have hq_16 := ix_in (i := (((nI b) + 620) + (nI (n % 300)))) (n := 3020) (b + 620 + (n % 300)) (nIs2 b 620 (n % 300)) (by omega) (by decide)
        obtain ⟨r_17, er_17⟩ : ∃ z, z = up2 r_14 1 (b + 620 + (n % 300)) ((r 1 (b + 6)) + so) := ⟨_, rfl⟩
        refine x_ist (ws' := (modelW A cI r_17)) hx hb hK hH 1 rfl hq_16.1 hq_16.2 dX6_event_135 (by rw [er_17]; rfl) (fun H locs hH => ?_)
        refine lv_aload_n hx hb dX6_event_136 rfl (lv_at hl 1 rfl) ?_
        refine x_get (v := .ref (A 1)) (C := RX6) (T := TX6) (N := 9) hx hb hts hi6 hown hK hH.1 0 rfl rfl 0 (by decide) (hts (.fieldLink RX6 7 "PulseWheelModel" "now" "[I") (by decide +kernel)) rfl rfl dX6_event_137 ?_
        refine lv_iload_n hx hb dX6_event_140 rfl (lv_at hl 2 rfl) ?_
        refine lv_bipush (v := 9) hx hb dX6_event_141 (by decide) ?_
        refine lv_iadd hx hb dX6_event_143 ?_
        refine lv_dup2_11 hx hb dX6_event_144 rfl rfl ?_
        have hq_18 := ix_in (i := ((nI b) + 9)) (n := 3020) (b + 9) (nI_add b 9) (by omega) (by decide)
        refine x_ild (v := r_17 1 (b + 9)) hx hb hK hH.1 1 rfl hq_18.1 (by rw [hq_18.2]) dX6_event_145 ?_
        refine x_top (y := r 1 (b + 9)) (by rw [er_17, up2_ne (j := b + 9) (k := b + 620 + (n % 300)) (by omega), er_14, up2_ne (j := b + 9) (k := b + 320 + (n % 300)) (by omega), er_12, up2_ne (j := b + 9) (k := b + 20 + (n % 300)) (by omega), er_10, up2_ne (j := b + 9) (k := b + 8) (by omega), er_7, up2_ne (j := b + 9) (k := b + 7) (by omega), er_4, up2_ne (j := b + 9) (k := b + 6) (by omega)]) ?_
        refine lv_iconst (v := 1) hx hb dX6_event_146 (by decide) ?_
        refine lv_iadd hx hb dX6_event_147 ?_
        have hq_19 := ix_in (i := ((nI b) + 9)) (n := 3020) (b + 9) (nI_add b 9) (by omega) (by decide)
        obtain ⟨r_20, er_20⟩ : ∃ z, z = up2 r_17 1 (b + 9) ((r 1 (b + 9)) + 1) := ⟨_, rfl⟩
        refine x_ist (ws' := (modelW A cI r_20)) hx hb hK hH 1 rfl hq_19.1 hq_19.2 dX6_event_148 (by rw [er_20]; rfl) (fun H locs hH => ?_)
        have hf_r : r_20 = ev1 r b n so := by subst er_20; subst er_17; subst er_14; subst er_12; subst er_10; subst er_7; subst er_4; rfl
        exact hE _ _ _ _ _ hH ((congrArg (fun zz => (modelW A cI zz)) hf_r)) dX6_event_149
      · exact absurd c_71 (hso)
    · exact absurd c_60 (hso)
  · exact absurd c_38 (hso)

def rm_X6_event0 : Room := { frames := 0, cells := 0, slots := 0, locals := 0 }
set_option maxHeartbeats 1000000 in
set_option maxRecDepth 100000 in
theorem c_X6_event0 (l : Launch) (D : va_G) (cI cB : ClassId) (A : Nat → Nat) (r : Tb) (b : Nat) (n : Nat) (hb : b ≤ 1510) (hn : r 1 (b + 9) = nI n) (hn2 : n < 2 ^ 31) : CV l D cI cB yX6_event wsX6_event rm_X6_event0 [.ref (A 0), .int (nI b), .int 0] (modelW A cI r) (modelW A cI (ev0 r b n)) := by
  refine CV.of (cc := cX6_event) (maxL := 4)  (by decide +kernel) rfl (Nat.le_of_ble_eq_true rfl) ?_
  intro p e s m args below meth c ls A0 Q hT hH hA hl hE
  obtain ⟨hx, hb, hr, hlocks, hnm, hml, hown, hts, hK, hN⟩ := hT
  have hl : lv_has ls 4 [(0, .ref (A 0)), (1, .int (nI b)), (2, .int 0)] := hl
  have hi6 : ∀ w ∈ wsX60, w ∈ wsX6_event := by decide +kernel
  refine lv_aload_n hx hb dX6_event_0 rfl (lv_at hl 0 rfl) ?_
  refine x_get (v := .ref (A 1)) (C := RX6) (T := TX6) (N := 9) hx hb hts hi6 hown hK hH.1 0 rfl rfl 0 (by decide) (hts (.fieldLink RX6 7 "PulseWheelModel" "now" "[I") (by decide +kernel)) rfl rfl dX6_event_1 ?_
  refine lv_iload_n hx hb dX6_event_4 rfl (lv_at hl 1 rfl) ?_
  refine lv_bipush (v := 9) hx hb dX6_event_5 (by decide) ?_
  refine lv_iadd hx hb dX6_event_7 ?_
  have hq_1 := ix_in (i := ((nI b) + 9)) (n := 3020) (b + 9) (nI_add b 9) (by omega) (by decide)
  refine x_ild (v := r 1 (b + 9)) hx hb hK hH.1 1 rfl hq_1.1 (by rw [hq_1.2]) dX6_event_8 ?_
  refine lv_sipush (v := 300) hx hb dX6_event_9 (by decide) ?_
  refine lv_irem hx hb dX6_event_12 (by decide) ?_
  refine x_top (y := nI (n % 300)) (by rw [hn]; exact pk_rem (d := 300) hn2 (by decide) (by decide)) ?_
  refine lv_istore_n (lv' := [(3, .int (nI (n % 300))), (0, .ref (A 0)), (1, .int (nI b)), (2, .int 0)]) hx hb dX6_event_13 rfl hl (by decide) rfl (fun ls hl => ?_)
  have hmod : n % 300 < 300 := Nat.mod_lt _ (by decide)
  refine lv_aload_n hx hb dX6_event_14 rfl (lv_at hl 1 rfl) ?_
  refine x_get (v := .ref (A 1)) (C := RX6) (T := TX6) (N := 9) hx hb hts hi6 hown hK hH.1 0 rfl rfl 0 (by decide) (hts (.fieldLink RX6 7 "PulseWheelModel" "now" "[I") (by decide +kernel)) rfl rfl dX6_event_15 ?_
  refine lv_iload_n hx hb dX6_event_18 rfl (lv_at hl 2 rfl) ?_
  refine lv_bipush (v := 6) hx hb dX6_event_19 (by decide) ?_
  refine lv_iadd hx hb dX6_event_21 ?_
  refine lv_dup2_11 hx hb dX6_event_22 rfl rfl ?_
  have hq_2 := ix_in (i := ((nI b) + 6)) (n := 3020) (b + 6) (nI_add b 6) (by omega) (by decide)
  refine x_ild (v := r 1 (b + 6)) hx hb hK hH.1 1 rfl hq_2.1 (by rw [hq_2.2]) dX6_event_23 ?_
  refine lv_iload_n hx hb dX6_event_24 rfl (lv_at hl 3 rfl) ?_
  refine lv_iadd hx hb dX6_event_25 ?_
  have hq_3 := ix_in (i := ((nI b) + 6)) (n := 3020) (b + 6) (nI_add b 6) (by omega) (by decide)
  obtain ⟨r_4, er_4⟩ : ∃ z, z = up2 r 1 (b + 6) ((r 1 (b + 6)) + 0) := ⟨_, rfl⟩
  refine x_ist (ws' := (modelW A cI r_4)) hx hb hK hH 1 rfl hq_3.1 hq_3.2 dX6_event_26 (by rw [er_4]; rfl) (fun H locs hH => ?_)
  refine lv_aload_n hx hb dX6_event_27 rfl (lv_at hl 1 rfl) ?_
  refine x_get (v := .ref (A 1)) (C := RX6) (T := TX6) (N := 9) hx hb hts hi6 hown hK hH.1 0 rfl rfl 0 (by decide) (hts (.fieldLink RX6 7 "PulseWheelModel" "now" "[I") (by decide +kernel)) rfl rfl dX6_event_28 ?_
  refine lv_iload_n hx hb dX6_event_31 rfl (lv_at hl 2 rfl) ?_
  refine lv_bipush (v := 7) hx hb dX6_event_32 (by decide) ?_
  refine lv_iadd hx hb dX6_event_34 ?_
  refine lv_dup2_11 hx hb dX6_event_35 rfl rfl ?_
  have hq_5 := ix_in (i := ((nI b) + 7)) (n := 3020) (b + 7) (nI_add b 7) (by omega) (by decide)
  refine x_ild (v := r_4 1 (b + 7)) hx hb hK hH.1 1 rfl hq_5.1 (by rw [hq_5.2]) dX6_event_36 ?_
  refine x_top (y := r 1 (b + 7)) (by rw [er_4, up2_ne (j := b + 7) (k := b + 6) (by omega)]) ?_
  refine lv_iload_n hx hb dX6_event_37 rfl (lv_at hl 3 rfl) ?_
  refine lv_if_ne (tgt := 46) hx hb dX6_event_38 (by decide) (fun c_38 => ?_) (fun c_38 => ?_)
  · exact absurd (by decide) c_38
  · skip
    refine lv_bipush (v := -2) hx hb dX6_event_41 (by decide) ?_
    refine lv_goto (tgt := 47) hx hb dX6_event_43 (by decide) ?_
    refine lv_iadd hx hb dX6_event_47 ?_
    have hq_6 := ix_in (i := ((nI b) + 7)) (n := 3020) (b + 7) (nI_add b 7) (by omega) (by decide)
    obtain ⟨r_7, er_7⟩ : ∃ z, z = up2 r_4 1 (b + 7) ((r 1 (b + 7)) + (-2)) := ⟨_, rfl⟩
    refine x_ist (ws' := (modelW A cI r_7)) hx hb hK hH 1 rfl hq_6.1 hq_6.2 dX6_event_48 (by rw [er_7]; rfl) (fun H locs hH => ?_)
    refine lv_aload_n hx hb dX6_event_49 rfl (lv_at hl 1 rfl) ?_
    refine x_get (v := .ref (A 1)) (C := RX6) (T := TX6) (N := 9) hx hb hts hi6 hown hK hH.1 0 rfl rfl 0 (by decide) (hts (.fieldLink RX6 7 "PulseWheelModel" "now" "[I") (by decide +kernel)) rfl rfl dX6_event_50 ?_
    refine lv_iload_n hx hb dX6_event_53 rfl (lv_at hl 2 rfl) ?_
    refine lv_bipush (v := 8) hx hb dX6_event_54 (by decide) ?_
    refine lv_iadd hx hb dX6_event_56 ?_
    refine lv_dup2_11 hx hb dX6_event_57 rfl rfl ?_
    have hq_8 := ix_in (i := ((nI b) + 8)) (n := 3020) (b + 8) (nI_add b 8) (by omega) (by decide)
    refine x_ild (v := r_7 1 (b + 8)) hx hb hK hH.1 1 rfl hq_8.1 (by rw [hq_8.2]) dX6_event_58 ?_
    refine x_top (y := r 1 (b + 8)) (by rw [er_7, up2_ne (j := b + 8) (k := b + 7) (by omega), er_4, up2_ne (j := b + 8) (k := b + 6) (by omega)]) ?_
    refine lv_iload_n hx hb dX6_event_59 rfl (lv_at hl 3 rfl) ?_
    refine lv_if_ne (tgt := 67) hx hb dX6_event_60 (by decide) (fun c_60 => ?_) (fun c_60 => ?_)
    · exact absurd (by decide) c_60
    · skip
      refine lv_iconst (v := 2) hx hb dX6_event_63 (by decide) ?_
      refine lv_goto (tgt := 68) hx hb dX6_event_64 (by decide) ?_
      refine lv_iadd hx hb dX6_event_68 ?_
      have hq_9 := ix_in (i := ((nI b) + 8)) (n := 3020) (b + 8) (nI_add b 8) (by omega) (by decide)
      obtain ⟨r_10, er_10⟩ : ∃ z, z = up2 r_7 1 (b + 8) ((r 1 (b + 8)) + 2) := ⟨_, rfl⟩
      refine x_ist (ws' := (modelW A cI r_10)) hx hb hK hH 1 rfl hq_9.1 hq_9.2 dX6_event_69 (by rw [er_10]; rfl) (fun H locs hH => ?_)
      refine lv_iload_n hx hb dX6_event_70 rfl (lv_at hl 3 rfl) ?_
      refine lv_if_ne (tgt := 87) hx hb dX6_event_71 (by decide) (fun c_71 => ?_) (fun c_71 => ?_)
      · exact absurd (by decide) c_71
      · skip
        refine lv_aload_n hx hb dX6_event_74 rfl (lv_at hl 1 rfl) ?_
        refine x_get (v := .ref (A 1)) (C := RX6) (T := TX6) (N := 9) hx hb hts hi6 hown hK hH.1 0 rfl rfl 0 (by decide) (hts (.fieldLink RX6 7 "PulseWheelModel" "now" "[I") (by decide +kernel)) rfl rfl dX6_event_75 ?_
        refine lv_iload_n hx hb dX6_event_78 rfl (lv_at hl 2 rfl) ?_
        refine lv_bipush (v := 10) hx hb dX6_event_79 (by decide) ?_
        refine lv_iadd hx hb dX6_event_81 ?_
        refine lv_dup2_11 hx hb dX6_event_82 rfl rfl ?_
        have hq_11 := ix_in (i := ((nI b) + 10)) (n := 3020) (b + 10) (nI_add b 10) (by omega) (by decide)
        refine x_ild (v := r_10 1 (b + 10)) hx hb hK hH.1 1 rfl hq_11.1 (by rw [hq_11.2]) dX6_event_83 ?_
        refine x_top (y := r 1 (b + 10)) (by rw [er_10, up2_ne (j := b + 10) (k := b + 8) (by omega), er_7, up2_ne (j := b + 10) (k := b + 7) (by omega), er_4, up2_ne (j := b + 10) (k := b + 6) (by omega)]) ?_
        refine lv_iconst (v := 1) hx hb dX6_event_84 (by decide) ?_
        refine lv_iadd hx hb dX6_event_85 ?_
        have hq_12 := ix_in (i := ((nI b) + 10)) (n := 3020) (b + 10) (nI_add b 10) (by omega) (by decide)
        obtain ⟨r_13, er_13⟩ : ∃ z, z = up2 r_10 1 (b + 10) ((r 1 (b + 10)) + 1) := ⟨_, rfl⟩
        refine x_ist (ws' := (modelW A cI r_13)) hx hb hK hH 1 rfl hq_12.1 hq_12.2 dX6_event_86 (by rw [er_13]; rfl) (fun H locs hH => ?_)
        refine lv_aload_n hx hb dX6_event_87 rfl (lv_at hl 1 rfl) ?_
        refine x_get (v := .ref (A 1)) (C := RX6) (T := TX6) (N := 9) hx hb hts hi6 hown hK hH.1 0 rfl rfl 0 (by decide) (hts (.fieldLink RX6 7 "PulseWheelModel" "now" "[I") (by decide +kernel)) rfl rfl dX6_event_88 ?_
        refine lv_iload_n hx hb dX6_event_91 rfl (lv_at hl 2 rfl) ?_
        refine lv_bipush (v := 20) hx hb dX6_event_92 (by decide) ?_
        refine lv_iadd hx hb dX6_event_94 ?_
        refine lv_iload_n hx hb dX6_event_95 rfl (lv_at hl 0 rfl) ?_
        refine lv_iadd hx hb dX6_event_96 ?_
        refine lv_iload_n hx hb dX6_event_97 rfl (lv_at hl 3 rfl) ?_
        have hq_14 := ix_in (i := (((nI b) + 20) + (nI (n % 300)))) (n := 3020) (b + 20 + (n % 300)) (nIs2 b 20 (n % 300)) (by omega) (by decide)
        obtain ⟨r_15, er_15⟩ : ∃ z, z = up2 r_13 1 (b + 20 + (n % 300)) 0 := ⟨_, rfl⟩
        refine x_ist (ws' := (modelW A cI r_15)) hx hb hK hH 1 rfl hq_14.1 hq_14.2 dX6_event_98 (by rw [er_15]; rfl) (fun H locs hH => ?_)
        refine lv_aload_n hx hb dX6_event_99 rfl (lv_at hl 1 rfl) ?_
        refine x_get (v := .ref (A 1)) (C := RX6) (T := TX6) (N := 9) hx hb hts hi6 hown hK hH.1 0 rfl rfl 0 (by decide) (hts (.fieldLink RX6 7 "PulseWheelModel" "now" "[I") (by decide +kernel)) rfl rfl dX6_event_100 ?_
        refine lv_iload_n hx hb dX6_event_103 rfl (lv_at hl 2 rfl) ?_
        refine lv_sipush (v := 320) hx hb dX6_event_104 (by decide) ?_
        refine lv_iadd hx hb dX6_event_107 ?_
        refine lv_iload_n hx hb dX6_event_108 rfl (lv_at hl 0 rfl) ?_
        refine lv_iadd hx hb dX6_event_109 ?_
        refine lv_aload_n hx hb dX6_event_110 rfl (lv_at hl 1 rfl) ?_
        refine x_get (v := .int (r_15 0 4)) (C := RX6) (T := TX6) (N := 9) hx hb hts hi6 hown hK hH.1 0 rfl rfl 4 (by decide) (hts (.fieldLink RX6 37 "PulseWheelModel" "ticks" "I") (by decide +kernel)) rfl rfl dX6_event_111 ?_
        refine x_top (y := r 0 4) ((congrFun (congrFun er_15 0) 4).trans ((congrFun (congrFun er_13 0) 4).trans ((congrFun (congrFun er_10 0) 4).trans ((congrFun (congrFun er_7 0) 4).trans (congrFun (congrFun er_4 0) 4))))) ?_
        have hq_16 := ix_in (i := (((nI b) + 320) + (nI (n % 300)))) (n := 3020) (b + 320 + (n % 300)) (nIs2 b 320 (n % 300)) (by omega) (by decide)
        obtain ⟨r_17, er_17⟩ : ∃ z, z = up2 r_15 1 (b + 320 + (n % 300)) (r 0 4) := ⟨_, rfl⟩
        refine x_ist (ws' := (modelW A cI r_17)) hx hb hK hH 1 rfl hq_16.1 hq_16.2 dX6_event_114 (by rw [er_17]; rfl) (fun H locs hH => ?_)
        refine lv_aload_n hx hb dX6_event_115 rfl (lv_at hl 1 rfl) ?_
        refine x_get (v := .ref (A 1)) (C := RX6) (T := TX6) (N := 9) hx hb hts hi6 hown hK hH.1 0 rfl rfl 0 (by decide) (hts (.fieldLink RX6 7 "PulseWheelModel" "now" "[I") (by decide +kernel)) rfl rfl dX6_event_116 ?_
        refine lv_iload_n hx hb dX6_event_119 rfl (lv_at hl 2 rfl) ?_
        refine lv_sipush (v := 620) hx hb dX6_event_120 (by decide) ?_
        refine lv_iadd hx hb dX6_event_123 ?_
        refine lv_iload_n hx hb dX6_event_124 rfl (lv_at hl 0 rfl) ?_
        refine lv_iadd hx hb dX6_event_125 ?_
        refine lv_aload_n hx hb dX6_event_126 rfl (lv_at hl 1 rfl) ?_
        refine x_get (v := .ref (A 1)) (C := RX6) (T := TX6) (N := 9) hx hb hts hi6 hown hK hH.1 0 rfl rfl 0 (by decide) (hts (.fieldLink RX6 7 "PulseWheelModel" "now" "[I") (by decide +kernel)) rfl rfl dX6_event_127 ?_
        refine lv_iload_n hx hb dX6_event_130 rfl (lv_at hl 2 rfl) ?_
        refine lv_bipush (v := 6) hx hb dX6_event_131 (by decide) ?_
        refine lv_iadd hx hb dX6_event_133 ?_
        have hq_18 := ix_in (i := ((nI b) + 6)) (n := 3020) (b + 6) (nI_add b 6) (by omega) (by decide)
        refine x_ild (v := r_17 1 (b + 6)) hx hb hK hH.1 1 rfl hq_18.1 (by rw [hq_18.2]) dX6_event_134 ?_
        refine x_top (y := ((r 1 (b + 6)) + 0)) (by rw [er_17, up2_ne (j := b + 6) (k := b + 320 + (n % 300)) (by omega), er_15, up2_ne (j := b + 6) (k := b + 20 + (n % 300)) (by omega), er_13, up2_ne (j := b + 6) (k := b + 10) (by omega), er_10, up2_ne (j := b + 6) (k := b + 8) (by omega), er_7, up2_ne (j := b + 6) (k := b + 7) (by omega), er_4, up2_eq]) ?_
        have hq_19 := ix_in (i := (((nI b) + 620) + (nI (n % 300)))) (n := 3020) (b + 620 + (n % 300)) (nIs2 b 620 (n % 300)) (by omega) (by decide)
        obtain ⟨r_20, er_20⟩ : ∃ z, z = up2 r_17 1 (b + 620 + (n % 300)) ((r 1 (b + 6)) + 0) := ⟨_, rfl⟩
        refine x_ist (ws' := (modelW A cI r_20)) hx hb hK hH 1 rfl hq_19.1 hq_19.2 dX6_event_135 (by rw [er_20]; rfl) (fun H locs hH => ?_)
        refine lv_aload_n hx hb dX6_event_136 rfl (lv_at hl 1 rfl) ?_
        refine x_get (v := .ref (A 1)) (C := RX6) (T := TX6) (N := 9) hx hb hts hi6 hown hK hH.1 0 rfl rfl 0 (by decide) (hts (.fieldLink RX6 7 "PulseWheelModel" "now" "[I") (by decide +kernel)) rfl rfl dX6_event_137 ?_
        refine lv_iload_n hx hb dX6_event_140 rfl (lv_at hl 2 rfl) ?_
        refine lv_bipush (v := 9) hx hb dX6_event_141 (by decide) ?_
        refine lv_iadd hx hb dX6_event_143 ?_
        refine lv_dup2_11 hx hb dX6_event_144 rfl rfl ?_
        have hq_21 := ix_in (i := ((nI b) + 9)) (n := 3020) (b + 9) (nI_add b 9) (by omega) (by decide)
        refine x_ild (v := r_20 1 (b + 9)) hx hb hK hH.1 1 rfl hq_21.1 (by rw [hq_21.2]) dX6_event_145 ?_
        refine x_top (y := r 1 (b + 9)) (by rw [er_20, up2_ne (j := b + 9) (k := b + 620 + (n % 300)) (by omega), er_17, up2_ne (j := b + 9) (k := b + 320 + (n % 300)) (by omega), er_15, up2_ne (j := b + 9) (k := b + 20 + (n % 300)) (by omega), er_13, up2_ne (j := b + 9) (k := b + 10) (by omega), er_10, up2_ne (j := b + 9) (k := b + 8) (by omega), er_7, up2_ne (j := b + 9) (k := b + 7) (by omega), er_4, up2_ne (j := b + 9) (k := b + 6) (by omega)]) ?_
        refine lv_iconst (v := 1) hx hb dX6_event_146 (by decide) ?_
        refine lv_iadd hx hb dX6_event_147 ?_
        have hq_22 := ix_in (i := ((nI b) + 9)) (n := 3020) (b + 9) (nI_add b 9) (by omega) (by decide)
        obtain ⟨r_23, er_23⟩ : ∃ z, z = up2 r_20 1 (b + 9) ((r 1 (b + 9)) + 1) := ⟨_, rfl⟩
        refine x_ist (ws' := (modelW A cI r_23)) hx hb hK hH 1 rfl hq_22.1 hq_22.2 dX6_event_148 (by rw [er_23]; rfl) (fun H locs hH => ?_)
        have hf_r : r_23 = ev0 r b n := by subst er_23; subst er_20; subst er_17; subst er_15; subst er_13; subst er_10; subst er_7; subst er_4; rfl
        exact hE _ _ _ _ _ hH ((congrArg (fun zz => (modelW A cI zz)) hf_r)) dX6_event_149
