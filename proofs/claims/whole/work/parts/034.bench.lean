/-! ### a Bench -/
def wayL (r1 r2 : Tb) : Int64 := (((r1 0 7) - (r1 0 11)).toInt64 * (r2 0 5).toInt64) - (((r2 0 7) - (r2 0 11)).toInt64 * (r1 0 5).toInt64)
def agreeV (r1 r2 : Tb) : Int32 := if r1 0 10 = 0 then 1 else if r2 0 10 = 0 then 1 else if 0 < lg_cmp (if 0 < wayL r1 r2 then wayL r1 r2 else -wayL r1 r2) ((r1 0 5 + r2 0 5).toInt64) then 0 else 1
def apV (ag ap t : Int32) : Int32 := if ag = 0 then (if ap = -1 then t else ap) else -1
abbrev BS : Type := Int32 × Int32 × Tb × Tb
def stepB (x : BS) (f g : Int32) : BS := (x.1 + 1, apV (agreeV (takeV x.2.2.1 f (x.1 + 1)) (takeV x.2.2.2 g (x.1 + 1))) x.2.1 (x.1 + 1), takeV x.2.2.1 f (x.1 + 1), takeV x.2.2.2 g (x.1 + 1))
def stepsB (x : BS) (f g : Int32) : Nat → BS
  | 0 => x
  | n + 1 => stepB (stepsB x f g n) f g
theorem mendV_ht (r : Tb) (k : Nat) (hk : k = 4 ∨ k = 5) : mendV r 0 k = r 0 k := by
  unfold mendV
  rcases hk with rfl | rfl <;> (repeat' split) <;> rfl
theorem heedV_ht (r : Tb) (k : Nat) (hk : k = 4 ∨ k = 5) : heedV r 0 k = r 0 k := by
  unfold heedV
  split
  · rcases hk with rfl | rfl <;> (repeat' split) <;> rfl
  · exact mendV_ht r k hk
theorem zeroV_ht (r : Tb) (k : Nat) (hk : k = 4 ∨ k = 5) : zeroV r 0 k = r 0 k := by
  unfold zeroV
  rw [heedV_ht _ k hk, learnV_row _ _ (by decide) (by decide)]
  rcases hk with rfl | rfl <;> rfl
theorem takeV_ht (r : Tb) (raw now : Int32) (k : Nat) (hk : k = 4 ∨ k = 5) : takeV r raw now 0 k = r 0 k := by
  have h1 : midV r raw now 0 k = r 0 k := by
    unfold midV
    rw [noteChangeV_ht _ _ _ k hk, settleN_ht _ _ k hk]
  have h2 : ∀ (z : Tb) (n : Int32), notePlaceV z n 0 k = z 0 k := fun z n => rfl
  unfold takeV
  rw [h2]
  split
  · exact h1
  · rw [zeroV_ht _ k hk, h1]

def rm_X0_readerAt_0 : Room := { frames := 0, cells := 0, slots := 0, locals := 0 }
set_option maxHeartbeats 1000000 in
set_option maxRecDepth 100000 in
theorem c_X0_readerAt_0 (l : Launch) (D : va_G) (cI cB : ClassId) (b : Nat) (A1 : Nat → Nat) (A2 : Nat → Nat) (t : Int32) (ap : Int32) (r1 : Tb) (r2 : Tb) : SQ l D cI cB yX0_readerAt wsX0_readerAt rm_X0_readerAt_0 [.ref b, .int 0] (benchW b A1 A2 cI t ap r1 r2) (some (A1 0)) := by
  refine SQ.of (cc := cX0_readerAt) (maxL := 2)  (by decide +kernel) rfl (Nat.le_of_ble_eq_true rfl) ?_
  intro p e s m args below meth c ls Q hT hP hD hl hE
  obtain ⟨hx, hb, hr, hlocks, hnm, hml, hown, hts, hK, hN⟩ := hT
  have hl : lv_has ls 2 [(0, .ref b), (1, .int 0)] := hl
  have hi0 : ∀ w ∈ wsX00, w ∈ wsX0_readerAt := by decide +kernel
  refine lv_iload_n hx hb dX0_readerAt_0 rfl (lv_at hl 1 rfl) ?_
  refine lv_if_ne (tgt := 9) hx hb dX0_readerAt_1 (by decide) (fun c_1 => ?_) (fun c_1 => ?_)
  · exact absurd (by decide) c_1
  · skip
    refine lv_aload_n hx hb dX0_readerAt_4 rfl (lv_at hl 0 rfl) ?_
    refine x_get (v := .ref (A1 0)) (C := RX0) (T := TX0) (N := 4) hx hb hts hi0 hown hK hP 0 rfl rfl 0 (by decide) (hts (.fieldLink RX0 12 "PulseWheel$Bench" "first" "LPulseWheel$Reader;") (by decide +kernel)) rfl rfl dX0_readerAt_5 ?_
    exact hE _ _ _ (by rfl) dX0_readerAt_8

def rm_X0_readerAt_1 : Room := { frames := 0, cells := 0, slots := 0, locals := 0 }
set_option maxHeartbeats 1000000 in
set_option maxRecDepth 100000 in
theorem c_X0_readerAt_1 (l : Launch) (D : va_G) (cI cB : ClassId) (b : Nat) (A1 : Nat → Nat) (A2 : Nat → Nat) (t : Int32) (ap : Int32) (r1 : Tb) (r2 : Tb) : SQ l D cI cB yX0_readerAt wsX0_readerAt rm_X0_readerAt_1 [.ref b, .int 1] (benchW b A1 A2 cI t ap r1 r2) (some (A2 0)) := by
  refine SQ.of (cc := cX0_readerAt) (maxL := 2)  (by decide +kernel) rfl (Nat.le_of_ble_eq_true rfl) ?_
  intro p e s m args below meth c ls Q hT hP hD hl hE
  obtain ⟨hx, hb, hr, hlocks, hnm, hml, hown, hts, hK, hN⟩ := hT
  have hl : lv_has ls 2 [(0, .ref b), (1, .int 1)] := hl
  have hi0 : ∀ w ∈ wsX00, w ∈ wsX0_readerAt := by decide +kernel
  refine lv_iload_n hx hb dX0_readerAt_0 rfl (lv_at hl 1 rfl) ?_
  refine lv_if_ne (tgt := 9) hx hb dX0_readerAt_1 (by decide) (fun c_1 => ?_) (fun c_1 => ?_)
  · skip
    refine lv_iload_n hx hb dX0_readerAt_9 rfl (lv_at hl 1 rfl) ?_
    refine lv_iconst (v := 1) hx hb dX0_readerAt_10 (by decide) ?_
    refine lv_icmp_ne (tgt := 21) hx hb dX0_readerAt_11 (by decide) (fun c_11 => ?_) (fun c_11 => ?_)
    · exact absurd (by decide) c_11
    · skip
      refine lv_aload_n hx hb dX0_readerAt_14 rfl (lv_at hl 0 rfl) ?_
      refine x_get (v := .ref (A2 0)) (C := RX0) (T := TX0) (N := 4) hx hb hts hi0 hown hK hP 0 rfl rfl 1 (by decide) (hts (.fieldLink RX0 18 "PulseWheel$Bench" "second" "LPulseWheel$Reader;") (by decide +kernel)) rfl rfl dX0_readerAt_15 ?_
      refine lv_goto (tgt := 22) hx hb dX0_readerAt_18 (by decide) ?_
      exact hE _ _ _ (by rfl) dX0_readerAt_22
  · exact absurd c_1 (by decide)

def rm_X0_readerAt_n : Room := { frames := 0, cells := 0, slots := 0, locals := 0 }
set_option maxHeartbeats 1000000 in
set_option maxRecDepth 100000 in
theorem c_X0_readerAt_n (l : Launch) (D : va_G) (cI cB : ClassId) (b : Nat) (A1 : Nat → Nat) (A2 : Nat → Nat) (t : Int32) (ap : Int32) (r1 : Tb) (r2 : Tb) (k : Int32) (h0 : ¬ k = 0) (h1 : ¬ k = 1) : SQ l D cI cB yX0_readerAt wsX0_readerAt rm_X0_readerAt_n [.ref b, .int k] (benchW b A1 A2 cI t ap r1 r2) none := by
  refine SQ.of (cc := cX0_readerAt) (maxL := 2)  (by decide +kernel) rfl (Nat.le_of_ble_eq_true rfl) ?_
  intro p e s m args below meth c ls Q hT hP hD hl hE
  obtain ⟨hx, hb, hr, hlocks, hnm, hml, hown, hts, hK, hN⟩ := hT
  have hl : lv_has ls 2 [(0, .ref b), (1, .int k)] := hl
  refine lv_iload_n hx hb dX0_readerAt_0 rfl (lv_at hl 1 rfl) ?_
  refine lv_if_ne (tgt := 9) hx hb dX0_readerAt_1 (by decide) (fun c_1 => ?_) (fun c_1 => ?_)
  · skip
    refine lv_iload_n hx hb dX0_readerAt_9 rfl (lv_at hl 1 rfl) ?_
    refine lv_iconst (v := 1) hx hb dX0_readerAt_10 (by decide) ?_
    refine lv_icmp_ne (tgt := 21) hx hb dX0_readerAt_11 (by decide) (fun c_11 => ?_) (fun c_11 => ?_)
    · skip
      refine lv_null hx hb dX0_readerAt_21 ?_
      exact hE _ _ _ (by rfl) dX0_readerAt_22
    · exact absurd c_11 (h1)
  · exact absurd c_1 (h0)

def rm_X0_agree : Room := { frames := 1, cells := 0, slots := 0, locals := 40 }
set_option maxHeartbeats 1000000 in
set_option maxRecDepth 100000 in
theorem c_X0_agree (l : Launch) (D : va_G) (cI cB : ClassId) (b : Nat) (A1 : Nat → Nat) (A2 : Nat → Nat) (t : Int32) (ap : Int32) (r1 : Tb) (r2 : Tb) : SI l D cI cB yX0_agree wsX0_agree rm_X0_agree [.ref b] (benchW b A1 A2 cI t ap r1 r2) (agreeV r1 r2) := by
  refine SI.of (cc := cX0_agree) (maxL := 5) (ty := .boolean) (by decide +kernel) rfl (Nat.le_of_ble_eq_true rfl) ?_
  intro p e s m args below meth c ls Q hT hP hD hl hE
  obtain ⟨hx, hb, hr, hlocks, hnm, hml, hown, hts, hK, hN⟩ := hT
  have hl : lv_has ls 5 [(0, .ref b)] := hl
  have hi0 : ∀ w ∈ wsX00, w ∈ wsX0_agree := by decide +kernel
  have hi2 : ∀ w ∈ wsX20, w ∈ wsX0_agree := by decide +kernel
  refine lv_aload_n hx hb dX0_agree_0 rfl (lv_at hl 0 rfl) ?_
  refine x_get (v := .ref (A1 0)) (C := RX0) (T := TX0) (N := 4) hx hb hts hi0 hown hK hP 0 rfl rfl 0 (by decide) (hts (.fieldLink RX0 12 "PulseWheel$Bench" "first" "LPulseWheel$Reader;") (by decide +kernel)) rfl rfl dX0_agree_1 ?_
  refine x_getN (v := .int (r1 0 10)) (C := RX2) (T := TX2) (N := 16) hx hb hts hi2 hown hK hP 1 rfl rfl 10 (by decide) (nwf0_36 (args := args) hN) rfl rfl dX0_agree_4 ?_
  refine lv_if_eq (tgt := 20) hx hb dX0_agree_7 (by decide) (fun c_7 => ?_) (fun c_7 => ?_)
  · skip
    refine lv_iconst (v := 1) hx hb dX0_agree_20 (by decide) ?_
    exact hE _ _ _ (by first | rfl | (unfold agreeV  wayL; rw [if_pos c_7]; done) | (simp only [agreeV, wayL, if_pos c_7]; done) | (simp only [agreeV, wayL, c_7, if_true, if_false]; done) | (simp only [agreeV, wayL, c_7, if_true, if_false, not_true, not_false_iff, reduceIte]; done) | (exfalso; simp_all; done) | (simp [agreeV, wayL, c_7]; done) | (simp_all [agreeV, wayL]; done)) rfl dX0_agree_21
  · skip
    refine lv_aload_n hx hb dX0_agree_10 rfl (lv_at hl 0 rfl) ?_
    refine x_get (v := .ref (A2 0)) (C := RX0) (T := TX0) (N := 4) hx hb hts hi0 hown hK hP 0 rfl rfl 1 (by decide) (hts (.fieldLink RX0 18 "PulseWheel$Bench" "second" "LPulseWheel$Reader;") (by decide +kernel)) rfl rfl dX0_agree_11 ?_
    refine x_getN (v := .int (r2 0 10)) (C := RX2) (T := TX2) (N := 16) hx hb hts hi2 hown hK hP 10 rfl rfl 10 (by decide) (nwf0_36 (args := args) hN) rfl rfl dX0_agree_14 ?_
    refine lv_if_ne (tgt := 22) hx hb dX0_agree_17 (by decide) (fun c_17 => ?_) (fun c_17 => ?_)
    · skip
      refine lv_aload_n hx hb dX0_agree_22 rfl (lv_at hl 0 rfl) ?_
      refine x_get (v := .ref (A1 0)) (C := RX0) (T := TX0) (N := 4) hx hb hts hi0 hown hK hP 0 rfl rfl 0 (by decide) (hts (.fieldLink RX0 12 "PulseWheel$Bench" "first" "LPulseWheel$Reader;") (by decide +kernel)) rfl rfl dX0_agree_23 ?_
      refine x_getN (v := .int (r1 0 7)) (C := RX2) (T := TX2) (N := 16) hx hb hts hi2 hown hK hP 1 rfl rfl 7 (by decide) (nwf0_40 (args := args) hN) rfl rfl dX0_agree_26 ?_
      refine lv_aload_n hx hb dX0_agree_29 rfl (lv_at hl 0 rfl) ?_
      refine x_get (v := .ref (A1 0)) (C := RX0) (T := TX0) (N := 4) hx hb hts hi0 hown hK hP 0 rfl rfl 0 (by decide) (hts (.fieldLink RX0 12 "PulseWheel$Bench" "first" "LPulseWheel$Reader;") (by decide +kernel)) rfl rfl dX0_agree_30 ?_
      refine x_getN (v := .int (r1 0 11)) (C := RX2) (T := TX2) (N := 16) hx hb hts hi2 hown hK hP 1 rfl rfl 11 (by decide) (nwf0_43 (args := args) hN) rfl rfl dX0_agree_33 ?_
      refine lv_isub hx hb dX0_agree_36 ?_
      refine lv_i2l (v := ((r1 0 7) - (r1 0 11)).toInt64) hx hb dX0_agree_37 rfl ?_
      refine lv_aload_n hx hb dX0_agree_38 rfl (lv_at hl 0 rfl) ?_
      refine x_get (v := .ref (A2 0)) (C := RX0) (T := TX0) (N := 4) hx hb hts hi0 hown hK hP 0 rfl rfl 1 (by decide) (hts (.fieldLink RX0 18 "PulseWheel$Bench" "second" "LPulseWheel$Reader;") (by decide +kernel)) rfl rfl dX0_agree_39 ?_
      refine x_getN (v := .int (r2 0 5)) (C := RX2) (T := TX2) (N := 16) hx hb hts hi2 hown hK hP 10 rfl rfl 5 (by decide) (nwf0_46 (args := args) hN) rfl rfl dX0_agree_42 ?_
      refine lv_i2l (v := (r2 0 5).toInt64) hx hb dX0_agree_45 rfl ?_
      refine lv_lmul hx hb dX0_agree_46 ?_
      refine lv_lstore_n (lv' := [(1, .long ((((r1 0 7) - (r1 0 11)).toInt64) * ((r2 0 5).toInt64))), (0, .ref b)]) hx hb dX0_agree_47 rfl hl (by decide) rfl (fun ls hl => ?_)
      refine lv_aload_n hx hb dX0_agree_48 rfl (lv_at hl 1 rfl) ?_
      refine x_get (v := .ref (A2 0)) (C := RX0) (T := TX0) (N := 4) hx hb hts hi0 hown hK hP 0 rfl rfl 1 (by decide) (hts (.fieldLink RX0 18 "PulseWheel$Bench" "second" "LPulseWheel$Reader;") (by decide +kernel)) rfl rfl dX0_agree_49 ?_
      refine x_getN (v := .int (r2 0 7)) (C := RX2) (T := TX2) (N := 16) hx hb hts hi2 hown hK hP 10 rfl rfl 7 (by decide) (nwf0_40 (args := args) hN) rfl rfl dX0_agree_52 ?_
      refine lv_aload_n hx hb dX0_agree_55 rfl (lv_at hl 1 rfl) ?_
      refine x_get (v := .ref (A2 0)) (C := RX0) (T := TX0) (N := 4) hx hb hts hi0 hown hK hP 0 rfl rfl 1 (by decide) (hts (.fieldLink RX0 18 "PulseWheel$Bench" "second" "LPulseWheel$Reader;") (by decide +kernel)) rfl rfl dX0_agree_56 ?_
      refine x_getN (v := .int (r2 0 11)) (C := RX2) (T := TX2) (N := 16) hx hb hts hi2 hown hK hP 10 rfl rfl 11 (by decide) (nwf0_43 (args := args) hN) rfl rfl dX0_agree_59 ?_
      refine lv_isub hx hb dX0_agree_62 ?_
      refine lv_i2l (v := ((r2 0 7) - (r2 0 11)).toInt64) hx hb dX0_agree_63 rfl ?_
      refine lv_aload_n hx hb dX0_agree_64 rfl (lv_at hl 1 rfl) ?_
      refine x_get (v := .ref (A1 0)) (C := RX0) (T := TX0) (N := 4) hx hb hts hi0 hown hK hP 0 rfl rfl 0 (by decide) (hts (.fieldLink RX0 12 "PulseWheel$Bench" "first" "LPulseWheel$Reader;") (by decide +kernel)) rfl rfl dX0_agree_65 ?_
      refine x_getN (v := .int (r1 0 5)) (C := RX2) (T := TX2) (N := 16) hx hb hts hi2 hown hK hP 1 rfl rfl 5 (by decide) (nwf0_46 (args := args) hN) rfl rfl dX0_agree_68 ?_
      refine lv_i2l (v := (r1 0 5).toInt64) hx hb dX0_agree_71 rfl ?_
      refine lv_lmul hx hb dX0_agree_72 ?_
      refine lv_lstore_n (lv' := [(3, .long ((((r2 0 7) - (r2 0 11)).toInt64) * ((r1 0 5).toInt64))), (1, .long ((((r1 0 7) - (r1 0 11)).toInt64) * ((r2 0 5).toInt64))), (0, .ref b)]) hx hb dX0_agree_73 rfl hl (by decide) rfl (fun ls hl => ?_)
      refine lv_lload_n hx hb dX0_agree_74 rfl (lv_at hl 1 rfl) ?_
      refine lv_lload_n hx hb dX0_agree_75 rfl (lv_at hl 0 rfl) ?_
      refine lv_lsub hx hb dX0_agree_76 ?_
      refine va_mabs_long hx hb (hml.trans hl.1.symm) hown (hts (.methodLink RX0 49 Lib.MathLoose.abs_long.x) (by decide +kernel)) (hts (.static Lib.MathLoose.abs_long.x) (by decide +kernel)) (hts (.initialized "java/lang/Math") (by decide +kernel)) (hts (.code Lib.MathLoose.abs_long.x Lib.MathLoose.abs_long.code 2 (some .long)) (by decide +kernel)) (Nat.le_of_ble_eq_true rfl) (Nat.le_of_ble_eq_true rfl) (Nat.zero_le _) (Nat.zero_le _) dX0_agree_77 ?_
      refine lv_aload_n hx hb dX0_agree_80 rfl (lv_at hl 2 rfl) ?_
      refine x_get (v := .ref (A1 0)) (C := RX0) (T := TX0) (N := 4) hx hb hts hi0 hown hK hP 0 rfl rfl 0 (by decide) (hts (.fieldLink RX0 12 "PulseWheel$Bench" "first" "LPulseWheel$Reader;") (by decide +kernel)) rfl rfl dX0_agree_81 ?_
      refine x_getN (v := .int (r1 0 5)) (C := RX2) (T := TX2) (N := 16) hx hb hts hi2 hown hK hP 1 rfl rfl 5 (by decide) (nwf0_46 (args := args) hN) rfl rfl dX0_agree_84 ?_
      refine lv_aload_n hx hb dX0_agree_87 rfl (lv_at hl 2 rfl) ?_
      refine x_get (v := .ref (A2 0)) (C := RX0) (T := TX0) (N := 4) hx hb hts hi0 hown hK hP 0 rfl rfl 1 (by decide) (hts (.fieldLink RX0 18 "PulseWheel$Bench" "second" "LPulseWheel$Reader;") (by decide +kernel)) rfl rfl dX0_agree_88 ?_
      refine x_getN (v := .int (r2 0 5)) (C := RX2) (T := TX2) (N := 16) hx hb hts hi2 hown hK hP 10 rfl rfl 5 (by decide) (nwf0_46 (args := args) hN) rfl rfl dX0_agree_91 ?_
      refine lv_iadd hx hb dX0_agree_94 ?_
      refine lv_i2l (v := ((r1 0 5) + (r2 0 5)).toInt64) hx hb dX0_agree_95 rfl ?_
      refine W.lcmp hx hb dX0_agree_96 ?_
      refine lv_if_gt (tgt := 104) hx hb dX0_agree_97 (by decide) (fun c_97 => ?_) (fun c_97 => ?_)
      · skip
        refine lv_iconst (v := 0) hx hb dX0_agree_104 (by decide) ?_
        exact hE _ _ _ (by first | rfl | (unfold agreeV  wayL; rw [if_neg c_7, if_neg c_17, if_pos c_97]; done) | (simp only [agreeV, wayL, if_neg c_7, if_neg c_17, if_pos c_97]; done) | (simp only [agreeV, wayL, c_7, c_17, c_97, if_true, if_false]; done) | (simp only [agreeV, wayL, c_7, c_17, c_97, if_true, if_false, not_true, not_false_iff, reduceIte]; done) | (exfalso; simp_all; done) | (simp [agreeV, wayL, c_7, c_17, c_97]; done) | (simp_all [agreeV, wayL]; done)) rfl dX0_agree_105
      · skip
        refine lv_iconst (v := 1) hx hb dX0_agree_100 (by decide) ?_
        refine lv_goto (tgt := 105) hx hb dX0_agree_101 (by decide) ?_
        exact hE _ _ _ (by first | rfl | (unfold agreeV  wayL; rw [if_neg c_7, if_neg c_17, if_neg c_97]; done) | (simp only [agreeV, wayL, if_neg c_7, if_neg c_17, if_neg c_97]; done) | (simp only [agreeV, wayL, c_7, c_17, c_97, if_true, if_false]; done) | (simp only [agreeV, wayL, c_7, c_17, c_97, if_true, if_false, not_true, not_false_iff, reduceIte]; done) | (exfalso; simp_all; done) | (simp [agreeV, wayL, c_7, c_17, c_97]; done) | (simp_all [agreeV, wayL]; done)) rfl dX0_agree_105
    · skip
      refine lv_iconst (v := 1) hx hb dX0_agree_20 (by decide) ?_
      exact hE _ _ _ (by first | rfl | (unfold agreeV  wayL; rw [if_neg c_7, if_pos c_17]; done) | (simp only [agreeV, wayL, if_neg c_7, if_pos c_17]; done) | (simp only [agreeV, wayL, c_7, c_17, if_true, if_false]; done) | (simp only [agreeV, wayL, c_7, c_17, if_true, if_false, not_true, not_false_iff, reduceIte]; done) | (exfalso; simp_all; done) | (simp [agreeV, wayL, c_7, c_17]; done) | (simp_all [agreeV, wayL]; done)) rfl dX0_agree_21

def rm_X0_step : Room := { frames := 5, cells := 0, slots := 0, locals := 115 }
set_option maxHeartbeats 1000000 in
set_option maxRecDepth 100000 in
theorem c_X0_step (l : Launch) (D : va_G) (cI cB : ClassId) (b : Nat) (A1 : Nat → Nat) (A2 : Nat → Nat) (t : Int32) (ap : Int32) (r1 : Tb) (r2 : Tb) (f g : Int32) (h51 : ¬ r1 0 5 = 0) (h52 : ¬ r2 0 5 = 0) : CV l D cI cB yX0_step wsX0_step rm_X0_step [.ref b, .int f, .int g] (benchW b A1 A2 cI t ap r1 r2) (benchW b A1 A2 cI (t + 1) (apV (agreeV (takeV r1 f (t + 1)) (takeV r2 g (t + 1))) ap (t + 1)) (takeV r1 f (t + 1)) (takeV r2 g (t + 1))) := by
  refine CV.of (cc := cX0_step) (maxL := 3)  (by decide +kernel) rfl (Nat.le_of_ble_eq_true rfl) ?_
  intro p e s m args below meth c ls A0 Q hT hH hA hl hE
  obtain ⟨hx, hb, hr, hlocks, hnm, hml, hown, hts, hK, hN⟩ := hT
  have hl : lv_has ls 3 [(0, .ref b), (1, .int f), (2, .int g)] := hl
  have hi0 : ∀ w ∈ wsX00, w ∈ wsX0_step := by decide +kernel
  refine lv_aload_n hx hb dX0_step_0 rfl (lv_at hl 0 rfl) ?_
  refine lv_dup hx hb dX0_step_1 rfl ?_
  refine x_get (v := .int t) (C := RX0) (T := TX0) (N := 4) hx hb hts hi0 hown hK hH.1 0 rfl rfl 2 (by decide) (hts (.fieldLink RX0 25 "PulseWheel$Bench" "ticks" "I") (by decide +kernel)) rfl rfl dX0_step_2 ?_
  refine lv_iconst (v := 1) hx hb dX0_step_5 (by decide) ?_
  refine lv_iadd hx hb dX0_step_6 ?_
  refine x_put (ws' := (benchW b A1 A2 cI (t + 1) ap r1 r2)) (v := .int (t + 1)) (ty := .int) (C := RX0) (T := TX0) (N := 4) hx hb hts hi0 tyX0_ok nmX0 hown hK hH 0 rfl rfl 2 (by decide) (hts (.fieldLink RX0 25 "PulseWheel$Bench" "ticks" "I") (by decide +kernel)) rfl rfl rfl (rfl) (rfl) (Nat.le_of_ble_eq_true rfl) dX0_step_7 (rfl) (fun H locs hH => ?_)
  refine lv_aload_n hx hb dX0_step_10 rfl (lv_at hl 0 rfl) ?_
  refine x_get (v := .ref (A1 0)) (C := RX0) (T := TX0) (N := 4) hx hb hts hi0 hown hK hH.1 0 rfl rfl 0 (by decide) (hts (.fieldLink RX0 12 "PulseWheel$Bench" "first" "LPulseWheel$Reader;") (by decide +kernel)) rfl rfl dX0_step_11 ?_
  refine lv_iload_n hx hb dX0_step_14 rfl (lv_at hl 1 rfl) ?_
  refine lv_aload_n hx hb dX0_step_15 rfl (lv_at hl 0 rfl) ?_
  refine x_get (v := .int (t + 1)) (C := RX0) (T := TX0) (N := 4) hx hb hts hi0 hown hK hH.1 0 rfl rfl 2 (by decide) (hts (.fieldLink RX0 25 "PulseWheel$Bench" "ticks" "I") (by decide +kernel)) rfl rfl dX0_step_16 ?_
  obtain ⟨r1_1, er1_1⟩ : ∃ z, z = takeV r1 f (t + 1) := ⟨_, rfl⟩
  refine kCV (ws' := (benchW b A1 A2 cI (t + 1) ap r1_1 r2)) (va_runVN (As := [.int f, .int (t + 1)]) (rest := []) ⟨hx, hb, hml, hown, hts⟩ (c_X2_take l D cI cB A1 r1 f (t + 1) h51 _) ⟨va_cnB 2 hts gX0_step_X2_take_n28 rfl rfl rfl (nwm0_28 (args := args) hN) (hts (.initialized RX2) (by decide +kernel)) (by decide +kernel) ⟨Nat.le_of_ble_eq_true rfl, Nat.le_of_ble_eq_true rfl⟩, hts (.instanceMethod yX2_take) (by decide +kernel), hts (.selects RX2 yX2_take yX2_take) (by decide +kernel)⟩ (preV_cut hH.1 hH.2.1 hK hN (ci := 2) rfl 1 rfl [1, 2, 3, 4, 5, 6, 7, 8, 9] (by decide) rfl) rfl rfl hl.1 rfl (lv_room (Nat.le_of_ble_eq_true rfl)) dX0_step_19 ⟨Nat.zero_le _, Nat.zero_le _⟩) hH hA [1, 2, 3, 4, 5, 6, 7, 8, 9] rfl adr_reader (by rw [er1_1]; exact putL_bench_reader1) (fun H locs hH => ?_)
  refine lv_aload_n hx hb dX0_step_22 rfl (lv_at hl 0 rfl) ?_
  refine x_get (v := .ref (A2 0)) (C := RX0) (T := TX0) (N := 4) hx hb hts hi0 hown hK hH.1 0 rfl rfl 1 (by decide) (hts (.fieldLink RX0 18 "PulseWheel$Bench" "second" "LPulseWheel$Reader;") (by decide +kernel)) rfl rfl dX0_step_23 ?_
  refine lv_iload_n hx hb dX0_step_26 rfl (lv_at hl 2 rfl) ?_
  refine lv_aload_n hx hb dX0_step_27 rfl (lv_at hl 0 rfl) ?_
  refine x_get (v := .int (t + 1)) (C := RX0) (T := TX0) (N := 4) hx hb hts hi0 hown hK hH.1 0 rfl rfl 2 (by decide) (hts (.fieldLink RX0 25 "PulseWheel$Bench" "ticks" "I") (by decide +kernel)) rfl rfl dX0_step_28 ?_
  obtain ⟨r2_2, er2_2⟩ : ∃ z, z = takeV r2 g (t + 1) := ⟨_, rfl⟩
  refine kCV (ws' := (benchW b A1 A2 cI (t + 1) ap r1_1 r2_2)) (va_runVN (As := [.int g, .int (t + 1)]) (rest := []) ⟨hx, hb, hml, hown, hts⟩ (c_X2_take l D cI cB A2 r2 g (t + 1) h52 _) ⟨va_cnB 2 hts gX0_step_X2_take_n28 rfl rfl rfl (nwm0_28 (args := args) hN) (hts (.initialized RX2) (by decide +kernel)) (by decide +kernel) ⟨Nat.le_of_ble_eq_true rfl, Nat.le_of_ble_eq_true rfl⟩, hts (.instanceMethod yX2_take) (by decide +kernel), hts (.selects RX2 yX2_take yX2_take) (by decide +kernel)⟩ (preV_cut hH.1 hH.2.1 hK hN (ci := 2) rfl 10 rfl [10, 11, 12, 13, 14, 15, 16, 17, 18] (by decide) rfl) rfl rfl hl.1 rfl (lv_room (Nat.le_of_ble_eq_true rfl)) dX0_step_31 ⟨Nat.zero_le _, Nat.zero_le _⟩) hH hA [10, 11, 12, 13, 14, 15, 16, 17, 18] rfl adr_reader (by rw [er2_2]; exact putL_bench_reader2) (fun H locs hH => ?_)
  refine lv_aload_n hx hb dX0_step_34 rfl (lv_at hl 0 rfl) ?_
  refine kSI (va_runV (As := []) (rest := []) ⟨hx, hb, hml, hown, hts⟩ (c_X0_agree l D cI cB b A1 A2 (t + 1) ap r1_1 r2_2  _) (cwV 0 hts gX0_step_X0_agree rfl rfl rfl (by decide +kernel) ⟨Nat.le_of_ble_eq_true rfl, Nat.le_of_ble_eq_true rfl⟩) (preV_cut hH.1 hH.2.1 hK hN (ci := 0) rfl 0 rfl [0, 1, 2, 3, 4, 5, 6, 7, 8, 9, 10, 11, 12, 13, 14, 15, 16, 17, 18] (by decide) rfl) rfl rfl hl.1 rfl (lv_room (Nat.le_of_ble_eq_true rfl)) dX0_step_35 ⟨Nat.zero_le _, Nat.zero_le _⟩) ?_
  refine lv_if_eq (tgt := 49) hx hb dX0_step_38 (by decide) (fun c_38 => ?_) (fun c_38 => ?_)
  · skip
    refine lv_aload_n hx hb dX0_step_49 rfl (lv_at hl 0 rfl) ?_
    refine x_get (v := .int ap) (C := RX0) (T := TX0) (N := 4) hx hb hts hi0 hown hK hH.1 0 rfl rfl 3 (by decide) (hts (.fieldLink RX0 21 "PulseWheel$Bench" "apartSince" "I") (by decide +kernel)) rfl rfl dX0_step_50 ?_
    refine lv_iconst (v := -1) hx hb dX0_step_53 (by decide) ?_
    refine lv_icmp_ne (tgt := 65) hx hb dX0_step_54 (by decide) (fun c_54 => ?_) (fun c_54 => ?_)
    · skip
      have hf_t : (t + 1) = t + 1 := by subst er2_2; subst er1_1; first | rfl | (unfold apV; rw [if_pos c_38, if_neg c_54]; done) | (simp only [apV, if_pos c_38, if_neg c_54]; done) | (simp only [apV, c_38, c_54, if_true, if_false]; done) | (simp only [apV, c_38, c_54, if_true, if_false, not_true, not_false_iff, reduceIte]; done) | (exfalso; simp_all; done) | (simp [apV, c_38, c_54]; done) | (simp_all [apV]; done)
      have hf_ap : ap = apV (agreeV (takeV r1 f (t + 1)) (takeV r2 g (t + 1))) ap (t + 1) := by subst er2_2; subst er1_1; first | rfl | (unfold apV; rw [if_pos c_38, if_neg c_54]; done) | (simp only [apV, if_pos c_38, if_neg c_54]; done) | (simp only [apV, c_38, c_54, if_true, if_false]; done) | (simp only [apV, c_38, c_54, if_true, if_false, not_true, not_false_iff, reduceIte]; done) | (exfalso; simp_all; done) | (simp [apV, c_38, c_54]; done) | (simp_all [apV]; done)
      have hf_r1 : r1_1 = takeV r1 f (t + 1) := by subst er2_2; subst er1_1; first | rfl | (unfold apV; rw [if_pos c_38, if_neg c_54]; done) | (simp only [apV, if_pos c_38, if_neg c_54]; done) | (simp only [apV, c_38, c_54, if_true, if_false]; done) | (simp only [apV, c_38, c_54, if_true, if_false, not_true, not_false_iff, reduceIte]; done) | (exfalso; simp_all; done) | (simp [apV, c_38, c_54]; done) | (simp_all [apV]; done)
      have hf_r2 : r2_2 = takeV r2 g (t + 1) := by subst er2_2; subst er1_1; first | rfl | (unfold apV; rw [if_pos c_38, if_neg c_54]; done) | (simp only [apV, if_pos c_38, if_neg c_54]; done) | (simp only [apV, c_38, c_54, if_true, if_false]; done) | (simp only [apV, c_38, c_54, if_true, if_false, not_true, not_false_iff, reduceIte]; done) | (exfalso; simp_all; done) | (simp [apV, c_38, c_54]; done) | (simp_all [apV]; done)
      exact hE _ _ _ _ _ hH (((congrArg (fun zz => (benchW b A1 A2 cI zz ap r1_1 r2_2)) hf_t).trans ((congrArg (fun zz => (benchW b A1 A2 cI (t + 1) zz r1_1 r2_2)) hf_ap).trans ((congrArg (fun zz => (benchW b A1 A2 cI (t + 1) (apV (agreeV (takeV r1 f (t + 1)) (takeV r2 g (t + 1))) ap (t + 1)) zz r2_2)) hf_r1).trans (congrArg (fun zz => (benchW b A1 A2 cI (t + 1) (apV (agreeV (takeV r1 f (t + 1)) (takeV r2 g (t + 1))) ap (t + 1)) (takeV r1 f (t + 1)) zz)) hf_r2))))) dX0_step_65
    · skip
      refine lv_aload_n hx hb dX0_step_57 rfl (lv_at hl 0 rfl) ?_
      refine lv_aload_n hx hb dX0_step_58 rfl (lv_at hl 0 rfl) ?_
      refine x_get (v := .int (t + 1)) (C := RX0) (T := TX0) (N := 4) hx hb hts hi0 hown hK hH.1 0 rfl rfl 2 (by decide) (hts (.fieldLink RX0 25 "PulseWheel$Bench" "ticks" "I") (by decide +kernel)) rfl rfl dX0_step_59 ?_
      refine x_put (ws' := (benchW b A1 A2 cI (t + 1) (t + 1) r1_1 r2_2)) (v := .int (t + 1)) (ty := .int) (C := RX0) (T := TX0) (N := 4) hx hb hts hi0 tyX0_ok nmX0 hown hK hH 0 rfl rfl 3 (by decide) (hts (.fieldLink RX0 21 "PulseWheel$Bench" "apartSince" "I") (by decide +kernel)) rfl rfl rfl (rfl) (rfl) (Nat.le_of_ble_eq_true rfl) dX0_step_62 (rfl) (fun H locs hH => ?_)
      have hf_t : (t + 1) = t + 1 := by subst er2_2; subst er1_1; first | rfl | (unfold apV; rw [if_pos c_38, if_pos c_54]; done) | (simp only [apV, if_pos c_38, if_pos c_54]; done) | (simp only [apV, c_38, c_54, if_true, if_false]; done) | (simp only [apV, c_38, c_54, if_true, if_false, not_true, not_false_iff, reduceIte]; done) | (exfalso; simp_all; done) | (simp [apV, c_38, c_54]; done) | (simp_all [apV]; done)
      have hf_ap : (t + 1) = apV (agreeV (takeV r1 f (t + 1)) (takeV r2 g (t + 1))) ap (t + 1) := by subst er2_2; subst er1_1; first | rfl | (unfold apV; rw [if_pos c_38, if_pos c_54]; done) | (simp only [apV, if_pos c_38, if_pos c_54]; done) | (simp only [apV, c_38, c_54, if_true, if_false]; done) | (simp only [apV, c_38, c_54, if_true, if_false, not_true, not_false_iff, reduceIte]; done) | (exfalso; simp_all; done) | (simp [apV, c_38, c_54]; done) | (simp_all [apV]; done)
      have hf_r1 : r1_1 = takeV r1 f (t + 1) := by subst er2_2; subst er1_1; first | rfl | (unfold apV; rw [if_pos c_38, if_pos c_54]; done) | (simp only [apV, if_pos c_38, if_pos c_54]; done) | (simp only [apV, c_38, c_54, if_true, if_false]; done) | (simp only [apV, c_38, c_54, if_true, if_false, not_true, not_false_iff, reduceIte]; done) | (exfalso; simp_all; done) | (simp [apV, c_38, c_54]; done) | (simp_all [apV]; done)
      have hf_r2 : r2_2 = takeV r2 g (t + 1) := by subst er2_2; subst er1_1; first | rfl | (unfold apV; rw [if_pos c_38, if_pos c_54]; done) | (simp only [apV, if_pos c_38, if_pos c_54]; done) | (simp only [apV, c_38, c_54, if_true, if_false]; done) | (simp only [apV, c_38, c_54, if_true, if_false, not_true, not_false_iff, reduceIte]; done) | (exfalso; simp_all; done) | (simp [apV, c_38, c_54]; done) | (simp_all [apV]; done)
      exact hE _ _ _ _ _ hH (((congrArg (fun zz => (benchW b A1 A2 cI zz (t + 1) r1_1 r2_2)) hf_t).trans ((congrArg (fun zz => (benchW b A1 A2 cI (t + 1) zz r1_1 r2_2)) hf_ap).trans ((congrArg (fun zz => (benchW b A1 A2 cI (t + 1) (apV (agreeV (takeV r1 f (t + 1)) (takeV r2 g (t + 1))) ap (t + 1)) zz r2_2)) hf_r1).trans (congrArg (fun zz => (benchW b A1 A2 cI (t + 1) (apV (agreeV (takeV r1 f (t + 1)) (takeV r2 g (t + 1))) ap (t + 1)) (takeV r1 f (t + 1)) zz)) hf_r2))))) dX0_step_65
  · skip
    refine lv_aload_n hx hb dX0_step_41 rfl (lv_at hl 0 rfl) ?_
    refine lv_iconst (v := -1) hx hb dX0_step_42 (by decide) ?_
    refine x_put (ws' := (benchW b A1 A2 cI (t + 1) (-1) r1_1 r2_2)) (v := .int (-1)) (ty := .int) (C := RX0) (T := TX0) (N := 4) hx hb hts hi0 tyX0_ok nmX0 hown hK hH 0 rfl rfl 3 (by decide) (hts (.fieldLink RX0 21 "PulseWheel$Bench" "apartSince" "I") (by decide +kernel)) rfl rfl rfl (rfl) (rfl) (Nat.le_of_ble_eq_true rfl) dX0_step_43 (rfl) (fun H locs hH => ?_)
    refine lv_goto (tgt := 65) hx hb dX0_step_46 (by decide) ?_
    have hf_t : (t + 1) = t + 1 := by subst er2_2; subst er1_1; first | rfl | (unfold apV; rw [if_neg c_38]; done) | (simp only [apV, if_neg c_38]; done) | (simp only [apV, c_38, if_true, if_false]; done) | (simp only [apV, c_38, if_true, if_false, not_true, not_false_iff, reduceIte]; done) | (exfalso; simp_all; done) | (simp [apV, c_38]; done) | (simp_all [apV]; done)
    have hf_ap : (-1) = apV (agreeV (takeV r1 f (t + 1)) (takeV r2 g (t + 1))) ap (t + 1) := by subst er2_2; subst er1_1; first | rfl | (unfold apV; rw [if_neg c_38]; done) | (simp only [apV, if_neg c_38]; done) | (simp only [apV, c_38, if_true, if_false]; done) | (simp only [apV, c_38, if_true, if_false, not_true, not_false_iff, reduceIte]; done) | (exfalso; simp_all; done) | (simp [apV, c_38]; done) | (simp_all [apV]; done)
    have hf_r1 : r1_1 = takeV r1 f (t + 1) := by subst er2_2; subst er1_1; first | rfl | (unfold apV; rw [if_neg c_38]; done) | (simp only [apV, if_neg c_38]; done) | (simp only [apV, c_38, if_true, if_false]; done) | (simp only [apV, c_38, if_true, if_false, not_true, not_false_iff, reduceIte]; done) | (exfalso; simp_all; done) | (simp [apV, c_38]; done) | (simp_all [apV]; done)
    have hf_r2 : r2_2 = takeV r2 g (t + 1) := by subst er2_2; subst er1_1; first | rfl | (unfold apV; rw [if_neg c_38]; done) | (simp only [apV, if_neg c_38]; done) | (simp only [apV, c_38, if_true, if_false]; done) | (simp only [apV, c_38, if_true, if_false, not_true, not_false_iff, reduceIte]; done) | (exfalso; simp_all; done) | (simp [apV, c_38]; done) | (simp_all [apV]; done)
    exact hE _ _ _ _ _ hH (((congrArg (fun zz => (benchW b A1 A2 cI zz (-1) r1_1 r2_2)) hf_t).trans ((congrArg (fun zz => (benchW b A1 A2 cI (t + 1) zz r1_1 r2_2)) hf_ap).trans ((congrArg (fun zz => (benchW b A1 A2 cI (t + 1) (apV (agreeV (takeV r1 f (t + 1)) (takeV r2 g (t + 1))) ap (t + 1)) zz r2_2)) hf_r1).trans (congrArg (fun zz => (benchW b A1 A2 cI (t + 1) (apV (agreeV (takeV r1 f (t + 1)) (takeV r2 g (t + 1))) ap (t + 1)) (takeV r1 f (t + 1)) zz)) hf_r2))))) dX0_step_65
