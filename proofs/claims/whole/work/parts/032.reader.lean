/-! ### Math.floorMod's numbers -/
theorem i32_nn {x : Int32} : 0 ≤ x ↔ 0 ≤ x.toInt := by
  rw [Int32.le_iff_toInt_le]; rfl
theorem msb_neg (x : Int32) : x.toBitVec.msb = decide (x.toInt < 0) := BitVec.msb_eq_toInt
theorem xor_nn {x y : Int32} (hy : 0 ≤ y.toInt) : 0 ≤ x ^^^ y ↔ 0 ≤ x.toInt := by
  have h1 : (x ^^^ y).toBitVec.msb = (x.toBitVec.msb ^^ y.toBitVec.msb) := by rw [Int32.toBitVec_xor, BitVec.msb_xor]
  rw [msb_neg, msb_neg, msb_neg, decide_eq_false (show ¬ y.toInt < 0 by omega), Bool.xor_false] at h1
  rw [i32_nn]
  have h2 := decide_eq_decide.mp h1
  omega
theorem fm_toInt {x y : Int32} (hy : 0 < y.toInt) : (fm x y).toInt = x.toInt % y.toInt := by
  have hr : (rem32 x y).toInt = x.toInt.tmod y.toInt := rem_toInt x y
  have ht := Int.tmod_eq_emod (a := x.toInt) (b := y.toInt)
  have hb := Int.emod_lt_of_pos x.toInt hy
  have hb0 := Int.emod_nonneg x.toInt (by omega : y.toInt ≠ 0)
  unfold fm
  by_cases c : 0 ≤ x ^^^ y
  · rw [if_pos c, hr, ht, if_pos (Or.inl ((xor_nn (by omega)).mp c))]
    omega
  · rw [if_neg c]
    have hx : ¬ 0 ≤ x.toInt := fun h => c ((xor_nn (by omega)).mpr h)
    by_cases z : rem32 x y = 0
    · rw [if_pos z]
      have z2 : (rem32 x y).toInt = 0 := by rw [z]; rfl
      rw [hr] at z2
      have z3 : x.toInt % y.toInt = 0 := Int.emod_eq_zero_of_dvd (Int.dvd_of_tmod_eq_zero z2)
      rw [hr, z2, z3]
    · rw [if_neg z]
      have z2 : ¬ y.toInt ∣ x.toInt := fun h => z (Int32.toInt_inj.mp (by rw [hr, Int.tmod_eq_zero_of_dvd h]; rfl))
      rw [if_neg (by rintro (h | h) <;> contradiction)] at ht
      have hl := Int32.toInt_lt y
      have e1 : (y.toInt.natAbs : Int) = y.toInt := by omega
      rw [Jvm.Kit.i32_add (by rw [hr]; omega) (by rw [hr]; omega), hr]
      omega
def pathN (x : Int32) : Nat := (x.toInt % 501).toNat
theorem path_ok (x : Int32) : fm x 501 = nI (pathN x) ∧ pathN x < 501 := by
  have h := fm_toInt (x := x) (y := 501) (by decide)
  rw [show (501 : Int32).toInt = 501 from by decide] at h
  have h1 := Int.emod_lt_of_pos x.toInt (show (0 : Int) < 501 by decide)
  have h2 := Int.emod_nonneg x.toInt (by decide : (501 : Int) ≠ 0)
  refine ⟨Int32.toInt_inj.mp ?_, by unfold pathN; omega⟩
  rw [h, nI_toInt (by unfold pathN; omega)]
  unfold pathN
  omega
/-! ### a Reader -/
def phaseV (cl : Int32) : Int32 := if cl &&& 1 = 0 then (if cl &&& 2 = 0 then 0 else 3 - 0) else (if cl &&& 2 = 0 then 1 else 3 - 1)
def bitV (i : Nat) : Int32 := (1 : Int32) <<< (nI i &&& 31)
def settleF (r : Tb) (i : Nat) (b n : Int32) : Tb := if n < r 0 4 then up2 r 1 i n else up2 (up2 (up2 r 1 i n) 0 6 (r 0 6 ^^^ b)) 1 i 0
def settle1 (r : Tb) (raw : Int32) (i : Nat) : Tb := settleF r i (bitV i) (if (raw ^^^ r 0 6) &&& bitV i = 0 then 0 else r 1 i + 1)
def settleN (r : Tb) (raw : Int32) : Nat → Tb
  | 0 => r
  | i + 1 => settle1 (settleN r raw i) raw i
theorem settleN_s (r : Tb) (raw : Int32) (i : Nat) : settleN r raw (i + 1) = settle1 (settleN r raw i) raw i := rfl
def noteCountV (r : Tb) (so now : Int32) : Tb := logAdd (up2 (up2 (up2 r 0 7 (r 0 7 + so)) 0 8 (r 0 8 + so)) 0 9 (r 0 9 + so)) so now (r 0 7 + so)
def noteChangeV (r : Tb) (ph now : Int32) : Tb := if ph = 0 then r else if ph = 1 then noteCountV r 1 now else if ph = 3 then noteCountV r (-1) now else logAdd (up2 (up2 (up2 r 0 12 (r 0 12 + 1)) 0 8 (r 0 8 - 2)) 0 9 (r 0 9 + 2)) 0 now (r 0 7)
def markV (r : Tb) : Int32 := r 0 9 - fm (r 0 9 - r 0 11) (r 0 5)
def mendV (r : Tb) : Tb := if r 0 8 ≤ markV r then (if r 0 8 ≤ markV r - r 0 5 then r else up2 (up2 (up2 r 0 7 (markV r)) 0 8 (markV r)) 0 9 (markV r)) else up2 r 0 13 (r 0 13 + 1)
def heedV (r : Tb) : Tb := if r 0 10 = 0 then (if r 0 8 = r 0 9 then up2 (up2 r 0 10 1) 0 11 (r 0 7) else r) else mendV r
def notePlaceV (r : Tb) (now : Int32) : Tb := up2 r 2 (pathN now) (r 0 7)
def anewR (r : Tb) (now : Int32) : Tb := up2 (up2 (up2 (up2 (up2 (up2 (up2 (up2 (up2 (up2 (teethForget (logForget (up1 r 1 (fillV 3 0 (r 1))))) 0 6 0) 0 7 0) 0 8 0) 0 9 0) 0 10 0) 0 11 0) 0 12 0) 0 13 0) 0 14 0) 0 15 now
def anewV (r : Tb) (now : Int32) : Tb := notePlaceV (anewR r now) now
def zeroV (r : Tb) : Tb := heedV (learnV (up2 r 0 14 (r 0 14 + 1)) (r 0 5))
def midV (r : Tb) (raw now : Int32) : Tb := noteChangeV (settleN r raw 3) (fm (phaseV (settleN r raw 3 0 6) - phaseV (r 0 6)) 4) now
def takeV (r : Tb) (raw now : Int32) : Tb := notePlaceV (if midV r raw now 0 6 &&& (r 0 6 ^^^ (-1)) &&& 4 = 0 then midV r raw now else zeroV (midV r raw now)) now
/-! hold and turn stay, whatever a tick does -/
theorem settleN_ht (r : Tb) (raw : Int32) (k : Nat) (hk : k = 4 ∨ k = 5) : ∀ i, settleN r raw i 0 k = r 0 k
  | 0 => rfl
  | i + 1 => by
    rw [settleN_s, ← settleN_ht r raw k hk i]
    unfold settle1 settleF
    rcases hk with rfl | rfl <;> (repeat' split) <;> rfl
theorem noteChangeV_ht (r : Tb) (ph now : Int32) (k : Nat) (hk : k = 4 ∨ k = 5) : noteChangeV r ph now 0 k = r 0 k := by
  unfold noteChangeV
  rcases hk with rfl | rfl <;> (repeat' split) <;> rfl

def rm_X2_phase : Room := { frames := 0, cells := 0, slots := 0, locals := 0 }
set_option maxHeartbeats 1000000 in
set_option maxRecDepth 100000 in
theorem c_X2_phase (l : Launch) (D : va_G) (cI cB : ClassId) (A : Nat → Nat) (r : Tb) : SI l D cI cB yX2_phase wsX2_phase rm_X2_phase [.ref (A 0)] (readerW A cI r) (phaseV (r 0 6)) := by
  refine SI.of (cc := cX2_phase) (maxL := 2) (ty := .int) (by decide +kernel) rfl (Nat.le_of_ble_eq_true rfl) ?_
  intro p e s m args below meth c ls Q hT hP hD hl hE
  obtain ⟨hx, hb, hr, hlocks, hnm, hml, hown, hts, hK, hN⟩ := hT
  have hl : lv_has ls 2 [(0, .ref (A 0))] := hl
  have hi2 : ∀ w ∈ wsX20, w ∈ wsX2_phase := by decide +kernel
  refine lv_aload_n hx hb dX2_phase_0 rfl (lv_at hl 0 rfl) ?_
  refine x_get (v := .int (r 0 6)) (C := RX2) (T := TX2) (N := 16) hx hb hts hi2 hown hK hP 0 rfl rfl 6 (by decide) (hts (.fieldLink RX2 49 "PulseWheel$Reader" "clean" "I") (by decide +kernel)) rfl rfl dX2_phase_1 ?_
  refine lv_iconst (v := 1) hx hb dX2_phase_4 (by decide) ?_
  refine lv_iand hx hb dX2_phase_5 ?_
  refine lv_if_ne (tgt := 13) hx hb dX2_phase_6 (by decide) (fun c_6 => ?_) (fun c_6 => ?_)
  · skip
    refine lv_iconst (v := 1) hx hb dX2_phase_13 (by decide) ?_
    refine lv_istore_n (lv' := [(1, .int 1), (0, .ref (A 0))]) hx hb dX2_phase_14 rfl hl (by decide) rfl (fun ls hl => ?_)
    refine lv_aload_n hx hb dX2_phase_15 rfl (lv_at hl 1 rfl) ?_
    refine x_get (v := .int (r 0 6)) (C := RX2) (T := TX2) (N := 16) hx hb hts hi2 hown hK hP 0 rfl rfl 6 (by decide) (hts (.fieldLink RX2 49 "PulseWheel$Reader" "clean" "I") (by decide +kernel)) rfl rfl dX2_phase_16 ?_
    refine lv_iconst (v := 2) hx hb dX2_phase_19 (by decide) ?_
    refine lv_iand hx hb dX2_phase_20 ?_
    refine lv_if_ne (tgt := 28) hx hb dX2_phase_21 (by decide) (fun c_21 => ?_) (fun c_21 => ?_)
    · skip
      refine lv_iconst (v := 3) hx hb dX2_phase_28 (by decide) ?_
      refine lv_iload_n hx hb dX2_phase_29 rfl (lv_at hl 0 rfl) ?_
      refine lv_isub hx hb dX2_phase_30 ?_
      exact hE _ _ _ (by first | rfl | (unfold phaseV; rw [if_neg c_6, if_neg c_21]; done) | (simp only [phaseV, if_neg c_6, if_neg c_21]; done) | (simp only [phaseV, c_6, c_21, if_true, if_false]; done) | (simp only [phaseV, c_6, c_21, if_true, if_false, not_true, not_false_iff, reduceIte]; done) | (exfalso; simp_all; done) | (simp [phaseV, c_6, c_21]; done) | (simp_all [phaseV]; done)) rfl dX2_phase_31
    · skip
      refine lv_iload_n hx hb dX2_phase_24 rfl (lv_at hl 0 rfl) ?_
      refine lv_goto (tgt := 31) hx hb dX2_phase_25 (by decide) ?_
      exact hE _ _ _ (by first | rfl | (unfold phaseV; rw [if_neg c_6, if_pos c_21]; done) | (simp only [phaseV, if_neg c_6, if_pos c_21]; done) | (simp only [phaseV, c_6, c_21, if_true, if_false]; done) | (simp only [phaseV, c_6, c_21, if_true, if_false, not_true, not_false_iff, reduceIte]; done) | (exfalso; simp_all; done) | (simp [phaseV, c_6, c_21]; done) | (simp_all [phaseV]; done)) rfl dX2_phase_31
  · skip
    refine lv_iconst (v := 0) hx hb dX2_phase_9 (by decide) ?_
    refine lv_goto (tgt := 14) hx hb dX2_phase_10 (by decide) ?_
    refine lv_istore_n (lv' := [(1, .int 0), (0, .ref (A 0))]) hx hb dX2_phase_14 rfl hl (by decide) rfl (fun ls hl => ?_)
    refine lv_aload_n hx hb dX2_phase_15 rfl (lv_at hl 1 rfl) ?_
    refine x_get (v := .int (r 0 6)) (C := RX2) (T := TX2) (N := 16) hx hb hts hi2 hown hK hP 0 rfl rfl 6 (by decide) (hts (.fieldLink RX2 49 "PulseWheel$Reader" "clean" "I") (by decide +kernel)) rfl rfl dX2_phase_16 ?_
    refine lv_iconst (v := 2) hx hb dX2_phase_19 (by decide) ?_
    refine lv_iand hx hb dX2_phase_20 ?_
    refine lv_if_ne (tgt := 28) hx hb dX2_phase_21 (by decide) (fun c_21 => ?_) (fun c_21 => ?_)
    · skip
      refine lv_iconst (v := 3) hx hb dX2_phase_28 (by decide) ?_
      refine lv_iload_n hx hb dX2_phase_29 rfl (lv_at hl 0 rfl) ?_
      refine lv_isub hx hb dX2_phase_30 ?_
      exact hE _ _ _ (by first | rfl | (unfold phaseV; rw [if_pos c_6, if_neg c_21]; done) | (simp only [phaseV, if_pos c_6, if_neg c_21]; done) | (simp only [phaseV, c_6, c_21, if_true, if_false]; done) | (simp only [phaseV, c_6, c_21, if_true, if_false, not_true, not_false_iff, reduceIte]; done) | (exfalso; simp_all; done) | (simp [phaseV, c_6, c_21]; done) | (simp_all [phaseV]; done)) rfl dX2_phase_31
    · skip
      refine lv_iload_n hx hb dX2_phase_24 rfl (lv_at hl 0 rfl) ?_
      refine lv_goto (tgt := 31) hx hb dX2_phase_25 (by decide) ?_
      exact hE _ _ _ (by first | rfl | (unfold phaseV; rw [if_pos c_6, if_pos c_21]; done) | (simp only [phaseV, if_pos c_6, if_pos c_21]; done) | (simp only [phaseV, c_6, c_21, if_true, if_false]; done) | (simp only [phaseV, c_6, c_21, if_true, if_false, not_true, not_false_iff, reduceIte]; done) | (exfalso; simp_all; done) | (simp [phaseV, c_6, c_21]; done) | (simp_all [phaseV]; done)) rfl dX2_phase_31

def rm_X2_settleLines : Room := { frames := 0, cells := 0, slots := 0, locals := 0 }
set_option maxHeartbeats 1000000 in
set_option maxRecDepth 100000 in
theorem c_X2_settleLines (l : Launch) (D : va_G) (cI cB : ClassId) (A : Nat → Nat) (r : Tb) (raw : Int32) : CV l D cI cB yX2_settleLines wsX2_settleLines rm_X2_settleLines [.ref (A 0), .int raw] (readerW A cI r) (readerW A cI (settleN r raw 3)) := by
  refine CV.of (cc := cX2_settleLines) (maxL := 4)  (by decide +kernel) rfl (Nat.le_of_ble_eq_true rfl) ?_
  intro p e s m args below meth c ls A0 Q hT hH hA hl hE
  obtain ⟨hx, hb, hr, hlocks, hnm, hml, hown, hts, hK, hN⟩ := hT
  have hl : lv_has ls 4 [(0, .ref (A 0)), (1, .int raw)] := hl
  have hi2 : ∀ w ∈ wsX20, w ∈ wsX2_settleLines := by decide +kernel
  refine lv_iconst (v := 0) hx hb dX2_settleLines_0 (by decide) ?_
  refine lv_istore_n (lv' := [(2, .int 0), (0, .ref (A 0)), (1, .int raw)]) hx hb dX2_settleLines_1 rfl hl (by decide) rfl (fun ls hl => ?_)
  have lp : ∀ (fuel : Nat) (i : Nat) (r' : Tb), (i ≤ 3) → (3 < i + fuel) → (r' = settleN r raw i) → ∀ (H : Heap) (locs : List Loc) (ls : Array Slot), Hd D A0 s (readerW A cI r') H locs → lv_has ls 4 [(0, .ref (A 0)), (1, .int raw), (2, .int (nI i))] → W p l e rm_X2_settleLines s m args below meth c H locs 0 0 Q (F0 m 2 ls []) := by
    intro fuel
    induction fuel with
    | zero => intro i r' hi hm hr' H locs ls hH hl; exact absurd hm (by omega)
    | succ fuel ih =>
      intro i r' hi hm hr' H locs ls hH hl
      refine lv_iload_n hx hb dX2_settleLines_2 rfl (lv_at hl 2 rfl) ?_
      refine lv_aload_n hx hb dX2_settleLines_3 rfl (lv_at hl 0 rfl) ?_
      refine x_get (v := .ref (A 1)) (C := RX2) (T := TX2) (N := 16) hx hb hts hi2 hown hK hH.1 0 rfl rfl 0 (by decide) (hts (.fieldLink RX2 9 "PulseWheel$Reader" "runs" "[I") (by decide +kernel)) rfl rfl dX2_settleLines_4 ?_
      refine x_alen (v := 3) hx hb hK hH.1 1 rfl rfl dX2_settleLines_7 ?_
      refine lv_icmp_ge (tgt := 80) hx hb dX2_settleLines_8 (by decide) (fun c_8 => ?_) (fun c_8 => ?_)
      · skip
        have hf_r : r' = settleN r raw 3 := by have h7 := (nI_leI (a := 3) (by decide) (by omega)).mp c_8; rw [hr', show i = 3 by omega]
        exact hE _ _ _ _ _ hH ((congrArg (fun zz => (readerW A cI zz)) hf_r)) dX2_settleLines_80
      · skip
        have hlt : i < 3 := lt_of_nI (n := 3) (by omega) c_8
        refine lv_iconst (v := 1) hx hb dX2_settleLines_11 (by decide) ?_
        refine lv_iload_n hx hb dX2_settleLines_12 rfl (lv_at hl 2 rfl) ?_
        refine lv_ishl hx hb dX2_settleLines_13 ?_
        refine x_top (y := bitV i) (rfl) ?_
        refine lv_istore_n (lv' := [(3, .int (bitV i)), (0, .ref (A 0)), (1, .int raw), (2, .int (nI i))]) hx hb dX2_settleLines_14 rfl hl (by decide) rfl (fun ls hl => ?_)
        refine lv_aload_n hx hb dX2_settleLines_15 rfl (lv_at hl 1 rfl) ?_
        refine x_get (v := .ref (A 1)) (C := RX2) (T := TX2) (N := 16) hx hb hts hi2 hown hK hH.1 0 rfl rfl 0 (by decide) (hts (.fieldLink RX2 9 "PulseWheel$Reader" "runs" "[I") (by decide +kernel)) rfl rfl dX2_settleLines_16 ?_
        refine lv_iload_n hx hb dX2_settleLines_19 rfl (lv_at hl 3 rfl) ?_
        have K43 : ∀ (v : Int32), (v = (if (raw ^^^ r' 0 6) &&& bitV i = 0 then 0 else r' 1 i + 1)) → ∀ (H : Heap) (locs : List Loc) (ls : Array Slot), Hd D A0 s (readerW A cI r') H locs → lv_has ls 4 [(0, .ref (A 0)), (1, .int raw), (2, .int (nI i)), (3, .int (bitV i))] → W p l e rm_X2_settleLines s m args below meth c H locs 0 0 Q (F0 m 43 ls [.int v, .int (nI i), .ref (A 1)]) := by
          intro v hv H locs ls hH hl
          have hq_1 := ix_in (i := (nI i)) (n := 3) i (rfl) (hlt) (by decide)
          obtain ⟨r_2, er_2⟩ : ∃ z, z = up2 r' 1 i v := ⟨_, rfl⟩
          refine x_ist (ws' := (readerW A cI r_2)) hx hb hK hH 1 rfl hq_1.1 hq_1.2 dX2_settleLines_43 (by rw [er_2]; rfl) (fun H locs hH => ?_)
          refine lv_aload_n hx hb dX2_settleLines_44 rfl (lv_at hl 0 rfl) ?_
          refine x_get (v := .ref (A 1)) (C := RX2) (T := TX2) (N := 16) hx hb hts hi2 hown hK hH.1 0 rfl rfl 0 (by decide) (hts (.fieldLink RX2 9 "PulseWheel$Reader" "runs" "[I") (by decide +kernel)) rfl rfl dX2_settleLines_45 ?_
          refine lv_iload_n hx hb dX2_settleLines_48 rfl (lv_at hl 2 rfl) ?_
          have hq_3 := ix_in (i := (nI i)) (n := 3) i (rfl) (hlt) (by decide)
          refine x_ild (v := r_2 1 i) hx hb hK hH.1 1 rfl hq_3.1 (by rw [hq_3.2]) dX2_settleLines_49 ?_
          refine x_top (y := v) (by rw [er_2]; simp [up2, upd]) ?_
          refine lv_aload_n hx hb dX2_settleLines_50 rfl (lv_at hl 0 rfl) ?_
          refine x_get (v := .int (r_2 0 4)) (C := RX2) (T := TX2) (N := 16) hx hb hts hi2 hown hK hH.1 0 rfl rfl 4 (by decide) (hts (.fieldLink RX2 32 "PulseWheel$Reader" "holdTicks" "I") (by decide +kernel)) rfl rfl dX2_settleLines_51 ?_
          refine x_top (y := r' 0 4) (congrFun (congrFun er_2 0) 4) ?_
          refine lv_icmp_lt (tgt := 74) hx hb dX2_settleLines_54 (by decide) (fun c_54 => ?_) (fun c_54 => ?_)
          · skip
            refine lv_iinc (v := nI (i + 1)) (lv' := [(2, .int (nI (i + 1))), (0, .ref (A 0)), (1, .int raw), (3, .int (bitV i))]) hx hb dX2_settleLines_74 hl (k := 2) rfl (nI_1 i) (by decide) rfl (fun ls hl => ?_)
            refine lv_goto (tgt := 2) hx hb dX2_settleLines_77 (by decide) ?_
            exact ih (i + 1) r_2 (by omega) (by omega) (by rw [settleN_s, ← hr']; unfold settle1 settleF; rw [← hv, if_pos c_54]; subst er_2; rfl) H locs ls (hH) (lv_sub hl [1, 2, 0] rfl)
          · skip
            refine lv_aload_n hx hb dX2_settleLines_57 rfl (lv_at hl 0 rfl) ?_
            refine lv_dup hx hb dX2_settleLines_58 rfl ?_
            refine x_get (v := .int (r_2 0 6)) (C := RX2) (T := TX2) (N := 16) hx hb hts hi2 hown hK hH.1 0 rfl rfl 6 (by decide) (hts (.fieldLink RX2 49 "PulseWheel$Reader" "clean" "I") (by decide +kernel)) rfl rfl dX2_settleLines_59 ?_
            refine x_top (y := r' 0 6) (congrFun (congrFun er_2 0) 6) ?_
            refine lv_iload_n hx hb dX2_settleLines_62 rfl (lv_at hl 3 rfl) ?_
            refine lv_ixor hx hb dX2_settleLines_63 ?_
            obtain ⟨r_4, er_4⟩ : ∃ z, z = up2 r_2 0 6 ((r' 0 6) ^^^ (bitV i)) := ⟨_, rfl⟩
            refine x_put (ws' := (readerW A cI r_4)) (v := .int ((r' 0 6) ^^^ (bitV i))) (ty := .int) (C := RX2) (T := TX2) (N := 16) hx hb hts hi2 tyX2_ok nmX2 hown hK hH 0 rfl rfl 6 (by decide) (hts (.fieldLink RX2 49 "PulseWheel$Reader" "clean" "I") (by decide +kernel)) rfl rfl rfl (rfl) (rfl) (Nat.le_of_ble_eq_true rfl) dX2_settleLines_64 (by rw [er_4]; rfl) (fun H locs hH => ?_)
            refine lv_aload_n hx hb dX2_settleLines_67 rfl (lv_at hl 0 rfl) ?_
            refine x_get (v := .ref (A 1)) (C := RX2) (T := TX2) (N := 16) hx hb hts hi2 hown hK hH.1 0 rfl rfl 0 (by decide) (hts (.fieldLink RX2 9 "PulseWheel$Reader" "runs" "[I") (by decide +kernel)) rfl rfl dX2_settleLines_68 ?_
            refine lv_iload_n hx hb dX2_settleLines_71 rfl (lv_at hl 2 rfl) ?_
            refine lv_iconst (v := 0) hx hb dX2_settleLines_72 (by decide) ?_
            have hq_5 := ix_in (i := (nI i)) (n := 3) i (rfl) (hlt) (by decide)
            obtain ⟨r_6, er_6⟩ : ∃ z, z = up2 r_4 1 i 0 := ⟨_, rfl⟩
            refine x_ist (ws' := (readerW A cI r_6)) hx hb hK hH 1 rfl hq_5.1 hq_5.2 dX2_settleLines_73 (by rw [er_6]; rfl) (fun H locs hH => ?_)
            refine lv_iinc (v := nI (i + 1)) (lv' := [(2, .int (nI (i + 1))), (0, .ref (A 0)), (1, .int raw), (3, .int (bitV i))]) hx hb dX2_settleLines_74 hl (k := 2) rfl (nI_1 i) (by decide) rfl (fun ls hl => ?_)
            refine lv_goto (tgt := 2) hx hb dX2_settleLines_77 (by decide) ?_
            exact ih (i + 1) r_6 (by omega) (by omega) (by rw [settleN_s, ← hr']; unfold settle1 settleF; rw [← hv, if_neg c_54]; subst er_6; subst er_4; subst er_2; rfl) H locs ls (hH) (lv_sub hl [1, 2, 0] rfl)
        refine lv_iload_n hx hb dX2_settleLines_20 rfl (lv_at hl 2 rfl) ?_
        refine lv_aload_n hx hb dX2_settleLines_21 rfl (lv_at hl 1 rfl) ?_
        refine x_get (v := .int (r' 0 6)) (C := RX2) (T := TX2) (N := 16) hx hb hts hi2 hown hK hH.1 0 rfl rfl 6 (by decide) (hts (.fieldLink RX2 49 "PulseWheel$Reader" "clean" "I") (by decide +kernel)) rfl rfl dX2_settleLines_22 ?_
        refine lv_ixor hx hb dX2_settleLines_25 ?_
        refine lv_iload_n hx hb dX2_settleLines_26 rfl (lv_at hl 0 rfl) ?_
        refine lv_iand hx hb dX2_settleLines_27 ?_
        refine lv_if_ne (tgt := 35) hx hb dX2_settleLines_28 (by decide) (fun c_28 => ?_) (fun c_28 => ?_)
        · skip
          refine lv_aload_n hx hb dX2_settleLines_35 rfl (lv_at hl 1 rfl) ?_
          refine x_get (v := .ref (A 1)) (C := RX2) (T := TX2) (N := 16) hx hb hts hi2 hown hK hH.1 0 rfl rfl 0 (by decide) (hts (.fieldLink RX2 9 "PulseWheel$Reader" "runs" "[I") (by decide +kernel)) rfl rfl dX2_settleLines_36 ?_
          refine lv_iload_n hx hb dX2_settleLines_39 rfl (lv_at hl 3 rfl) ?_
          have hq_7 := ix_in (i := (nI i)) (n := 3) i (rfl) (hlt) (by decide)
          refine x_ild (v := r' 1 i) hx hb hK hH.1 1 rfl hq_7.1 (by rw [hq_7.2]) dX2_settleLines_40 ?_
          refine lv_iconst (v := 1) hx hb dX2_settleLines_41 (by decide) ?_
          refine lv_iadd hx hb dX2_settleLines_42 ?_
          exact K43 ((r' 1 i) + 1) (by rw [if_neg c_28]) _ _ ls hH (lv_sub hl [1, 2, 3, 0] rfl)
        · skip
          refine lv_iconst (v := 0) hx hb dX2_settleLines_31 (by decide) ?_
          refine lv_goto (tgt := 43) hx hb dX2_settleLines_32 (by decide) ?_
          exact K43 0 (by rw [if_pos c_28]) _ _ ls hH (lv_sub hl [1, 2, 3, 0] rfl)
  exact lp 4 0 r (by decide) (by decide) (rfl) _ _ ls (hH) (lv_sub hl [1, 2, 0] rfl)

def rm_X2_noteCount : Room := { frames := 2, cells := 0, slots := 0, locals := 47 }
set_option maxHeartbeats 1000000 in
set_option maxRecDepth 100000 in
theorem c_X2_noteCount (l : Launch) (D : va_G) (cI cB : ClassId) (A : Nat → Nat) (r : Tb) (so now : Int32) : CV l D cI cB yX2_noteCount wsX2_noteCount rm_X2_noteCount [.ref (A 0), .int so, .int now] (readerW A cI r) (readerW A cI (noteCountV r so now)) := by
  refine CV.of (cc := cX2_noteCount) (maxL := 3)  (by decide +kernel) rfl (Nat.le_of_ble_eq_true rfl) ?_
  intro p e s m args below meth c ls A0 Q hT hH hA hl hE
  obtain ⟨hx, hb, hr, hlocks, hnm, hml, hown, hts, hK, hN⟩ := hT
  have hl : lv_has ls 3 [(0, .ref (A 0)), (1, .int so), (2, .int now)] := hl
  have hi2 : ∀ w ∈ wsX20, w ∈ wsX2_noteCount := by decide +kernel
  refine lv_aload_n hx hb dX2_noteCount_0 rfl (lv_at hl 0 rfl) ?_
  refine lv_dup hx hb dX2_noteCount_1 rfl ?_
  refine x_get (v := .int (r 0 7)) (C := RX2) (T := TX2) (N := 16) hx hb hts hi2 hown hK hH.1 0 rfl rfl 7 (by decide) (hts (.fieldLink RX2 52 "PulseWheel$Reader" "place" "I") (by decide +kernel)) rfl rfl dX2_noteCount_2 ?_
  refine lv_iload_n hx hb dX2_noteCount_5 rfl (lv_at hl 1 rfl) ?_
  refine lv_iadd hx hb dX2_noteCount_6 ?_
  obtain ⟨r_1, er_1⟩ : ∃ z, z = up2 r 0 7 ((r 0 7) + so) := ⟨_, rfl⟩
  refine x_put (ws' := (readerW A cI r_1)) (v := .int ((r 0 7) + so)) (ty := .int) (C := RX2) (T := TX2) (N := 16) hx hb hts hi2 tyX2_ok nmX2 hown hK hH 0 rfl rfl 7 (by decide) (hts (.fieldLink RX2 52 "PulseWheel$Reader" "place" "I") (by decide +kernel)) rfl rfl rfl (rfl) (rfl) (Nat.le_of_ble_eq_true rfl) dX2_noteCount_7 (by rw [er_1]; rfl) (fun H locs hH => ?_)
  refine lv_aload_n hx hb dX2_noteCount_10 rfl (lv_at hl 0 rfl) ?_
  refine lv_dup hx hb dX2_noteCount_11 rfl ?_
  refine x_get (v := .int (r_1 0 8)) (C := RX2) (T := TX2) (N := 16) hx hb hts hi2 hown hK hH.1 0 rfl rfl 8 (by decide) (hts (.fieldLink RX2 55 "PulseWheel$Reader" "low" "I") (by decide +kernel)) rfl rfl dX2_noteCount_12 ?_
  refine x_top (y := r 0 8) (congrFun (congrFun er_1 0) 8) ?_
  refine lv_iload_n hx hb dX2_noteCount_15 rfl (lv_at hl 1 rfl) ?_
  refine lv_iadd hx hb dX2_noteCount_16 ?_
  obtain ⟨r_2, er_2⟩ : ∃ z, z = up2 r_1 0 8 ((r 0 8) + so) := ⟨_, rfl⟩
  refine x_put (ws' := (readerW A cI r_2)) (v := .int ((r 0 8) + so)) (ty := .int) (C := RX2) (T := TX2) (N := 16) hx hb hts hi2 tyX2_ok nmX2 hown hK hH 0 rfl rfl 8 (by decide) (hts (.fieldLink RX2 55 "PulseWheel$Reader" "low" "I") (by decide +kernel)) rfl rfl rfl (rfl) (rfl) (Nat.le_of_ble_eq_true rfl) dX2_noteCount_17 (by rw [er_2]; rfl) (fun H locs hH => ?_)
  refine lv_aload_n hx hb dX2_noteCount_20 rfl (lv_at hl 0 rfl) ?_
  refine lv_dup hx hb dX2_noteCount_21 rfl ?_
  refine x_get (v := .int (r_2 0 9)) (C := RX2) (T := TX2) (N := 16) hx hb hts hi2 hown hK hH.1 0 rfl rfl 9 (by decide) (hts (.fieldLink RX2 58 "PulseWheel$Reader" "high" "I") (by decide +kernel)) rfl rfl dX2_noteCount_22 ?_
  refine x_top (y := r 0 9) ((congrFun (congrFun er_2 0) 9).trans (congrFun (congrFun er_1 0) 9)) ?_
  refine lv_iload_n hx hb dX2_noteCount_25 rfl (lv_at hl 1 rfl) ?_
  refine lv_iadd hx hb dX2_noteCount_26 ?_
  obtain ⟨r_3, er_3⟩ : ∃ z, z = up2 r_2 0 9 ((r 0 9) + so) := ⟨_, rfl⟩
  refine x_put (ws' := (readerW A cI r_3)) (v := .int ((r 0 9) + so)) (ty := .int) (C := RX2) (T := TX2) (N := 16) hx hb hts hi2 tyX2_ok nmX2 hown hK hH 0 rfl rfl 9 (by decide) (hts (.fieldLink RX2 58 "PulseWheel$Reader" "high" "I") (by decide +kernel)) rfl rfl rfl (rfl) (rfl) (Nat.le_of_ble_eq_true rfl) dX2_noteCount_27 (by rw [er_3]; rfl) (fun H locs hH => ?_)
  refine lv_aload_n hx hb dX2_noteCount_30 rfl (lv_at hl 0 rfl) ?_
  refine x_get (v := .ref (A 3)) (C := RX2) (T := TX2) (N := 16) hx hb hts hi2 hown hK hH.1 0 rfl rfl 2 (by decide) (hts (.fieldLink RX2 21 "PulseWheel$Reader" "log" "LPulseWheel$EventLog;") (by decide +kernel)) rfl rfl dX2_noteCount_31 ?_
  refine lv_iload_n hx hb dX2_noteCount_34 rfl (lv_at hl 1 rfl) ?_
  refine lv_iload_n hx hb dX2_noteCount_35 rfl (lv_at hl 2 rfl) ?_
  refine lv_aload_n hx hb dX2_noteCount_36 rfl (lv_at hl 0 rfl) ?_
  refine x_get (v := .int (r_3 0 7)) (C := RX2) (T := TX2) (N := 16) hx hb hts hi2 hown hK hH.1 0 rfl rfl 7 (by decide) (hts (.fieldLink RX2 52 "PulseWheel$Reader" "place" "I") (by decide +kernel)) rfl rfl dX2_noteCount_37 ?_
  refine x_top (y := ((r 0 7) + so)) ((congrFun (congrFun er_3 0) 7).trans ((congrFun (congrFun er_2 0) 7).trans (congrFun (congrFun er_1 0) 7))) ?_
  obtain ⟨r_4, er_4⟩ : ∃ z, z = logAdd r_3 so now ((r 0 7) + so) := ⟨_, rfl⟩
  refine kCV (ws' := (readerW A cI r_4)) (va_runVN (As := [.int so, .int now, .int ((r 0 7) + so)]) (rest := []) ⟨hx, hb, hml, hown, hts⟩ (c_X1_add l D cI cB A r_3 so now ((r 0 7) + so)  _) ⟨va_cnB 3 hts gX2_noteCount_X1_add_n111 rfl rfl rfl (nwm2_111 (args := args) hN) (hts (.initialized RX1) (by decide +kernel)) (by decide +kernel) ⟨Nat.le_of_ble_eq_true rfl, Nat.le_of_ble_eq_true rfl⟩, hts (.instanceMethod yX1_add) (by decide +kernel), hts (.selects RX1 yX1_add yX1_add) (by decide +kernel)⟩ (preV_cut hH.1 hH.2.1 hK hN (ci := 1) rfl 3 rfl [3, 4, 5, 6] (by decide) rfl) rfl rfl hl.1 rfl (lv_room (Nat.le_of_ble_eq_true rfl)) dX2_noteCount_40 ⟨Nat.zero_le _, Nat.zero_le _⟩) hH hA [3, 4, 5, 6] rfl adr_log (by rw [er_4]; exact putL_reader_log.trans (congrArg (fun zz => (readerW A cI zz)) (sel_logAdd _ _ _ _))) (fun H locs hH => ?_)
  have hf_r : r_4 = noteCountV r so now := by subst er_4; subst er_3; subst er_2; subst er_1; rfl
  exact hE _ _ _ _ _ hH ((congrArg (fun zz => (readerW A cI zz)) hf_r)) dX2_noteCount_43

def rm_X2_noteChange : Room := { frames := 3, cells := 0, slots := 0, locals := 69 }
set_option maxHeartbeats 1000000 in
set_option maxRecDepth 100000 in
theorem c_X2_noteChange (l : Launch) (D : va_G) (cI cB : ClassId) (A : Nat → Nat) (r : Tb) (ph now : Int32) : CV l D cI cB yX2_noteChange wsX2_noteChange rm_X2_noteChange [.ref (A 0), .int ph, .int now] (readerW A cI r) (readerW A cI (noteChangeV r ph now)) := by
  refine CV.of (cc := cX2_noteChange) (maxL := 3)  (by decide +kernel) rfl (Nat.le_of_ble_eq_true rfl) ?_
  intro p e s m args below meth c ls A0 Q hT hH hA hl hE
  obtain ⟨hx, hb, hr, hlocks, hnm, hml, hown, hts, hK, hN⟩ := hT
  have hl : lv_has ls 3 [(0, .ref (A 0)), (1, .int ph), (2, .int now)] := hl
  have hi2 : ∀ w ∈ wsX20, w ∈ wsX2_noteChange := by decide +kernel
  refine lv_iload_n hx hb dX2_noteChange_0 rfl (lv_at hl 1 rfl) ?_
  refine lv_if_ne (tgt := 5) hx hb dX2_noteChange_1 (by decide) (fun c_1 => ?_) (fun c_1 => ?_)
  · skip
    refine lv_iload_n hx hb dX2_noteChange_5 rfl (lv_at hl 1 rfl) ?_
    refine lv_iconst (v := 1) hx hb dX2_noteChange_6 (by decide) ?_
    refine lv_icmp_ne (tgt := 19) hx hb dX2_noteChange_7 (by decide) (fun c_7 => ?_) (fun c_7 => ?_)
    · skip
      refine lv_iload_n hx hb dX2_noteChange_19 rfl (lv_at hl 1 rfl) ?_
      refine lv_iconst (v := 3) hx hb dX2_noteChange_20 (by decide) ?_
      refine lv_icmp_ne (tgt := 33) hx hb dX2_noteChange_21 (by decide) (fun c_21 => ?_) (fun c_21 => ?_)
      · skip
        refine lv_aload_n hx hb dX2_noteChange_33 rfl (lv_at hl 0 rfl) ?_
        refine lv_dup hx hb dX2_noteChange_34 rfl ?_
        refine x_get (v := .int (r 0 12)) (C := RX2) (T := TX2) (N := 16) hx hb hts hi2 hown hK hH.1 0 rfl rfl 12 (by decide) (hts (.fieldLink RX2 68 "PulseWheel$Reader" "faults" "I") (by decide +kernel)) rfl rfl dX2_noteChange_35 ?_
        refine lv_iconst (v := 1) hx hb dX2_noteChange_38 (by decide) ?_
        refine lv_iadd hx hb dX2_noteChange_39 ?_
        obtain ⟨r_1, er_1⟩ : ∃ z, z = up2 r 0 12 ((r 0 12) + 1) := ⟨_, rfl⟩
        refine x_put (ws' := (readerW A cI r_1)) (v := .int ((r 0 12) + 1)) (ty := .int) (C := RX2) (T := TX2) (N := 16) hx hb hts hi2 tyX2_ok nmX2 hown hK hH 0 rfl rfl 12 (by decide) (hts (.fieldLink RX2 68 "PulseWheel$Reader" "faults" "I") (by decide +kernel)) rfl rfl rfl (rfl) (rfl) (Nat.le_of_ble_eq_true rfl) dX2_noteChange_40 (by rw [er_1]; rfl) (fun H locs hH => ?_)
        refine lv_aload_n hx hb dX2_noteChange_43 rfl (lv_at hl 0 rfl) ?_
        refine lv_dup hx hb dX2_noteChange_44 rfl ?_
        refine x_get (v := .int (r_1 0 8)) (C := RX2) (T := TX2) (N := 16) hx hb hts hi2 hown hK hH.1 0 rfl rfl 8 (by decide) (hts (.fieldLink RX2 55 "PulseWheel$Reader" "low" "I") (by decide +kernel)) rfl rfl dX2_noteChange_45 ?_
        refine x_top (y := r 0 8) (congrFun (congrFun er_1 0) 8) ?_
        refine lv_iconst (v := 2) hx hb dX2_noteChange_48 (by decide) ?_
        refine lv_isub hx hb dX2_noteChange_49 ?_
        obtain ⟨r_2, er_2⟩ : ∃ z, z = up2 r_1 0 8 ((r 0 8) - 2) := ⟨_, rfl⟩
        refine x_put (ws' := (readerW A cI r_2)) (v := .int ((r 0 8) - 2)) (ty := .int) (C := RX2) (T := TX2) (N := 16) hx hb hts hi2 tyX2_ok nmX2 hown hK hH 0 rfl rfl 8 (by decide) (hts (.fieldLink RX2 55 "PulseWheel$Reader" "low" "I") (by decide +kernel)) rfl rfl rfl (rfl) (rfl) (Nat.le_of_ble_eq_true rfl) dX2_noteChange_50 (by rw [er_2]; rfl) (fun H locs hH => ?_)
        refine lv_aload_n hx hb dX2_noteChange_53 rfl (lv_at hl 0 rfl) ?_
        refine lv_dup hx hb dX2_noteChange_54 rfl ?_
        refine x_get (v := .int (r_2 0 9)) (C := RX2) (T := TX2) (N := 16) hx hb hts hi2 hown hK hH.1 0 rfl rfl 9 (by decide) (hts (.fieldLink RX2 58 "PulseWheel$Reader" "high" "I") (by decide +kernel)) rfl rfl dX2_noteChange_55 ?_
        refine x_top (y := r 0 9) ((congrFun (congrFun er_2 0) 9).trans (congrFun (congrFun er_1 0) 9)) ?_
        refine lv_iconst (v := 2) hx hb dX2_noteChange_58 (by decide) ?_
        refine lv_iadd hx hb dX2_noteChange_59 ?_
        obtain ⟨r_3, er_3⟩ : ∃ z, z = up2 r_2 0 9 ((r 0 9) + 2) := ⟨_, rfl⟩
        refine x_put (ws' := (readerW A cI r_3)) (v := .int ((r 0 9) + 2)) (ty := .int) (C := RX2) (T := TX2) (N := 16) hx hb hts hi2 tyX2_ok nmX2 hown hK hH 0 rfl rfl 9 (by decide) (hts (.fieldLink RX2 58 "PulseWheel$Reader" "high" "I") (by decide +kernel)) rfl rfl rfl (rfl) (rfl) (Nat.le_of_ble_eq_true rfl) dX2_noteChange_60 (by rw [er_3]; rfl) (fun H locs hH => ?_)
        refine lv_aload_n hx hb dX2_noteChange_63 rfl (lv_at hl 0 rfl) ?_
        refine x_get (v := .ref (A 3)) (C := RX2) (T := TX2) (N := 16) hx hb hts hi2 hown hK hH.1 0 rfl rfl 2 (by decide) (hts (.fieldLink RX2 21 "PulseWheel$Reader" "log" "LPulseWheel$EventLog;") (by decide +kernel)) rfl rfl dX2_noteChange_64 ?_
        refine lv_iconst (v := 0) hx hb dX2_noteChange_67 (by decide) ?_
        refine lv_iload_n hx hb dX2_noteChange_68 rfl (lv_at hl 2 rfl) ?_
        refine lv_aload_n hx hb dX2_noteChange_69 rfl (lv_at hl 0 rfl) ?_
        refine x_get (v := .int (r_3 0 7)) (C := RX2) (T := TX2) (N := 16) hx hb hts hi2 hown hK hH.1 0 rfl rfl 7 (by decide) (hts (.fieldLink RX2 52 "PulseWheel$Reader" "place" "I") (by decide +kernel)) rfl rfl dX2_noteChange_70 ?_
        refine x_top (y := r 0 7) ((congrFun (congrFun er_3 0) 7).trans ((congrFun (congrFun er_2 0) 7).trans (congrFun (congrFun er_1 0) 7))) ?_
        obtain ⟨r_4, er_4⟩ : ∃ z, z = logAdd r_3 0 now (r 0 7) := ⟨_, rfl⟩
        refine kCV (ws' := (readerW A cI r_4)) (va_runVN (As := [.int 0, .int now, .int (r 0 7)]) (rest := []) ⟨hx, hb, hml, hown, hts⟩ (c_X1_add l D cI cB A r_3 0 now (r 0 7)  _) ⟨va_cnB 3 hts gX2_noteChange_X1_add_n111 rfl rfl rfl (nwm2_111 (args := args) hN) (hts (.initialized RX1) (by decide +kernel)) (by decide +kernel) ⟨Nat.le_of_ble_eq_true rfl, Nat.le_of_ble_eq_true rfl⟩, hts (.instanceMethod yX1_add) (by decide +kernel), hts (.selects RX1 yX1_add yX1_add) (by decide +kernel)⟩ (preV_cut hH.1 hH.2.1 hK hN (ci := 1) rfl 3 rfl [3, 4, 5, 6] (by decide) rfl) rfl rfl hl.1 rfl (lv_room (Nat.le_of_ble_eq_true rfl)) dX2_noteChange_73 ⟨Nat.zero_le _, Nat.zero_le _⟩) hH hA [3, 4, 5, 6] rfl adr_log (by rw [er_4]; exact putL_reader_log.trans (congrArg (fun zz => (readerW A cI zz)) (sel_logAdd _ _ _ _))) (fun H locs hH => ?_)
        have hf_r : r_4 = noteChangeV r ph now := by subst er_4; subst er_3; subst er_2; subst er_1; first | rfl | (unfold noteChangeV; rw [if_neg c_1, if_neg c_7, if_neg c_21]; done) | (simp only [noteChangeV, if_neg c_1, if_neg c_7, if_neg c_21]; done) | (simp only [noteChangeV, c_1, c_7, c_21, if_true, if_false]; done) | (simp only [noteChangeV, c_1, c_7, c_21, if_true, if_false, not_true, not_false_iff, reduceIte]; done) | (exfalso; simp_all; done) | (simp [noteChangeV, c_1, c_7, c_21]; done) | (simp_all [noteChangeV]; done)
        exact hE _ _ _ _ _ hH ((congrArg (fun zz => (readerW A cI zz)) hf_r)) dX2_noteChange_76
      · skip
        refine lv_aload_n hx hb dX2_noteChange_24 rfl (lv_at hl 0 rfl) ?_
        refine lv_iconst (v := -1) hx hb dX2_noteChange_25 (by decide) ?_
        refine lv_iload_n hx hb dX2_noteChange_26 rfl (lv_at hl 2 rfl) ?_
        obtain ⟨r_5, er_5⟩ : ∃ z, z = noteCountV r (-1) now := ⟨_, rfl⟩
        refine kCV (ws' := (readerW A cI r_5)) (va_runV (As := [.int (-1), .int now]) (rest := []) ⟨hx, hb, hml, hown, hts⟩ (c_X2_noteCount l D cI cB A r (-1) now  _) (cwV 2 hts gX2_noteChange_X2_noteCount rfl rfl rfl (by decide +kernel) ⟨Nat.le_of_ble_eq_true rfl, Nat.le_of_ble_eq_true rfl⟩) (preV_cut hH.1 hH.2.1 hK hN (ci := 2) rfl 0 rfl [0, 1, 2, 3, 4, 5, 6, 7, 8] (by decide) rfl) rfl rfl hl.1 rfl (lv_room (Nat.le_of_ble_eq_true rfl)) dX2_noteChange_27 ⟨Nat.zero_le _, Nat.zero_le _⟩) hH hA [0, 1, 2, 3, 4, 5, 6, 7, 8] rfl adr_reader (by rw [er_5]; exact putL_reader_reader) (fun H locs hH => ?_)
        refine lv_goto (tgt := 76) hx hb dX2_noteChange_30 (by decide) ?_
        have hf_r : r_5 = noteChangeV r ph now := by subst er_5; first | rfl | (unfold noteChangeV; rw [if_neg c_1, if_neg c_7, if_pos c_21]; done) | (simp only [noteChangeV, if_neg c_1, if_neg c_7, if_pos c_21]; done) | (simp only [noteChangeV, c_1, c_7, c_21, if_true, if_false]; done) | (simp only [noteChangeV, c_1, c_7, c_21, if_true, if_false, not_true, not_false_iff, reduceIte]; done) | (exfalso; simp_all; done) | (simp [noteChangeV, c_1, c_7, c_21]; done) | (simp_all [noteChangeV]; done)
        exact hE _ _ _ _ _ hH ((congrArg (fun zz => (readerW A cI zz)) hf_r)) dX2_noteChange_76
    · skip
      refine lv_aload_n hx hb dX2_noteChange_10 rfl (lv_at hl 0 rfl) ?_
      refine lv_iconst (v := 1) hx hb dX2_noteChange_11 (by decide) ?_
      refine lv_iload_n hx hb dX2_noteChange_12 rfl (lv_at hl 2 rfl) ?_
      obtain ⟨r_6, er_6⟩ : ∃ z, z = noteCountV r 1 now := ⟨_, rfl⟩
      refine kCV (ws' := (readerW A cI r_6)) (va_runV (As := [.int 1, .int now]) (rest := []) ⟨hx, hb, hml, hown, hts⟩ (c_X2_noteCount l D cI cB A r 1 now  _) (cwV 2 hts gX2_noteChange_X2_noteCount rfl rfl rfl (by decide +kernel) ⟨Nat.le_of_ble_eq_true rfl, Nat.le_of_ble_eq_true rfl⟩) (preV_cut hH.1 hH.2.1 hK hN (ci := 2) rfl 0 rfl [0, 1, 2, 3, 4, 5, 6, 7, 8] (by decide) rfl) rfl rfl hl.1 rfl (lv_room (Nat.le_of_ble_eq_true rfl)) dX2_noteChange_13 ⟨Nat.zero_le _, Nat.zero_le _⟩) hH hA [0, 1, 2, 3, 4, 5, 6, 7, 8] rfl adr_reader (by rw [er_6]; exact putL_reader_reader) (fun H locs hH => ?_)
      refine lv_goto (tgt := 76) hx hb dX2_noteChange_16 (by decide) ?_
      have hf_r : r_6 = noteChangeV r ph now := by subst er_6; first | rfl | (unfold noteChangeV; rw [if_neg c_1, if_pos c_7]; done) | (simp only [noteChangeV, if_neg c_1, if_pos c_7]; done) | (simp only [noteChangeV, c_1, c_7, if_true, if_false]; done) | (simp only [noteChangeV, c_1, c_7, if_true, if_false, not_true, not_false_iff, reduceIte]; done) | (exfalso; simp_all; done) | (simp [noteChangeV, c_1, c_7]; done) | (simp_all [noteChangeV]; done)
      exact hE _ _ _ _ _ hH ((congrArg (fun zz => (readerW A cI zz)) hf_r)) dX2_noteChange_76
  · skip
    have hf_r : r = noteChangeV r ph now := by first | rfl | (unfold noteChangeV; rw [if_pos c_1]; done) | (simp only [noteChangeV, if_pos c_1]; done) | (simp only [noteChangeV, c_1, if_true, if_false]; done) | (simp only [noteChangeV, c_1, if_true, if_false, not_true, not_false_iff, reduceIte]; done) | (exfalso; simp_all; done) | (simp [noteChangeV, c_1]; done) | (simp_all [noteChangeV]; done)
    exact hE _ _ _ _ _ hH ((congrArg (fun zz => (readerW A cI zz)) hf_r)) dX2_noteChange_4

def rm_X2_mend : Room := { frames := 1, cells := 0, slots := 0, locals := 22 }
set_option maxHeartbeats 1000000 in
set_option maxRecDepth 100000 in
theorem c_X2_mend (l : Launch) (D : va_G) (cI cB : ClassId) (A : Nat → Nat) (r : Tb) (h5 : ¬ r 0 5 = 0) : CV l D cI cB yX2_mend wsX2_mend rm_X2_mend [.ref (A 0)] (readerW A cI r) (readerW A cI (mendV r)) := by
  refine CV.of (cc := cX2_mend) (maxL := 2)  (by decide +kernel) rfl (Nat.le_of_ble_eq_true rfl) ?_
  intro p e s m args below meth c ls A0 Q hT hH hA hl hE
  obtain ⟨hx, hb, hr, hlocks, hnm, hml, hown, hts, hK, hN⟩ := hT
  have hl : lv_has ls 2 [(0, .ref (A 0))] := hl
  have hi2 : ∀ w ∈ wsX20, w ∈ wsX2_mend := by decide +kernel
  refine lv_aload_n hx hb dX2_mend_0 rfl (lv_at hl 0 rfl) ?_
  refine x_get (v := .int (r 0 9)) (C := RX2) (T := TX2) (N := 16) hx hb hts hi2 hown hK hH.1 0 rfl rfl 9 (by decide) (hts (.fieldLink RX2 58 "PulseWheel$Reader" "high" "I") (by decide +kernel)) rfl rfl dX2_mend_1 ?_
  refine lv_aload_n hx hb dX2_mend_4 rfl (lv_at hl 0 rfl) ?_
  refine x_get (v := .int (r 0 9)) (C := RX2) (T := TX2) (N := 16) hx hb hts hi2 hown hK hH.1 0 rfl rfl 9 (by decide) (hts (.fieldLink RX2 58 "PulseWheel$Reader" "high" "I") (by decide +kernel)) rfl rfl dX2_mend_5 ?_
  refine lv_aload_n hx hb dX2_mend_8 rfl (lv_at hl 0 rfl) ?_
  refine x_get (v := .int (r 0 11)) (C := RX2) (T := TX2) (N := 16) hx hb hts hi2 hown hK hH.1 0 rfl rfl 11 (by decide) (hts (.fieldLink RX2 65 "PulseWheel$Reader" "originPlace" "I") (by decide +kernel)) rfl rfl dX2_mend_9 ?_
  refine lv_isub hx hb dX2_mend_12 ?_
  refine lv_aload_n hx hb dX2_mend_13 rfl (lv_at hl 0 rfl) ?_
  refine x_get (v := .int (r 0 5)) (C := RX2) (T := TX2) (N := 16) hx hb hts hi2 hown hK hH.1 0 rfl rfl 5 (by decide) (hts (.fieldLink RX2 36 "PulseWheel$Reader" "turnCounts" "I") (by decide +kernel)) rfl rfl dX2_mend_14 ?_
  refine kSI (va_runS (As := [.int ((r 0 9) - (r 0 11)), .int (r 0 5)]) (rest := [.int (r 0 9)]) ⟨hx, hb, hml, hown, hts⟩ (c_J9_floorMod_7cf53 l D cI cB ((r 0 9) - (r 0 11)) (r 0 5) h5 _) (va_cwS 2 hts gX2_mend_J9_floorMod_7cf53 rfl rfl rfl (by decide +kernel) ⟨Nat.le_of_ble_eq_true rfl, Nat.le_of_ble_eq_true rfl⟩) (preS_nil hK hN) rfl rfl hl.1 rfl (lv_room (Nat.le_of_ble_eq_true rfl)) dX2_mend_17 ⟨Nat.zero_le _, Nat.zero_le _⟩) ?_
  refine lv_isub hx hb dX2_mend_20 ?_
  refine x_top (y := markV r) (rfl) ?_
  refine lv_istore_n (lv' := [(1, .int (markV r)), (0, .ref (A 0))]) hx hb dX2_mend_21 rfl hl (by decide) rfl (fun ls hl => ?_)
  refine lv_iload_n hx hb dX2_mend_22 rfl (lv_at hl 0 rfl) ?_
  refine lv_aload_n hx hb dX2_mend_23 rfl (lv_at hl 1 rfl) ?_
  refine x_get (v := .int (r 0 8)) (C := RX2) (T := TX2) (N := 16) hx hb hts hi2 hown hK hH.1 0 rfl rfl 8 (by decide) (hts (.fieldLink RX2 55 "PulseWheel$Reader" "low" "I") (by decide +kernel)) rfl rfl dX2_mend_24 ?_
  refine lv_icmp_ge (tgt := 43) hx hb dX2_mend_27 (by decide) (fun c_27 => ?_) (fun c_27 => ?_)
  · skip
    refine lv_iload_n hx hb dX2_mend_43 rfl (lv_at hl 0 rfl) ?_
    refine lv_aload_n hx hb dX2_mend_44 rfl (lv_at hl 1 rfl) ?_
    refine x_get (v := .int (r 0 5)) (C := RX2) (T := TX2) (N := 16) hx hb hts hi2 hown hK hH.1 0 rfl rfl 5 (by decide) (hts (.fieldLink RX2 36 "PulseWheel$Reader" "turnCounts" "I") (by decide +kernel)) rfl rfl dX2_mend_45 ?_
    refine lv_isub hx hb dX2_mend_48 ?_
    refine lv_aload_n hx hb dX2_mend_49 rfl (lv_at hl 1 rfl) ?_
    refine x_get (v := .int (r 0 8)) (C := RX2) (T := TX2) (N := 16) hx hb hts hi2 hown hK hH.1 0 rfl rfl 8 (by decide) (hts (.fieldLink RX2 55 "PulseWheel$Reader" "low" "I") (by decide +kernel)) rfl rfl dX2_mend_50 ?_
    refine lv_icmp_ge (tgt := 71) hx hb dX2_mend_53 (by decide) (fun c_53 => ?_) (fun c_53 => ?_)
    · skip
      have hf_r : r = mendV r := by first | rfl | (unfold mendV; rw [if_pos c_27, if_pos c_53]; done) | (simp only [mendV, if_pos c_27, if_pos c_53]; done) | (simp only [mendV, c_27, c_53, if_true, if_false]; done) | (simp only [mendV, c_27, c_53, if_true, if_false, not_true, not_false_iff, reduceIte]; done) | (exfalso; simp_all; done) | (simp [mendV, c_27, c_53]; done) | (simp_all [mendV]; done)
      exact hE _ _ _ _ _ hH ((congrArg (fun zz => (readerW A cI zz)) hf_r)) dX2_mend_71
    · skip
      refine lv_aload_n hx hb dX2_mend_56 rfl (lv_at hl 1 rfl) ?_
      refine lv_iload_n hx hb dX2_mend_57 rfl (lv_at hl 0 rfl) ?_
      obtain ⟨r_1, er_1⟩ : ∃ z, z = up2 r 0 7 (markV r) := ⟨_, rfl⟩
      refine x_put (ws' := (readerW A cI r_1)) (v := .int (markV r)) (ty := .int) (C := RX2) (T := TX2) (N := 16) hx hb hts hi2 tyX2_ok nmX2 hown hK hH 0 rfl rfl 7 (by decide) (hts (.fieldLink RX2 52 "PulseWheel$Reader" "place" "I") (by decide +kernel)) rfl rfl rfl (rfl) (rfl) (Nat.le_of_ble_eq_true rfl) dX2_mend_58 (by rw [er_1]; rfl) (fun H locs hH => ?_)
      refine lv_aload_n hx hb dX2_mend_61 rfl (lv_at hl 1 rfl) ?_
      refine lv_iload_n hx hb dX2_mend_62 rfl (lv_at hl 0 rfl) ?_
      obtain ⟨r_2, er_2⟩ : ∃ z, z = up2 r_1 0 8 (markV r) := ⟨_, rfl⟩
      refine x_put (ws' := (readerW A cI r_2)) (v := .int (markV r)) (ty := .int) (C := RX2) (T := TX2) (N := 16) hx hb hts hi2 tyX2_ok nmX2 hown hK hH 0 rfl rfl 8 (by decide) (hts (.fieldLink RX2 55 "PulseWheel$Reader" "low" "I") (by decide +kernel)) rfl rfl rfl (rfl) (rfl) (Nat.le_of_ble_eq_true rfl) dX2_mend_63 (by rw [er_2]; rfl) (fun H locs hH => ?_)
      refine lv_aload_n hx hb dX2_mend_66 rfl (lv_at hl 1 rfl) ?_
      refine lv_iload_n hx hb dX2_mend_67 rfl (lv_at hl 0 rfl) ?_
      obtain ⟨r_3, er_3⟩ : ∃ z, z = up2 r_2 0 9 (markV r) := ⟨_, rfl⟩
      refine x_put (ws' := (readerW A cI r_3)) (v := .int (markV r)) (ty := .int) (C := RX2) (T := TX2) (N := 16) hx hb hts hi2 tyX2_ok nmX2 hown hK hH 0 rfl rfl 9 (by decide) (hts (.fieldLink RX2 58 "PulseWheel$Reader" "high" "I") (by decide +kernel)) rfl rfl rfl (rfl) (rfl) (Nat.le_of_ble_eq_true rfl) dX2_mend_68 (by rw [er_3]; rfl) (fun H locs hH => ?_)
      have hf_r : r_3 = mendV r := by subst er_3; subst er_2; subst er_1; first | rfl | (unfold mendV; rw [if_pos c_27, if_neg c_53]; done) | (simp only [mendV, if_pos c_27, if_neg c_53]; done) | (simp only [mendV, c_27, c_53, if_true, if_false]; done) | (simp only [mendV, c_27, c_53, if_true, if_false, not_true, not_false_iff, reduceIte]; done) | (exfalso; simp_all; done) | (simp [mendV, c_27, c_53]; done) | (simp_all [mendV]; done)
      exact hE _ _ _ _ _ hH ((congrArg (fun zz => (readerW A cI zz)) hf_r)) dX2_mend_71
  · skip
    refine lv_aload_n hx hb dX2_mend_30 rfl (lv_at hl 1 rfl) ?_
    refine lv_dup hx hb dX2_mend_31 rfl ?_
    refine x_get (v := .int (r 0 13)) (C := RX2) (T := TX2) (N := 16) hx hb hts hi2 hown hK hH.1 0 rfl rfl 13 (by decide) (hts (.fieldLink RX2 71 "PulseWheel$Reader" "slips" "I") (by decide +kernel)) rfl rfl dX2_mend_32 ?_
    refine lv_iconst (v := 1) hx hb dX2_mend_35 (by decide) ?_
    refine lv_iadd hx hb dX2_mend_36 ?_
    obtain ⟨r_4, er_4⟩ : ∃ z, z = up2 r 0 13 ((r 0 13) + 1) := ⟨_, rfl⟩
    refine x_put (ws' := (readerW A cI r_4)) (v := .int ((r 0 13) + 1)) (ty := .int) (C := RX2) (T := TX2) (N := 16) hx hb hts hi2 tyX2_ok nmX2 hown hK hH 0 rfl rfl 13 (by decide) (hts (.fieldLink RX2 71 "PulseWheel$Reader" "slips" "I") (by decide +kernel)) rfl rfl rfl (rfl) (rfl) (Nat.le_of_ble_eq_true rfl) dX2_mend_37 (by rw [er_4]; rfl) (fun H locs hH => ?_)
    refine lv_goto (tgt := 71) hx hb dX2_mend_40 (by decide) ?_
    have hf_r : r_4 = mendV r := by subst er_4; first | rfl | (unfold mendV; rw [if_neg c_27]; done) | (simp only [mendV, if_neg c_27]; done) | (simp only [mendV, c_27, if_true, if_false]; done) | (simp only [mendV, c_27, if_true, if_false, not_true, not_false_iff, reduceIte]; done) | (exfalso; simp_all; done) | (simp [mendV, c_27]; done) | (simp_all [mendV]; done)
    exact hE _ _ _ _ _ hH ((congrArg (fun zz => (readerW A cI zz)) hf_r)) dX2_mend_71

def rm_X2_heedMark : Room := { frames := 2, cells := 0, slots := 0, locals := 43 }
set_option maxHeartbeats 1000000 in
set_option maxRecDepth 100000 in
theorem c_X2_heedMark (l : Launch) (D : va_G) (cI cB : ClassId) (A : Nat → Nat) (r : Tb) (h5 : ¬ r 0 5 = 0) : CV l D cI cB yX2_heedMark wsX2_heedMark rm_X2_heedMark [.ref (A 0)] (readerW A cI r) (readerW A cI (heedV r)) := by
  refine CV.of (cc := cX2_heedMark) (maxL := 1)  (by decide +kernel) rfl (Nat.le_of_ble_eq_true rfl) ?_
  intro p e s m args below meth c ls A0 Q hT hH hA hl hE
  obtain ⟨hx, hb, hr, hlocks, hnm, hml, hown, hts, hK, hN⟩ := hT
  have hl : lv_has ls 1 [(0, .ref (A 0))] := hl
  have hi2 : ∀ w ∈ wsX20, w ∈ wsX2_heedMark := by decide +kernel
  refine lv_aload_n hx hb dX2_heedMark_0 rfl (lv_at hl 0 rfl) ?_
  refine x_get (v := .int (r 0 10)) (C := RX2) (T := TX2) (N := 16) hx hb hts hi2 hown hK hH.1 0 rfl rfl 10 (by decide) (hts (.fieldLink RX2 61 "PulseWheel$Reader" "hasOrigin" "Z") (by decide +kernel)) rfl rfl dX2_heedMark_1 ?_
  refine lv_if_eq (tgt := 14) hx hb dX2_heedMark_4 (by decide) (fun c_4 => ?_) (fun c_4 => ?_)
  · skip
    refine lv_aload_n hx hb dX2_heedMark_14 rfl (lv_at hl 0 rfl) ?_
    refine x_get (v := .int (r 0 8)) (C := RX2) (T := TX2) (N := 16) hx hb hts hi2 hown hK hH.1 0 rfl rfl 8 (by decide) (hts (.fieldLink RX2 55 "PulseWheel$Reader" "low" "I") (by decide +kernel)) rfl rfl dX2_heedMark_15 ?_
    refine lv_aload_n hx hb dX2_heedMark_18 rfl (lv_at hl 0 rfl) ?_
    refine x_get (v := .int (r 0 9)) (C := RX2) (T := TX2) (N := 16) hx hb hts hi2 hown hK hH.1 0 rfl rfl 9 (by decide) (hts (.fieldLink RX2 58 "PulseWheel$Reader" "high" "I") (by decide +kernel)) rfl rfl dX2_heedMark_19 ?_
    refine lv_icmp_ne (tgt := 38) hx hb dX2_heedMark_22 (by decide) (fun c_22 => ?_) (fun c_22 => ?_)
    · skip
      have hf_r : r = heedV r := by first | rfl | (unfold heedV; rw [if_pos c_4, if_neg c_22]; done) | (simp only [heedV, if_pos c_4, if_neg c_22]; done) | (simp only [heedV, c_4, c_22, if_true, if_false]; done) | (simp only [heedV, c_4, c_22, if_true, if_false, not_true, not_false_iff, reduceIte]; done) | (exfalso; simp_all; done) | (simp [heedV, c_4, c_22]; done) | (simp_all [heedV]; done)
      exact hE _ _ _ _ _ hH ((congrArg (fun zz => (readerW A cI zz)) hf_r)) dX2_heedMark_38
    · skip
      refine lv_aload_n hx hb dX2_heedMark_25 rfl (lv_at hl 0 rfl) ?_
      refine lv_iconst (v := 1) hx hb dX2_heedMark_26 (by decide) ?_
      obtain ⟨r_1, er_1⟩ : ∃ z, z = up2 r 0 10 1 := ⟨_, rfl⟩
      refine x_put (ws' := (readerW A cI r_1)) (v := .int 1) (ty := .boolean) (C := RX2) (T := TX2) (N := 16) hx hb hts hi2 tyX2_ok nmX2 hown hK hH 0 rfl rfl 10 (by decide) (hts (.fieldLink RX2 61 "PulseWheel$Reader" "hasOrigin" "Z") (by decide +kernel)) rfl rfl rfl (rfl) (rfl) (Nat.le_of_ble_eq_true rfl) dX2_heedMark_27 (by rw [er_1]; rfl) (fun H locs hH => ?_)
      refine lv_aload_n hx hb dX2_heedMark_30 rfl (lv_at hl 0 rfl) ?_
      refine lv_aload_n hx hb dX2_heedMark_31 rfl (lv_at hl 0 rfl) ?_
      refine x_get (v := .int (r_1 0 7)) (C := RX2) (T := TX2) (N := 16) hx hb hts hi2 hown hK hH.1 0 rfl rfl 7 (by decide) (hts (.fieldLink RX2 52 "PulseWheel$Reader" "place" "I") (by decide +kernel)) rfl rfl dX2_heedMark_32 ?_
      refine x_top (y := r 0 7) (congrFun (congrFun er_1 0) 7) ?_
      obtain ⟨r_2, er_2⟩ : ∃ z, z = up2 r_1 0 11 (r 0 7) := ⟨_, rfl⟩
      refine x_put (ws' := (readerW A cI r_2)) (v := .int (r 0 7)) (ty := .int) (C := RX2) (T := TX2) (N := 16) hx hb hts hi2 tyX2_ok nmX2 hown hK hH 0 rfl rfl 11 (by decide) (hts (.fieldLink RX2 65 "PulseWheel$Reader" "originPlace" "I") (by decide +kernel)) rfl rfl rfl (rfl) (rfl) (Nat.le_of_ble_eq_true rfl) dX2_heedMark_35 (by rw [er_2]; rfl) (fun H locs hH => ?_)
      have hf_r : r_2 = heedV r := by subst er_2; subst er_1; first | rfl | (unfold heedV; rw [if_pos c_4, if_pos c_22]; done) | (simp only [heedV, if_pos c_4, if_pos c_22]; done) | (simp only [heedV, c_4, c_22, if_true, if_false]; done) | (simp only [heedV, c_4, c_22, if_true, if_false, not_true, not_false_iff, reduceIte]; done) | (exfalso; simp_all; done) | (simp [heedV, c_4, c_22]; done) | (simp_all [heedV]; done)
      exact hE _ _ _ _ _ hH ((congrArg (fun zz => (readerW A cI zz)) hf_r)) dX2_heedMark_38
  · skip
    refine lv_aload_n hx hb dX2_heedMark_7 rfl (lv_at hl 0 rfl) ?_
    obtain ⟨r_3, er_3⟩ : ∃ z, z = mendV r := ⟨_, rfl⟩
    refine kCV (ws' := (readerW A cI r_3)) (va_runV (As := []) (rest := []) ⟨hx, hb, hml, hown, hts⟩ (c_X2_mend l D cI cB A r h5 _) (cwV 0 hts gX2_heedMark_X2_mend rfl rfl rfl (by decide +kernel) ⟨Nat.le_of_ble_eq_true rfl, Nat.le_of_ble_eq_true rfl⟩) (preV_cut hH.1 hH.2.1 hK hN (ci := 2) rfl 0 rfl [0, 1, 2, 3, 4, 5, 6, 7, 8] (by decide) rfl) rfl rfl hl.1 rfl (lv_room (Nat.le_of_ble_eq_true rfl)) dX2_heedMark_8 ⟨Nat.zero_le _, Nat.zero_le _⟩) hH hA [0, 1, 2, 3, 4, 5, 6, 7, 8] rfl adr_reader (by rw [er_3]; exact putL_reader_reader) (fun H locs hH => ?_)
    refine lv_goto (tgt := 38) hx hb dX2_heedMark_11 (by decide) ?_
    have hf_r : r_3 = heedV r := by subst er_3; first | rfl | (unfold heedV; rw [if_neg c_4]; done) | (simp only [heedV, if_neg c_4]; done) | (simp only [heedV, c_4, if_true, if_false]; done) | (simp only [heedV, c_4, if_true, if_false, not_true, not_false_iff, reduceIte]; done) | (exfalso; simp_all; done) | (simp [heedV, c_4]; done) | (simp_all [heedV]; done)
    exact hE _ _ _ _ _ hH ((congrArg (fun zz => (readerW A cI zz)) hf_r)) dX2_heedMark_38

def rm_X2_notePlace : Room := { frames := 1, cells := 0, slots := 0, locals := 22 }
set_option maxHeartbeats 1000000 in
set_option maxRecDepth 100000 in
theorem c_X2_notePlace (l : Launch) (D : va_G) (cI cB : ClassId) (A : Nat → Nat) (r : Tb) (now : Int32) : CV l D cI cB yX2_notePlace wsX2_notePlace rm_X2_notePlace [.ref (A 0), .int now] (readerW A cI r) (readerW A cI (notePlaceV r now)) := by
  refine CV.of (cc := cX2_notePlace) (maxL := 2)  (by decide +kernel) rfl (Nat.le_of_ble_eq_true rfl) ?_
  intro p e s m args below meth c ls A0 Q hT hH hA hl hE
  obtain ⟨hx, hb, hr, hlocks, hnm, hml, hown, hts, hK, hN⟩ := hT
  have hl : lv_has ls 2 [(0, .ref (A 0)), (1, .int now)] := hl
  have hi2 : ∀ w ∈ wsX20, w ∈ wsX2_notePlace := by decide +kernel
  refine lv_aload_n hx hb dX2_notePlace_0 rfl (lv_at hl 0 rfl) ?_
  refine x_get (v := .ref (A 2)) (C := RX2) (T := TX2) (N := 16) hx hb hts hi2 hown hK hH.1 0 rfl rfl 1 (by decide) (hts (.fieldLink RX2 15 "PulseWheel$Reader" "path" "[I") (by decide +kernel)) rfl rfl dX2_notePlace_1 ?_
  refine lv_iload_n hx hb dX2_notePlace_4 rfl (lv_at hl 1 rfl) ?_
  refine lv_aload_n hx hb dX2_notePlace_5 rfl (lv_at hl 0 rfl) ?_
  refine x_get (v := .ref (A 2)) (C := RX2) (T := TX2) (N := 16) hx hb hts hi2 hown hK hH.1 0 rfl rfl 1 (by decide) (hts (.fieldLink RX2 15 "PulseWheel$Reader" "path" "[I") (by decide +kernel)) rfl rfl dX2_notePlace_6 ?_
  refine x_alen (v := 501) hx hb hK hH.1 2 rfl rfl dX2_notePlace_9 ?_
  refine kSI (va_runS (As := [.int now, .int 501]) (rest := [.ref (A 2)]) ⟨hx, hb, hml, hown, hts⟩ (c_J9_floorMod_7cf53 l D cI cB now 501 (by decide) _) (va_cwS 2 hts gX2_notePlace_J9_floorMod_7cf53 rfl rfl rfl (by decide +kernel) ⟨Nat.le_of_ble_eq_true rfl, Nat.le_of_ble_eq_true rfl⟩) (preS_nil hK hN) rfl rfl hl.1 rfl (lv_room (Nat.le_of_ble_eq_true rfl)) dX2_notePlace_10 ⟨Nat.zero_le _, Nat.zero_le _⟩) ?_
  refine x_top (y := nI (pathN now)) ((path_ok now).1) ?_
  refine lv_aload_n hx hb dX2_notePlace_13 rfl (lv_at hl 0 rfl) ?_
  refine x_get (v := .int (r 0 7)) (C := RX2) (T := TX2) (N := 16) hx hb hts hi2 hown hK hH.1 0 rfl rfl 7 (by decide) (hts (.fieldLink RX2 52 "PulseWheel$Reader" "place" "I") (by decide +kernel)) rfl rfl dX2_notePlace_14 ?_
  have hq_1 := ix_in (i := (nI (pathN now))) (n := 501) (pathN now) (rfl) ((path_ok now).2) (by decide)
  obtain ⟨r_2, er_2⟩ : ∃ z, z = up2 r 2 (pathN now) (r 0 7) := ⟨_, rfl⟩
  refine x_ist (ws' := (readerW A cI r_2)) hx hb hK hH 2 rfl hq_1.1 hq_1.2 dX2_notePlace_17 (by rw [er_2]; rfl) (fun H locs hH => ?_)
  have hf_r : r_2 = notePlaceV r now := by subst er_2; rfl
  exact hE _ _ _ _ _ hH ((congrArg (fun zz => (readerW A cI zz)) hf_r)) dX2_notePlace_18

def rm_X2_placeAfter : Room := { frames := 1, cells := 0, slots := 0, locals := 22 }
set_option maxHeartbeats 1000000 in
set_option maxRecDepth 100000 in
theorem c_X2_placeAfter (l : Launch) (D : va_G) (cI cB : ClassId) (A : Nat → Nat) (r : Tb) (tk : Int32) : SI l D cI cB yX2_placeAfter wsX2_placeAfter rm_X2_placeAfter [.ref (A 0), .int tk] (readerW A cI r) (r 2 (pathN tk)) := by
  refine SI.of (cc := cX2_placeAfter) (maxL := 2) (ty := .int) (by decide +kernel) rfl (Nat.le_of_ble_eq_true rfl) ?_
  intro p e s m args below meth c ls Q hT hP hD hl hE
  obtain ⟨hx, hb, hr, hlocks, hnm, hml, hown, hts, hK, hN⟩ := hT
  have hl : lv_has ls 2 [(0, .ref (A 0)), (1, .int tk)] := hl
  have hi2 : ∀ w ∈ wsX20, w ∈ wsX2_placeAfter := by decide +kernel
  refine lv_aload_n hx hb dX2_placeAfter_0 rfl (lv_at hl 0 rfl) ?_
  refine x_get (v := .ref (A 2)) (C := RX2) (T := TX2) (N := 16) hx hb hts hi2 hown hK hP 0 rfl rfl 1 (by decide) (hts (.fieldLink RX2 15 "PulseWheel$Reader" "path" "[I") (by decide +kernel)) rfl rfl dX2_placeAfter_1 ?_
  refine lv_iload_n hx hb dX2_placeAfter_4 rfl (lv_at hl 1 rfl) ?_
  refine lv_aload_n hx hb dX2_placeAfter_5 rfl (lv_at hl 0 rfl) ?_
  refine x_get (v := .ref (A 2)) (C := RX2) (T := TX2) (N := 16) hx hb hts hi2 hown hK hP 0 rfl rfl 1 (by decide) (hts (.fieldLink RX2 15 "PulseWheel$Reader" "path" "[I") (by decide +kernel)) rfl rfl dX2_placeAfter_6 ?_
  refine x_alen (v := 501) hx hb hK hP 2 rfl rfl dX2_placeAfter_9 ?_
  refine kSI (va_runS (As := [.int tk, .int 501]) (rest := [.ref (A 2)]) ⟨hx, hb, hml, hown, hts⟩ (c_J9_floorMod_7cf53 l D cI cB tk 501 (by decide) _) (va_cwS 2 hts gX2_placeAfter_J9_floorMod_7cf53 rfl rfl rfl (by decide +kernel) ⟨Nat.le_of_ble_eq_true rfl, Nat.le_of_ble_eq_true rfl⟩) (preS_nil hK hN) rfl rfl hl.1 rfl (lv_room (Nat.le_of_ble_eq_true rfl)) dX2_placeAfter_10 ⟨Nat.zero_le _, Nat.zero_le _⟩) ?_
  refine x_top (y := nI (pathN tk)) ((path_ok tk).1) ?_
  have hq_1 := ix_in (i := (nI (pathN tk))) (n := 501) (pathN tk) (rfl) ((path_ok tk).2) (by decide)
  refine x_ild (v := r 2 (pathN tk)) hx hb hK hP 2 rfl hq_1.1 (by rw [hq_1.2]) dX2_placeAfter_13 ?_
  exact hE _ _ _ (by rfl) rfl dX2_placeAfter_14

def rm_X2_beginAnew : Room := { frames := 2, cells := 0, slots := 0, locals := 43 }
set_option maxHeartbeats 1000000 in
set_option maxRecDepth 100000 in
theorem c_X2_beginAnew (l : Launch) (D : va_G) (cI cB : ClassId) (A : Nat → Nat) (r : Tb) (now : Int32) : CV l D cI cB yX2_beginAnew wsX2_beginAnew rm_X2_beginAnew [.ref (A 0), .int now] (readerW A cI r) (readerW A cI (anewV r now)) := by
  refine CV.of (cc := cX2_beginAnew) (maxL := 2)  (by decide +kernel) rfl (Nat.le_of_ble_eq_true rfl) ?_
  intro p e s m args below meth c ls A0 Q hT hH hA hl hE
  obtain ⟨hx, hb, hr, hlocks, hnm, hml, hown, hts, hK, hN⟩ := hT
  have hl : lv_has ls 2 [(0, .ref (A 0)), (1, .int now)] := hl
  have hi2 : ∀ w ∈ wsX20, w ∈ wsX2_beginAnew := by decide +kernel
  refine lv_aload_n hx hb dX2_beginAnew_0 rfl (lv_at hl 0 rfl) ?_
  refine x_get (v := .ref (A 1)) (C := RX2) (T := TX2) (N := 16) hx hb hts hi2 hown hK hH.1 0 rfl rfl 0 (by decide) (hts (.fieldLink RX2 9 "PulseWheel$Reader" "runs" "[I") (by decide +kernel)) rfl rfl dX2_beginAnew_1 ?_
  refine lv_iconst (v := 0) hx hb dX2_beginAnew_4 (by decide) ?_
  obtain ⟨r_1, er_1⟩ : ∃ z, z = up1 r 1 (fillV 3 0 (r 1)) := ⟨_, rfl⟩
  refine kCV (ws' := (readerW A cI r_1)) (va_runS (As := [.ref (A 1), .int 0]) (rest := []) ⟨hx, hb, hml, hown, hts⟩ (c_J7_fill_53178 l D cI cB (A 1) 3 (r 1) 0 (by decide) _) (va_cwS 2 hts gX2_beginAnew_J7_fill_53178 rfl rfl rfl (by decide +kernel) ⟨Nat.le_of_ble_eq_true rfl, Nat.le_of_ble_eq_true rfl⟩) (preS_cut hH.1 hH.2.1 hK hN [1] (by decide) rfl) rfl rfl hl.1 rfl (lv_room (Nat.le_of_ble_eq_true rfl)) dX2_beginAnew_5 ⟨Nat.zero_le _, Nat.zero_le _⟩) hH hA [1] rfl adr_arr (by rw [er_1]; rfl) (fun H locs hH => ?_)
  refine lv_aload_n hx hb dX2_beginAnew_8 rfl (lv_at hl 0 rfl) ?_
  refine x_get (v := .ref (A 3)) (C := RX2) (T := TX2) (N := 16) hx hb hts hi2 hown hK hH.1 0 rfl rfl 2 (by decide) (hts (.fieldLink RX2 21 "PulseWheel$Reader" "log" "LPulseWheel$EventLog;") (by decide +kernel)) rfl rfl dX2_beginAnew_9 ?_
  obtain ⟨r_2, er_2⟩ : ∃ z, z = logForget r_1 := ⟨_, rfl⟩
  refine kCV (ws' := (readerW A cI r_2)) (va_runVN (As := []) (rest := []) ⟨hx, hb, hml, hown, hts⟩ (c_X1_forget l D cI cB A r_1  _) ⟨va_cnB 0 hts gX2_beginAnew_X1_forget_n45 rfl rfl rfl (nwm2_45 (args := args) hN) (hts (.initialized RX1) (by decide +kernel)) (by decide +kernel) ⟨Nat.le_of_ble_eq_true rfl, Nat.le_of_ble_eq_true rfl⟩, hts (.instanceMethod yX1_forget) (by decide +kernel), hts (.selects RX1 yX1_forget yX1_forget) (by decide +kernel)⟩ (preV_cut hH.1 hH.2.1 hK hN (ci := 1) rfl 3 rfl [3, 4, 5, 6] (by decide) rfl) rfl rfl hl.1 rfl (lv_room (Nat.le_of_ble_eq_true rfl)) dX2_beginAnew_12 ⟨Nat.zero_le _, Nat.zero_le _⟩) hH hA [3, 4, 5, 6] rfl adr_log (by rw [er_2]; exact putL_reader_log.trans (congrArg (fun zz => (readerW A cI zz)) (sel_logForget _))) (fun H locs hH => ?_)
  refine lv_aload_n hx hb dX2_beginAnew_15 rfl (lv_at hl 0 rfl) ?_
  refine x_get (v := .ref (A 7)) (C := RX2) (T := TX2) (N := 16) hx hb hts hi2 hown hK hH.1 0 rfl rfl 3 (by decide) (hts (.fieldLink RX2 28 "PulseWheel$Reader" "teeth" "LPulseWheel$Teeth;") (by decide +kernel)) rfl rfl dX2_beginAnew_16 ?_
  obtain ⟨r_3, er_3⟩ : ∃ z, z = teethForget r_2 := ⟨_, rfl⟩
  refine kCV (ws' := (readerW A cI r_3)) (va_runVN (As := []) (rest := []) ⟨hx, hb, hml, hown, hts⟩ (c_X4_forget l D cI cB A r_2  _) ⟨va_cnB 0 hts gX2_beginAnew_X4_forget_n48 rfl rfl rfl (nwm2_48 (args := args) hN) (hts (.initialized RX4) (by decide +kernel)) (by decide +kernel) ⟨Nat.le_of_ble_eq_true rfl, Nat.le_of_ble_eq_true rfl⟩, hts (.instanceMethod yX4_forget) (by decide +kernel), hts (.selects RX4 yX4_forget yX4_forget) (by decide +kernel)⟩ (preV_cut hH.1 hH.2.1 hK hN (ci := 4) rfl 7 rfl [7, 8] (by decide) rfl) rfl rfl hl.1 rfl (lv_room (Nat.le_of_ble_eq_true rfl)) dX2_beginAnew_19 ⟨Nat.zero_le _, Nat.zero_le _⟩) hH hA [7, 8] rfl adr_teeth (by rw [er_3]; exact putL_reader_teeth.trans (congrArg (fun zz => (readerW A cI zz)) (sel_teethForget _))) (fun H locs hH => ?_)
  refine lv_aload_n hx hb dX2_beginAnew_22 rfl (lv_at hl 0 rfl) ?_
  refine lv_iconst (v := 0) hx hb dX2_beginAnew_23 (by decide) ?_
  obtain ⟨r_4, er_4⟩ : ∃ z, z = up2 r_3 0 6 0 := ⟨_, rfl⟩
  refine x_put (ws' := (readerW A cI r_4)) (v := .int 0) (ty := .int) (C := RX2) (T := TX2) (N := 16) hx hb hts hi2 tyX2_ok nmX2 hown hK hH 0 rfl rfl 6 (by decide) (hts (.fieldLink RX2 49 "PulseWheel$Reader" "clean" "I") (by decide +kernel)) rfl rfl rfl (rfl) (rfl) (Nat.le_of_ble_eq_true rfl) dX2_beginAnew_24 (by rw [er_4]; rfl) (fun H locs hH => ?_)
  refine lv_aload_n hx hb dX2_beginAnew_27 rfl (lv_at hl 0 rfl) ?_
  refine lv_iconst (v := 0) hx hb dX2_beginAnew_28 (by decide) ?_
  obtain ⟨r_5, er_5⟩ : ∃ z, z = up2 r_4 0 7 0 := ⟨_, rfl⟩
  refine x_put (ws' := (readerW A cI r_5)) (v := .int 0) (ty := .int) (C := RX2) (T := TX2) (N := 16) hx hb hts hi2 tyX2_ok nmX2 hown hK hH 0 rfl rfl 7 (by decide) (hts (.fieldLink RX2 52 "PulseWheel$Reader" "place" "I") (by decide +kernel)) rfl rfl rfl (rfl) (rfl) (Nat.le_of_ble_eq_true rfl) dX2_beginAnew_29 (by rw [er_5]; rfl) (fun H locs hH => ?_)
  refine lv_aload_n hx hb dX2_beginAnew_32 rfl (lv_at hl 0 rfl) ?_
  refine lv_iconst (v := 0) hx hb dX2_beginAnew_33 (by decide) ?_
  obtain ⟨r_6, er_6⟩ : ∃ z, z = up2 r_5 0 8 0 := ⟨_, rfl⟩
  refine x_put (ws' := (readerW A cI r_6)) (v := .int 0) (ty := .int) (C := RX2) (T := TX2) (N := 16) hx hb hts hi2 tyX2_ok nmX2 hown hK hH 0 rfl rfl 8 (by decide) (hts (.fieldLink RX2 55 "PulseWheel$Reader" "low" "I") (by decide +kernel)) rfl rfl rfl (rfl) (rfl) (Nat.le_of_ble_eq_true rfl) dX2_beginAnew_34 (by rw [er_6]; rfl) (fun H locs hH => ?_)
  refine lv_aload_n hx hb dX2_beginAnew_37 rfl (lv_at hl 0 rfl) ?_
  refine lv_iconst (v := 0) hx hb dX2_beginAnew_38 (by decide) ?_
  obtain ⟨r_7, er_7⟩ : ∃ z, z = up2 r_6 0 9 0 := ⟨_, rfl⟩
  refine x_put (ws' := (readerW A cI r_7)) (v := .int 0) (ty := .int) (C := RX2) (T := TX2) (N := 16) hx hb hts hi2 tyX2_ok nmX2 hown hK hH 0 rfl rfl 9 (by decide) (hts (.fieldLink RX2 58 "PulseWheel$Reader" "high" "I") (by decide +kernel)) rfl rfl rfl (rfl) (rfl) (Nat.le_of_ble_eq_true rfl) dX2_beginAnew_39 (by rw [er_7]; rfl) (fun H locs hH => ?_)
  refine lv_aload_n hx hb dX2_beginAnew_42 rfl (lv_at hl 0 rfl) ?_
  refine lv_iconst (v := 0) hx hb dX2_beginAnew_43 (by decide) ?_
  obtain ⟨r_8, er_8⟩ : ∃ z, z = up2 r_7 0 10 0 := ⟨_, rfl⟩
  refine x_put (ws' := (readerW A cI r_8)) (v := .int 0) (ty := .boolean) (C := RX2) (T := TX2) (N := 16) hx hb hts hi2 tyX2_ok nmX2 hown hK hH 0 rfl rfl 10 (by decide) (hts (.fieldLink RX2 61 "PulseWheel$Reader" "hasOrigin" "Z") (by decide +kernel)) rfl rfl rfl (rfl) (rfl) (Nat.le_of_ble_eq_true rfl) dX2_beginAnew_44 (by rw [er_8]; rfl) (fun H locs hH => ?_)
  refine lv_aload_n hx hb dX2_beginAnew_47 rfl (lv_at hl 0 rfl) ?_
  refine lv_iconst (v := 0) hx hb dX2_beginAnew_48 (by decide) ?_
  obtain ⟨r_9, er_9⟩ : ∃ z, z = up2 r_8 0 11 0 := ⟨_, rfl⟩
  refine x_put (ws' := (readerW A cI r_9)) (v := .int 0) (ty := .int) (C := RX2) (T := TX2) (N := 16) hx hb hts hi2 tyX2_ok nmX2 hown hK hH 0 rfl rfl 11 (by decide) (hts (.fieldLink RX2 65 "PulseWheel$Reader" "originPlace" "I") (by decide +kernel)) rfl rfl rfl (rfl) (rfl) (Nat.le_of_ble_eq_true rfl) dX2_beginAnew_49 (by rw [er_9]; rfl) (fun H locs hH => ?_)
  refine lv_aload_n hx hb dX2_beginAnew_52 rfl (lv_at hl 0 rfl) ?_
  refine lv_iconst (v := 0) hx hb dX2_beginAnew_53 (by decide) ?_
  obtain ⟨r_10, er_10⟩ : ∃ z, z = up2 r_9 0 12 0 := ⟨_, rfl⟩
  refine x_put (ws' := (readerW A cI r_10)) (v := .int 0) (ty := .int) (C := RX2) (T := TX2) (N := 16) hx hb hts hi2 tyX2_ok nmX2 hown hK hH 0 rfl rfl 12 (by decide) (hts (.fieldLink RX2 68 "PulseWheel$Reader" "faults" "I") (by decide +kernel)) rfl rfl rfl (rfl) (rfl) (Nat.le_of_ble_eq_true rfl) dX2_beginAnew_54 (by rw [er_10]; rfl) (fun H locs hH => ?_)
  refine lv_aload_n hx hb dX2_beginAnew_57 rfl (lv_at hl 0 rfl) ?_
  refine lv_iconst (v := 0) hx hb dX2_beginAnew_58 (by decide) ?_
  obtain ⟨r_11, er_11⟩ : ∃ z, z = up2 r_10 0 13 0 := ⟨_, rfl⟩
  refine x_put (ws' := (readerW A cI r_11)) (v := .int 0) (ty := .int) (C := RX2) (T := TX2) (N := 16) hx hb hts hi2 tyX2_ok nmX2 hown hK hH 0 rfl rfl 13 (by decide) (hts (.fieldLink RX2 71 "PulseWheel$Reader" "slips" "I") (by decide +kernel)) rfl rfl rfl (rfl) (rfl) (Nat.le_of_ble_eq_true rfl) dX2_beginAnew_59 (by rw [er_11]; rfl) (fun H locs hH => ?_)
  refine lv_aload_n hx hb dX2_beginAnew_62 rfl (lv_at hl 0 rfl) ?_
  refine lv_iconst (v := 0) hx hb dX2_beginAnew_63 (by decide) ?_
  obtain ⟨r_12, er_12⟩ : ∃ z, z = up2 r_11 0 14 0 := ⟨_, rfl⟩
  refine x_put (ws' := (readerW A cI r_12)) (v := .int 0) (ty := .int) (C := RX2) (T := TX2) (N := 16) hx hb hts hi2 tyX2_ok nmX2 hown hK hH 0 rfl rfl 14 (by decide) (hts (.fieldLink RX2 74 "PulseWheel$Reader" "zeros" "I") (by decide +kernel)) rfl rfl rfl (rfl) (rfl) (Nat.le_of_ble_eq_true rfl) dX2_beginAnew_64 (by rw [er_12]; rfl) (fun H locs hH => ?_)
  refine lv_aload_n hx hb dX2_beginAnew_67 rfl (lv_at hl 0 rfl) ?_
  refine lv_iload_n hx hb dX2_beginAnew_68 rfl (lv_at hl 1 rfl) ?_
  obtain ⟨r_13, er_13⟩ : ∃ z, z = up2 r_12 0 15 now := ⟨_, rfl⟩
  refine x_put (ws' := (readerW A cI r_13)) (v := .int now) (ty := .int) (C := RX2) (T := TX2) (N := 16) hx hb hts hi2 tyX2_ok nmX2 hown hK hH 0 rfl rfl 15 (by decide) (hts (.fieldLink RX2 77 "PulseWheel$Reader" "beganAt" "I") (by decide +kernel)) rfl rfl rfl (rfl) (rfl) (Nat.le_of_ble_eq_true rfl) dX2_beginAnew_69 (by rw [er_13]; rfl) (fun H locs hH => ?_)
  refine lv_aload_n hx hb dX2_beginAnew_72 rfl (lv_at hl 0 rfl) ?_
  refine lv_iload_n hx hb dX2_beginAnew_73 rfl (lv_at hl 1 rfl) ?_
  obtain ⟨r_14, er_14⟩ : ∃ z, z = notePlaceV r_13 now := ⟨_, rfl⟩
  refine kCV (ws' := (readerW A cI r_14)) (va_runV (As := [.int now]) (rest := []) ⟨hx, hb, hml, hown, hts⟩ (c_X2_notePlace l D cI cB A r_13 now  _) (cwV 1 hts gX2_beginAnew_X2_notePlace rfl rfl rfl (by decide +kernel) ⟨Nat.le_of_ble_eq_true rfl, Nat.le_of_ble_eq_true rfl⟩) (preV_cut hH.1 hH.2.1 hK hN (ci := 2) rfl 0 rfl [0, 1, 2, 3, 4, 5, 6, 7, 8] (by decide) rfl) rfl rfl hl.1 rfl (lv_room (Nat.le_of_ble_eq_true rfl)) dX2_beginAnew_74 ⟨Nat.zero_le _, Nat.zero_le _⟩) hH hA [0, 1, 2, 3, 4, 5, 6, 7, 8] rfl adr_reader (by rw [er_14]; exact putL_reader_reader) (fun H locs hH => ?_)
  have hf_r : r_14 = anewV r now := by subst er_14; subst er_13; subst er_12; subst er_11; subst er_10; subst er_9; subst er_8; subst er_7; subst er_6; subst er_5; subst er_4; subst er_3; subst er_2; subst er_1; rfl
  exact hE _ _ _ _ _ hH ((congrArg (fun zz => (readerW A cI zz)) hf_r)) dX2_beginAnew_77

def rm_X2_take : Room := { frames := 4, cells := 0, slots := 0, locals := 91 }
set_option maxHeartbeats 1000000 in
set_option maxRecDepth 100000 in
theorem c_X2_take (l : Launch) (D : va_G) (cI cB : ClassId) (A : Nat → Nat) (r : Tb) (raw now : Int32) (h5 : ¬ r 0 5 = 0) : CV l D cI cB yX2_take wsX2_take rm_X2_take [.ref (A 0), .int raw, .int now] (readerW A cI r) (readerW A cI (takeV r raw now)) := by
  refine CV.of (cc := cX2_take) (maxL := 5)  (by decide +kernel) rfl (Nat.le_of_ble_eq_true rfl) ?_
  intro p e s m args below meth c ls A0 Q hT hH hA hl hE
  obtain ⟨hx, hb, hr, hlocks, hnm, hml, hown, hts, hK, hN⟩ := hT
  have hl : lv_has ls 5 [(0, .ref (A 0)), (1, .int raw), (2, .int now)] := hl
  have hi2 : ∀ w ∈ wsX20, w ∈ wsX2_take := by decide +kernel
  refine lv_aload_n hx hb dX2_take_0 rfl (lv_at hl 0 rfl) ?_
  refine x_get (v := .int (r 0 6)) (C := RX2) (T := TX2) (N := 16) hx hb hts hi2 hown hK hH.1 0 rfl rfl 6 (by decide) (hts (.fieldLink RX2 49 "PulseWheel$Reader" "clean" "I") (by decide +kernel)) rfl rfl dX2_take_1 ?_
  refine lv_istore_n (lv' := [(3, .int (r 0 6)), (0, .ref (A 0)), (1, .int raw), (2, .int now)]) hx hb dX2_take_4 rfl hl (by decide) rfl (fun ls hl => ?_)
  refine lv_aload_n hx hb dX2_take_5 rfl (lv_at hl 1 rfl) ?_
  refine kSI (va_runV (As := []) (rest := []) ⟨hx, hb, hml, hown, hts⟩ (c_X2_phase l D cI cB A r  _) (cwV 0 hts gX2_take_X2_phase rfl rfl rfl (by decide +kernel) ⟨Nat.le_of_ble_eq_true rfl, Nat.le_of_ble_eq_true rfl⟩) (preV_cut hH.1 hH.2.1 hK hN (ci := 2) rfl 0 rfl [0, 1, 2, 3, 4, 5, 6, 7, 8] (by decide) rfl) rfl rfl hl.1 rfl (lv_room (Nat.le_of_ble_eq_true rfl)) dX2_take_6 ⟨Nat.zero_le _, Nat.zero_le _⟩) ?_
  refine lv_istore (lv' := [(4, .int (phaseV (r 0 6))), (3, .int (r 0 6)), (0, .ref (A 0)), (1, .int raw), (2, .int now)]) hx hb dX2_take_9 hl (by decide) rfl (fun ls hl => ?_)
  refine lv_aload_n hx hb dX2_take_11 rfl (lv_at hl 2 rfl) ?_
  refine lv_iload_n hx hb dX2_take_12 rfl (lv_at hl 3 rfl) ?_
  obtain ⟨r_1, er_1⟩ : ∃ z, z = settleN r raw 3 := ⟨_, rfl⟩
  refine kCV (ws' := (readerW A cI r_1)) (va_runV (As := [.int raw]) (rest := []) ⟨hx, hb, hml, hown, hts⟩ (c_X2_settleLines l D cI cB A r raw  _) (cwV 1 hts gX2_take_X2_settleLines rfl rfl rfl (by decide +kernel) ⟨Nat.le_of_ble_eq_true rfl, Nat.le_of_ble_eq_true rfl⟩) (preV_cut hH.1 hH.2.1 hK hN (ci := 2) rfl 0 rfl [0, 1, 2, 3, 4, 5, 6, 7, 8] (by decide) rfl) rfl rfl hl.1 rfl (lv_room (Nat.le_of_ble_eq_true rfl)) dX2_take_13 ⟨Nat.zero_le _, Nat.zero_le _⟩) hH hA [0, 1, 2, 3, 4, 5, 6, 7, 8] rfl adr_reader (by rw [er_1]; exact putL_reader_reader) (fun H locs hH => ?_)
  refine lv_aload_n hx hb dX2_take_16 rfl (lv_at hl 2 rfl) ?_
  refine lv_aload_n hx hb dX2_take_17 rfl (lv_at hl 2 rfl) ?_
  refine kSI (va_runV (As := []) (rest := [.ref (A 0)]) ⟨hx, hb, hml, hown, hts⟩ (c_X2_phase l D cI cB A r_1  _) (cwV 0 hts gX2_take_X2_phase rfl rfl rfl (by decide +kernel) ⟨Nat.le_of_ble_eq_true rfl, Nat.le_of_ble_eq_true rfl⟩) (preV_cut hH.1 hH.2.1 hK hN (ci := 2) rfl 0 rfl [0, 1, 2, 3, 4, 5, 6, 7, 8] (by decide) rfl) rfl rfl hl.1 rfl (lv_room (Nat.le_of_ble_eq_true rfl)) dX2_take_18 ⟨Nat.zero_le _, Nat.zero_le _⟩) ?_
  refine lv_iload hx hb dX2_take_21 (lv_at hl 0 rfl) ?_
  refine lv_isub hx hb dX2_take_23 ?_
  refine lv_iconst (v := 4) hx hb dX2_take_24 (by decide) ?_
  refine kSI (va_runS (As := [.int ((phaseV (r_1 0 6)) - (phaseV (r 0 6))), .int 4]) (rest := [.ref (A 0)]) ⟨hx, hb, hml, hown, hts⟩ (c_J9_floorMod_7cf53 l D cI cB ((phaseV (r_1 0 6)) - (phaseV (r 0 6))) 4 (by decide) _) (va_cwS 2 hts gX2_take_J9_floorMod_7cf53 rfl rfl rfl (by decide +kernel) ⟨Nat.le_of_ble_eq_true rfl, Nat.le_of_ble_eq_true rfl⟩) (preS_nil hK hN) rfl rfl hl.1 rfl (lv_room (Nat.le_of_ble_eq_true rfl)) dX2_take_25 ⟨Nat.zero_le _, Nat.zero_le _⟩) ?_
  refine lv_iload_n hx hb dX2_take_28 rfl (lv_at hl 4 rfl) ?_
  obtain ⟨r_2, er_2⟩ : ∃ z, z = noteChangeV r_1 (fm ((phaseV (r_1 0 6)) - (phaseV (r 0 6))) 4) now := ⟨_, rfl⟩
  refine kCV (ws' := (readerW A cI r_2)) (va_runV (As := [.int (fm ((phaseV (r_1 0 6)) - (phaseV (r 0 6))) 4), .int now]) (rest := []) ⟨hx, hb, hml, hown, hts⟩ (c_X2_noteChange l D cI cB A r_1 (fm ((phaseV (r_1 0 6)) - (phaseV (r 0 6))) 4) now  _) (cwV 2 hts gX2_take_X2_noteChange rfl rfl rfl (by decide +kernel) ⟨Nat.le_of_ble_eq_true rfl, Nat.le_of_ble_eq_true rfl⟩) (preV_cut hH.1 hH.2.1 hK hN (ci := 2) rfl 0 rfl [0, 1, 2, 3, 4, 5, 6, 7, 8] (by decide) rfl) rfl rfl hl.1 rfl (lv_room (Nat.le_of_ble_eq_true rfl)) dX2_take_29 ⟨Nat.zero_le _, Nat.zero_le _⟩) hH hA [0, 1, 2, 3, 4, 5, 6, 7, 8] rfl adr_reader (by rw [er_2]; exact putL_reader_reader) (fun H locs hH => ?_)
  refine lv_aload_n hx hb dX2_take_32 rfl (lv_at hl 2 rfl) ?_
  refine x_get (v := .int (r_2 0 6)) (C := RX2) (T := TX2) (N := 16) hx hb hts hi2 hown hK hH.1 0 rfl rfl 6 (by decide) (hts (.fieldLink RX2 49 "PulseWheel$Reader" "clean" "I") (by decide +kernel)) rfl rfl dX2_take_33 ?_
  refine lv_iload_n hx hb dX2_take_36 rfl (lv_at hl 1 rfl) ?_
  refine lv_iconst (v := -1) hx hb dX2_take_37 (by decide) ?_
  refine lv_ixor hx hb dX2_take_38 ?_
  refine lv_iand hx hb dX2_take_39 ?_
  refine lv_iconst (v := 4) hx hb dX2_take_40 (by decide) ?_
  refine lv_iand hx hb dX2_take_41 ?_
  refine lv_if_eq (tgt := 74) hx hb dX2_take_42 (by decide) (fun c_42 => ?_) (fun c_42 => ?_)
  · skip
    refine lv_aload_n hx hb dX2_take_74 rfl (lv_at hl 2 rfl) ?_
    refine lv_iload_n hx hb dX2_take_75 rfl (lv_at hl 4 rfl) ?_
    obtain ⟨r_3, er_3⟩ : ∃ z, z = notePlaceV r_2 now := ⟨_, rfl⟩
    refine kCV (ws' := (readerW A cI r_3)) (va_runV (As := [.int now]) (rest := []) ⟨hx, hb, hml, hown, hts⟩ (c_X2_notePlace l D cI cB A r_2 now  _) (cwV 1 hts gX2_take_X2_notePlace rfl rfl rfl (by decide +kernel) ⟨Nat.le_of_ble_eq_true rfl, Nat.le_of_ble_eq_true rfl⟩) (preV_cut hH.1 hH.2.1 hK hN (ci := 2) rfl 0 rfl [0, 1, 2, 3, 4, 5, 6, 7, 8] (by decide) rfl) rfl rfl hl.1 rfl (lv_room (Nat.le_of_ble_eq_true rfl)) dX2_take_76 ⟨Nat.zero_le _, Nat.zero_le _⟩) hH hA [0, 1, 2, 3, 4, 5, 6, 7, 8] rfl adr_reader (by rw [er_3]; exact putL_reader_reader) (fun H locs hH => ?_)
    have hf_r : r_3 = takeV r raw now := by subst er_3; subst er_2; subst er_1; first | rfl | (unfold takeV  midV  zeroV; rw [if_pos c_42]; done) | (simp only [takeV, midV, zeroV, if_pos c_42]; done) | (simp only [takeV, midV, zeroV, c_42, if_true, if_false]; done) | (simp only [takeV, midV, zeroV, c_42, if_true, if_false, not_true, not_false_iff, reduceIte]; done) | (exfalso; simp_all; done) | (simp [takeV, midV, zeroV, c_42]; done) | (simp_all [takeV, midV, zeroV]; done)
    exact hE _ _ _ _ _ hH ((congrArg (fun zz => (readerW A cI zz)) hf_r)) dX2_take_79
  · skip
    refine lv_aload_n hx hb dX2_take_45 rfl (lv_at hl 2 rfl) ?_
    refine lv_dup hx hb dX2_take_46 rfl ?_
    refine x_get (v := .int (r_2 0 14)) (C := RX2) (T := TX2) (N := 16) hx hb hts hi2 hown hK hH.1 0 rfl rfl 14 (by decide) (hts (.fieldLink RX2 74 "PulseWheel$Reader" "zeros" "I") (by decide +kernel)) rfl rfl dX2_take_47 ?_
    refine lv_iconst (v := 1) hx hb dX2_take_50 (by decide) ?_
    refine lv_iadd hx hb dX2_take_51 ?_
    obtain ⟨r_4, er_4⟩ : ∃ z, z = up2 r_2 0 14 ((r_2 0 14) + 1) := ⟨_, rfl⟩
    refine x_put (ws' := (readerW A cI r_4)) (v := .int ((r_2 0 14) + 1)) (ty := .int) (C := RX2) (T := TX2) (N := 16) hx hb hts hi2 tyX2_ok nmX2 hown hK hH 0 rfl rfl 14 (by decide) (hts (.fieldLink RX2 74 "PulseWheel$Reader" "zeros" "I") (by decide +kernel)) rfl rfl rfl (rfl) (rfl) (Nat.le_of_ble_eq_true rfl) dX2_take_52 (by rw [er_4]; rfl) (fun H locs hH => ?_)
    refine lv_aload_n hx hb dX2_take_55 rfl (lv_at hl 2 rfl) ?_
    refine x_get (v := .ref (A 7)) (C := RX2) (T := TX2) (N := 16) hx hb hts hi2 hown hK hH.1 0 rfl rfl 3 (by decide) (hts (.fieldLink RX2 28 "PulseWheel$Reader" "teeth" "LPulseWheel$Teeth;") (by decide +kernel)) rfl rfl dX2_take_56 ?_
    refine lv_aload_n hx hb dX2_take_59 rfl (lv_at hl 2 rfl) ?_
    refine x_get (v := .ref (A 3)) (C := RX2) (T := TX2) (N := 16) hx hb hts hi2 hown hK hH.1 0 rfl rfl 2 (by decide) (hts (.fieldLink RX2 21 "PulseWheel$Reader" "log" "LPulseWheel$EventLog;") (by decide +kernel)) rfl rfl dX2_take_60 ?_
    refine lv_aload_n hx hb dX2_take_63 rfl (lv_at hl 2 rfl) ?_
    refine x_get (v := .int (r_4 0 5)) (C := RX2) (T := TX2) (N := 16) hx hb hts hi2 hown hK hH.1 0 rfl rfl 5 (by decide) (hts (.fieldLink RX2 36 "PulseWheel$Reader" "turnCounts" "I") (by decide +kernel)) rfl rfl dX2_take_64 ?_
    refine x_top (y := r_2 0 5) (congrFun (congrFun er_4 0) 5) ?_
    obtain ⟨r_5, er_5⟩ : ∃ z, z = learnV r_4 (r_2 0 5) := ⟨_, rfl⟩
    refine kCV (ws' := (readerW A cI r_5)) (va_runVN (As := [.ref (A 3), .int (r_2 0 5)]) (rest := []) ⟨hx, hb, hml, hown, hts⟩ (c_X4_learn l D cI cB A r_4 (r_2 0 5)  _) ⟨va_cnB 2 hts gX2_take_X4_learn_n101 rfl rfl rfl (nwm2_101 (args := args) hN) (hts (.initialized RX4) (by decide +kernel)) (by decide +kernel) ⟨Nat.le_of_ble_eq_true rfl, Nat.le_of_ble_eq_true rfl⟩, hts (.instanceMethod yX4_learn) (by decide +kernel), hts (.selects RX4 yX4_learn yX4_learn) (by decide +kernel)⟩ (preV_cut hH.1 hH.2.1 hK hN (ci := 4) rfl 7 rfl [3, 4, 5, 6, 7, 8] (by decide) rfl) rfl rfl hl.1 rfl (lv_room (Nat.le_of_ble_eq_true rfl)) dX2_take_67 ⟨Nat.zero_le _, Nat.zero_le _⟩) hH hA [3, 4, 5, 6, 7, 8] rfl adr_logteeth (by rw [er_5]; exact putL_reader_logteeth.trans (congrArg (fun zz => (readerW A cI zz)) (sel_learn _ _))) (fun H locs hH => ?_)
    refine lv_aload_n hx hb dX2_take_70 rfl (lv_at hl 2 rfl) ?_
    obtain ⟨r_6, er_6⟩ : ∃ z, z = heedV r_5 := ⟨_, rfl⟩
    refine kCV (ws' := (readerW A cI r_6)) (va_runV (As := []) (rest := []) ⟨hx, hb, hml, hown, hts⟩ (c_X2_heedMark l D cI cB A r_5 (by rw [show r_5 0 5 = r_2 0 5 from (congrFun (congrFun er_5 0) 5).trans ((congrFun (learnV_row _ _ (by decide) (by decide)) 5).trans (congrFun (congrFun er_4 0) 5)), er_2, noteChangeV_ht _ _ _ 5 (Or.inr rfl), er_1, settleN_ht _ _ 5 (Or.inr rfl)]; exact h5) _) (cwV 0 hts gX2_take_X2_heedMark rfl rfl rfl (by decide +kernel) ⟨Nat.le_of_ble_eq_true rfl, Nat.le_of_ble_eq_true rfl⟩) (preV_cut hH.1 hH.2.1 hK hN (ci := 2) rfl 0 rfl [0, 1, 2, 3, 4, 5, 6, 7, 8] (by decide) rfl) rfl rfl hl.1 rfl (lv_room (Nat.le_of_ble_eq_true rfl)) dX2_take_71 ⟨Nat.zero_le _, Nat.zero_le _⟩) hH hA [0, 1, 2, 3, 4, 5, 6, 7, 8] rfl adr_reader (by rw [er_6]; exact putL_reader_reader) (fun H locs hH => ?_)
    refine lv_aload_n hx hb dX2_take_74 rfl (lv_at hl 2 rfl) ?_
    refine lv_iload_n hx hb dX2_take_75 rfl (lv_at hl 4 rfl) ?_
    obtain ⟨r_7, er_7⟩ : ∃ z, z = notePlaceV r_6 now := ⟨_, rfl⟩
    refine kCV (ws' := (readerW A cI r_7)) (va_runV (As := [.int now]) (rest := []) ⟨hx, hb, hml, hown, hts⟩ (c_X2_notePlace l D cI cB A r_6 now  _) (cwV 1 hts gX2_take_X2_notePlace rfl rfl rfl (by decide +kernel) ⟨Nat.le_of_ble_eq_true rfl, Nat.le_of_ble_eq_true rfl⟩) (preV_cut hH.1 hH.2.1 hK hN (ci := 2) rfl 0 rfl [0, 1, 2, 3, 4, 5, 6, 7, 8] (by decide) rfl) rfl rfl hl.1 rfl (lv_room (Nat.le_of_ble_eq_true rfl)) dX2_take_76 ⟨Nat.zero_le _, Nat.zero_le _⟩) hH hA [0, 1, 2, 3, 4, 5, 6, 7, 8] rfl adr_reader (by rw [er_7]; exact putL_reader_reader) (fun H locs hH => ?_)
    have hf_r : r_7 = takeV r raw now := by subst er_7; subst er_6; subst er_5; subst er_4; subst er_2; subst er_1; first | rfl | (unfold takeV  midV  zeroV; rw [if_neg c_42]; done) | (simp only [takeV, midV, zeroV, if_neg c_42]; done) | (simp only [takeV, midV, zeroV, c_42, if_true, if_false]; done) | (simp only [takeV, midV, zeroV, c_42, if_true, if_false, not_true, not_false_iff, reduceIte]; done) | (exfalso; simp_all; done) | (simp [takeV, midV, zeroV, c_42]; done) | (simp_all [takeV, midV, zeroV]; done)
    exact hE _ _ _ _ _ hH ((congrArg (fun zz => (readerW A cI zz)) hf_r)) dX2_take_79
