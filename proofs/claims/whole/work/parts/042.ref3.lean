/-! ### the reference: asks, images -/
def latN (n k : Int32) : Nat := (latV n k).toNatClampNeg
theorem nI_clampE {x : Int32} (h : 0 ≤ x) : x = nI x.toNatClampNeg := by
  obtain ⟨j, hj, e⟩ := nI_of (Int32.not_lt.mpr h)
  rw [e, nI_clamp hj]
theorem lat_in {n k : Int32} (h : 0 ≤ latV n k) : latV n k = nI (latN n k) ∧ latN n k < 300 := by
  refine ⟨nI_clampE h, ?_⟩
  have e : ((latN n k : Nat) : Int) = (latV n k).toInt := by
    have h0 := i32_nn.mp h
    show (((latV n k).toInt.toNat : Nat) : Int) = _
    omega
  have h3 : (latV n k).toInt < 300 := by
    unfold latV
    split
    · decide
    · split
      · decide
      · split
        · have h4 : (rem32 (n - 1 - k) 300).toInt = (n - 1 - k).toInt.tmod (300 : Int32).toInt := rem_toInt _ _
          rw [h4]
          exact (tmod_bounds (a := (n - 1 - k).toInt) (M := (300 : Int32).toInt) (by decide)).2
        · decide
  omega
def ofM (r : Tb) (b : Nat) (w : Int32) : Int32 := if w = 0 then r 1 (b + 6) else if w = 1 then r 1 (b + 7) else if w = 2 then r 1 (b + 8) else if w = 3 then phOf (r 1 (b + 2)) else if w = 4 then r 1 (b + 2) else if w = 5 then r 1 (b + 0) else if w = 6 then r 1 (b + 1) else if w = 7 then r 1 (b + 9) else if w = 8 then r 1 (b + 10) else if w = 9 then r 1 (b + 11) else if w = 10 then r 1 (b + 12) else if w = 11 then r 1 (b + 13) else -2000000
def originM (r : Tb) (b : Nat) : Int32 := if r 1 (b + 13) = 1 then r 1 (b + 14) else -2000000
def eventM (r : Tb) (b : Nat) (k w : Int32) : Int32 := if 0 ≤ latV (r 1 (b + 9)) k then (if w = 0 then r 1 (b + 20 + latN (r 1 (b + 9)) k) else if w = 1 then r 1 (b + 320 + latN (r 1 (b + 9)) k) else if w = 2 then r 1 (b + 620 + latN (r 1 (b + 9)) k) else -2000000) else -2000000
def aboutM (r : Tb) (w : Int32) : Int32 := if w = 0 then r 0 4 else if w = 1 then r 0 8 else if w = 2 then r 0 6 else -1
def gcdG : Nat → Int32 → Int32 → Int32
  | 0, x, _ => x
  | n + 1, x, y => if y ≤ 0 then x else gcdG n y (rem32 x y)
theorem gcdG_s (n : Nat) (x y : Int32) : gcdG (n + 1) x y = if y ≤ 0 then x else gcdG n y (rem32 x y) := rfl
theorem gcd_less {x y : Int32} (h : ¬ y ≤ 0) : (rem32 x y).toInt.toNat < y.toInt.toNat := by
  have h0 : ¬ y.toInt ≤ 0 := fun q => h (Int32.le_iff_toInt_le.mpr q)
  have h4 : (rem32 x y).toInt = x.toInt.tmod y.toInt := rem_toInt _ _
  have h5 := (tmod_bounds (a := x.toInt) (M := y.toInt) (by omega)).2
  omega
theorem k4_ok {k : Int32} (h1 : ¬ k < 0) (h6 : k < 4) : k = nI k.toNatClampNeg ∧ k.toNatClampNeg < 4 := by
  obtain ⟨j, hj, e⟩ := nI_of h1
  rw [e, nI_clamp hj]
  rw [e] at h6
  exact ⟨rfl, (nI_ltI (b := 4) hj (by decide)).mp h6⟩
def cpN (r : Tb) (b i : Nat) : Nat → Int32 := fun j => if b ≤ j ∧ j < b + i then r 1 (j - b) else r 2 j
def keepM (r : Tb) (K : Nat) (k : Int32) : Tb := up2 (up2 (up2 (up1 r 2 (cpN r (3020 * K) 3020)) 3 K (r 0 4)) 4 K (r 0 5)) 0 6 (r 0 6 ||| (1 : Int32) <<< (k &&& 31))
def keepMR (r : Tb) (k : Int32) : Tb := if k < 0 then r else if k < 4 then keepM r k.toNatClampNeg k else r
def keepMV (k : Int32) : Int32 := if k < 0 then 0 else if k < 4 then 1 else 0
def bkN (r : Tb) (b i : Nat) : Nat → Int32 := fun j => if j < i then r 2 (b + j) else r 1 j
def backM (r : Tb) (K : Nat) : Tb := up2 (up2 (up1 r 1 (bkN r (3020 * K) 3020)) 0 4 (r 3 K)) 0 5 (r 4 K)
def backMR (r : Tb) (k : Int32) : Tb := if k < 0 then r else if 4 ≤ k then r else if r 0 6 >>> (k &&& 31) &&& 1 = 0 then r else backM r k.toNatClampNeg
def backMV (r : Tb) (k : Int32) : Int32 := if k < 0 then 0 else if 4 ≤ k then 0 else if r 0 6 >>> (k &&& 31) &&& 1 = 0 then 0 else 1
theorem cp_0 {r : Tb} {b : Nat} : r = up1 r 2 (cpN r b 0) := by
  funext c
  unfold up1
  by_cases hc : c = 2
  · subst hc
    rw [if_pos rfl]
    funext j
    unfold cpN
    rw [if_neg (by omega)]
  · rw [if_neg hc]
theorem cp_step {r : Tb} {b i : Nat} : up2 (up1 r 2 (cpN r b i)) 2 (b + i) (r 1 i) = up1 r 2 (cpN r b (i + 1)) := by
  funext c
  unfold up1 up2
  by_cases hc : c = 2
  · subst hc
    simp only [if_true]
    funext j
    unfold upd cpN
    by_cases hj : j = b + i
    · rw [if_pos hj, if_pos (by omega), show j - b = i by omega]
    · rw [if_neg hj]
      by_cases h2 : b ≤ j ∧ j < b + i
      · rw [if_pos h2, if_pos (by omega)]
      · rw [if_neg h2, if_neg (by omega)]
  · simp only [if_neg hc]
theorem bk_0 {r : Tb} {b : Nat} : r = up1 r 1 (bkN r b 0) := by
  funext c
  unfold up1
  by_cases hc : c = 1
  · subst hc
    rw [if_pos rfl]
    funext j
    unfold bkN
    rw [if_neg (by omega)]
  · rw [if_neg hc]
theorem bk_step {r : Tb} {b i : Nat} : up2 (up1 r 1 (bkN r b i)) 1 i (r 2 (b + i)) = up1 r 1 (bkN r b (i + 1)) := by
  funext c
  unfold up1 up2
  by_cases hc : c = 1
  · subst hc
    simp only [if_true]
    funext j
    unfold upd bkN
    by_cases hj : j = i
    · rw [if_pos hj, if_pos (by omega), hj]
    · rw [if_neg hj]
      by_cases h2 : j < i
      · rw [if_pos h2, if_pos (by omega)]
      · rw [if_neg h2, if_neg (by omega)]
  · simp only [if_neg hc]

def rm_X6_of : Room := { frames := 1, cells := 0, slots := 0, locals := 20 }
set_option maxHeartbeats 1000000 in
set_option maxRecDepth 100000 in
theorem c_X6_of (l : Launch) (D : va_G) (cI cB : ClassId) (A : Nat → Nat) (r : Tb) (rd w : Int32) : SI l D cI cB yX6_of wsX6_of rm_X6_of [.ref (A 0), .int rd, .int w] (modelW A cI r) (rdV rd (ofM r (1510 * 0) w) (ofM r (1510 * 1) w) (-2000000)) := by
  refine SI.of (cc := cX6_of) (maxL := 4) (ty := .int) (by decide +kernel) rfl (Nat.le_of_ble_eq_true rfl) ?_
  intro p e s m args below meth c ls Q hT hP hD hl hE
  obtain ⟨hx, hb, hr, hlocks, hnm, hml, hown, hts, hK, hN⟩ := hT
  have hl : lv_has ls 4 [(0, .ref (A 0)), (1, .int rd), (2, .int w)] := hl
  have hi6 : ∀ w ∈ wsX60, w ∈ wsX6_of := by decide +kernel
  by_cases c0 : rd = 0
  · subst c0
    refine lv_iload_n hx hb dX6_of_0 rfl (lv_at hl 1 rfl) ?_
    refine kSI (va_runS (As := [.int 0]) (rest := []) ⟨hx, hb, hml, hown, hts⟩ (c_X6_isReader l D cI cB 0  _) (va_cwS 1 hts gX6_of_X6_isReader rfl rfl rfl (by decide +kernel) ⟨Nat.le_of_ble_eq_true rfl, Nat.le_of_ble_eq_true rfl⟩) (preS_nil hK hN) rfl rfl hl.1 rfl (lv_room (Nat.le_of_ble_eq_true rfl)) dX6_of_1 ⟨Nat.zero_le _, Nat.zero_le _⟩) ?_
    refine lv_if_ne (tgt := 10) hx hb dX6_of_4 (by decide) (fun c_4 => ?_) (fun c_4 => ?_)
    · skip
      refine lv_sipush (v := 1510) hx hb dX6_of_10 (by decide) ?_
      refine lv_iload_n hx hb dX6_of_13 rfl (lv_at hl 1 rfl) ?_
      refine lv_imul hx hb dX6_of_14 ?_
      refine x_top (y := nI (1510 * 0)) (by decide) ?_
      refine lv_istore_n (lv' := [(3, .int (nI (1510 * 0))), (0, .ref (A 0)), (1, .int 0), (2, .int w)]) hx hb dX6_of_15 rfl hl (by decide) rfl (fun ls hl => ?_)
      refine lv_iload_n hx hb dX6_of_16 rfl (lv_at hl 3 rfl) ?_
      by_cases c_17_0 : w = 0
      · refine lv_tableIn (tgt := 80) hx hb dX6_of_17 (by rw [c_17_0]; decide) (by rw [c_17_0]; decide) (by rw [c_17_0]; rfl) (by decide) ?_
        refine lv_aload_n hx hb dX6_of_80 rfl (lv_at hl 1 rfl) ?_
        refine x_get (v := .ref (A 1)) (C := RX6) (T := TX6) (N := 9) hx hb hts hi6 hown hK hP 0 rfl rfl 0 (by decide) (hts (.fieldLink RX6 7 "PulseWheelModel" "now" "[I") (by decide +kernel)) rfl rfl dX6_of_81 ?_
        refine lv_iload_n hx hb dX6_of_84 rfl (lv_at hl 0 rfl) ?_
        refine lv_bipush (v := 6) hx hb dX6_of_85 (by decide) ?_
        refine lv_iadd hx hb dX6_of_87 ?_
        have hq_1 := ix_in (i := ((nI (1510 * 0)) + 6)) (n := 3020) ((1510 * 0) + 6) (nI_add (1510 * 0) 6) (by omega) (by decide)
        refine x_ild (v := r 1 ((1510 * 0) + 6)) hx hb hK hP 1 rfl hq_1.1 (by rw [hq_1.2]) dX6_of_88 ?_
        exact hE _ _ _ (by first | (rw [rdV_0]; done) | (rw [rdV_0]; unfold ofM; rw [if_pos c_17_0]; done)) rfl dX6_of_89
      by_cases c_17_1 : w = 1
      · refine lv_tableIn (tgt := 90) hx hb dX6_of_17 (by rw [c_17_1]; decide) (by rw [c_17_1]; decide) (by rw [c_17_1]; rfl) (by decide) ?_
        refine lv_aload_n hx hb dX6_of_90 rfl (lv_at hl 1 rfl) ?_
        refine x_get (v := .ref (A 1)) (C := RX6) (T := TX6) (N := 9) hx hb hts hi6 hown hK hP 0 rfl rfl 0 (by decide) (hts (.fieldLink RX6 7 "PulseWheelModel" "now" "[I") (by decide +kernel)) rfl rfl dX6_of_91 ?_
        refine lv_iload_n hx hb dX6_of_94 rfl (lv_at hl 0 rfl) ?_
        refine lv_bipush (v := 7) hx hb dX6_of_95 (by decide) ?_
        refine lv_iadd hx hb dX6_of_97 ?_
        have hq_2 := ix_in (i := ((nI (1510 * 0)) + 7)) (n := 3020) ((1510 * 0) + 7) (nI_add (1510 * 0) 7) (by omega) (by decide)
        refine x_ild (v := r 1 ((1510 * 0) + 7)) hx hb hK hP 1 rfl hq_2.1 (by rw [hq_2.2]) dX6_of_98 ?_
        exact hE _ _ _ (by first | (rw [rdV_0]; done) | (rw [rdV_0]; unfold ofM; rw [if_neg c_17_0, if_pos c_17_1]; done)) rfl dX6_of_99
      by_cases c_17_2 : w = 2
      · refine lv_tableIn (tgt := 100) hx hb dX6_of_17 (by rw [c_17_2]; decide) (by rw [c_17_2]; decide) (by rw [c_17_2]; rfl) (by decide) ?_
        refine lv_aload_n hx hb dX6_of_100 rfl (lv_at hl 1 rfl) ?_
        refine x_get (v := .ref (A 1)) (C := RX6) (T := TX6) (N := 9) hx hb hts hi6 hown hK hP 0 rfl rfl 0 (by decide) (hts (.fieldLink RX6 7 "PulseWheelModel" "now" "[I") (by decide +kernel)) rfl rfl dX6_of_101 ?_
        refine lv_iload_n hx hb dX6_of_104 rfl (lv_at hl 0 rfl) ?_
        refine lv_bipush (v := 8) hx hb dX6_of_105 (by decide) ?_
        refine lv_iadd hx hb dX6_of_107 ?_
        have hq_3 := ix_in (i := ((nI (1510 * 0)) + 8)) (n := 3020) ((1510 * 0) + 8) (nI_add (1510 * 0) 8) (by omega) (by decide)
        refine x_ild (v := r 1 ((1510 * 0) + 8)) hx hb hK hP 1 rfl hq_3.1 (by rw [hq_3.2]) dX6_of_108 ?_
        exact hE _ _ _ (by first | (rw [rdV_0]; done) | (rw [rdV_0]; unfold ofM; rw [if_neg c_17_0, if_neg c_17_1, if_pos c_17_2]; done)) rfl dX6_of_109
      by_cases c_17_3 : w = 3
      · refine lv_tableIn (tgt := 110) hx hb dX6_of_17 (by rw [c_17_3]; decide) (by rw [c_17_3]; decide) (by rw [c_17_3]; rfl) (by decide) ?_
        refine lv_aload_n hx hb dX6_of_110 rfl (lv_at hl 1 rfl) ?_
        refine x_get (v := .ref (A 1)) (C := RX6) (T := TX6) (N := 9) hx hb hts hi6 hown hK hP 0 rfl rfl 0 (by decide) (hts (.fieldLink RX6 7 "PulseWheelModel" "now" "[I") (by decide +kernel)) rfl rfl dX6_of_111 ?_
        refine lv_iload_n hx hb dX6_of_114 rfl (lv_at hl 0 rfl) ?_
        refine lv_iconst (v := 2) hx hb dX6_of_115 (by decide) ?_
        refine lv_iadd hx hb dX6_of_116 ?_
        have hq_4 := ix_in (i := ((nI (1510 * 0)) + 2)) (n := 3020) ((1510 * 0) + 2) (nI_add (1510 * 0) 2) (by omega) (by decide)
        refine x_ild (v := r 1 ((1510 * 0) + 2)) hx hb hK hP 1 rfl hq_4.1 (by rw [hq_4.2]) dX6_of_117 ?_
        refine kSI (va_runS (As := [.int (r 1 ((1510 * 0) + 2))]) (rest := []) ⟨hx, hb, hml, hown, hts⟩ (c_X6_phaseOf l D cI cB (r 1 ((1510 * 0) + 2))  _) (va_cwS 1 hts gX6_of_X6_phaseOf rfl rfl rfl (by decide +kernel) ⟨Nat.le_of_ble_eq_true rfl, Nat.le_of_ble_eq_true rfl⟩) (preS_nil hK hN) rfl rfl hl.1 rfl (lv_room (Nat.le_of_ble_eq_true rfl)) dX6_of_118 ⟨Nat.zero_le _, Nat.zero_le _⟩) ?_
        exact hE _ _ _ (by first | (rw [rdV_0]; done) | (rw [rdV_0]; unfold ofM; rw [if_neg c_17_0, if_neg c_17_1, if_neg c_17_2, if_pos c_17_3]; done)) rfl dX6_of_121
      by_cases c_17_4 : w = 4
      · refine lv_tableIn (tgt := 122) hx hb dX6_of_17 (by rw [c_17_4]; decide) (by rw [c_17_4]; decide) (by rw [c_17_4]; rfl) (by decide) ?_
        refine lv_aload_n hx hb dX6_of_122 rfl (lv_at hl 1 rfl) ?_
        refine x_get (v := .ref (A 1)) (C := RX6) (T := TX6) (N := 9) hx hb hts hi6 hown hK hP 0 rfl rfl 0 (by decide) (hts (.fieldLink RX6 7 "PulseWheelModel" "now" "[I") (by decide +kernel)) rfl rfl dX6_of_123 ?_
        refine lv_iload_n hx hb dX6_of_126 rfl (lv_at hl 0 rfl) ?_
        refine lv_iconst (v := 2) hx hb dX6_of_127 (by decide) ?_
        refine lv_iadd hx hb dX6_of_128 ?_
        have hq_5 := ix_in (i := ((nI (1510 * 0)) + 2)) (n := 3020) ((1510 * 0) + 2) (nI_add (1510 * 0) 2) (by omega) (by decide)
        refine x_ild (v := r 1 ((1510 * 0) + 2)) hx hb hK hP 1 rfl hq_5.1 (by rw [hq_5.2]) dX6_of_129 ?_
        exact hE _ _ _ (by first | (rw [rdV_0]; done) | (rw [rdV_0]; unfold ofM; rw [if_neg c_17_0, if_neg c_17_1, if_neg c_17_2, if_neg c_17_3, if_pos c_17_4]; done)) rfl dX6_of_130
      by_cases c_17_5 : w = 5
      · refine lv_tableIn (tgt := 131) hx hb dX6_of_17 (by rw [c_17_5]; decide) (by rw [c_17_5]; decide) (by rw [c_17_5]; rfl) (by decide) ?_
        refine lv_aload_n hx hb dX6_of_131 rfl (lv_at hl 1 rfl) ?_
        refine x_get (v := .ref (A 1)) (C := RX6) (T := TX6) (N := 9) hx hb hts hi6 hown hK hP 0 rfl rfl 0 (by decide) (hts (.fieldLink RX6 7 "PulseWheelModel" "now" "[I") (by decide +kernel)) rfl rfl dX6_of_132 ?_
        refine lv_iload_n hx hb dX6_of_135 rfl (lv_at hl 0 rfl) ?_
        refine lv_iconst (v := 0) hx hb dX6_of_136 (by decide) ?_
        refine lv_iadd hx hb dX6_of_137 ?_
        have hq_6 := ix_in (i := ((nI (1510 * 0)) + 0)) (n := 3020) ((1510 * 0) + 0) (nI_add (1510 * 0) 0) (by omega) (by decide)
        refine x_ild (v := r 1 ((1510 * 0) + 0)) hx hb hK hP 1 rfl hq_6.1 (by rw [hq_6.2]) dX6_of_138 ?_
        exact hE _ _ _ (by first | (rw [rdV_0]; done) | (rw [rdV_0]; unfold ofM; rw [if_neg c_17_0, if_neg c_17_1, if_neg c_17_2, if_neg c_17_3, if_neg c_17_4, if_pos c_17_5]; done)) rfl dX6_of_139
      by_cases c_17_6 : w = 6
      · refine lv_tableIn (tgt := 140) hx hb dX6_of_17 (by rw [c_17_6]; decide) (by rw [c_17_6]; decide) (by rw [c_17_6]; rfl) (by decide) ?_
        refine lv_aload_n hx hb dX6_of_140 rfl (lv_at hl 1 rfl) ?_
        refine x_get (v := .ref (A 1)) (C := RX6) (T := TX6) (N := 9) hx hb hts hi6 hown hK hP 0 rfl rfl 0 (by decide) (hts (.fieldLink RX6 7 "PulseWheelModel" "now" "[I") (by decide +kernel)) rfl rfl dX6_of_141 ?_
        refine lv_iload_n hx hb dX6_of_144 rfl (lv_at hl 0 rfl) ?_
        refine lv_iconst (v := 1) hx hb dX6_of_145 (by decide) ?_
        refine lv_iadd hx hb dX6_of_146 ?_
        have hq_7 := ix_in (i := ((nI (1510 * 0)) + 1)) (n := 3020) ((1510 * 0) + 1) (nI_add (1510 * 0) 1) (by omega) (by decide)
        refine x_ild (v := r 1 ((1510 * 0) + 1)) hx hb hK hP 1 rfl hq_7.1 (by rw [hq_7.2]) dX6_of_147 ?_
        exact hE _ _ _ (by first | (rw [rdV_0]; done) | (rw [rdV_0]; unfold ofM; rw [if_neg c_17_0, if_neg c_17_1, if_neg c_17_2, if_neg c_17_3, if_neg c_17_4, if_neg c_17_5, if_pos c_17_6]; done)) rfl dX6_of_148
      by_cases c_17_7 : w = 7
      · refine lv_tableIn (tgt := 149) hx hb dX6_of_17 (by rw [c_17_7]; decide) (by rw [c_17_7]; decide) (by rw [c_17_7]; rfl) (by decide) ?_
        refine lv_aload_n hx hb dX6_of_149 rfl (lv_at hl 1 rfl) ?_
        refine x_get (v := .ref (A 1)) (C := RX6) (T := TX6) (N := 9) hx hb hts hi6 hown hK hP 0 rfl rfl 0 (by decide) (hts (.fieldLink RX6 7 "PulseWheelModel" "now" "[I") (by decide +kernel)) rfl rfl dX6_of_150 ?_
        refine lv_iload_n hx hb dX6_of_153 rfl (lv_at hl 0 rfl) ?_
        refine lv_bipush (v := 9) hx hb dX6_of_154 (by decide) ?_
        refine lv_iadd hx hb dX6_of_156 ?_
        have hq_8 := ix_in (i := ((nI (1510 * 0)) + 9)) (n := 3020) ((1510 * 0) + 9) (nI_add (1510 * 0) 9) (by omega) (by decide)
        refine x_ild (v := r 1 ((1510 * 0) + 9)) hx hb hK hP 1 rfl hq_8.1 (by rw [hq_8.2]) dX6_of_157 ?_
        exact hE _ _ _ (by first | (rw [rdV_0]; done) | (rw [rdV_0]; unfold ofM; rw [if_neg c_17_0, if_neg c_17_1, if_neg c_17_2, if_neg c_17_3, if_neg c_17_4, if_neg c_17_5, if_neg c_17_6, if_pos c_17_7]; done)) rfl dX6_of_158
      by_cases c_17_8 : w = 8
      · refine lv_tableIn (tgt := 159) hx hb dX6_of_17 (by rw [c_17_8]; decide) (by rw [c_17_8]; decide) (by rw [c_17_8]; rfl) (by decide) ?_
        refine lv_aload_n hx hb dX6_of_159 rfl (lv_at hl 1 rfl) ?_
        refine x_get (v := .ref (A 1)) (C := RX6) (T := TX6) (N := 9) hx hb hts hi6 hown hK hP 0 rfl rfl 0 (by decide) (hts (.fieldLink RX6 7 "PulseWheelModel" "now" "[I") (by decide +kernel)) rfl rfl dX6_of_160 ?_
        refine lv_iload_n hx hb dX6_of_163 rfl (lv_at hl 0 rfl) ?_
        refine lv_bipush (v := 10) hx hb dX6_of_164 (by decide) ?_
        refine lv_iadd hx hb dX6_of_166 ?_
        have hq_9 := ix_in (i := ((nI (1510 * 0)) + 10)) (n := 3020) ((1510 * 0) + 10) (nI_add (1510 * 0) 10) (by omega) (by decide)
        refine x_ild (v := r 1 ((1510 * 0) + 10)) hx hb hK hP 1 rfl hq_9.1 (by rw [hq_9.2]) dX6_of_167 ?_
        exact hE _ _ _ (by first | (rw [rdV_0]; done) | (rw [rdV_0]; unfold ofM; rw [if_neg c_17_0, if_neg c_17_1, if_neg c_17_2, if_neg c_17_3, if_neg c_17_4, if_neg c_17_5, if_neg c_17_6, if_neg c_17_7, if_pos c_17_8]; done)) rfl dX6_of_168
      by_cases c_17_9 : w = 9
      · refine lv_tableIn (tgt := 169) hx hb dX6_of_17 (by rw [c_17_9]; decide) (by rw [c_17_9]; decide) (by rw [c_17_9]; rfl) (by decide) ?_
        refine lv_aload_n hx hb dX6_of_169 rfl (lv_at hl 1 rfl) ?_
        refine x_get (v := .ref (A 1)) (C := RX6) (T := TX6) (N := 9) hx hb hts hi6 hown hK hP 0 rfl rfl 0 (by decide) (hts (.fieldLink RX6 7 "PulseWheelModel" "now" "[I") (by decide +kernel)) rfl rfl dX6_of_170 ?_
        refine lv_iload_n hx hb dX6_of_173 rfl (lv_at hl 0 rfl) ?_
        refine lv_bipush (v := 11) hx hb dX6_of_174 (by decide) ?_
        refine lv_iadd hx hb dX6_of_176 ?_
        have hq_10 := ix_in (i := ((nI (1510 * 0)) + 11)) (n := 3020) ((1510 * 0) + 11) (nI_add (1510 * 0) 11) (by omega) (by decide)
        refine x_ild (v := r 1 ((1510 * 0) + 11)) hx hb hK hP 1 rfl hq_10.1 (by rw [hq_10.2]) dX6_of_177 ?_
        exact hE _ _ _ (by first | (rw [rdV_0]; done) | (rw [rdV_0]; unfold ofM; rw [if_neg c_17_0, if_neg c_17_1, if_neg c_17_2, if_neg c_17_3, if_neg c_17_4, if_neg c_17_5, if_neg c_17_6, if_neg c_17_7, if_neg c_17_8, if_pos c_17_9]; done)) rfl dX6_of_178
      by_cases c_17_10 : w = 10
      · refine lv_tableIn (tgt := 179) hx hb dX6_of_17 (by rw [c_17_10]; decide) (by rw [c_17_10]; decide) (by rw [c_17_10]; rfl) (by decide) ?_
        refine lv_aload_n hx hb dX6_of_179 rfl (lv_at hl 1 rfl) ?_
        refine x_get (v := .ref (A 1)) (C := RX6) (T := TX6) (N := 9) hx hb hts hi6 hown hK hP 0 rfl rfl 0 (by decide) (hts (.fieldLink RX6 7 "PulseWheelModel" "now" "[I") (by decide +kernel)) rfl rfl dX6_of_180 ?_
        refine lv_iload_n hx hb dX6_of_183 rfl (lv_at hl 0 rfl) ?_
        refine lv_bipush (v := 12) hx hb dX6_of_184 (by decide) ?_
        refine lv_iadd hx hb dX6_of_186 ?_
        have hq_11 := ix_in (i := ((nI (1510 * 0)) + 12)) (n := 3020) ((1510 * 0) + 12) (nI_add (1510 * 0) 12) (by omega) (by decide)
        refine x_ild (v := r 1 ((1510 * 0) + 12)) hx hb hK hP 1 rfl hq_11.1 (by rw [hq_11.2]) dX6_of_187 ?_
        exact hE _ _ _ (by first | (rw [rdV_0]; done) | (rw [rdV_0]; unfold ofM; rw [if_neg c_17_0, if_neg c_17_1, if_neg c_17_2, if_neg c_17_3, if_neg c_17_4, if_neg c_17_5, if_neg c_17_6, if_neg c_17_7, if_neg c_17_8, if_neg c_17_9, if_pos c_17_10]; done)) rfl dX6_of_188
      by_cases c_17_11 : w = 11
      · refine lv_tableIn (tgt := 189) hx hb dX6_of_17 (by rw [c_17_11]; decide) (by rw [c_17_11]; decide) (by rw [c_17_11]; rfl) (by decide) ?_
        refine lv_aload_n hx hb dX6_of_189 rfl (lv_at hl 1 rfl) ?_
        refine x_get (v := .ref (A 1)) (C := RX6) (T := TX6) (N := 9) hx hb hts hi6 hown hK hP 0 rfl rfl 0 (by decide) (hts (.fieldLink RX6 7 "PulseWheelModel" "now" "[I") (by decide +kernel)) rfl rfl dX6_of_190 ?_
        refine lv_iload_n hx hb dX6_of_193 rfl (lv_at hl 0 rfl) ?_
        refine lv_bipush (v := 13) hx hb dX6_of_194 (by decide) ?_
        refine lv_iadd hx hb dX6_of_196 ?_
        have hq_12 := ix_in (i := ((nI (1510 * 0)) + 13)) (n := 3020) ((1510 * 0) + 13) (nI_add (1510 * 0) 13) (by omega) (by decide)
        refine x_ild (v := r 1 ((1510 * 0) + 13)) hx hb hK hP 1 rfl hq_12.1 (by rw [hq_12.2]) dX6_of_197 ?_
        exact hE _ _ _ (by first | (rw [rdV_0]; done) | (rw [rdV_0]; unfold ofM; rw [if_neg c_17_0, if_neg c_17_1, if_neg c_17_2, if_neg c_17_3, if_neg c_17_4, if_neg c_17_5, if_neg c_17_6, if_neg c_17_7, if_neg c_17_8, if_neg c_17_9, if_neg c_17_10, if_pos c_17_11]; done)) rfl dX6_of_198
      have k_17_0 : ¬ Int32.toInt w = 0 := fun h => c_17_0 (Int32.toInt_inj.mp (h.trans (by decide)))
      have k_17_1 : ¬ Int32.toInt w = 1 := fun h => c_17_1 (Int32.toInt_inj.mp (h.trans (by decide)))
      have k_17_2 : ¬ Int32.toInt w = 2 := fun h => c_17_2 (Int32.toInt_inj.mp (h.trans (by decide)))
      have k_17_3 : ¬ Int32.toInt w = 3 := fun h => c_17_3 (Int32.toInt_inj.mp (h.trans (by decide)))
      have k_17_4 : ¬ Int32.toInt w = 4 := fun h => c_17_4 (Int32.toInt_inj.mp (h.trans (by decide)))
      have k_17_5 : ¬ Int32.toInt w = 5 := fun h => c_17_5 (Int32.toInt_inj.mp (h.trans (by decide)))
      have k_17_6 : ¬ Int32.toInt w = 6 := fun h => c_17_6 (Int32.toInt_inj.mp (h.trans (by decide)))
      have k_17_7 : ¬ Int32.toInt w = 7 := fun h => c_17_7 (Int32.toInt_inj.mp (h.trans (by decide)))
      have k_17_8 : ¬ Int32.toInt w = 8 := fun h => c_17_8 (Int32.toInt_inj.mp (h.trans (by decide)))
      have k_17_9 : ¬ Int32.toInt w = 9 := fun h => c_17_9 (Int32.toInt_inj.mp (h.trans (by decide)))
      have k_17_10 : ¬ Int32.toInt w = 10 := fun h => c_17_10 (Int32.toInt_inj.mp (h.trans (by decide)))
      have k_17_11 : ¬ Int32.toInt w = 11 := fun h => c_17_11 (Int32.toInt_inj.mp (h.trans (by decide)))
      refine lv_tableOut (tgt := 199) hx hb dX6_of_17 (by omega) (by decide) ?_
      refine lv_ldc (v := -2000000) hx hb hown (hts (.constant RX6 79 (-2000000)) (by decide +kernel)) dX6_of_199 ?_
      exact hE _ _ _ (by first | (rw [rdV_0]; done) | (rw [rdV_0]; unfold ofM; rw [if_neg c_17_0, if_neg c_17_1, if_neg c_17_2, if_neg c_17_3, if_neg c_17_4, if_neg c_17_5, if_neg c_17_6, if_neg c_17_7, if_neg c_17_8, if_neg c_17_9, if_neg c_17_10, if_neg c_17_11]; done)) rfl dX6_of_201
    · exact absurd c_4 (by decide)
  by_cases c1 : rd = 1
  · subst c1
    refine lv_iload_n hx hb dX6_of_0 rfl (lv_at hl 1 rfl) ?_
    refine kSI (va_runS (As := [.int 1]) (rest := []) ⟨hx, hb, hml, hown, hts⟩ (c_X6_isReader l D cI cB 1  _) (va_cwS 1 hts gX6_of_X6_isReader rfl rfl rfl (by decide +kernel) ⟨Nat.le_of_ble_eq_true rfl, Nat.le_of_ble_eq_true rfl⟩) (preS_nil hK hN) rfl rfl hl.1 rfl (lv_room (Nat.le_of_ble_eq_true rfl)) dX6_of_1 ⟨Nat.zero_le _, Nat.zero_le _⟩) ?_
    refine lv_if_ne (tgt := 10) hx hb dX6_of_4 (by decide) (fun c_4 => ?_) (fun c_4 => ?_)
    · skip
      refine lv_sipush (v := 1510) hx hb dX6_of_10 (by decide) ?_
      refine lv_iload_n hx hb dX6_of_13 rfl (lv_at hl 1 rfl) ?_
      refine lv_imul hx hb dX6_of_14 ?_
      refine x_top (y := nI (1510 * 1)) (by decide) ?_
      refine lv_istore_n (lv' := [(3, .int (nI (1510 * 1))), (0, .ref (A 0)), (1, .int 1), (2, .int w)]) hx hb dX6_of_15 rfl hl (by decide) rfl (fun ls hl => ?_)
      refine lv_iload_n hx hb dX6_of_16 rfl (lv_at hl 3 rfl) ?_
      by_cases c_17_0 : w = 0
      · refine lv_tableIn (tgt := 80) hx hb dX6_of_17 (by rw [c_17_0]; decide) (by rw [c_17_0]; decide) (by rw [c_17_0]; rfl) (by decide) ?_
        refine lv_aload_n hx hb dX6_of_80 rfl (lv_at hl 1 rfl) ?_
        refine x_get (v := .ref (A 1)) (C := RX6) (T := TX6) (N := 9) hx hb hts hi6 hown hK hP 0 rfl rfl 0 (by decide) (hts (.fieldLink RX6 7 "PulseWheelModel" "now" "[I") (by decide +kernel)) rfl rfl dX6_of_81 ?_
        refine lv_iload_n hx hb dX6_of_84 rfl (lv_at hl 0 rfl) ?_
        refine lv_bipush (v := 6) hx hb dX6_of_85 (by decide) ?_
        refine lv_iadd hx hb dX6_of_87 ?_
        have hq_13 := ix_in (i := ((nI (1510 * 1)) + 6)) (n := 3020) ((1510 * 1) + 6) (nI_add (1510 * 1) 6) (by omega) (by decide)
        refine x_ild (v := r 1 ((1510 * 1) + 6)) hx hb hK hP 1 rfl hq_13.1 (by rw [hq_13.2]) dX6_of_88 ?_
        exact hE _ _ _ (by first | (rw [rdV_1]; done) | (rw [rdV_1]; unfold ofM; rw [if_pos c_17_0]; done)) rfl dX6_of_89
      by_cases c_17_1 : w = 1
      · refine lv_tableIn (tgt := 90) hx hb dX6_of_17 (by rw [c_17_1]; decide) (by rw [c_17_1]; decide) (by rw [c_17_1]; rfl) (by decide) ?_
        refine lv_aload_n hx hb dX6_of_90 rfl (lv_at hl 1 rfl) ?_
        refine x_get (v := .ref (A 1)) (C := RX6) (T := TX6) (N := 9) hx hb hts hi6 hown hK hP 0 rfl rfl 0 (by decide) (hts (.fieldLink RX6 7 "PulseWheelModel" "now" "[I") (by decide +kernel)) rfl rfl dX6_of_91 ?_
        refine lv_iload_n hx hb dX6_of_94 rfl (lv_at hl 0 rfl) ?_
        refine lv_bipush (v := 7) hx hb dX6_of_95 (by decide) ?_
        refine lv_iadd hx hb dX6_of_97 ?_
        have hq_14 := ix_in (i := ((nI (1510 * 1)) + 7)) (n := 3020) ((1510 * 1) + 7) (nI_add (1510 * 1) 7) (by omega) (by decide)
        refine x_ild (v := r 1 ((1510 * 1) + 7)) hx hb hK hP 1 rfl hq_14.1 (by rw [hq_14.2]) dX6_of_98 ?_
        exact hE _ _ _ (by first | (rw [rdV_1]; done) | (rw [rdV_1]; unfold ofM; rw [if_neg c_17_0, if_pos c_17_1]; done)) rfl dX6_of_99
      by_cases c_17_2 : w = 2
      · refine lv_tableIn (tgt := 100) hx hb dX6_of_17 (by rw [c_17_2]; decide) (by rw [c_17_2]; decide) (by rw [c_17_2]; rfl) (by decide) ?_
        refine lv_aload_n hx hb dX6_of_100 rfl (lv_at hl 1 rfl) ?_
        refine x_get (v := .ref (A 1)) (C := RX6) (T := TX6) (N := 9) hx hb hts hi6 hown hK hP 0 rfl rfl 0 (by decide) (hts (.fieldLink RX6 7 "PulseWheelModel" "now" "[I") (by decide +kernel)) rfl rfl dX6_of_101 ?_
        refine lv_iload_n hx hb dX6_of_104 rfl (lv_at hl 0 rfl) ?_
        refine lv_bipush (v := 8) hx hb dX6_of_105 (by decide) ?_
        refine lv_iadd hx hb dX6_of_107 ?_
        have hq_15 := ix_in (i := ((nI (1510 * 1)) + 8)) (n := 3020) ((1510 * 1) + 8) (nI_add (1510 * 1) 8) (by omega) (by decide)
        refine x_ild (v := r 1 ((1510 * 1) + 8)) hx hb hK hP 1 rfl hq_15.1 (by rw [hq_15.2]) dX6_of_108 ?_
        exact hE _ _ _ (by first | (rw [rdV_1]; done) | (rw [rdV_1]; unfold ofM; rw [if_neg c_17_0, if_neg c_17_1, if_pos c_17_2]; done)) rfl dX6_of_109
      by_cases c_17_3 : w = 3
      · refine lv_tableIn (tgt := 110) hx hb dX6_of_17 (by rw [c_17_3]; decide) (by rw [c_17_3]; decide) (by rw [c_17_3]; rfl) (by decide) ?_
        refine lv_aload_n hx hb dX6_of_110 rfl (lv_at hl 1 rfl) ?_
        refine x_get (v := .ref (A 1)) (C := RX6) (T := TX6) (N := 9) hx hb hts hi6 hown hK hP 0 rfl rfl 0 (by decide) (hts (.fieldLink RX6 7 "PulseWheelModel" "now" "[I") (by decide +kernel)) rfl rfl dX6_of_111 ?_
        refine lv_iload_n hx hb dX6_of_114 rfl (lv_at hl 0 rfl) ?_
        refine lv_iconst (v := 2) hx hb dX6_of_115 (by decide) ?_
        refine lv_iadd hx hb dX6_of_116 ?_
        have hq_16 := ix_in (i := ((nI (1510 * 1)) + 2)) (n := 3020) ((1510 * 1) + 2) (nI_add (1510 * 1) 2) (by omega) (by decide)
        refine x_ild (v := r 1 ((1510 * 1) + 2)) hx hb hK hP 1 rfl hq_16.1 (by rw [hq_16.2]) dX6_of_117 ?_
        refine kSI (va_runS (As := [.int (r 1 ((1510 * 1) + 2))]) (rest := []) ⟨hx, hb, hml, hown, hts⟩ (c_X6_phaseOf l D cI cB (r 1 ((1510 * 1) + 2))  _) (va_cwS 1 hts gX6_of_X6_phaseOf rfl rfl rfl (by decide +kernel) ⟨Nat.le_of_ble_eq_true rfl, Nat.le_of_ble_eq_true rfl⟩) (preS_nil hK hN) rfl rfl hl.1 rfl (lv_room (Nat.le_of_ble_eq_true rfl)) dX6_of_118 ⟨Nat.zero_le _, Nat.zero_le _⟩) ?_
        exact hE _ _ _ (by first | (rw [rdV_1]; done) | (rw [rdV_1]; unfold ofM; rw [if_neg c_17_0, if_neg c_17_1, if_neg c_17_2, if_pos c_17_3]; done)) rfl dX6_of_121
      by_cases c_17_4 : w = 4
      · refine lv_tableIn (tgt := 122) hx hb dX6_of_17 (by rw [c_17_4]; decide) (by rw [c_17_4]; decide) (by rw [c_17_4]; rfl) (by decide) ?_
        refine lv_aload_n hx hb dX6_of_122 rfl (lv_at hl 1 rfl) ?_
        refine x_get (v := .ref (A 1)) (C := RX6) (T := TX6) (N := 9) hx hb hts hi6 hown hK hP 0 rfl rfl 0 (by decide) (hts (.fieldLink RX6 7 "PulseWheelModel" "now" "[I") (by decide +kernel)) rfl rfl dX6_of_123 ?_
        refine lv_iload_n hx hb dX6_of_126 rfl (lv_at hl 0 rfl) ?_
        refine lv_iconst (v := 2) hx hb dX6_of_127 (by decide) ?_
        refine lv_iadd hx hb dX6_of_128 ?_
        have hq_17 := ix_in (i := ((nI (1510 * 1)) + 2)) (n := 3020) ((1510 * 1) + 2) (nI_add (1510 * 1) 2) (by omega) (by decide)
        refine x_ild (v := r 1 ((1510 * 1) + 2)) hx hb hK hP 1 rfl hq_17.1 (by rw [hq_17.2]) dX6_of_129 ?_
        exact hE _ _ _ (by first | (rw [rdV_1]; done) | (rw [rdV_1]; unfold ofM; rw [if_neg c_17_0, if_neg c_17_1, if_neg c_17_2, if_neg c_17_3, if_pos c_17_4]; done)) rfl dX6_of_130
      by_cases c_17_5 : w = 5
      · refine lv_tableIn (tgt := 131) hx hb dX6_of_17 (by rw [c_17_5]; decide) (by rw [c_17_5]; decide) (by rw [c_17_5]; rfl) (by decide) ?_
        refine lv_aload_n hx hb dX6_of_131 rfl (lv_at hl 1 rfl) ?_
        refine x_get (v := .ref (A 1)) (C := RX6) (T := TX6) (N := 9) hx hb hts hi6 hown hK hP 0 rfl rfl 0 (by decide) (hts (.fieldLink RX6 7 "PulseWheelModel" "now" "[I") (by decide +kernel)) rfl rfl dX6_of_132 ?_
        refine lv_iload_n hx hb dX6_of_135 rfl (lv_at hl 0 rfl) ?_
        refine lv_iconst (v := 0) hx hb dX6_of_136 (by decide) ?_
        refine lv_iadd hx hb dX6_of_137 ?_
        have hq_18 := ix_in (i := ((nI (1510 * 1)) + 0)) (n := 3020) ((1510 * 1) + 0) (nI_add (1510 * 1) 0) (by omega) (by decide)
        refine x_ild (v := r 1 ((1510 * 1) + 0)) hx hb hK hP 1 rfl hq_18.1 (by rw [hq_18.2]) dX6_of_138 ?_
        exact hE _ _ _ (by first | (rw [rdV_1]; done) | (rw [rdV_1]; unfold ofM; rw [if_neg c_17_0, if_neg c_17_1, if_neg c_17_2, if_neg c_17_3, if_neg c_17_4, if_pos c_17_5]; done)) rfl dX6_of_139
      by_cases c_17_6 : w = 6
      · refine lv_tableIn (tgt := 140) hx hb dX6_of_17 (by rw [c_17_6]; decide) (by rw [c_17_6]; decide) (by rw [c_17_6]; rfl) (by decide) ?_
        refine lv_aload_n hx hb dX6_of_140 rfl (lv_at hl 1 rfl) ?_
        refine x_get (v := .ref (A 1)) (C := RX6) (T := TX6) (N := 9) hx hb hts hi6 hown hK hP 0 rfl rfl 0 (by decide) (hts (.fieldLink RX6 7 "PulseWheelModel" "now" "[I") (by decide +kernel)) rfl rfl dX6_of_141 ?_
        refine lv_iload_n hx hb dX6_of_144 rfl (lv_at hl 0 rfl) ?_
        refine lv_iconst (v := 1) hx hb dX6_of_145 (by decide) ?_
        refine lv_iadd hx hb dX6_of_146 ?_
        have hq_19 := ix_in (i := ((nI (1510 * 1)) + 1)) (n := 3020) ((1510 * 1) + 1) (nI_add (1510 * 1) 1) (by omega) (by decide)
        refine x_ild (v := r 1 ((1510 * 1) + 1)) hx hb hK hP 1 rfl hq_19.1 (by rw [hq_19.2]) dX6_of_147 ?_
        exact hE _ _ _ (by first | (rw [rdV_1]; done) | (rw [rdV_1]; unfold ofM; rw [if_neg c_17_0, if_neg c_17_1, if_neg c_17_2, if_neg c_17_3, if_neg c_17_4, if_neg c_17_5, if_pos c_17_6]; done)) rfl dX6_of_148
      by_cases c_17_7 : w = 7
      · refine lv_tableIn (tgt := 149) hx hb dX6_of_17 (by rw [c_17_7]; decide) (by rw [c_17_7]; decide) (by rw [c_17_7]; rfl) (by decide) ?_
        refine lv_aload_n hx hb dX6_of_149 rfl (lv_at hl 1 rfl) ?_
        refine x_get (v := .ref (A 1)) (C := RX6) (T := TX6) (N := 9) hx hb hts hi6 hown hK hP 0 rfl rfl 0 (by decide) (hts (.fieldLink RX6 7 "PulseWheelModel" "now" "[I") (by decide +kernel)) rfl rfl dX6_of_150 ?_
        refine lv_iload_n hx hb dX6_of_153 rfl (lv_at hl 0 rfl) ?_
        refine lv_bipush (v := 9) hx hb dX6_of_154 (by decide) ?_
        refine lv_iadd hx hb dX6_of_156 ?_
        have hq_20 := ix_in (i := ((nI (1510 * 1)) + 9)) (n := 3020) ((1510 * 1) + 9) (nI_add (1510 * 1) 9) (by omega) (by decide)
        refine x_ild (v := r 1 ((1510 * 1) + 9)) hx hb hK hP 1 rfl hq_20.1 (by rw [hq_20.2]) dX6_of_157 ?_
        exact hE _ _ _ (by first | (rw [rdV_1]; done) | (rw [rdV_1]; unfold ofM; rw [if_neg c_17_0, if_neg c_17_1, if_neg c_17_2, if_neg c_17_3, if_neg c_17_4, if_neg c_17_5, if_neg c_17_6, if_pos c_17_7]; done)) rfl dX6_of_158
      by_cases c_17_8 : w = 8
      · refine lv_tableIn (tgt := 159) hx hb dX6_of_17 (by rw [c_17_8]; decide) (by rw [c_17_8]; decide) (by rw [c_17_8]; rfl) (by decide) ?_
        refine lv_aload_n hx hb dX6_of_159 rfl (lv_at hl 1 rfl) ?_
        refine x_get (v := .ref (A 1)) (C := RX6) (T := TX6) (N := 9) hx hb hts hi6 hown hK hP 0 rfl rfl 0 (by decide) (hts (.fieldLink RX6 7 "PulseWheelModel" "now" "[I") (by decide +kernel)) rfl rfl dX6_of_160 ?_
        refine lv_iload_n hx hb dX6_of_163 rfl (lv_at hl 0 rfl) ?_
        refine lv_bipush (v := 10) hx hb dX6_of_164 (by decide) ?_
        refine lv_iadd hx hb dX6_of_166 ?_
        have hq_21 := ix_in (i := ((nI (1510 * 1)) + 10)) (n := 3020) ((1510 * 1) + 10) (nI_add (1510 * 1) 10) (by omega) (by decide)
        refine x_ild (v := r 1 ((1510 * 1) + 10)) hx hb hK hP 1 rfl hq_21.1 (by rw [hq_21.2]) dX6_of_167 ?_
        exact hE _ _ _ (by first | (rw [rdV_1]; done) | (rw [rdV_1]; unfold ofM; rw [if_neg c_17_0, if_neg c_17_1, if_neg c_17_2, if_neg c_17_3, if_neg c_17_4, if_neg c_17_5, if_neg c_17_6, if_neg c_17_7, if_pos c_17_8]; done)) rfl dX6_of_168
      by_cases c_17_9 : w = 9
      · refine lv_tableIn (tgt := 169) hx hb dX6_of_17 (by rw [c_17_9]; decide) (by rw [c_17_9]; decide) (by rw [c_17_9]; rfl) (by decide) ?_
        refine lv_aload_n hx hb dX6_of_169 rfl (lv_at hl 1 rfl) ?_
        refine x_get (v := .ref (A 1)) (C := RX6) (T := TX6) (N := 9) hx hb hts hi6 hown hK hP 0 rfl rfl 0 (by decide) (hts (.fieldLink RX6 7 "PulseWheelModel" "now" "[I") (by decide +kernel)) rfl rfl dX6_of_170 ?_
        refine lv_iload_n hx hb dX6_of_173 rfl (lv_at hl 0 rfl) ?_
        refine lv_bipush (v := 11) hx hb dX6_of_174 (by decide) ?_
        refine lv_iadd hx hb dX6_of_176 ?_
        have hq_22 := ix_in (i := ((nI (1510 * 1)) + 11)) (n := 3020) ((1510 * 1) + 11) (nI_add (1510 * 1) 11) (by omega) (by decide)
        refine x_ild (v := r 1 ((1510 * 1) + 11)) hx hb hK hP 1 rfl hq_22.1 (by rw [hq_22.2]) dX6_of_177 ?_
        exact hE _ _ _ (by first | (rw [rdV_1]; done) | (rw [rdV_1]; unfold ofM; rw [if_neg c_17_0, if_neg c_17_1, if_neg c_17_2, if_neg c_17_3, if_neg c_17_4, if_neg c_17_5, if_neg c_17_6, if_neg c_17_7, if_neg c_17_8, if_pos c_17_9]; done)) rfl dX6_of_178
      by_cases c_17_10 : w = 10
      · refine lv_tableIn (tgt := 179) hx hb dX6_of_17 (by rw [c_17_10]; decide) (by rw [c_17_10]; decide) (by rw [c_17_10]; rfl) (by decide) ?_
        refine lv_aload_n hx hb dX6_of_179 rfl (lv_at hl 1 rfl) ?_
        refine x_get (v := .ref (A 1)) (C := RX6) (T := TX6) (N := 9) hx hb hts hi6 hown hK hP 0 rfl rfl 0 (by decide) (hts (.fieldLink RX6 7 "PulseWheelModel" "now" "[I") (by decide +kernel)) rfl rfl dX6_of_180 ?_
        refine lv_iload_n hx hb dX6_of_183 rfl (lv_at hl 0 rfl) ?_
        refine lv_bipush (v := 12) hx hb dX6_of_184 (by decide) ?_
        refine lv_iadd hx hb dX6_of_186 ?_
        have hq_23 := ix_in (i := ((nI (1510 * 1)) + 12)) (n := 3020) ((1510 * 1) + 12) (nI_add (1510 * 1) 12) (by omega) (by decide)
        refine x_ild (v := r 1 ((1510 * 1) + 12)) hx hb hK hP 1 rfl hq_23.1 (by rw [hq_23.2]) dX6_of_187 ?_
        exact hE _ _ _ (by first | (rw [rdV_1]; done) | (rw [rdV_1]; unfold ofM; rw [if_neg c_17_0, if_neg c_17_1, if_neg c_17_2, if_neg c_17_3, if_neg c_17_4, if_neg c_17_5, if_neg c_17_6, if_neg c_17_7, if_neg c_17_8, if_neg c_17_9, if_pos c_17_10]; done)) rfl dX6_of_188
      by_cases c_17_11 : w = 11
      · refine lv_tableIn (tgt := 189) hx hb dX6_of_17 (by rw [c_17_11]; decide) (by rw [c_17_11]; decide) (by rw [c_17_11]; rfl) (by decide) ?_
        refine lv_aload_n hx hb dX6_of_189 rfl (lv_at hl 1 rfl) ?_
        refine x_get (v := .ref (A 1)) (C := RX6) (T := TX6) (N := 9) hx hb hts hi6 hown hK hP 0 rfl rfl 0 (by decide) (hts (.fieldLink RX6 7 "PulseWheelModel" "now" "[I") (by decide +kernel)) rfl rfl dX6_of_190 ?_
        refine lv_iload_n hx hb dX6_of_193 rfl (lv_at hl 0 rfl) ?_
        refine lv_bipush (v := 13) hx hb dX6_of_194 (by decide) ?_
        refine lv_iadd hx hb dX6_of_196 ?_
        have hq_24 := ix_in (i := ((nI (1510 * 1)) + 13)) (n := 3020) ((1510 * 1) + 13) (nI_add (1510 * 1) 13) (by omega) (by decide)
        refine x_ild (v := r 1 ((1510 * 1) + 13)) hx hb hK hP 1 rfl hq_24.1 (by rw [hq_24.2]) dX6_of_197 ?_
        exact hE _ _ _ (by first | (rw [rdV_1]; done) | (rw [rdV_1]; unfold ofM; rw [if_neg c_17_0, if_neg c_17_1, if_neg c_17_2, if_neg c_17_3, if_neg c_17_4, if_neg c_17_5, if_neg c_17_6, if_neg c_17_7, if_neg c_17_8, if_neg c_17_9, if_neg c_17_10, if_pos c_17_11]; done)) rfl dX6_of_198
      have k_17_0 : ¬ Int32.toInt w = 0 := fun h => c_17_0 (Int32.toInt_inj.mp (h.trans (by decide)))
      have k_17_1 : ¬ Int32.toInt w = 1 := fun h => c_17_1 (Int32.toInt_inj.mp (h.trans (by decide)))
      have k_17_2 : ¬ Int32.toInt w = 2 := fun h => c_17_2 (Int32.toInt_inj.mp (h.trans (by decide)))
      have k_17_3 : ¬ Int32.toInt w = 3 := fun h => c_17_3 (Int32.toInt_inj.mp (h.trans (by decide)))
      have k_17_4 : ¬ Int32.toInt w = 4 := fun h => c_17_4 (Int32.toInt_inj.mp (h.trans (by decide)))
      have k_17_5 : ¬ Int32.toInt w = 5 := fun h => c_17_5 (Int32.toInt_inj.mp (h.trans (by decide)))
      have k_17_6 : ¬ Int32.toInt w = 6 := fun h => c_17_6 (Int32.toInt_inj.mp (h.trans (by decide)))
      have k_17_7 : ¬ Int32.toInt w = 7 := fun h => c_17_7 (Int32.toInt_inj.mp (h.trans (by decide)))
      have k_17_8 : ¬ Int32.toInt w = 8 := fun h => c_17_8 (Int32.toInt_inj.mp (h.trans (by decide)))
      have k_17_9 : ¬ Int32.toInt w = 9 := fun h => c_17_9 (Int32.toInt_inj.mp (h.trans (by decide)))
      have k_17_10 : ¬ Int32.toInt w = 10 := fun h => c_17_10 (Int32.toInt_inj.mp (h.trans (by decide)))
      have k_17_11 : ¬ Int32.toInt w = 11 := fun h => c_17_11 (Int32.toInt_inj.mp (h.trans (by decide)))
      refine lv_tableOut (tgt := 199) hx hb dX6_of_17 (by omega) (by decide) ?_
      refine lv_ldc (v := -2000000) hx hb hown (hts (.constant RX6 79 (-2000000)) (by decide +kernel)) dX6_of_199 ?_
      exact hE _ _ _ (by first | (rw [rdV_1]; done) | (rw [rdV_1]; unfold ofM; rw [if_neg c_17_0, if_neg c_17_1, if_neg c_17_2, if_neg c_17_3, if_neg c_17_4, if_neg c_17_5, if_neg c_17_6, if_neg c_17_7, if_neg c_17_8, if_neg c_17_9, if_neg c_17_10, if_neg c_17_11]; done)) rfl dX6_of_201
    · exact absurd c_4 (by decide)
  refine lv_iload_n hx hb dX6_of_0 rfl (lv_at hl 1 rfl) ?_
  refine kSI (va_runS (As := [.int rd]) (rest := []) ⟨hx, hb, hml, hown, hts⟩ (c_X6_isReader l D cI cB rd  _) (va_cwS 1 hts gX6_of_X6_isReader rfl rfl rfl (by decide +kernel) ⟨Nat.le_of_ble_eq_true rfl, Nat.le_of_ble_eq_true rfl⟩) (preS_nil hK hN) rfl rfl hl.1 rfl (lv_room (Nat.le_of_ble_eq_true rfl)) dX6_of_1 ⟨Nat.zero_le _, Nat.zero_le _⟩) ?_
  refine lv_if_ne (tgt := 10) hx hb dX6_of_4 (by decide) (fun c_4 => ?_) (fun c_4 => ?_)
  · exact absurd (by unfold isRdV; rw [if_neg c0, if_neg c1]) c_4
  · skip
    refine lv_ldc (v := -2000000) hx hb hown (hts (.constant RX6 79 (-2000000)) (by decide +kernel)) dX6_of_7 ?_
    exact hE _ _ _ (by first | (rw [rdV_n c0 c1]; done) | (rw [rdV_n c0 c1]; unfold ofM; rw [if_true]; done)) rfl dX6_of_9

def rm_X6_origin : Room := { frames := 1, cells := 0, slots := 0, locals := 20 }
set_option maxHeartbeats 1000000 in
set_option maxRecDepth 100000 in
theorem c_X6_origin (l : Launch) (D : va_G) (cI cB : ClassId) (A : Nat → Nat) (r : Tb) (rd : Int32) : SI l D cI cB yX6_origin wsX6_origin rm_X6_origin [.ref (A 0), .int rd] (modelW A cI r) (rdV rd (originM r (1510 * 0)) (originM r (1510 * 1)) (-2000000)) := by
  refine SI.of (cc := cX6_origin) (maxL := 2) (ty := .int) (by decide +kernel) rfl (Nat.le_of_ble_eq_true rfl) ?_
  intro p e s m args below meth c ls Q hT hP hD hl hE
  obtain ⟨hx, hb, hr, hlocks, hnm, hml, hown, hts, hK, hN⟩ := hT
  have hl : lv_has ls 2 [(0, .ref (A 0)), (1, .int rd)] := hl
  have hi6 : ∀ w ∈ wsX60, w ∈ wsX6_origin := by decide +kernel
  by_cases c0 : rd = 0
  · subst c0
    refine lv_iload_n hx hb dX6_origin_0 rfl (lv_at hl 1 rfl) ?_
    refine kSI (va_runS (As := [.int 0]) (rest := []) ⟨hx, hb, hml, hown, hts⟩ (c_X6_isReader l D cI cB 0  _) (va_cwS 1 hts gX6_origin_X6_isReader rfl rfl rfl (by decide +kernel) ⟨Nat.le_of_ble_eq_true rfl, Nat.le_of_ble_eq_true rfl⟩) (preS_nil hK hN) rfl rfl hl.1 rfl (lv_room (Nat.le_of_ble_eq_true rfl)) dX6_origin_1 ⟨Nat.zero_le _, Nat.zero_le _⟩) ?_
    refine lv_if_eq (tgt := 40) hx hb dX6_origin_4 (by decide) (fun c_4 => ?_) (fun c_4 => ?_)
    · exact absurd c_4 (by decide)
    · skip
      refine lv_aload_n hx hb dX6_origin_7 rfl (lv_at hl 0 rfl) ?_
      refine x_get (v := .ref (A 1)) (C := RX6) (T := TX6) (N := 9) hx hb hts hi6 hown hK hP 0 rfl rfl 0 (by decide) (hts (.fieldLink RX6 7 "PulseWheelModel" "now" "[I") (by decide +kernel)) rfl rfl dX6_origin_8 ?_
      refine lv_sipush (v := 1510) hx hb dX6_origin_11 (by decide) ?_
      refine lv_iload_n hx hb dX6_origin_14 rfl (lv_at hl 1 rfl) ?_
      refine lv_imul hx hb dX6_origin_15 ?_
      refine x_top (y := nI (1510 * 0)) (by decide) ?_
      refine lv_bipush (v := 13) hx hb dX6_origin_16 (by decide) ?_
      refine lv_iadd hx hb dX6_origin_18 ?_
      have hq_1 := ix_in (i := ((nI (1510 * 0)) + 13)) (n := 3020) ((1510 * 0) + 13) (nI_add (1510 * 0) 13) (by omega) (by decide)
      refine x_ild (v := r 1 ((1510 * 0) + 13)) hx hb hK hP 1 rfl hq_1.1 (by rw [hq_1.2]) dX6_origin_19 ?_
      refine lv_iconst (v := 1) hx hb dX6_origin_20 (by decide) ?_
      refine lv_icmp_ne (tgt := 40) hx hb dX6_origin_21 (by decide) (fun c_21 => ?_) (fun c_21 => ?_)
      · skip
        refine lv_ldc (v := -2000000) hx hb hown (hts (.constant RX6 79 (-2000000)) (by decide +kernel)) dX6_origin_40 ?_
        exact hE _ _ _ (by first | (rw [rdV_0]; done) | (rw [rdV_0]; unfold originM; rw [if_neg c_21]; done)) rfl dX6_origin_42
      · skip
        refine lv_aload_n hx hb dX6_origin_24 rfl (lv_at hl 0 rfl) ?_
        refine x_get (v := .ref (A 1)) (C := RX6) (T := TX6) (N := 9) hx hb hts hi6 hown hK hP 0 rfl rfl 0 (by decide) (hts (.fieldLink RX6 7 "PulseWheelModel" "now" "[I") (by decide +kernel)) rfl rfl dX6_origin_25 ?_
        refine lv_sipush (v := 1510) hx hb dX6_origin_28 (by decide) ?_
        refine lv_iload_n hx hb dX6_origin_31 rfl (lv_at hl 1 rfl) ?_
        refine lv_imul hx hb dX6_origin_32 ?_
        refine x_top (y := nI (1510 * 0)) (by decide) ?_
        refine lv_bipush (v := 14) hx hb dX6_origin_33 (by decide) ?_
        refine lv_iadd hx hb dX6_origin_35 ?_
        have hq_2 := ix_in (i := ((nI (1510 * 0)) + 14)) (n := 3020) ((1510 * 0) + 14) (nI_add (1510 * 0) 14) (by omega) (by decide)
        refine x_ild (v := r 1 ((1510 * 0) + 14)) hx hb hK hP 1 rfl hq_2.1 (by rw [hq_2.2]) dX6_origin_36 ?_
        refine lv_goto (tgt := 42) hx hb dX6_origin_37 (by decide) ?_
        exact hE _ _ _ (by first | (rw [rdV_0]; done) | (rw [rdV_0]; unfold originM; rw [if_pos c_21]; done)) rfl dX6_origin_42
  by_cases c1 : rd = 1
  · subst c1
    refine lv_iload_n hx hb dX6_origin_0 rfl (lv_at hl 1 rfl) ?_
    refine kSI (va_runS (As := [.int 1]) (rest := []) ⟨hx, hb, hml, hown, hts⟩ (c_X6_isReader l D cI cB 1  _) (va_cwS 1 hts gX6_origin_X6_isReader rfl rfl rfl (by decide +kernel) ⟨Nat.le_of_ble_eq_true rfl, Nat.le_of_ble_eq_true rfl⟩) (preS_nil hK hN) rfl rfl hl.1 rfl (lv_room (Nat.le_of_ble_eq_true rfl)) dX6_origin_1 ⟨Nat.zero_le _, Nat.zero_le _⟩) ?_
    refine lv_if_eq (tgt := 40) hx hb dX6_origin_4 (by decide) (fun c_4 => ?_) (fun c_4 => ?_)
    · exact absurd c_4 (by decide)
    · skip
      refine lv_aload_n hx hb dX6_origin_7 rfl (lv_at hl 0 rfl) ?_
      refine x_get (v := .ref (A 1)) (C := RX6) (T := TX6) (N := 9) hx hb hts hi6 hown hK hP 0 rfl rfl 0 (by decide) (hts (.fieldLink RX6 7 "PulseWheelModel" "now" "[I") (by decide +kernel)) rfl rfl dX6_origin_8 ?_
      refine lv_sipush (v := 1510) hx hb dX6_origin_11 (by decide) ?_
      refine lv_iload_n hx hb dX6_origin_14 rfl (lv_at hl 1 rfl) ?_
      refine lv_imul hx hb dX6_origin_15 ?_
      refine x_top (y := nI (1510 * 1)) (by decide) ?_
      refine lv_bipush (v := 13) hx hb dX6_origin_16 (by decide) ?_
      refine lv_iadd hx hb dX6_origin_18 ?_
      have hq_3 := ix_in (i := ((nI (1510 * 1)) + 13)) (n := 3020) ((1510 * 1) + 13) (nI_add (1510 * 1) 13) (by omega) (by decide)
      refine x_ild (v := r 1 ((1510 * 1) + 13)) hx hb hK hP 1 rfl hq_3.1 (by rw [hq_3.2]) dX6_origin_19 ?_
      refine lv_iconst (v := 1) hx hb dX6_origin_20 (by decide) ?_
      refine lv_icmp_ne (tgt := 40) hx hb dX6_origin_21 (by decide) (fun c_21 => ?_) (fun c_21 => ?_)
      · skip
        refine lv_ldc (v := -2000000) hx hb hown (hts (.constant RX6 79 (-2000000)) (by decide +kernel)) dX6_origin_40 ?_
        exact hE _ _ _ (by first | (rw [rdV_1]; done) | (rw [rdV_1]; unfold originM; rw [if_neg c_21]; done)) rfl dX6_origin_42
      · skip
        refine lv_aload_n hx hb dX6_origin_24 rfl (lv_at hl 0 rfl) ?_
        refine x_get (v := .ref (A 1)) (C := RX6) (T := TX6) (N := 9) hx hb hts hi6 hown hK hP 0 rfl rfl 0 (by decide) (hts (.fieldLink RX6 7 "PulseWheelModel" "now" "[I") (by decide +kernel)) rfl rfl dX6_origin_25 ?_
        refine lv_sipush (v := 1510) hx hb dX6_origin_28 (by decide) ?_
        refine lv_iload_n hx hb dX6_origin_31 rfl (lv_at hl 1 rfl) ?_
        refine lv_imul hx hb dX6_origin_32 ?_
        refine x_top (y := nI (1510 * 1)) (by decide) ?_
        refine lv_bipush (v := 14) hx hb dX6_origin_33 (by decide) ?_
        refine lv_iadd hx hb dX6_origin_35 ?_
        have hq_4 := ix_in (i := ((nI (1510 * 1)) + 14)) (n := 3020) ((1510 * 1) + 14) (nI_add (1510 * 1) 14) (by omega) (by decide)
        refine x_ild (v := r 1 ((1510 * 1) + 14)) hx hb hK hP 1 rfl hq_4.1 (by rw [hq_4.2]) dX6_origin_36 ?_
        refine lv_goto (tgt := 42) hx hb dX6_origin_37 (by decide) ?_
        exact hE _ _ _ (by first | (rw [rdV_1]; done) | (rw [rdV_1]; unfold originM; rw [if_pos c_21]; done)) rfl dX6_origin_42
  refine lv_iload_n hx hb dX6_origin_0 rfl (lv_at hl 1 rfl) ?_
  refine kSI (va_runS (As := [.int rd]) (rest := []) ⟨hx, hb, hml, hown, hts⟩ (c_X6_isReader l D cI cB rd  _) (va_cwS 1 hts gX6_origin_X6_isReader rfl rfl rfl (by decide +kernel) ⟨Nat.le_of_ble_eq_true rfl, Nat.le_of_ble_eq_true rfl⟩) (preS_nil hK hN) rfl rfl hl.1 rfl (lv_room (Nat.le_of_ble_eq_true rfl)) dX6_origin_1 ⟨Nat.zero_le _, Nat.zero_le _⟩) ?_
  refine lv_if_eq (tgt := 40) hx hb dX6_origin_4 (by decide) (fun c_4 => ?_) (fun c_4 => ?_)
  · skip
    refine lv_ldc (v := -2000000) hx hb hown (hts (.constant RX6 79 (-2000000)) (by decide +kernel)) dX6_origin_40 ?_
    exact hE _ _ _ (by first | (rw [rdV_n c0 c1]; done) | (rw [rdV_n c0 c1]; unfold originM; rw [if_true]; done)) rfl dX6_origin_42
  · exact absurd (by unfold isRdV; rw [if_neg c0, if_neg c1]) c_4

def rm_X6_wholes : Room := { frames := 1, cells := 0, slots := 0, locals := 20 }
set_option maxHeartbeats 1000000 in
set_option maxRecDepth 100000 in
theorem c_X6_wholes (l : Launch) (D : va_G) (cI cB : ClassId) (A : Nat → Nat) (r : Tb) (rd : Int32) : SI l D cI cB yX6_wholes wsX6_wholes rm_X6_wholes [.ref (A 0), .int rd] (modelW A cI r) (rdV rd (r 1 ((1510 * 0) + 17)) (r 1 ((1510 * 1) + 17)) (-1)) := by
  refine SI.of (cc := cX6_wholes) (maxL := 2) (ty := .int) (by decide +kernel) rfl (Nat.le_of_ble_eq_true rfl) ?_
  intro p e s m args below meth c ls Q hT hP hD hl hE
  obtain ⟨hx, hb, hr, hlocks, hnm, hml, hown, hts, hK, hN⟩ := hT
  have hl : lv_has ls 2 [(0, .ref (A 0)), (1, .int rd)] := hl
  have hi6 : ∀ w ∈ wsX60, w ∈ wsX6_wholes := by decide +kernel
  by_cases c0 : rd = 0
  · subst c0
    refine lv_iload_n hx hb dX6_wholes_0 rfl (lv_at hl 1 rfl) ?_
    refine kSI (va_runS (As := [.int 0]) (rest := []) ⟨hx, hb, hml, hown, hts⟩ (c_X6_isReader l D cI cB 0  _) (va_cwS 1 hts gX6_wholes_X6_isReader rfl rfl rfl (by decide +kernel) ⟨Nat.le_of_ble_eq_true rfl, Nat.le_of_ble_eq_true rfl⟩) (preS_nil hK hN) rfl rfl hl.1 rfl (lv_room (Nat.le_of_ble_eq_true rfl)) dX6_wholes_1 ⟨Nat.zero_le _, Nat.zero_le _⟩) ?_
    refine lv_if_eq (tgt := 23) hx hb dX6_wholes_4 (by decide) (fun c_4 => ?_) (fun c_4 => ?_)
    · exact absurd c_4 (by decide)
    · skip
      refine lv_aload_n hx hb dX6_wholes_7 rfl (lv_at hl 0 rfl) ?_
      refine x_get (v := .ref (A 1)) (C := RX6) (T := TX6) (N := 9) hx hb hts hi6 hown hK hP 0 rfl rfl 0 (by decide) (hts (.fieldLink RX6 7 "PulseWheelModel" "now" "[I") (by decide +kernel)) rfl rfl dX6_wholes_8 ?_
      refine lv_sipush (v := 1510) hx hb dX6_wholes_11 (by decide) ?_
      refine lv_iload_n hx hb dX6_wholes_14 rfl (lv_at hl 1 rfl) ?_
      refine lv_imul hx hb dX6_wholes_15 ?_
      refine x_top (y := nI (1510 * 0)) (by decide) ?_
      refine lv_bipush (v := 17) hx hb dX6_wholes_16 (by decide) ?_
      refine lv_iadd hx hb dX6_wholes_18 ?_
      have hq_1 := ix_in (i := ((nI (1510 * 0)) + 17)) (n := 3020) ((1510 * 0) + 17) (nI_add (1510 * 0) 17) (by omega) (by decide)
      refine x_ild (v := r 1 ((1510 * 0) + 17)) hx hb hK hP 1 rfl hq_1.1 (by rw [hq_1.2]) dX6_wholes_19 ?_
      refine lv_goto (tgt := 24) hx hb dX6_wholes_20 (by decide) ?_
      exact hE _ _ _ (by first | (rw [rdV_0]; done) | (rw [rdV_0]; unfold rdV; rw [if_true]; done)) rfl dX6_wholes_24
  by_cases c1 : rd = 1
  · subst c1
    refine lv_iload_n hx hb dX6_wholes_0 rfl (lv_at hl 1 rfl) ?_
    refine kSI (va_runS (As := [.int 1]) (rest := []) ⟨hx, hb, hml, hown, hts⟩ (c_X6_isReader l D cI cB 1  _) (va_cwS 1 hts gX6_wholes_X6_isReader rfl rfl rfl (by decide +kernel) ⟨Nat.le_of_ble_eq_true rfl, Nat.le_of_ble_eq_true rfl⟩) (preS_nil hK hN) rfl rfl hl.1 rfl (lv_room (Nat.le_of_ble_eq_true rfl)) dX6_wholes_1 ⟨Nat.zero_le _, Nat.zero_le _⟩) ?_
    refine lv_if_eq (tgt := 23) hx hb dX6_wholes_4 (by decide) (fun c_4 => ?_) (fun c_4 => ?_)
    · exact absurd c_4 (by decide)
    · skip
      refine lv_aload_n hx hb dX6_wholes_7 rfl (lv_at hl 0 rfl) ?_
      refine x_get (v := .ref (A 1)) (C := RX6) (T := TX6) (N := 9) hx hb hts hi6 hown hK hP 0 rfl rfl 0 (by decide) (hts (.fieldLink RX6 7 "PulseWheelModel" "now" "[I") (by decide +kernel)) rfl rfl dX6_wholes_8 ?_
      refine lv_sipush (v := 1510) hx hb dX6_wholes_11 (by decide) ?_
      refine lv_iload_n hx hb dX6_wholes_14 rfl (lv_at hl 1 rfl) ?_
      refine lv_imul hx hb dX6_wholes_15 ?_
      refine x_top (y := nI (1510 * 1)) (by decide) ?_
      refine lv_bipush (v := 17) hx hb dX6_wholes_16 (by decide) ?_
      refine lv_iadd hx hb dX6_wholes_18 ?_
      have hq_2 := ix_in (i := ((nI (1510 * 1)) + 17)) (n := 3020) ((1510 * 1) + 17) (nI_add (1510 * 1) 17) (by omega) (by decide)
      refine x_ild (v := r 1 ((1510 * 1) + 17)) hx hb hK hP 1 rfl hq_2.1 (by rw [hq_2.2]) dX6_wholes_19 ?_
      refine lv_goto (tgt := 24) hx hb dX6_wholes_20 (by decide) ?_
      exact hE _ _ _ (by first | (rw [rdV_1]; done) | (rw [rdV_1]; unfold rdV; rw [if_true]; done)) rfl dX6_wholes_24
  refine lv_iload_n hx hb dX6_wholes_0 rfl (lv_at hl 1 rfl) ?_
  refine kSI (va_runS (As := [.int rd]) (rest := []) ⟨hx, hb, hml, hown, hts⟩ (c_X6_isReader l D cI cB rd  _) (va_cwS 1 hts gX6_wholes_X6_isReader rfl rfl rfl (by decide +kernel) ⟨Nat.le_of_ble_eq_true rfl, Nat.le_of_ble_eq_true rfl⟩) (preS_nil hK hN) rfl rfl hl.1 rfl (lv_room (Nat.le_of_ble_eq_true rfl)) dX6_wholes_1 ⟨Nat.zero_le _, Nat.zero_le _⟩) ?_
  refine lv_if_eq (tgt := 23) hx hb dX6_wholes_4 (by decide) (fun c_4 => ?_) (fun c_4 => ?_)
  · skip
    refine lv_iconst (v := -1) hx hb dX6_wholes_23 (by decide) ?_
    exact hE _ _ _ (by first | (rw [rdV_n c0 c1]; done) | (rw [rdV_n c0 c1]; unfold rdV; rw [if_true]; done)) rfl dX6_wholes_24
  · exact absurd (by unfold isRdV; rw [if_neg c0, if_neg c1]) c_4

def rm_X6_event_ : Room := { frames := 1, cells := 0, slots := 0, locals := 23 }
set_option maxHeartbeats 1000000 in
set_option maxRecDepth 100000 in
theorem c_X6_event_ (l : Launch) (D : va_G) (cI cB : ClassId) (A : Nat → Nat) (r : Tb) (rd k w : Int32) : SI l D cI cB yX6_event_ wsX6_event_ rm_X6_event_ [.ref (A 0), .int rd, .int k, .int w] (modelW A cI r) (rdV rd (eventM r (1510 * 0) k w) (eventM r (1510 * 1) k w) (-2000000)) := by
  refine SI.of (cc := cX6_event_) (maxL := 6) (ty := .int) (by decide +kernel) rfl (Nat.le_of_ble_eq_true rfl) ?_
  intro p e s m args below meth c ls Q hT hP hD hl hE
  obtain ⟨hx, hb, hr, hlocks, hnm, hml, hown, hts, hK, hN⟩ := hT
  have hl : lv_has ls 6 [(0, .ref (A 0)), (1, .int rd), (2, .int k), (3, .int w)] := hl
  have hi6 : ∀ w ∈ wsX60, w ∈ wsX6_event_ := by decide +kernel
  by_cases c0 : rd = 0
  · subst c0
    refine lv_iload_n hx hb dX6_event__0 rfl (lv_at hl 1 rfl) ?_
    refine kSI (va_runS (As := [.int 0]) (rest := []) ⟨hx, hb, hml, hown, hts⟩ (c_X6_isReader l D cI cB 0  _) (va_cwS 1 hts gX6_event__X6_isReader rfl rfl rfl (by decide +kernel) ⟨Nat.le_of_ble_eq_true rfl, Nat.le_of_ble_eq_true rfl⟩) (preS_nil hK hN) rfl rfl hl.1 rfl (lv_room (Nat.le_of_ble_eq_true rfl)) dX6_event__1 ⟨Nat.zero_le _, Nat.zero_le _⟩) ?_
    refine lv_if_ne (tgt := 10) hx hb dX6_event__4 (by decide) (fun c_4 => ?_) (fun c_4 => ?_)
    · skip
      refine lv_sipush (v := 1510) hx hb dX6_event__10 (by decide) ?_
      refine lv_iload_n hx hb dX6_event__13 rfl (lv_at hl 1 rfl) ?_
      refine lv_imul hx hb dX6_event__14 ?_
      refine x_top (y := nI (1510 * 0)) (by decide) ?_
      refine lv_istore (lv' := [(4, .int (nI (1510 * 0))), (0, .ref (A 0)), (1, .int 0), (2, .int k), (3, .int w)]) hx hb dX6_event__15 hl (by decide) rfl (fun ls hl => ?_)
      refine lv_aload_n hx hb dX6_event__17 rfl (lv_at hl 1 rfl) ?_
      refine lv_iload hx hb dX6_event__18 (lv_at hl 0 rfl) ?_
      refine lv_iload_n hx hb dX6_event__20 rfl (lv_at hl 3 rfl) ?_
      refine kSI (va_runV (As := [.int (nI (1510 * 0)), .int k]) (rest := []) ⟨hx, hb, hml, hown, hts⟩ (c_X6_latest l D cI cB A r k (1510 * 0) (by decide) _) (cwV 2 hts gX6_event__X6_latest rfl rfl rfl (by decide +kernel) ⟨Nat.le_of_ble_eq_true rfl, Nat.le_of_ble_eq_true rfl⟩) (preV_cut hP hD hK hN (ci := 6) rfl 0 rfl [0, 1, 2, 3, 4, 5] (by decide) rfl) rfl rfl hl.1 rfl (lv_room (Nat.le_of_ble_eq_true rfl)) dX6_event__21 ⟨Nat.zero_le _, Nat.zero_le _⟩) ?_
      refine lv_istore (lv' := [(5, .int (latV (r 1 ((1510 * 0) + 9)) k)), (4, .int (nI (1510 * 0))), (0, .ref (A 0)), (1, .int 0), (2, .int k), (3, .int w)]) hx hb dX6_event__24 hl (by decide) rfl (fun ls hl => ?_)
      refine lv_iload hx hb dX6_event__26 (lv_at hl 0 rfl) ?_
      refine lv_if_ge (tgt := 34) hx hb dX6_event__28 (by decide) (fun c_28 => ?_) (fun c_28 => ?_)
      · skip
        have hlat := (lat_in c_28).2
        refine lv_iload_n hx hb dX6_event__34 rfl (lv_at hl 5 rfl) ?_
        refine lv_if_ne (tgt := 54) hx hb dX6_event__35 (by decide) (fun c_35 => ?_) (fun c_35 => ?_)
        · skip
          refine lv_iload_n hx hb dX6_event__54 rfl (lv_at hl 5 rfl) ?_
          refine lv_iconst (v := 1) hx hb dX6_event__55 (by decide) ?_
          refine lv_icmp_ne (tgt := 76) hx hb dX6_event__56 (by decide) (fun c_56 => ?_) (fun c_56 => ?_)
          · skip
            refine lv_iload_n hx hb dX6_event__76 rfl (lv_at hl 5 rfl) ?_
            refine lv_iconst (v := 2) hx hb dX6_event__77 (by decide) ?_
            refine lv_icmp_ne (tgt := 98) hx hb dX6_event__78 (by decide) (fun c_78 => ?_) (fun c_78 => ?_)
            · skip
              refine lv_ldc (v := -2000000) hx hb hown (hts (.constant RX6 79 (-2000000)) (by decide +kernel)) dX6_event__98 ?_
              exact hE _ _ _ (by first | (rw [rdV_0]; done) | (rw [rdV_0]; unfold eventM; rw [if_pos c_28, if_neg c_35, if_neg c_56, if_neg c_78]; done)) rfl dX6_event__100
            · skip
              refine lv_aload_n hx hb dX6_event__81 rfl (lv_at hl 2 rfl) ?_
              refine x_get (v := .ref (A 1)) (C := RX6) (T := TX6) (N := 9) hx hb hts hi6 hown hK hP 0 rfl rfl 0 (by decide) (hts (.fieldLink RX6 7 "PulseWheelModel" "now" "[I") (by decide +kernel)) rfl rfl dX6_event__82 ?_
              refine lv_iload hx hb dX6_event__85 (lv_at hl 1 rfl) ?_
              refine lv_sipush (v := 620) hx hb dX6_event__87 (by decide) ?_
              refine lv_iadd hx hb dX6_event__90 ?_
              refine lv_iload hx hb dX6_event__91 (lv_at hl 0 rfl) ?_
              refine x_top (y := nI (latN (r 1 ((1510 * 0) + 9)) k)) ((lat_in c_28).1) ?_
              refine lv_iadd hx hb dX6_event__93 ?_
              have hq_1 := ix_in (i := (((nI (1510 * 0)) + 620) + (nI (latN (r 1 ((1510 * 0) + 9)) k)))) (n := 3020) ((1510 * 0) + 620 + (latN (r 1 ((1510 * 0) + 9)) k)) (nIs2 (1510 * 0) 620 (latN (r 1 ((1510 * 0) + 9)) k)) (by omega) (by decide)
              refine x_ild (v := r 1 ((1510 * 0) + 620 + (latN (r 1 ((1510 * 0) + 9)) k))) hx hb hK hP 1 rfl hq_1.1 (by rw [hq_1.2]) dX6_event__94 ?_
              refine lv_goto (tgt := 100) hx hb dX6_event__95 (by decide) ?_
              exact hE _ _ _ (by first | (rw [rdV_0]; done) | (rw [rdV_0]; unfold eventM; rw [if_pos c_28, if_neg c_35, if_neg c_56, if_pos c_78]; done)) rfl dX6_event__100
          · skip
            refine lv_aload_n hx hb dX6_event__59 rfl (lv_at hl 2 rfl) ?_
            refine x_get (v := .ref (A 1)) (C := RX6) (T := TX6) (N := 9) hx hb hts hi6 hown hK hP 0 rfl rfl 0 (by decide) (hts (.fieldLink RX6 7 "PulseWheelModel" "now" "[I") (by decide +kernel)) rfl rfl dX6_event__60 ?_
            refine lv_iload hx hb dX6_event__63 (lv_at hl 1 rfl) ?_
            refine lv_sipush (v := 320) hx hb dX6_event__65 (by decide) ?_
            refine lv_iadd hx hb dX6_event__68 ?_
            refine lv_iload hx hb dX6_event__69 (lv_at hl 0 rfl) ?_
            refine x_top (y := nI (latN (r 1 ((1510 * 0) + 9)) k)) ((lat_in c_28).1) ?_
            refine lv_iadd hx hb dX6_event__71 ?_
            have hq_2 := ix_in (i := (((nI (1510 * 0)) + 320) + (nI (latN (r 1 ((1510 * 0) + 9)) k)))) (n := 3020) ((1510 * 0) + 320 + (latN (r 1 ((1510 * 0) + 9)) k)) (nIs2 (1510 * 0) 320 (latN (r 1 ((1510 * 0) + 9)) k)) (by omega) (by decide)
            refine x_ild (v := r 1 ((1510 * 0) + 320 + (latN (r 1 ((1510 * 0) + 9)) k))) hx hb hK hP 1 rfl hq_2.1 (by rw [hq_2.2]) dX6_event__72 ?_
            refine lv_goto (tgt := 100) hx hb dX6_event__73 (by decide) ?_
            exact hE _ _ _ (by first | (rw [rdV_0]; done) | (rw [rdV_0]; unfold eventM; rw [if_pos c_28, if_neg c_35, if_pos c_56]; done)) rfl dX6_event__100
        · skip
          refine lv_aload_n hx hb dX6_event__38 rfl (lv_at hl 2 rfl) ?_
          refine x_get (v := .ref (A 1)) (C := RX6) (T := TX6) (N := 9) hx hb hts hi6 hown hK hP 0 rfl rfl 0 (by decide) (hts (.fieldLink RX6 7 "PulseWheelModel" "now" "[I") (by decide +kernel)) rfl rfl dX6_event__39 ?_
          refine lv_iload hx hb dX6_event__42 (lv_at hl 1 rfl) ?_
          refine lv_bipush (v := 20) hx hb dX6_event__44 (by decide) ?_
          refine lv_iadd hx hb dX6_event__46 ?_
          refine lv_iload hx hb dX6_event__47 (lv_at hl 0 rfl) ?_
          refine x_top (y := nI (latN (r 1 ((1510 * 0) + 9)) k)) ((lat_in c_28).1) ?_
          refine lv_iadd hx hb dX6_event__49 ?_
          have hq_3 := ix_in (i := (((nI (1510 * 0)) + 20) + (nI (latN (r 1 ((1510 * 0) + 9)) k)))) (n := 3020) ((1510 * 0) + 20 + (latN (r 1 ((1510 * 0) + 9)) k)) (nIs2 (1510 * 0) 20 (latN (r 1 ((1510 * 0) + 9)) k)) (by omega) (by decide)
          refine x_ild (v := r 1 ((1510 * 0) + 20 + (latN (r 1 ((1510 * 0) + 9)) k))) hx hb hK hP 1 rfl hq_3.1 (by rw [hq_3.2]) dX6_event__50 ?_
          refine lv_goto (tgt := 100) hx hb dX6_event__51 (by decide) ?_
          exact hE _ _ _ (by first | (rw [rdV_0]; done) | (rw [rdV_0]; unfold eventM; rw [if_pos c_28, if_pos c_35]; done)) rfl dX6_event__100
      · skip
        refine lv_ldc (v := -2000000) hx hb hown (hts (.constant RX6 79 (-2000000)) (by decide +kernel)) dX6_event__31 ?_
        exact hE _ _ _ (by first | (rw [rdV_0]; done) | (rw [rdV_0]; unfold eventM; rw [if_neg c_28]; done)) rfl dX6_event__33
    · exact absurd c_4 (by decide)
  by_cases c1 : rd = 1
  · subst c1
    refine lv_iload_n hx hb dX6_event__0 rfl (lv_at hl 1 rfl) ?_
    refine kSI (va_runS (As := [.int 1]) (rest := []) ⟨hx, hb, hml, hown, hts⟩ (c_X6_isReader l D cI cB 1  _) (va_cwS 1 hts gX6_event__X6_isReader rfl rfl rfl (by decide +kernel) ⟨Nat.le_of_ble_eq_true rfl, Nat.le_of_ble_eq_true rfl⟩) (preS_nil hK hN) rfl rfl hl.1 rfl (lv_room (Nat.le_of_ble_eq_true rfl)) dX6_event__1 ⟨Nat.zero_le _, Nat.zero_le _⟩) ?_
    refine lv_if_ne (tgt := 10) hx hb dX6_event__4 (by decide) (fun c_4 => ?_) (fun c_4 => ?_)
    · skip
      refine lv_sipush (v := 1510) hx hb dX6_event__10 (by decide) ?_
      refine lv_iload_n hx hb dX6_event__13 rfl (lv_at hl 1 rfl) ?_
      refine lv_imul hx hb dX6_event__14 ?_
      refine x_top (y := nI (1510 * 1)) (by decide) ?_
      refine lv_istore (lv' := [(4, .int (nI (1510 * 1))), (0, .ref (A 0)), (1, .int 1), (2, .int k), (3, .int w)]) hx hb dX6_event__15 hl (by decide) rfl (fun ls hl => ?_)
      refine lv_aload_n hx hb dX6_event__17 rfl (lv_at hl 1 rfl) ?_
      refine lv_iload hx hb dX6_event__18 (lv_at hl 0 rfl) ?_
      refine lv_iload_n hx hb dX6_event__20 rfl (lv_at hl 3 rfl) ?_
      refine kSI (va_runV (As := [.int (nI (1510 * 1)), .int k]) (rest := []) ⟨hx, hb, hml, hown, hts⟩ (c_X6_latest l D cI cB A r k (1510 * 1) (by decide) _) (cwV 2 hts gX6_event__X6_latest rfl rfl rfl (by decide +kernel) ⟨Nat.le_of_ble_eq_true rfl, Nat.le_of_ble_eq_true rfl⟩) (preV_cut hP hD hK hN (ci := 6) rfl 0 rfl [0, 1, 2, 3, 4, 5] (by decide) rfl) rfl rfl hl.1 rfl (lv_room (Nat.le_of_ble_eq_true rfl)) dX6_event__21 ⟨Nat.zero_le _, Nat.zero_le _⟩) ?_
      refine lv_istore (lv' := [(5, .int (latV (r 1 ((1510 * 1) + 9)) k)), (4, .int (nI (1510 * 1))), (0, .ref (A 0)), (1, .int 1), (2, .int k), (3, .int w)]) hx hb dX6_event__24 hl (by decide) rfl (fun ls hl => ?_)
      refine lv_iload hx hb dX6_event__26 (lv_at hl 0 rfl) ?_
      refine lv_if_ge (tgt := 34) hx hb dX6_event__28 (by decide) (fun c_28 => ?_) (fun c_28 => ?_)
      · skip
        have hlat := (lat_in c_28).2
        refine lv_iload_n hx hb dX6_event__34 rfl (lv_at hl 5 rfl) ?_
        refine lv_if_ne (tgt := 54) hx hb dX6_event__35 (by decide) (fun c_35 => ?_) (fun c_35 => ?_)
        · skip
          refine lv_iload_n hx hb dX6_event__54 rfl (lv_at hl 5 rfl) ?_
          refine lv_iconst (v := 1) hx hb dX6_event__55 (by decide) ?_
          refine lv_icmp_ne (tgt := 76) hx hb dX6_event__56 (by decide) (fun c_56 => ?_) (fun c_56 => ?_)
          · skip
            refine lv_iload_n hx hb dX6_event__76 rfl (lv_at hl 5 rfl) ?_
            refine lv_iconst (v := 2) hx hb dX6_event__77 (by decide) ?_
            refine lv_icmp_ne (tgt := 98) hx hb dX6_event__78 (by decide) (fun c_78 => ?_) (fun c_78 => ?_)
            · skip
              refine lv_ldc (v := -2000000) hx hb hown (hts (.constant RX6 79 (-2000000)) (by decide +kernel)) dX6_event__98 ?_
              exact hE _ _ _ (by first | (rw [rdV_1]; done) | (rw [rdV_1]; unfold eventM; rw [if_pos c_28, if_neg c_35, if_neg c_56, if_neg c_78]; done)) rfl dX6_event__100
            · skip
              refine lv_aload_n hx hb dX6_event__81 rfl (lv_at hl 2 rfl) ?_
              refine x_get (v := .ref (A 1)) (C := RX6) (T := TX6) (N := 9) hx hb hts hi6 hown hK hP 0 rfl rfl 0 (by decide) (hts (.fieldLink RX6 7 "PulseWheelModel" "now" "[I") (by decide +kernel)) rfl rfl dX6_event__82 ?_
              refine lv_iload hx hb dX6_event__85 (lv_at hl 1 rfl) ?_
              refine lv_sipush (v := 620) hx hb dX6_event__87 (by decide) ?_
              refine lv_iadd hx hb dX6_event__90 ?_
              refine lv_iload hx hb dX6_event__91 (lv_at hl 0 rfl) ?_
              refine x_top (y := nI (latN (r 1 ((1510 * 1) + 9)) k)) ((lat_in c_28).1) ?_
              refine lv_iadd hx hb dX6_event__93 ?_
              have hq_4 := ix_in (i := (((nI (1510 * 1)) + 620) + (nI (latN (r 1 ((1510 * 1) + 9)) k)))) (n := 3020) ((1510 * 1) + 620 + (latN (r 1 ((1510 * 1) + 9)) k)) (nIs2 (1510 * 1) 620 (latN (r 1 ((1510 * 1) + 9)) k)) (by omega) (by decide)
              refine x_ild (v := r 1 ((1510 * 1) + 620 + (latN (r 1 ((1510 * 1) + 9)) k))) hx hb hK hP 1 rfl hq_4.1 (by rw [hq_4.2]) dX6_event__94 ?_
              refine lv_goto (tgt := 100) hx hb dX6_event__95 (by decide) ?_
              exact hE _ _ _ (by first | (rw [rdV_1]; done) | (rw [rdV_1]; unfold eventM; rw [if_pos c_28, if_neg c_35, if_neg c_56, if_pos c_78]; done)) rfl dX6_event__100
          · skip
            refine lv_aload_n hx hb dX6_event__59 rfl (lv_at hl 2 rfl) ?_
            refine x_get (v := .ref (A 1)) (C := RX6) (T := TX6) (N := 9) hx hb hts hi6 hown hK hP 0 rfl rfl 0 (by decide) (hts (.fieldLink RX6 7 "PulseWheelModel" "now" "[I") (by decide +kernel)) rfl rfl dX6_event__60 ?_
            refine lv_iload hx hb dX6_event__63 (lv_at hl 1 rfl) ?_
            refine lv_sipush (v := 320) hx hb dX6_event__65 (by decide) ?_
            refine lv_iadd hx hb dX6_event__68 ?_
            refine lv_iload hx hb dX6_event__69 (lv_at hl 0 rfl) ?_
            refine x_top (y := nI (latN (r 1 ((1510 * 1) + 9)) k)) ((lat_in c_28).1) ?_
            refine lv_iadd hx hb dX6_event__71 ?_
            have hq_5 := ix_in (i := (((nI (1510 * 1)) + 320) + (nI (latN (r 1 ((1510 * 1) + 9)) k)))) (n := 3020) ((1510 * 1) + 320 + (latN (r 1 ((1510 * 1) + 9)) k)) (nIs2 (1510 * 1) 320 (latN (r 1 ((1510 * 1) + 9)) k)) (by omega) (by decide)
            refine x_ild (v := r 1 ((1510 * 1) + 320 + (latN (r 1 ((1510 * 1) + 9)) k))) hx hb hK hP 1 rfl hq_5.1 (by rw [hq_5.2]) dX6_event__72 ?_
            refine lv_goto (tgt := 100) hx hb dX6_event__73 (by decide) ?_
            exact hE _ _ _ (by first | (rw [rdV_1]; done) | (rw [rdV_1]; unfold eventM; rw [if_pos c_28, if_neg c_35, if_pos c_56]; done)) rfl dX6_event__100
        · skip
          refine lv_aload_n hx hb dX6_event__38 rfl (lv_at hl 2 rfl) ?_
          refine x_get (v := .ref (A 1)) (C := RX6) (T := TX6) (N := 9) hx hb hts hi6 hown hK hP 0 rfl rfl 0 (by decide) (hts (.fieldLink RX6 7 "PulseWheelModel" "now" "[I") (by decide +kernel)) rfl rfl dX6_event__39 ?_
          refine lv_iload hx hb dX6_event__42 (lv_at hl 1 rfl) ?_
          refine lv_bipush (v := 20) hx hb dX6_event__44 (by decide) ?_
          refine lv_iadd hx hb dX6_event__46 ?_
          refine lv_iload hx hb dX6_event__47 (lv_at hl 0 rfl) ?_
          refine x_top (y := nI (latN (r 1 ((1510 * 1) + 9)) k)) ((lat_in c_28).1) ?_
          refine lv_iadd hx hb dX6_event__49 ?_
          have hq_6 := ix_in (i := (((nI (1510 * 1)) + 20) + (nI (latN (r 1 ((1510 * 1) + 9)) k)))) (n := 3020) ((1510 * 1) + 20 + (latN (r 1 ((1510 * 1) + 9)) k)) (nIs2 (1510 * 1) 20 (latN (r 1 ((1510 * 1) + 9)) k)) (by omega) (by decide)
          refine x_ild (v := r 1 ((1510 * 1) + 20 + (latN (r 1 ((1510 * 1) + 9)) k))) hx hb hK hP 1 rfl hq_6.1 (by rw [hq_6.2]) dX6_event__50 ?_
          refine lv_goto (tgt := 100) hx hb dX6_event__51 (by decide) ?_
          exact hE _ _ _ (by first | (rw [rdV_1]; done) | (rw [rdV_1]; unfold eventM; rw [if_pos c_28, if_pos c_35]; done)) rfl dX6_event__100
      · skip
        refine lv_ldc (v := -2000000) hx hb hown (hts (.constant RX6 79 (-2000000)) (by decide +kernel)) dX6_event__31 ?_
        exact hE _ _ _ (by first | (rw [rdV_1]; done) | (rw [rdV_1]; unfold eventM; rw [if_neg c_28]; done)) rfl dX6_event__33
    · exact absurd c_4 (by decide)
  refine lv_iload_n hx hb dX6_event__0 rfl (lv_at hl 1 rfl) ?_
  refine kSI (va_runS (As := [.int rd]) (rest := []) ⟨hx, hb, hml, hown, hts⟩ (c_X6_isReader l D cI cB rd  _) (va_cwS 1 hts gX6_event__X6_isReader rfl rfl rfl (by decide +kernel) ⟨Nat.le_of_ble_eq_true rfl, Nat.le_of_ble_eq_true rfl⟩) (preS_nil hK hN) rfl rfl hl.1 rfl (lv_room (Nat.le_of_ble_eq_true rfl)) dX6_event__1 ⟨Nat.zero_le _, Nat.zero_le _⟩) ?_
  refine lv_if_ne (tgt := 10) hx hb dX6_event__4 (by decide) (fun c_4 => ?_) (fun c_4 => ?_)
  · exact absurd (by unfold isRdV; rw [if_neg c0, if_neg c1]) c_4
  · skip
    refine lv_ldc (v := -2000000) hx hb hown (hts (.constant RX6 79 (-2000000)) (by decide +kernel)) dX6_event__7 ?_
    exact hE _ _ _ (by first | (rw [rdV_n c0 c1]; done) | (rw [rdV_n c0 c1]; unfold eventM; rw [if_true]; done)) rfl dX6_event__9

def rm_X6_apart : Room := { frames := 0, cells := 0, slots := 0, locals := 0 }
set_option maxHeartbeats 1000000 in
set_option maxRecDepth 100000 in
theorem c_X6_apart (l : Launch) (D : va_G) (cI cB : ClassId) (A : Nat → Nat) (r : Tb) : SI l D cI cB yX6_apart wsX6_apart rm_X6_apart [.ref (A 0)] (modelW A cI r) (r 0 5) := by
  refine SI.of (cc := cX6_apart) (maxL := 1) (ty := .int) (by decide +kernel) rfl (Nat.le_of_ble_eq_true rfl) ?_
  intro p e s m args below meth c ls Q hT hP hD hl hE
  obtain ⟨hx, hb, hr, hlocks, hnm, hml, hown, hts, hK, hN⟩ := hT
  have hl : lv_has ls 1 [(0, .ref (A 0))] := hl
  have hi6 : ∀ w ∈ wsX60, w ∈ wsX6_apart := by decide +kernel
  refine lv_aload_n hx hb dX6_apart_0 rfl (lv_at hl 0 rfl) ?_
  refine x_get (v := .int (r 0 5)) (C := RX6) (T := TX6) (N := 9) hx hb hts hi6 hown hK hP 0 rfl rfl 5 (by decide) (hts (.fieldLink RX6 22 "PulseWheelModel" "apart" "I") (by decide +kernel)) rfl rfl dX6_apart_1 ?_
  exact hE _ _ _ (by rfl) rfl dX6_apart_4

def rm_X6_about : Room := { frames := 0, cells := 0, slots := 0, locals := 0 }
set_option maxHeartbeats 1000000 in
set_option maxRecDepth 100000 in
theorem c_X6_about (l : Launch) (D : va_G) (cI cB : ClassId) (A : Nat → Nat) (r : Tb) (w : Int32) : SI l D cI cB yX6_about wsX6_about rm_X6_about [.ref (A 0), .int w] (modelW A cI r) (aboutM r w) := by
  refine SI.of (cc := cX6_about) (maxL := 2) (ty := .int) (by decide +kernel) rfl (Nat.le_of_ble_eq_true rfl) ?_
  intro p e s m args below meth c ls Q hT hP hD hl hE
  obtain ⟨hx, hb, hr, hlocks, hnm, hml, hown, hts, hK, hN⟩ := hT
  have hl : lv_has ls 2 [(0, .ref (A 0)), (1, .int w)] := hl
  have hi6 : ∀ w ∈ wsX60, w ∈ wsX6_about := by decide +kernel
  refine lv_iload_n hx hb dX6_about_0 rfl (lv_at hl 1 rfl) ?_
  refine lv_if_ne (tgt := 11) hx hb dX6_about_1 (by decide) (fun c_1 => ?_) (fun c_1 => ?_)
  · skip
    refine lv_iload_n hx hb dX6_about_11 rfl (lv_at hl 1 rfl) ?_
    refine lv_iconst (v := 1) hx hb dX6_about_12 (by decide) ?_
    refine lv_icmp_ne (tgt := 23) hx hb dX6_about_13 (by decide) (fun c_13 => ?_) (fun c_13 => ?_)
    · skip
      refine lv_iload_n hx hb dX6_about_23 rfl (lv_at hl 1 rfl) ?_
      refine lv_iconst (v := 2) hx hb dX6_about_24 (by decide) ?_
      refine lv_icmp_ne (tgt := 35) hx hb dX6_about_25 (by decide) (fun c_25 => ?_) (fun c_25 => ?_)
      · skip
        refine lv_iconst (v := -1) hx hb dX6_about_35 (by decide) ?_
        exact hE _ _ _ (by first | rfl | (unfold aboutM; rw [if_neg c_1, if_neg c_13, if_neg c_25]; done) | (simp only [aboutM, if_neg c_1, if_neg c_13, if_neg c_25]; done) | (simp only [aboutM, c_1, c_13, c_25, if_true, if_false]; done) | (simp only [aboutM, c_1, c_13, c_25, if_true, if_false, not_true, not_false_iff, reduceIte]; done) | (exfalso; simp_all; done) | (simp [aboutM, c_1, c_13, c_25]; done) | (simp_all [aboutM]; done)) rfl dX6_about_36
      · skip
        refine lv_aload_n hx hb dX6_about_28 rfl (lv_at hl 0 rfl) ?_
        refine x_get (v := .int (r 0 6)) (C := RX6) (T := TX6) (N := 9) hx hb hts hi6 hown hK hP 0 rfl rfl 6 (by decide) (hts (.fieldLink RX6 90 "PulseWheelModel" "kept" "I") (by decide +kernel)) rfl rfl dX6_about_29 ?_
        refine lv_goto (tgt := 36) hx hb dX6_about_32 (by decide) ?_
        exact hE _ _ _ (by first | rfl | (unfold aboutM; rw [if_neg c_1, if_neg c_13, if_pos c_25]; done) | (simp only [aboutM, if_neg c_1, if_neg c_13, if_pos c_25]; done) | (simp only [aboutM, c_1, c_13, c_25, if_true, if_false]; done) | (simp only [aboutM, c_1, c_13, c_25, if_true, if_false, not_true, not_false_iff, reduceIte]; done) | (exfalso; simp_all; done) | (simp [aboutM, c_1, c_13, c_25]; done) | (simp_all [aboutM]; done)) rfl dX6_about_36
    · skip
      refine lv_aload_n hx hb dX6_about_16 rfl (lv_at hl 0 rfl) ?_
      refine x_get (v := .int (r 0 8)) (C := RX6) (T := TX6) (N := 9) hx hb hts hi6 hown hK hP 0 rfl rfl 8 (by decide) (hts (.fieldLink RX6 73 "PulseWheelModel" "taped" "I") (by decide +kernel)) rfl rfl dX6_about_17 ?_
      refine lv_goto (tgt := 36) hx hb dX6_about_20 (by decide) ?_
      exact hE _ _ _ (by first | rfl | (unfold aboutM; rw [if_neg c_1, if_pos c_13]; done) | (simp only [aboutM, if_neg c_1, if_pos c_13]; done) | (simp only [aboutM, c_1, c_13, if_true, if_false]; done) | (simp only [aboutM, c_1, c_13, if_true, if_false, not_true, not_false_iff, reduceIte]; done) | (exfalso; simp_all; done) | (simp [aboutM, c_1, c_13]; done) | (simp_all [aboutM]; done)) rfl dX6_about_36
  · skip
    refine lv_aload_n hx hb dX6_about_4 rfl (lv_at hl 0 rfl) ?_
    refine x_get (v := .int (r 0 4)) (C := RX6) (T := TX6) (N := 9) hx hb hts hi6 hown hK hP 0 rfl rfl 4 (by decide) (hts (.fieldLink RX6 37 "PulseWheelModel" "ticks" "I") (by decide +kernel)) rfl rfl dX6_about_5 ?_
    refine lv_goto (tgt := 36) hx hb dX6_about_8 (by decide) ?_
    exact hE _ _ _ (by first | rfl | (unfold aboutM; rw [if_pos c_1]; done) | (simp only [aboutM, if_pos c_1]; done) | (simp only [aboutM, c_1, if_true, if_false]; done) | (simp only [aboutM, c_1, if_true, if_false, not_true, not_false_iff, reduceIte]; done) | (exfalso; simp_all; done) | (simp [aboutM, c_1]; done) | (simp_all [aboutM]; done)) rfl dX6_about_36

def rm_X6_isLess : Room := { frames := 0, cells := 0, slots := 0, locals := 0 }
set_option maxHeartbeats 1000000 in
set_option maxRecDepth 100000 in
theorem c_X6_isLess (l : Launch) (D : va_G) (cI cB : ClassId) (x1 x2 x3 x4 : Int32) : SI l D cI cB yX6_isLess wsX6_isLess rm_X6_isLess [.int x1, .int x2, .int x3, .int x4] [] (belowV x1 x2 x3 x4) := by
  refine SI.of (cc := cX6_isLess) (maxL := 4) (ty := .boolean) (by decide +kernel) rfl (Nat.le_of_ble_eq_true rfl) ?_
  intro p e s m args below meth c ls Q hT hP hD hl hE
  obtain ⟨hx, hb, hr, hlocks, hnm, hml, hown, hts, hK, hN⟩ := hT
  have hl : lv_has ls 4 [(0, .int x1), (1, .int x2), (2, .int x3), (3, .int x4)] := hl
  refine lv_iload_n hx hb dX6_isLess_0 rfl (lv_at hl 0 rfl) ?_
  refine lv_i2l (v := x1.toInt64) hx hb dX6_isLess_1 rfl ?_
  refine lv_iload_n hx hb dX6_isLess_2 rfl (lv_at hl 3 rfl) ?_
  refine lv_i2l (v := x4.toInt64) hx hb dX6_isLess_3 rfl ?_
  refine lv_lmul hx hb dX6_isLess_4 ?_
  refine lv_iload_n hx hb dX6_isLess_5 rfl (lv_at hl 2 rfl) ?_
  refine lv_i2l (v := x3.toInt64) hx hb dX6_isLess_6 rfl ?_
  refine lv_iload_n hx hb dX6_isLess_7 rfl (lv_at hl 1 rfl) ?_
  refine lv_i2l (v := x2.toInt64) hx hb dX6_isLess_8 rfl ?_
  refine lv_lmul hx hb dX6_isLess_9 ?_
  refine W.lcmp hx hb dX6_isLess_10 ?_
  refine lv_if_ge (tgt := 18) hx hb dX6_isLess_11 (by decide) (fun c_11 => ?_) (fun c_11 => ?_)
  · skip
    refine lv_iconst (v := 0) hx hb dX6_isLess_18 (by decide) ?_
    exact hE _ _ _ (by first | rfl | (unfold belowV; rw [if_pos c_11]; done) | (simp only [belowV, if_pos c_11]; done) | (simp only [belowV, c_11, if_true, if_false]; done) | (simp only [belowV, c_11, if_true, if_false, not_true, not_false_iff, reduceIte]; done) | (exfalso; simp_all; done) | (simp [belowV, c_11]; done) | (simp_all [belowV]; done)) rfl dX6_isLess_19
  · skip
    refine lv_iconst (v := 1) hx hb dX6_isLess_14 (by decide) ?_
    refine lv_goto (tgt := 19) hx hb dX6_isLess_15 (by decide) ?_
    exact hE _ _ _ (by first | rfl | (unfold belowV; rw [if_neg c_11]; done) | (simp only [belowV, if_neg c_11]; done) | (simp only [belowV, c_11, if_true, if_false]; done) | (simp only [belowV, c_11, if_true, if_false, not_true, not_false_iff, reduceIte]; done) | (exfalso; simp_all; done) | (simp [belowV, c_11]; done) | (simp_all [belowV]; done)) rfl dX6_isLess_19

def rm_X6_common : Room := { frames := 0, cells := 0, slots := 0, locals := 0 }
set_option maxHeartbeats 1000000 in
set_option maxRecDepth 100000 in
theorem c_X6_common (l : Launch) (D : va_G) (cI cB : ClassId) (one oth : Int32) : SI l D cI cB yX6_common wsX6_common rm_X6_common [.int one, .int oth] [] (gcdG (oth.toInt.toNat + 1) one oth) := by
  refine SI.of (cc := cX6_common) (maxL := 5) (ty := .int) (by decide +kernel) rfl (Nat.le_of_ble_eq_true rfl) ?_
  intro p e s m args below meth c ls Q hT hP hD hl hE
  obtain ⟨hx, hb, hr, hlocks, hnm, hml, hown, hts, hK, hN⟩ := hT
  have hl : lv_has ls 5 [(0, .int one), (1, .int oth)] := hl
  refine lv_iload_n hx hb dX6_common_0 rfl (lv_at hl 0 rfl) ?_
  refine lv_istore_n (lv' := [(2, .int one), (0, .int one), (1, .int oth)]) hx hb dX6_common_1 rfl hl (by decide) rfl (fun ls hl => ?_)
  refine lv_iload_n hx hb dX6_common_2 rfl (lv_at hl 2 rfl) ?_
  refine lv_istore_n (lv' := [(3, .int oth), (2, .int one), (0, .int one), (1, .int oth)]) hx hb dX6_common_3 rfl hl (by decide) rfl (fun ls hl => ?_)
  have lp : ∀ (fuel : Nat) (x : Int32) (y : Int32), (y.toInt.toNat < fuel) → (gcdG fuel x y = gcdG (oth.toInt.toNat + 1) one oth) → ∀ (ls : Array Slot), lv_has ls 5 [(0, .int one), (1, .int oth), (2, .int x), (3, .int y)] → W p l e rm_X6_common s m args below meth c s.heap [] 0 0 Q (F0 m 4 ls []) := by
    intro fuel
    induction fuel with
    | zero => intro x y hm hg ls hl; exact absurd hm (Nat.not_lt_zero _)
    | succ fuel ih =>
      intro x y hm hg ls hl
      refine lv_iload_n hx hb dX6_common_4 rfl (lv_at hl 3 rfl) ?_
      refine lv_if_le (tgt := 21) hx hb dX6_common_5 (by decide) (fun c_5 => ?_) (fun c_5 => ?_)
      · skip
        refine lv_iload_n hx hb dX6_common_21 rfl (lv_at hl 2 rfl) ?_
        exact hE _ _ _ (by rw [← hg, gcdG_s, if_pos c_5]) rfl dX6_common_22
      · skip
        refine lv_iload_n hx hb dX6_common_8 rfl (lv_at hl 2 rfl) ?_
        refine lv_iload_n hx hb dX6_common_9 rfl (lv_at hl 3 rfl) ?_
        refine lv_irem hx hb dX6_common_10 (fun h => c_5 (by rw [h]; decide)) ?_
        refine lv_istore (lv' := [(4, .int (x - x / y * y)), (0, .int one), (1, .int oth), (2, .int x), (3, .int y)]) hx hb dX6_common_11 hl (by decide) rfl (fun ls hl => ?_)
        refine lv_iload_n hx hb dX6_common_13 rfl (lv_at hl 4 rfl) ?_
        refine lv_istore_n (lv' := [(2, .int y), (4, .int (x - x / y * y)), (0, .int one), (1, .int oth), (3, .int y)]) hx hb dX6_common_14 rfl hl (by decide) rfl (fun ls hl => ?_)
        refine lv_iload hx hb dX6_common_15 (lv_at hl 1 rfl) ?_
        refine lv_istore_n (lv' := [(3, .int (x - x / y * y)), (2, .int y), (4, .int (x - x / y * y)), (0, .int one), (1, .int oth)]) hx hb dX6_common_17 rfl hl (by decide) rfl (fun ls hl => ?_)
        refine lv_goto (tgt := 4) hx hb dX6_common_18 (by decide) ?_
        exact ih y (x - x / y * y) (Nat.lt_of_lt_of_le (gcd_less c_5) (Nat.le_of_lt_succ hm)) (by rw [← hg, gcdG_s, if_neg c_5]; rfl) ls (lv_sub hl [3, 4, 1, 0] rfl)
  exact lp (oth.toInt.toNat + 1) one oth (Nat.lt_succ_self _) (rfl) ls (lv_sub hl [2, 3, 1, 0] rfl)

def rm_X6_keep : Room := { frames := 0, cells := 0, slots := 0, locals := 0 }
set_option maxHeartbeats 1000000 in
set_option maxRecDepth 100000 in
theorem c_X6_keep (l : Launch) (D : va_G) (cI cB : ClassId) (A : Nat → Nat) (r : Tb) (k : Int32) : CI l D cI cB yX6_keep wsX6_keep rm_X6_keep [.ref (A 0), .int k] (modelW A cI r) (modelW A cI (keepMR r k)) (keepMV k) := by
  refine CI.of (cc := cX6_keep) (maxL := 3) (ty := .boolean) (by decide +kernel) rfl (Nat.le_of_ble_eq_true rfl) ?_
  intro p e s m args below meth c ls A0 Q hT hH hA hl hE
  obtain ⟨hx, hb, hr, hlocks, hnm, hml, hown, hts, hK, hN⟩ := hT
  have hl : lv_has ls 3 [(0, .ref (A 0)), (1, .int k)] := hl
  have hi6 : ∀ w ∈ wsX60, w ∈ wsX6_keep := by decide +kernel
  refine lv_iload_n hx hb dX6_keep_0 rfl (lv_at hl 1 rfl) ?_
  refine lv_if_lt (tgt := 9) hx hb dX6_keep_1 (by decide) (fun c_1 => ?_) (fun c_1 => ?_)
  · skip
    refine lv_iconst (v := 0) hx hb dX6_keep_9 (by decide) ?_
    have hf_r : r = keepMR r k := by unfold keepMR; rw [if_pos c_1]
    exact hE _ _ _ _ _ _ hH ((congrArg (fun zz => (modelW A cI zz)) hf_r)) (by unfold keepMV; rw [if_pos c_1]) rfl dX6_keep_10
  · skip
    refine lv_iload_n hx hb dX6_keep_4 rfl (lv_at hl 1 rfl) ?_
    refine lv_iconst (v := 4) hx hb dX6_keep_5 (by decide) ?_
    refine lv_icmp_lt (tgt := 11) hx hb dX6_keep_6 (by decide) (fun c_6 => ?_) (fun c_6 => ?_)
    · skip
      refine lv_iconst (v := 0) hx hb dX6_keep_11 (by decide) ?_
      refine lv_istore_n (lv' := [(2, .int 0), (0, .ref (A 0)), (1, .int k)]) hx hb dX6_keep_12 rfl hl (by decide) rfl (fun ls hl => ?_)
      have hk := k4_ok c_1 c_6
      have lp : ∀ (fuel : Nat) (i : Nat) (r' : Tb), (i ≤ 3020) → (3020 < i + fuel) → (r' = up1 r 2 (cpN r (3020 * k.toNatClampNeg) i)) → ∀ (H : Heap) (locs : List Loc) (ls : Array Slot), Hd D A0 s (modelW A cI r') H locs → lv_has ls 3 [(0, .ref (A 0)), (1, .int k), (2, .int (nI i))] → W p l e rm_X6_keep s m args below meth c H locs 0 0 Q (F0 m 13 ls []) := by
        intro fuel
        induction fuel with
        | zero => intro i r' hi hm hr' H locs ls hH hl; exact absurd hm (by omega)
        | succ fuel ih =>
          intro i r' hi hm hr' H locs ls hH hl
          refine lv_iload_n hx hb dX6_keep_13 rfl (lv_at hl 2 rfl) ?_
          refine lv_sipush (v := 3020) hx hb dX6_keep_14 (by decide) ?_
          refine lv_icmp_ge (tgt := 44) hx hb dX6_keep_17 (by decide) (fun c_17 => ?_) (fun c_17 => ?_)
          · skip
            refine lv_aload_n hx hb dX6_keep_44 rfl (lv_at hl 0 rfl) ?_
            refine x_get (v := .ref (A 3)) (C := RX6) (T := TX6) (N := 9) hx hb hts hi6 hown hK hH.1 0 rfl rfl 2 (by decide) (hts (.fieldLink RX6 16 "PulseWheelModel" "imageTicks" "[I") (by decide +kernel)) rfl rfl dX6_keep_45 ?_
            refine lv_iload_n hx hb dX6_keep_48 rfl (lv_at hl 1 rfl) ?_
            refine lv_aload_n hx hb dX6_keep_49 rfl (lv_at hl 0 rfl) ?_
            refine x_get (v := .int (r' 0 4)) (C := RX6) (T := TX6) (N := 9) hx hb hts hi6 hown hK hH.1 0 rfl rfl 4 (by decide) (hts (.fieldLink RX6 37 "PulseWheelModel" "ticks" "I") (by decide +kernel)) rfl rfl dX6_keep_50 ?_
            refine x_top (y := r 0 4) (congrFun (congrFun hr' 0) 4) ?_
            have hq_1 := ix_in (i := k) (n := 4) k.toNatClampNeg (hk.1) (hk.2) (by decide)
            obtain ⟨r_2, er_2⟩ : ∃ z, z = up2 r' 3 k.toNatClampNeg (r 0 4) := ⟨_, rfl⟩
            refine x_ist (ws' := (modelW A cI r_2)) hx hb hK hH 3 rfl hq_1.1 hq_1.2 dX6_keep_53 (by rw [er_2]; rfl) (fun H locs hH => ?_)
            refine lv_aload_n hx hb dX6_keep_54 rfl (lv_at hl 0 rfl) ?_
            refine x_get (v := .ref (A 4)) (C := RX6) (T := TX6) (N := 9) hx hb hts hi6 hown hK hH.1 0 rfl rfl 3 (by decide) (hts (.fieldLink RX6 19 "PulseWheelModel" "imageApart" "[I") (by decide +kernel)) rfl rfl dX6_keep_55 ?_
            refine lv_iload_n hx hb dX6_keep_58 rfl (lv_at hl 1 rfl) ?_
            refine lv_aload_n hx hb dX6_keep_59 rfl (lv_at hl 0 rfl) ?_
            refine x_get (v := .int (r_2 0 5)) (C := RX6) (T := TX6) (N := 9) hx hb hts hi6 hown hK hH.1 0 rfl rfl 5 (by decide) (hts (.fieldLink RX6 22 "PulseWheelModel" "apart" "I") (by decide +kernel)) rfl rfl dX6_keep_60 ?_
            refine x_top (y := r 0 5) ((congrFun (congrFun er_2 0) 5).trans (congrFun (congrFun hr' 0) 5)) ?_
            have hq_3 := ix_in (i := k) (n := 4) k.toNatClampNeg (hk.1) (hk.2) (by decide)
            obtain ⟨r_4, er_4⟩ : ∃ z, z = up2 r_2 4 k.toNatClampNeg (r 0 5) := ⟨_, rfl⟩
            refine x_ist (ws' := (modelW A cI r_4)) hx hb hK hH 4 rfl hq_3.1 hq_3.2 dX6_keep_63 (by rw [er_4]; rfl) (fun H locs hH => ?_)
            refine lv_aload_n hx hb dX6_keep_64 rfl (lv_at hl 0 rfl) ?_
            refine lv_dup hx hb dX6_keep_65 rfl ?_
            refine x_get (v := .int (r_4 0 6)) (C := RX6) (T := TX6) (N := 9) hx hb hts hi6 hown hK hH.1 0 rfl rfl 6 (by decide) (hts (.fieldLink RX6 90 "PulseWheelModel" "kept" "I") (by decide +kernel)) rfl rfl dX6_keep_66 ?_
            refine x_top (y := r 0 6) ((congrFun (congrFun er_4 0) 6).trans ((congrFun (congrFun er_2 0) 6).trans (congrFun (congrFun hr' 0) 6))) ?_
            refine lv_iconst (v := 1) hx hb dX6_keep_69 (by decide) ?_
            refine lv_iload_n hx hb dX6_keep_70 rfl (lv_at hl 1 rfl) ?_
            refine lv_ishl hx hb dX6_keep_71 ?_
            refine lv_ior hx hb dX6_keep_72 ?_
            obtain ⟨r_5, er_5⟩ : ∃ z, z = up2 r_4 0 6 ((r 0 6) ||| ((1 : Int32) <<< (k &&& 31))) := ⟨_, rfl⟩
            refine x_put (ws' := (modelW A cI r_5)) (v := .int ((r 0 6) ||| ((1 : Int32) <<< (k &&& 31)))) (ty := .int) (C := RX6) (T := TX6) (N := 9) hx hb hts hi6 tyX6_ok nmX6 hown hK hH 0 rfl rfl 6 (by decide) (hts (.fieldLink RX6 90 "PulseWheelModel" "kept" "I") (by decide +kernel)) rfl rfl rfl (rfl) (rfl) (Nat.le_of_ble_eq_true rfl) dX6_keep_73 (by rw [er_5]; rfl) (fun H locs hH => ?_)
            refine lv_iconst (v := 1) hx hb dX6_keep_76 (by decide) ?_
            have hf_r : r_5 = keepMR r k := by subst er_5; subst er_4; subst er_2; have h7 := (nI_leI (a := 3020) (by decide) (by omega)).mp c_17; rw [hr', show i = 3020 by omega]; unfold keepMR; rw [if_neg c_1, if_pos c_6]; rfl
            exact hE _ _ _ _ _ _ hH ((congrArg (fun zz => (modelW A cI zz)) hf_r)) (by subst er_5; subst er_4; subst er_2; unfold keepMV; rw [if_neg c_1, if_pos c_6]) rfl dX6_keep_77
          · skip
            have hlt : i < 3020 := lt_of_nI (n := 3020) (by omega) c_17
            refine lv_aload_n hx hb dX6_keep_20 rfl (lv_at hl 0 rfl) ?_
            refine x_get (v := .ref (A 2)) (C := RX6) (T := TX6) (N := 9) hx hb hts hi6 hown hK hH.1 0 rfl rfl 1 (by decide) (hts (.fieldLink RX6 13 "PulseWheelModel" "images" "[I") (by decide +kernel)) rfl rfl dX6_keep_21 ?_
            refine lv_sipush (v := 3020) hx hb dX6_keep_24 (by decide) ?_
            refine lv_iload_n hx hb dX6_keep_27 rfl (lv_at hl 1 rfl) ?_
            refine lv_imul hx hb dX6_keep_28 ?_
            refine x_top (y := nI (3020 * k.toNatClampNeg)) ((congrArg (fun z => (3020 : Int32) * z) hk.1).trans (pk_mul 3020 _)) ?_
            refine lv_iload_n hx hb dX6_keep_29 rfl (lv_at hl 2 rfl) ?_
            refine lv_iadd hx hb dX6_keep_30 ?_
            refine lv_aload_n hx hb dX6_keep_31 rfl (lv_at hl 0 rfl) ?_
            refine x_get (v := .ref (A 1)) (C := RX6) (T := TX6) (N := 9) hx hb hts hi6 hown hK hH.1 0 rfl rfl 0 (by decide) (hts (.fieldLink RX6 7 "PulseWheelModel" "now" "[I") (by decide +kernel)) rfl rfl dX6_keep_32 ?_
            refine lv_iload_n hx hb dX6_keep_35 rfl (lv_at hl 2 rfl) ?_
            have hq_6 := ix_in (i := (nI i)) (n := 3020) i (rfl) (by omega) (by decide)
            refine x_ild (v := r' 1 i) hx hb hK hH.1 1 rfl hq_6.1 (by rw [hq_6.2]) dX6_keep_36 ?_
            refine x_top (y := r 1 i) (by rw [hr', up1_row (by decide)]) ?_
            have hq_7 := ix_in (i := ((nI (3020 * k.toNatClampNeg)) + (nI i))) (n := 12080) ((3020 * k.toNatClampNeg) + i) (nI_add (3020 * k.toNatClampNeg) i) (by omega) (by decide)
            obtain ⟨r_8, er_8⟩ : ∃ z, z = up2 r' 2 ((3020 * k.toNatClampNeg) + i) (r 1 i) := ⟨_, rfl⟩
            refine x_ist (ws' := (modelW A cI r_8)) hx hb hK hH 2 rfl hq_7.1 hq_7.2 dX6_keep_37 (by rw [er_8]; rfl) (fun H locs hH => ?_)
            refine lv_iinc (v := nI (i + 1)) (lv' := [(2, .int (nI (i + 1))), (0, .ref (A 0)), (1, .int k)]) hx hb dX6_keep_38 hl (k := 2) rfl (nI_1 i) (by decide) rfl (fun ls hl => ?_)
            refine lv_goto (tgt := 13) hx hb dX6_keep_41 (by decide) ?_
            exact ih (i + 1) r_8 (by omega) (by omega) (by subst er_8; subst hr'; exact cp_step) H locs ls (hH) (lv_sub hl [1, 2, 0] rfl)
      exact lp 3021 0 r (by decide) (by decide) (cp_0) _ _ ls (hH) (lv_sub hl [1, 2, 0] rfl)
    · skip
      refine lv_iconst (v := 0) hx hb dX6_keep_9 (by decide) ?_
      have hf_r : r = keepMR r k := by unfold keepMR; rw [if_neg c_1, if_neg c_6]
      exact hE _ _ _ _ _ _ hH ((congrArg (fun zz => (modelW A cI zz)) hf_r)) (by unfold keepMV; rw [if_neg c_1, if_neg c_6]) rfl dX6_keep_10

def rm_X6_back : Room := { frames := 0, cells := 0, slots := 0, locals := 0 }
set_option maxHeartbeats 1000000 in
set_option maxRecDepth 100000 in
theorem c_X6_back (l : Launch) (D : va_G) (cI cB : ClassId) (A : Nat → Nat) (r : Tb) (k : Int32) : CI l D cI cB yX6_back wsX6_back rm_X6_back [.ref (A 0), .int k] (modelW A cI r) (modelW A cI (backMR r k)) (backMV r k) := by
  refine CI.of (cc := cX6_back) (maxL := 3) (ty := .boolean) (by decide +kernel) rfl (Nat.le_of_ble_eq_true rfl) ?_
  intro p e s m args below meth c ls A0 Q hT hH hA hl hE
  obtain ⟨hx, hb, hr, hlocks, hnm, hml, hown, hts, hK, hN⟩ := hT
  have hl : lv_has ls 3 [(0, .ref (A 0)), (1, .int k)] := hl
  have hi6 : ∀ w ∈ wsX60, w ∈ wsX6_back := by decide +kernel
  refine lv_iload_n hx hb dX6_back_0 rfl (lv_at hl 1 rfl) ?_
  refine lv_if_lt (tgt := 20) hx hb dX6_back_1 (by decide) (fun c_1 => ?_) (fun c_1 => ?_)
  · skip
    refine lv_iconst (v := 0) hx hb dX6_back_20 (by decide) ?_
    have hf_r : r = backMR r k := by unfold backMR; rw [if_pos c_1]
    exact hE _ _ _ _ _ _ hH ((congrArg (fun zz => (modelW A cI zz)) hf_r)) (by unfold backMV; rw [if_pos c_1]) rfl dX6_back_21
  · skip
    refine lv_iload_n hx hb dX6_back_4 rfl (lv_at hl 1 rfl) ?_
    refine lv_iconst (v := 4) hx hb dX6_back_5 (by decide) ?_
    refine lv_icmp_ge (tgt := 20) hx hb dX6_back_6 (by decide) (fun c_6 => ?_) (fun c_6 => ?_)
    · skip
      refine lv_iconst (v := 0) hx hb dX6_back_20 (by decide) ?_
      have hf_r : r = backMR r k := by unfold backMR; rw [if_neg c_1, if_pos c_6]
      exact hE _ _ _ _ _ _ hH ((congrArg (fun zz => (modelW A cI zz)) hf_r)) (by unfold backMV; rw [if_neg c_1, if_pos c_6]) rfl dX6_back_21
    · skip
      refine lv_aload_n hx hb dX6_back_9 rfl (lv_at hl 0 rfl) ?_
      refine x_get (v := .int (r 0 6)) (C := RX6) (T := TX6) (N := 9) hx hb hts hi6 hown hK hH.1 0 rfl rfl 6 (by decide) (hts (.fieldLink RX6 90 "PulseWheelModel" "kept" "I") (by decide +kernel)) rfl rfl dX6_back_10 ?_
      refine lv_iload_n hx hb dX6_back_13 rfl (lv_at hl 1 rfl) ?_
      refine lv_ishr hx hb dX6_back_14 ?_
      refine lv_iconst (v := 1) hx hb dX6_back_15 (by decide) ?_
      refine lv_iand hx hb dX6_back_16 ?_
      refine lv_if_ne (tgt := 22) hx hb dX6_back_17 (by decide) (fun c_17 => ?_) (fun c_17 => ?_)
      · skip
        refine lv_iconst (v := 0) hx hb dX6_back_22 (by decide) ?_
        refine lv_istore_n (lv' := [(2, .int 0), (0, .ref (A 0)), (1, .int k)]) hx hb dX6_back_23 rfl hl (by decide) rfl (fun ls hl => ?_)
        have hk := k4_ok c_1 (Int32.not_le.mp c_6)
        have lp : ∀ (fuel : Nat) (i : Nat) (r' : Tb), (i ≤ 3020) → (3020 < i + fuel) → (r' = up1 r 1 (bkN r (3020 * k.toNatClampNeg) i)) → ∀ (H : Heap) (locs : List Loc) (ls : Array Slot), Hd D A0 s (modelW A cI r') H locs → lv_has ls 3 [(0, .ref (A 0)), (1, .int k), (2, .int (nI i))] → W p l e rm_X6_back s m args below meth c H locs 0 0 Q (F0 m 24 ls []) := by
          intro fuel
          induction fuel with
          | zero => intro i r' hi hm hr' H locs ls hH hl; exact absurd hm (by omega)
          | succ fuel ih =>
            intro i r' hi hm hr' H locs ls hH hl
            refine lv_iload_n hx hb dX6_back_24 rfl (lv_at hl 2 rfl) ?_
            refine lv_sipush (v := 3020) hx hb dX6_back_25 (by decide) ?_
            refine lv_icmp_ge (tgt := 55) hx hb dX6_back_28 (by decide) (fun c_28 => ?_) (fun c_28 => ?_)
            · skip
              refine lv_aload_n hx hb dX6_back_55 rfl (lv_at hl 0 rfl) ?_
              refine lv_aload_n hx hb dX6_back_56 rfl (lv_at hl 0 rfl) ?_
              refine x_get (v := .ref (A 3)) (C := RX6) (T := TX6) (N := 9) hx hb hts hi6 hown hK hH.1 0 rfl rfl 2 (by decide) (hts (.fieldLink RX6 16 "PulseWheelModel" "imageTicks" "[I") (by decide +kernel)) rfl rfl dX6_back_57 ?_
              refine lv_iload_n hx hb dX6_back_60 rfl (lv_at hl 1 rfl) ?_
              have hq_1 := ix_in (i := k) (n := 4) k.toNatClampNeg (hk.1) (hk.2) (by decide)
              refine x_ild (v := r' 3 k.toNatClampNeg) hx hb hK hH.1 3 rfl hq_1.1 (by rw [hq_1.2]) dX6_back_61 ?_
              refine x_top (y := r 3 k.toNatClampNeg) (by rw [hr', up1_row (by decide)]) ?_
              obtain ⟨r_2, er_2⟩ : ∃ z, z = up2 r' 0 4 (r 3 k.toNatClampNeg) := ⟨_, rfl⟩
              refine x_put (ws' := (modelW A cI r_2)) (v := .int (r 3 k.toNatClampNeg)) (ty := .int) (C := RX6) (T := TX6) (N := 9) hx hb hts hi6 tyX6_ok nmX6 hown hK hH 0 rfl rfl 4 (by decide) (hts (.fieldLink RX6 37 "PulseWheelModel" "ticks" "I") (by decide +kernel)) rfl rfl rfl (rfl) (rfl) (Nat.le_of_ble_eq_true rfl) dX6_back_62 (by rw [er_2]; rfl) (fun H locs hH => ?_)
              refine lv_aload_n hx hb dX6_back_65 rfl (lv_at hl 0 rfl) ?_
              refine lv_aload_n hx hb dX6_back_66 rfl (lv_at hl 0 rfl) ?_
              refine x_get (v := .ref (A 4)) (C := RX6) (T := TX6) (N := 9) hx hb hts hi6 hown hK hH.1 0 rfl rfl 3 (by decide) (hts (.fieldLink RX6 19 "PulseWheelModel" "imageApart" "[I") (by decide +kernel)) rfl rfl dX6_back_67 ?_
              refine lv_iload_n hx hb dX6_back_70 rfl (lv_at hl 1 rfl) ?_
              have hq_3 := ix_in (i := k) (n := 4) k.toNatClampNeg (hk.1) (hk.2) (by decide)
              refine x_ild (v := r_2 4 k.toNatClampNeg) hx hb hK hH.1 4 rfl hq_3.1 (by rw [hq_3.2]) dX6_back_71 ?_
              refine x_top (y := r' 4 k.toNatClampNeg) (by rw [er_2, up2_row (c := 0) (c1 := 4) (by decide)]) ?_
              refine x_top (y := r 4 k.toNatClampNeg) (by rw [hr', up1_row (by decide)]) ?_
              obtain ⟨r_4, er_4⟩ : ∃ z, z = up2 r_2 0 5 (r 4 k.toNatClampNeg) := ⟨_, rfl⟩
              refine x_put (ws' := (modelW A cI r_4)) (v := .int (r 4 k.toNatClampNeg)) (ty := .int) (C := RX6) (T := TX6) (N := 9) hx hb hts hi6 tyX6_ok nmX6 hown hK hH 0 rfl rfl 5 (by decide) (hts (.fieldLink RX6 22 "PulseWheelModel" "apart" "I") (by decide +kernel)) rfl rfl rfl (rfl) (rfl) (Nat.le_of_ble_eq_true rfl) dX6_back_72 (by rw [er_4]; rfl) (fun H locs hH => ?_)
              refine lv_iconst (v := 1) hx hb dX6_back_75 (by decide) ?_
              have hf_r : r_4 = backMR r k := by subst er_4; subst er_2; have h7 := (nI_leI (a := 3020) (by decide) (by omega)).mp c_28; rw [hr', show i = 3020 by omega]; unfold backMR; rw [if_neg c_1, if_neg c_6, if_neg c_17]; rfl
              exact hE _ _ _ _ _ _ hH ((congrArg (fun zz => (modelW A cI zz)) hf_r)) (by subst er_4; subst er_2; unfold backMV; rw [if_neg c_1, if_neg c_6, if_neg c_17]) rfl dX6_back_76
            · skip
              have hlt : i < 3020 := lt_of_nI (n := 3020) (by omega) c_28
              refine lv_aload_n hx hb dX6_back_31 rfl (lv_at hl 0 rfl) ?_
              refine x_get (v := .ref (A 1)) (C := RX6) (T := TX6) (N := 9) hx hb hts hi6 hown hK hH.1 0 rfl rfl 0 (by decide) (hts (.fieldLink RX6 7 "PulseWheelModel" "now" "[I") (by decide +kernel)) rfl rfl dX6_back_32 ?_
              refine lv_iload_n hx hb dX6_back_35 rfl (lv_at hl 2 rfl) ?_
              refine lv_aload_n hx hb dX6_back_36 rfl (lv_at hl 0 rfl) ?_
              refine x_get (v := .ref (A 2)) (C := RX6) (T := TX6) (N := 9) hx hb hts hi6 hown hK hH.1 0 rfl rfl 1 (by decide) (hts (.fieldLink RX6 13 "PulseWheelModel" "images" "[I") (by decide +kernel)) rfl rfl dX6_back_37 ?_
              refine lv_sipush (v := 3020) hx hb dX6_back_40 (by decide) ?_
              refine lv_iload_n hx hb dX6_back_43 rfl (lv_at hl 1 rfl) ?_
              refine lv_imul hx hb dX6_back_44 ?_
              refine x_top (y := nI (3020 * k.toNatClampNeg)) ((congrArg (fun z => (3020 : Int32) * z) hk.1).trans (pk_mul 3020 _)) ?_
              refine lv_iload_n hx hb dX6_back_45 rfl (lv_at hl 2 rfl) ?_
              refine lv_iadd hx hb dX6_back_46 ?_
              have hq_5 := ix_in (i := ((nI (3020 * k.toNatClampNeg)) + (nI i))) (n := 12080) ((3020 * k.toNatClampNeg) + i) (nI_add (3020 * k.toNatClampNeg) i) (by omega) (by decide)
              refine x_ild (v := r' 2 ((3020 * k.toNatClampNeg) + i)) hx hb hK hH.1 2 rfl hq_5.1 (by rw [hq_5.2]) dX6_back_47 ?_
              refine x_top (y := r 2 (3020 * k.toNatClampNeg + i)) (by rw [hr', up1_row (by decide)]) ?_
              have hq_6 := ix_in (i := (nI i)) (n := 3020) i (rfl) (by omega) (by decide)
              obtain ⟨r_7, er_7⟩ : ∃ z, z = up2 r' 1 i (r 2 (3020 * k.toNatClampNeg + i)) := ⟨_, rfl⟩
              refine x_ist (ws' := (modelW A cI r_7)) hx hb hK hH 1 rfl hq_6.1 hq_6.2 dX6_back_48 (by rw [er_7]; rfl) (fun H locs hH => ?_)
              refine lv_iinc (v := nI (i + 1)) (lv' := [(2, .int (nI (i + 1))), (0, .ref (A 0)), (1, .int k)]) hx hb dX6_back_49 hl (k := 2) rfl (nI_1 i) (by decide) rfl (fun ls hl => ?_)
              refine lv_goto (tgt := 24) hx hb dX6_back_52 (by decide) ?_
              exact ih (i + 1) r_7 (by omega) (by omega) (by subst er_7; subst hr'; exact bk_step) H locs ls (hH) (lv_sub hl [1, 2, 0] rfl)
        exact lp 3021 0 r (by decide) (by decide) (bk_0) _ _ ls (hH) (lv_sub hl [1, 2, 0] rfl)
      · skip
        refine lv_iconst (v := 0) hx hb dX6_back_20 (by decide) ?_
        have hf_r : r = backMR r k := by unfold backMR; rw [if_neg c_1, if_neg c_6, if_pos c_17]
        exact hE _ _ _ _ _ _ hH ((congrArg (fun zz => (modelW A cI zz)) hf_r)) (by unfold backMV; rw [if_neg c_1, if_neg c_6, if_pos c_17]) rfl dX6_back_21
