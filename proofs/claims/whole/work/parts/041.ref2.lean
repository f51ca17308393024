/-! ### the reference: hold, turn, feed, agreement -/
def holdM (r : Tb) (b : Nat) (tk : Int32) : Tb := if tk < 1 then r else if tk ≤ 16 then anewM r b tk (r 1 (b + 1)) else r
def turnM (r : Tb) (b : Nat) (tk : Int32) : Tb := if tk < 4 then r else if tk ≤ 64 then anewM r b (r 1 (b + 0)) tk else r
def wayM (r : Tb) : Int32 := (r 1 6 - r 1 14) * r 1 1511 - (r 1 1516 - r 1 1524) * r 1 1
def agreeM (r : Tb) : Int32 := if r 1 13 = 0 then 1 else if r 1 1523 = 0 then 1 else if r 1 1 + r 1 1511 < wayM r then 0 else if r 1 1 + r 1 1511 < -wayM r then 0 else 1
def fourM (r : Tb) (n : Nat) (v : Int32) : Tb := up2 (up2 (up2 (up2 (up2 (up2 (up2 (up2 r 5 n (v >>> ((24 : Int32) &&& 31) &&& 255)) 0 8 (r 0 8 + 1)) 5 (n + 1) (v >>> ((16 : Int32) &&& 31) &&& 255)) 0 8 (r 0 8 + 1 + 1)) 5 (n + 1 + 1) (v >>> ((8 : Int32) &&& 31) &&& 255)) 0 8 (r 0 8 + 1 + 1 + 1)) 5 (n + 1 + 1 + 1) (v >>> ((0 : Int32) &&& 31) &&& 255)) 0 8 (r 0 8 + 1 + 1 + 1 + 1)
theorem four_8 {r : Tb} {n : Nat} {v : Int32} (hn : r 0 8 = nI n) : fourM r n v 0 8 = nI (n + 4) := by
  show r 0 8 + 1 + 1 + 1 + 1 = nI (n + 4)
  rw [hn, nI_1, nI_1, nI_1, nI_1]
def fiveM (r : Tb) (n : Nat) (a1 a2 a3 a4 a5 : Int32) : Tb := fourM (fourM (fourM (fourM (fourM r n a1) (n + 4) a2) (n + 4 + 4) a3) (n + 4 + 4 + 4) a4) (n + 4 + 4 + 4 + 4) a5
def feedM (r : Tb) (n : Nat) (a1 a2 a3 a4 a5 : Int32) : Tb := if r 0 8 + 20 ≤ 2000 then fiveM r n a1 a2 a3 a4 a5 else r
def feedMV (r : Tb) (n : Nat) : Int32 := if r 0 8 + 20 ≤ 2000 then nI (n + 4 + 4 + 4 + 4 + 4) else -1
theorem le20 {n : Nat} {x : Int32} (hx : x = nI n) (hn : n ≤ 2000) (h : x + 20 ≤ 2000) : n + 20 ≤ 2000 := by
  subst hx
  have h1 : nI (n + 20) ≤ nI 2000 := by rw [← nI_add]; exact h
  exact (nI_leI (by omega) (by decide)).mp h1

def rm_X6_anew : Room := { frames := 0, cells := 0, slots := 0, locals := 0 }
set_option maxHeartbeats 1000000 in
set_option maxRecDepth 100000 in
theorem c_X6_anew (l : Launch) (D : va_G) (cI cB : ClassId) (A : Nat → Nat) (r : Tb) (ho tu : Int32) (d : Nat) (hd : d ≤ 1) : CV l D cI cB yX6_anew wsX6_anew rm_X6_anew [.ref (A 0), .int (nI d), .int ho, .int tu] (modelW A cI r) (modelW A cI (anewM r (1510 * d) ho tu)) := by
  refine CV.of (cc := cX6_anew) (maxL := 5)  (by decide +kernel) rfl (Nat.le_of_ble_eq_true rfl) ?_
  intro p e s m args below meth c ls A0 Q hT hH hA hl hE
  obtain ⟨hx, hb, hr, hlocks, hnm, hml, hown, hts, hK, hN⟩ := hT
  have hl : lv_has ls 5 [(0, .ref (A 0)), (1, .int (nI d)), (2, .int ho), (3, .int tu)] := hl
  have hi6 : ∀ w ∈ wsX60, w ∈ wsX6_anew := by decide +kernel
  refine lv_iconst (v := 0) hx hb dX6_anew_0 (by decide) ?_
  refine lv_istore (lv' := [(4, .int 0), (0, .ref (A 0)), (1, .int (nI d)), (2, .int ho), (3, .int tu)]) hx hb dX6_anew_1 hl (by decide) rfl (fun ls hl => ?_)
  have lp : ∀ (fuel : Nat) (i : Nat) (r' : Tb), (i ≤ 1510) → (1510 < i + fuel) → (r' = up1 r 1 (clearN r (1510 * d) i)) → ∀ (H : Heap) (locs : List Loc) (ls : Array Slot), Hd D A0 s (modelW A cI r') H locs → lv_has ls 5 [(0, .ref (A 0)), (1, .int (nI d)), (2, .int ho), (3, .int tu), (4, .int (nI i))] → W p l e rm_X6_anew s m args below meth c H locs 0 0 Q (F0 m 3 ls []) := by
    intro fuel
    induction fuel with
    | zero => intro i r' hi hm hr' H locs ls hH hl; exact absurd hm (by omega)
    | succ fuel ih =>
      intro i r' hi hm hr' H locs ls hH hl
      refine lv_iload hx hb dX6_anew_3 (lv_at hl 4 rfl) ?_
      refine lv_sipush (v := 1510) hx hb dX6_anew_5 (by decide) ?_
      refine lv_icmp_ge (tgt := 31) hx hb dX6_anew_8 (by decide) (fun c_8 => ?_) (fun c_8 => ?_)
      · skip
        refine lv_aload_n hx hb dX6_anew_31 rfl (lv_at hl 0 rfl) ?_
        refine x_get (v := .ref (A 1)) (C := RX6) (T := TX6) (N := 9) hx hb hts hi6 hown hK hH.1 0 rfl rfl 0 (by decide) (hts (.fieldLink RX6 7 "PulseWheelModel" "now" "[I") (by decide +kernel)) rfl rfl dX6_anew_32 ?_
        refine lv_sipush (v := 1510) hx hb dX6_anew_35 (by decide) ?_
        refine lv_iload_n hx hb dX6_anew_38 rfl (lv_at hl 1 rfl) ?_
        refine lv_imul hx hb dX6_anew_39 ?_
        refine x_top (y := nI (1510 * d)) (pk_mul 1510 d) ?_
        refine lv_iconst (v := 0) hx hb dX6_anew_40 (by decide) ?_
        refine lv_iadd hx hb dX6_anew_41 ?_
        refine lv_iload_n hx hb dX6_anew_42 rfl (lv_at hl 2 rfl) ?_
        have hq_1 := ix_in (i := ((nI (1510 * d)) + 0)) (n := 3020) ((1510 * d) + 0) (nI_add (1510 * d) 0) (by omega) (by decide)
        obtain ⟨r_2, er_2⟩ : ∃ z, z = up2 r' 1 ((1510 * d) + 0) ho := ⟨_, rfl⟩
        refine x_ist (ws' := (modelW A cI r_2)) hx hb hK hH 1 rfl hq_1.1 hq_1.2 dX6_anew_43 (by rw [er_2]; rfl) (fun H locs hH => ?_)
        refine lv_aload_n hx hb dX6_anew_44 rfl (lv_at hl 0 rfl) ?_
        refine x_get (v := .ref (A 1)) (C := RX6) (T := TX6) (N := 9) hx hb hts hi6 hown hK hH.1 0 rfl rfl 0 (by decide) (hts (.fieldLink RX6 7 "PulseWheelModel" "now" "[I") (by decide +kernel)) rfl rfl dX6_anew_45 ?_
        refine lv_sipush (v := 1510) hx hb dX6_anew_48 (by decide) ?_
        refine lv_iload_n hx hb dX6_anew_51 rfl (lv_at hl 1 rfl) ?_
        refine lv_imul hx hb dX6_anew_52 ?_
        refine x_top (y := nI (1510 * d)) (pk_mul 1510 d) ?_
        refine lv_iconst (v := 1) hx hb dX6_anew_53 (by decide) ?_
        refine lv_iadd hx hb dX6_anew_54 ?_
        refine lv_iload_n hx hb dX6_anew_55 rfl (lv_at hl 3 rfl) ?_
        have hq_3 := ix_in (i := ((nI (1510 * d)) + 1)) (n := 3020) ((1510 * d) + 1) (nI_add (1510 * d) 1) (by omega) (by decide)
        obtain ⟨r_4, er_4⟩ : ∃ z, z = up2 r_2 1 ((1510 * d) + 1) tu := ⟨_, rfl⟩
        refine x_ist (ws' := (modelW A cI r_4)) hx hb hK hH 1 rfl hq_3.1 hq_3.2 dX6_anew_56 (by rw [er_4]; rfl) (fun H locs hH => ?_)
        have hf_r : r_4 = anewM r (1510 * d) ho tu := by subst er_4; subst er_2; have h7 := (nI_leI (a := 1510) (by decide) (by omega)).mp c_8; rw [hr', show i = 1510 by omega]; rfl
        exact hE _ _ _ _ _ hH ((congrArg (fun zz => (modelW A cI zz)) hf_r)) dX6_anew_57
      · skip
        have hlt : i < 1510 := lt_of_nI (n := 1510) (by omega) c_8
        refine lv_aload_n hx hb dX6_anew_11 rfl (lv_at hl 0 rfl) ?_
        refine x_get (v := .ref (A 1)) (C := RX6) (T := TX6) (N := 9) hx hb hts hi6 hown hK hH.1 0 rfl rfl 0 (by decide) (hts (.fieldLink RX6 7 "PulseWheelModel" "now" "[I") (by decide +kernel)) rfl rfl dX6_anew_12 ?_
        refine lv_sipush (v := 1510) hx hb dX6_anew_15 (by decide) ?_
        refine lv_iload_n hx hb dX6_anew_18 rfl (lv_at hl 1 rfl) ?_
        refine lv_imul hx hb dX6_anew_19 ?_
        refine x_top (y := nI (1510 * d)) (pk_mul 1510 d) ?_
        refine lv_iload hx hb dX6_anew_20 (lv_at hl 4 rfl) ?_
        refine lv_iadd hx hb dX6_anew_22 ?_
        refine lv_iconst (v := 0) hx hb dX6_anew_23 (by decide) ?_
        have hq_5 := ix_in (i := ((nI (1510 * d)) + (nI i))) (n := 3020) ((1510 * d) + i) (nI_add (1510 * d) i) (by omega) (by decide)
        obtain ⟨r_6, er_6⟩ : ∃ z, z = up2 r' 1 ((1510 * d) + i) 0 := ⟨_, rfl⟩
        refine x_ist (ws' := (modelW A cI r_6)) hx hb hK hH 1 rfl hq_5.1 hq_5.2 dX6_anew_24 (by rw [er_6]; rfl) (fun H locs hH => ?_)
        refine lv_iinc (v := nI (i + 1)) (lv' := [(4, .int (nI (i + 1))), (0, .ref (A 0)), (1, .int (nI d)), (2, .int ho), (3, .int tu)]) hx hb dX6_anew_25 hl (k := 4) rfl (nI_1 i) (by decide) rfl (fun ls hl => ?_)
        refine lv_goto (tgt := 3) hx hb dX6_anew_28 (by decide) ?_
        exact ih (i + 1) r_6 (by omega) (by omega) (by subst er_6; subst hr'; exact clear_step) H locs ls (hH) (lv_sub hl [1, 2, 3, 4, 0] rfl)
  exact lp 1511 0 r (by decide) (by decide) (clear_0) _ _ ls (hH) (lv_sub hl [1, 2, 3, 4, 0] rfl)

def rm_X6_hold : Room := { frames := 1, cells := 0, slots := 0, locals := 24 }
set_option maxHeartbeats 1000000 in
set_option maxRecDepth 100000 in
theorem c_X6_hold (l : Launch) (D : va_G) (cI cB : ClassId) (A : Nat → Nat) (r : Tb) (rd tk : Int32) : CI l D cI cB yX6_hold wsX6_hold rm_X6_hold [.ref (A 0), .int rd, .int tk] (modelW A cI r) (modelW A cI (rdV rd (holdM r (1510 * 0) tk) (holdM r (1510 * 1) tk) r)) (rdV rd (holdOK tk) (holdOK tk) 0) := by
  refine CI.of (cc := cX6_hold) (maxL := 3) (ty := .boolean) (by decide +kernel) rfl (Nat.le_of_ble_eq_true rfl) ?_
  intro p e s m args below meth c ls A0 Q hT hH hA hl hE
  obtain ⟨hx, hb, hr, hlocks, hnm, hml, hown, hts, hK, hN⟩ := hT
  have hl : lv_has ls 3 [(0, .ref (A 0)), (1, .int rd), (2, .int tk)] := hl
  have hi6 : ∀ w ∈ wsX60, w ∈ wsX6_hold := by decide +kernel
  by_cases c0 : rd = 0
  · subst c0
    refine lv_iload_n hx hb dX6_hold_0 rfl (lv_at hl 1 rfl) ?_
    refine kSI (va_runS (As := [.int 0]) (rest := []) ⟨hx, hb, hml, hown, hts⟩ (c_X6_isReader l D cI cB 0  _) (va_cwS 1 hts gX6_hold_X6_isReader rfl rfl rfl (by decide +kernel) ⟨Nat.le_of_ble_eq_true rfl, Nat.le_of_ble_eq_true rfl⟩) (preS_nil hK hN) rfl rfl hl.1 rfl (lv_room (Nat.le_of_ble_eq_true rfl)) dX6_hold_1 ⟨Nat.zero_le _, Nat.zero_le _⟩) ?_
    refine lv_if_eq (tgt := 18) hx hb dX6_hold_4 (by decide) (fun c_4 => ?_) (fun c_4 => ?_)
    · exact absurd c_4 (by decide)
    · skip
      refine lv_iload_n hx hb dX6_hold_7 rfl (lv_at hl 2 rfl) ?_
      refine lv_iconst (v := 1) hx hb dX6_hold_8 (by decide) ?_
      refine lv_icmp_lt (tgt := 18) hx hb dX6_hold_9 (by decide) (fun c_9 => ?_) (fun c_9 => ?_)
      · skip
        refine lv_iconst (v := 0) hx hb dX6_hold_18 (by decide) ?_
        have hf_r : r = rdV 0 (holdM r (1510 * 0) tk) (holdM r (1510 * 1) tk) r := by first | (rw [rdV_0]; done) | (rw [rdV_0]; unfold holdM; rw [if_pos c_9]; done)
        exact hE _ _ _ _ _ _ hH ((congrArg (fun zz => (modelW A cI zz)) hf_r)) (by first | (rw [rdV_0]; done) | (rw [rdV_0]; unfold holdOK; rw [if_pos c_9]; done)) rfl dX6_hold_19
      · skip
        refine lv_iload_n hx hb dX6_hold_12 rfl (lv_at hl 2 rfl) ?_
        refine lv_bipush (v := 16) hx hb dX6_hold_13 (by decide) ?_
        refine lv_icmp_le (tgt := 20) hx hb dX6_hold_15 (by decide) (fun c_15 => ?_) (fun c_15 => ?_)
        · skip
          refine lv_aload_n hx hb dX6_hold_20 rfl (lv_at hl 0 rfl) ?_
          refine lv_iload_n hx hb dX6_hold_21 rfl (lv_at hl 1 rfl) ?_
          refine lv_iload_n hx hb dX6_hold_22 rfl (lv_at hl 2 rfl) ?_
          refine lv_aload_n hx hb dX6_hold_23 rfl (lv_at hl 0 rfl) ?_
          refine x_get (v := .ref (A 1)) (C := RX6) (T := TX6) (N := 9) hx hb hts hi6 hown hK hH.1 0 rfl rfl 0 (by decide) (hts (.fieldLink RX6 7 "PulseWheelModel" "now" "[I") (by decide +kernel)) rfl rfl dX6_hold_24 ?_
          refine lv_sipush (v := 1510) hx hb dX6_hold_27 (by decide) ?_
          refine lv_iload_n hx hb dX6_hold_30 rfl (lv_at hl 1 rfl) ?_
          refine lv_imul hx hb dX6_hold_31 ?_
          refine x_top (y := nI (1510 * 0)) (by decide) ?_
          refine lv_iconst (v := 1) hx hb dX6_hold_32 (by decide) ?_
          refine lv_iadd hx hb dX6_hold_33 ?_
          have hq_1 := ix_in (i := ((nI (1510 * 0)) + 1)) (n := 3020) ((1510 * 0) + 1) (nI_add (1510 * 0) 1) (by omega) (by decide)
          refine x_ild (v := r 1 ((1510 * 0) + 1)) hx hb hK hH.1 1 rfl hq_1.1 (by rw [hq_1.2]) dX6_hold_34 ?_
          obtain ⟨r_2, er_2⟩ : ∃ z, z = anewM r (1510 * 0) tk (r 1 ((1510 * 0) + 1)) := ⟨_, rfl⟩
          refine kCV (ws' := (modelW A cI r_2)) (va_runV (As := [.int 0, .int tk, .int (r 1 ((1510 * 0) + 1))]) (rest := []) ⟨hx, hb, hml, hown, hts⟩ (c_X6_anew l D cI cB A r tk (r 1 ((1510 * 0) + 1)) 0 (by decide) _) (cwV 3 hts gX6_hold_X6_anew rfl rfl rfl (by decide +kernel) ⟨Nat.le_of_ble_eq_true rfl, Nat.le_of_ble_eq_true rfl⟩) (preV_cut hH.1 hH.2.1 hK hN (ci := 6) rfl 0 rfl [0, 1, 2, 3, 4, 5] (by decide) rfl) rfl rfl hl.1 rfl (lv_room (Nat.le_of_ble_eq_true rfl)) dX6_hold_35 ⟨Nat.zero_le _, Nat.zero_le _⟩) hH hA [0, 1, 2, 3, 4, 5] rfl adr_model (by rw [er_2]; exact putL_model_model) (fun H locs hH => ?_)
          refine lv_iconst (v := 1) hx hb dX6_hold_38 (by decide) ?_
          have hf_r : r_2 = rdV 0 (holdM r (1510 * 0) tk) (holdM r (1510 * 1) tk) r := by subst er_2; first | (rw [rdV_0]; done) | (rw [rdV_0]; unfold holdM; rw [if_neg c_9, if_pos c_15]; done)
          exact hE _ _ _ _ _ _ hH ((congrArg (fun zz => (modelW A cI zz)) hf_r)) (by subst er_2; first | (rw [rdV_0]; done) | (rw [rdV_0]; unfold holdOK; rw [if_neg c_9, if_pos c_15]; done)) rfl dX6_hold_39
        · skip
          refine lv_iconst (v := 0) hx hb dX6_hold_18 (by decide) ?_
          have hf_r : r = rdV 0 (holdM r (1510 * 0) tk) (holdM r (1510 * 1) tk) r := by first | (rw [rdV_0]; done) | (rw [rdV_0]; unfold holdM; rw [if_neg c_9, if_neg c_15]; done)
          exact hE _ _ _ _ _ _ hH ((congrArg (fun zz => (modelW A cI zz)) hf_r)) (by first | (rw [rdV_0]; done) | (rw [rdV_0]; unfold holdOK; rw [if_neg c_9, if_neg c_15]; done)) rfl dX6_hold_19
  by_cases c1 : rd = 1
  · subst c1
    refine lv_iload_n hx hb dX6_hold_0 rfl (lv_at hl 1 rfl) ?_
    refine kSI (va_runS (As := [.int 1]) (rest := []) ⟨hx, hb, hml, hown, hts⟩ (c_X6_isReader l D cI cB 1  _) (va_cwS 1 hts gX6_hold_X6_isReader rfl rfl rfl (by decide +kernel) ⟨Nat.le_of_ble_eq_true rfl, Nat.le_of_ble_eq_true rfl⟩) (preS_nil hK hN) rfl rfl hl.1 rfl (lv_room (Nat.le_of_ble_eq_true rfl)) dX6_hold_1 ⟨Nat.zero_le _, Nat.zero_le _⟩) ?_
    refine lv_if_eq (tgt := 18) hx hb dX6_hold_4 (by decide) (fun c_4 => ?_) (fun c_4 => ?_)
    · exact absurd c_4 (by decide)
    · skip
      refine lv_iload_n hx hb dX6_hold_7 rfl (lv_at hl 2 rfl) ?_
      refine lv_iconst (v := 1) hx hb dX6_hold_8 (by decide) ?_
      refine lv_icmp_lt (tgt := 18) hx hb dX6_hold_9 (by decide) (fun c_9 => ?_) (fun c_9 => ?_)
      · skip
        refine lv_iconst (v := 0) hx hb dX6_hold_18 (by decide) ?_
        have hf_r : r = rdV 1 (holdM r (1510 * 0) tk) (holdM r (1510 * 1) tk) r := by first | (rw [rdV_1]; done) | (rw [rdV_1]; unfold holdM; rw [if_pos c_9]; done)
        exact hE _ _ _ _ _ _ hH ((congrArg (fun zz => (modelW A cI zz)) hf_r)) (by first | (rw [rdV_1]; done) | (rw [rdV_1]; unfold holdOK; rw [if_pos c_9]; done)) rfl dX6_hold_19
      · skip
        refine lv_iload_n hx hb dX6_hold_12 rfl (lv_at hl 2 rfl) ?_
        refine lv_bipush (v := 16) hx hb dX6_hold_13 (by decide) ?_
        refine lv_icmp_le (tgt := 20) hx hb dX6_hold_15 (by decide) (fun c_15 => ?_) (fun c_15 => ?_)
        · skip
          refine lv_aload_n hx hb dX6_hold_20 rfl (lv_at hl 0 rfl) ?_
          refine lv_iload_n hx hb dX6_hold_21 rfl (lv_at hl 1 rfl) ?_
          refine lv_iload_n hx hb dX6_hold_22 rfl (lv_at hl 2 rfl) ?_
          refine lv_aload_n hx hb dX6_hold_23 rfl (lv_at hl 0 rfl) ?_
          refine x_get (v := .ref (A 1)) (C := RX6) (T := TX6) (N := 9) hx hb hts hi6 hown hK hH.1 0 rfl rfl 0 (by decide) (hts (.fieldLink RX6 7 "PulseWheelModel" "now" "[I") (by decide +kernel)) rfl rfl dX6_hold_24 ?_
          refine lv_sipush (v := 1510) hx hb dX6_hold_27 (by decide) ?_
          refine lv_iload_n hx hb dX6_hold_30 rfl (lv_at hl 1 rfl) ?_
          refine lv_imul hx hb dX6_hold_31 ?_
          refine x_top (y := nI (1510 * 1)) (by decide) ?_
          refine lv_iconst (v := 1) hx hb dX6_hold_32 (by decide) ?_
          refine lv_iadd hx hb dX6_hold_33 ?_
          have hq_3 := ix_in (i := ((nI (1510 * 1)) + 1)) (n := 3020) ((1510 * 1) + 1) (nI_add (1510 * 1) 1) (by omega) (by decide)
          refine x_ild (v := r 1 ((1510 * 1) + 1)) hx hb hK hH.1 1 rfl hq_3.1 (by rw [hq_3.2]) dX6_hold_34 ?_
          obtain ⟨r_4, er_4⟩ : ∃ z, z = anewM r (1510 * 1) tk (r 1 ((1510 * 1) + 1)) := ⟨_, rfl⟩
          refine kCV (ws' := (modelW A cI r_4)) (va_runV (As := [.int 1, .int tk, .int (r 1 ((1510 * 1) + 1))]) (rest := []) ⟨hx, hb, hml, hown, hts⟩ (c_X6_anew l D cI cB A r tk (r 1 ((1510 * 1) + 1)) 1 (by decide) _) (cwV 3 hts gX6_hold_X6_anew rfl rfl rfl (by decide +kernel) ⟨Nat.le_of_ble_eq_true rfl, Nat.le_of_ble_eq_true rfl⟩) (preV_cut hH.1 hH.2.1 hK hN (ci := 6) rfl 0 rfl [0, 1, 2, 3, 4, 5] (by decide) rfl) rfl rfl hl.1 rfl (lv_room (Nat.le_of_ble_eq_true rfl)) dX6_hold_35 ⟨Nat.zero_le _, Nat.zero_le _⟩) hH hA [0, 1, 2, 3, 4, 5] rfl adr_model (by rw [er_4]; exact putL_model_model) (fun H locs hH => ?_)
          refine lv_iconst (v := 1) hx hb dX6_hold_38 (by decide) ?_
          have hf_r : r_4 = rdV 1 (holdM r (1510 * 0) tk) (holdM r (1510 * 1) tk) r := by subst er_4; first | (rw [rdV_1]; done) | (rw [rdV_1]; unfold holdM; rw [if_neg c_9, if_pos c_15]; done)
          exact hE _ _ _ _ _ _ hH ((congrArg (fun zz => (modelW A cI zz)) hf_r)) (by subst er_4; first | (rw [rdV_1]; done) | (rw [rdV_1]; unfold holdOK; rw [if_neg c_9, if_pos c_15]; done)) rfl dX6_hold_39
        · skip
          refine lv_iconst (v := 0) hx hb dX6_hold_18 (by decide) ?_
          have hf_r : r = rdV 1 (holdM r (1510 * 0) tk) (holdM r (1510 * 1) tk) r := by first | (rw [rdV_1]; done) | (rw [rdV_1]; unfold holdM; rw [if_neg c_9, if_neg c_15]; done)
          exact hE _ _ _ _ _ _ hH ((congrArg (fun zz => (modelW A cI zz)) hf_r)) (by first | (rw [rdV_1]; done) | (rw [rdV_1]; unfold holdOK; rw [if_neg c_9, if_neg c_15]; done)) rfl dX6_hold_19
  refine lv_iload_n hx hb dX6_hold_0 rfl (lv_at hl 1 rfl) ?_
  refine kSI (va_runS (As := [.int rd]) (rest := []) ⟨hx, hb, hml, hown, hts⟩ (c_X6_isReader l D cI cB rd  _) (va_cwS 1 hts gX6_hold_X6_isReader rfl rfl rfl (by decide +kernel) ⟨Nat.le_of_ble_eq_true rfl, Nat.le_of_ble_eq_true rfl⟩) (preS_nil hK hN) rfl rfl hl.1 rfl (lv_room (Nat.le_of_ble_eq_true rfl)) dX6_hold_1 ⟨Nat.zero_le _, Nat.zero_le _⟩) ?_
  refine lv_if_eq (tgt := 18) hx hb dX6_hold_4 (by decide) (fun c_4 => ?_) (fun c_4 => ?_)
  · skip
    refine lv_iconst (v := 0) hx hb dX6_hold_18 (by decide) ?_
    have hf_r : r = rdV rd (holdM r (1510 * 0) tk) (holdM r (1510 * 1) tk) r := by first | (rw [rdV_n c0 c1]; done) | (rw [rdV_n c0 c1]; unfold holdM; rw [if_true]; done)
    exact hE _ _ _ _ _ _ hH ((congrArg (fun zz => (modelW A cI zz)) hf_r)) (by first | (rw [rdV_n c0 c1]; done) | (rw [rdV_n c0 c1]; unfold holdOK; rw [if_true]; done)) rfl dX6_hold_19
  · exact absurd (by unfold isRdV; rw [if_neg c0, if_neg c1]) c_4

def rm_X6_turn : Room := { frames := 1, cells := 0, slots := 0, locals := 24 }
set_option maxHeartbeats 1000000 in
set_option maxRecDepth 100000 in
theorem c_X6_turn (l : Launch) (D : va_G) (cI cB : ClassId) (A : Nat → Nat) (r : Tb) (rd tk : Int32) : CI l D cI cB yX6_turn wsX6_turn rm_X6_turn [.ref (A 0), .int rd, .int tk] (modelW A cI r) (modelW A cI (rdV rd (turnM r (1510 * 0) tk) (turnM r (1510 * 1) tk) r)) (rdV rd (turnOK tk) (turnOK tk) 0) := by
  refine CI.of (cc := cX6_turn) (maxL := 3) (ty := .boolean) (by decide +kernel) rfl (Nat.le_of_ble_eq_true rfl) ?_
  intro p e s m args below meth c ls A0 Q hT hH hA hl hE
  obtain ⟨hx, hb, hr, hlocks, hnm, hml, hown, hts, hK, hN⟩ := hT
  have hl : lv_has ls 3 [(0, .ref (A 0)), (1, .int rd), (2, .int tk)] := hl
  have hi6 : ∀ w ∈ wsX60, w ∈ wsX6_turn := by decide +kernel
  by_cases c0 : rd = 0
  · subst c0
    refine lv_iload_n hx hb dX6_turn_0 rfl (lv_at hl 1 rfl) ?_
    refine kSI (va_runS (As := [.int 0]) (rest := []) ⟨hx, hb, hml, hown, hts⟩ (c_X6_isReader l D cI cB 0  _) (va_cwS 1 hts gX6_turn_X6_isReader rfl rfl rfl (by decide +kernel) ⟨Nat.le_of_ble_eq_true rfl, Nat.le_of_ble_eq_true rfl⟩) (preS_nil hK hN) rfl rfl hl.1 rfl (lv_room (Nat.le_of_ble_eq_true rfl)) dX6_turn_1 ⟨Nat.zero_le _, Nat.zero_le _⟩) ?_
    refine lv_if_eq (tgt := 18) hx hb dX6_turn_4 (by decide) (fun c_4 => ?_) (fun c_4 => ?_)
    · exact absurd c_4 (by decide)
    · skip
      refine lv_iload_n hx hb dX6_turn_7 rfl (lv_at hl 2 rfl) ?_
      refine lv_iconst (v := 4) hx hb dX6_turn_8 (by decide) ?_
      refine lv_icmp_lt (tgt := 18) hx hb dX6_turn_9 (by decide) (fun c_9 => ?_) (fun c_9 => ?_)
      · skip
        refine lv_iconst (v := 0) hx hb dX6_turn_18 (by decide) ?_
        have hf_r : r = rdV 0 (turnM r (1510 * 0) tk) (turnM r (1510 * 1) tk) r := by first | (rw [rdV_0]; done) | (rw [rdV_0]; unfold turnM; rw [if_pos c_9]; done)
        exact hE _ _ _ _ _ _ hH ((congrArg (fun zz => (modelW A cI zz)) hf_r)) (by first | (rw [rdV_0]; done) | (rw [rdV_0]; unfold turnOK; rw [if_pos c_9]; done)) rfl dX6_turn_19
      · skip
        refine lv_iload_n hx hb dX6_turn_12 rfl (lv_at hl 2 rfl) ?_
        refine lv_bipush (v := 64) hx hb dX6_turn_13 (by decide) ?_
        refine lv_icmp_le (tgt := 20) hx hb dX6_turn_15 (by decide) (fun c_15 => ?_) (fun c_15 => ?_)
        · skip
          refine lv_aload_n hx hb dX6_turn_20 rfl (lv_at hl 0 rfl) ?_
          refine lv_iload_n hx hb dX6_turn_21 rfl (lv_at hl 1 rfl) ?_
          refine lv_aload_n hx hb dX6_turn_22 rfl (lv_at hl 0 rfl) ?_
          refine x_get (v := .ref (A 1)) (C := RX6) (T := TX6) (N := 9) hx hb hts hi6 hown hK hH.1 0 rfl rfl 0 (by decide) (hts (.fieldLink RX6 7 "PulseWheelModel" "now" "[I") (by decide +kernel)) rfl rfl dX6_turn_23 ?_
          refine lv_sipush (v := 1510) hx hb dX6_turn_26 (by decide) ?_
          refine lv_iload_n hx hb dX6_turn_29 rfl (lv_at hl 1 rfl) ?_
          refine lv_imul hx hb dX6_turn_30 ?_
          refine x_top (y := nI (1510 * 0)) (by decide) ?_
          refine lv_iconst (v := 0) hx hb dX6_turn_31 (by decide) ?_
          refine lv_iadd hx hb dX6_turn_32 ?_
          have hq_1 := ix_in (i := ((nI (1510 * 0)) + 0)) (n := 3020) ((1510 * 0) + 0) (nI_add (1510 * 0) 0) (by omega) (by decide)
          refine x_ild (v := r 1 ((1510 * 0) + 0)) hx hb hK hH.1 1 rfl hq_1.1 (by rw [hq_1.2]) dX6_turn_33 ?_
          refine lv_iload_n hx hb dX6_turn_34 rfl (lv_at hl 2 rfl) ?_
          obtain ⟨r_2, er_2⟩ : ∃ z, z = anewM r (1510 * 0) (r 1 ((1510 * 0) + 0)) tk := ⟨_, rfl⟩
          refine kCV (ws' := (modelW A cI r_2)) (va_runV (As := [.int 0, .int (r 1 ((1510 * 0) + 0)), .int tk]) (rest := []) ⟨hx, hb, hml, hown, hts⟩ (c_X6_anew l D cI cB A r (r 1 ((1510 * 0) + 0)) tk 0 (by decide) _) (cwV 3 hts gX6_turn_X6_anew rfl rfl rfl (by decide +kernel) ⟨Nat.le_of_ble_eq_true rfl, Nat.le_of_ble_eq_true rfl⟩) (preV_cut hH.1 hH.2.1 hK hN (ci := 6) rfl 0 rfl [0, 1, 2, 3, 4, 5] (by decide) rfl) rfl rfl hl.1 rfl (lv_room (Nat.le_of_ble_eq_true rfl)) dX6_turn_35 ⟨Nat.zero_le _, Nat.zero_le _⟩) hH hA [0, 1, 2, 3, 4, 5] rfl adr_model (by rw [er_2]; exact putL_model_model) (fun H locs hH => ?_)
          refine lv_iconst (v := 1) hx hb dX6_turn_38 (by decide) ?_
          have hf_r : r_2 = rdV 0 (turnM r (1510 * 0) tk) (turnM r (1510 * 1) tk) r := by subst er_2; first | (rw [rdV_0]; done) | (rw [rdV_0]; unfold turnM; rw [if_neg c_9, if_pos c_15]; done)
          exact hE _ _ _ _ _ _ hH ((congrArg (fun zz => (modelW A cI zz)) hf_r)) (by subst er_2; first | (rw [rdV_0]; done) | (rw [rdV_0]; unfold turnOK; rw [if_neg c_9, if_pos c_15]; done)) rfl dX6_turn_39
        · skip
          refine lv_iconst (v := 0) hx hb dX6_turn_18 (by decide) ?_
          have hf_r : r = rdV 0 (turnM r (1510 * 0) tk) (turnM r (1510 * 1) tk) r := by first | (rw [rdV_0]; done) | (rw [rdV_0]; unfold turnM; rw [if_neg c_9, if_neg c_15]; done)
          exact hE _ _ _ _ _ _ hH ((congrArg (fun zz => (modelW A cI zz)) hf_r)) (by first | (rw [rdV_0]; done) | (rw [rdV_0]; unfold turnOK; rw [if_neg c_9, if_neg c_15]; done)) rfl dX6_turn_19
  by_cases c1 : rd = 1
  · subst c1
    refine lv_iload_n hx hb dX6_turn_0 rfl (lv_at hl 1 rfl) ?_
    refine kSI (va_runS (As := [.int 1]) (rest := []) ⟨hx, hb, hml, hown, hts⟩ (c_X6_isReader l D cI cB 1  _) (va_cwS 1 hts gX6_turn_X6_isReader rfl rfl rfl (by decide +kernel) ⟨Nat.le_of_ble_eq_true rfl, Nat.le_of_ble_eq_true rfl⟩) (preS_nil hK hN) rfl rfl hl.1 rfl (lv_room (Nat.le_of_ble_eq_true rfl)) dX6_turn_1 ⟨Nat.zero_le _, Nat.zero_le _⟩) ?_
    refine lv_if_eq (tgt := 18) hx hb dX6_turn_4 (by decide) (fun c_4 => ?_) (fun c_4 => ?_)
    · exact absurd c_4 (by decide)
    · skip
      refine lv_iload_n hx hb dX6_turn_7 rfl (lv_at hl 2 rfl) ?_
      refine lv_iconst (v := 4) hx hb dX6_turn_8 (by decide) ?_
      refine lv_icmp_lt (tgt := 18) hx hb dX6_turn_9 (by decide) (fun c_9 => ?_) (fun c_9 => ?_)
      · skip
        refine lv_iconst (v := 0) hx hb dX6_turn_18 (by decide) ?_
        have hf_r : r = rdV 1 (turnM r (1510 * 0) tk) (turnM r (1510 * 1) tk) r := by first | (rw [rdV_1]; done) | (rw [rdV_1]; unfold turnM; rw [if_pos c_9]; done)
        exact hE _ _ _ _ _ _ hH ((congrArg (fun zz => (modelW A cI zz)) hf_r)) (by first | (rw [rdV_1]; done) | (rw [rdV_1]; unfold turnOK; rw [if_pos c_9]; done)) rfl dX6_turn_19
      · skip
        refine lv_iload_n hx hb dX6_turn_12 rfl (lv_at hl 2 rfl) ?_
        refine lv_bipush (v := 64) hx hb dX6_turn_13 (by decide) ?_
        refine lv_icmp_le (tgt := 20) hx hb dX6_turn_15 (by decide) (fun c_15 => ?_) (fun c_15 => ?_)
        · skip
          refine lv_aload_n hx hb dX6_turn_20 rfl (lv_at hl 0 rfl) ?_
          refine lv_iload_n hx hb dX6_turn_21 rfl (lv_at hl 1 rfl) ?_
          refine lv_aload_n hx hb dX6_turn_22 rfl (lv_at hl 0 rfl) ?_
          refine x_get (v := .ref (A 1)) (C := RX6) (T := TX6) (N := 9) hx hb hts hi6 hown hK hH.1 0 rfl rfl 0 (by decide) (hts (.fieldLink RX6 7 "PulseWheelModel" "now" "[I") (by decide +kernel)) rfl rfl dX6_turn_23 ?_
          refine lv_sipush (v := 1510) hx hb dX6_turn_26 (by decide) ?_
          refine lv_iload_n hx hb dX6_turn_29 rfl (lv_at hl 1 rfl) ?_
          refine lv_imul hx hb dX6_turn_30 ?_
          refine x_top (y := nI (1510 * 1)) (by decide) ?_
          refine lv_iconst (v := 0) hx hb dX6_turn_31 (by decide) ?_
          refine lv_iadd hx hb dX6_turn_32 ?_
          have hq_3 := ix_in (i := ((nI (1510 * 1)) + 0)) (n := 3020) ((1510 * 1) + 0) (nI_add (1510 * 1) 0) (by omega) (by decide)
          refine x_ild (v := r 1 ((1510 * 1) + 0)) hx hb hK hH.1 1 rfl hq_3.1 (by rw [hq_3.2]) dX6_turn_33 ?_
          refine lv_iload_n hx hb dX6_turn_34 rfl (lv_at hl 2 rfl) ?_
          obtain ⟨r_4, er_4⟩ : ∃ z, z = anewM r (1510 * 1) (r 1 ((1510 * 1) + 0)) tk := ⟨_, rfl⟩
          refine kCV (ws' := (modelW A cI r_4)) (va_runV (As := [.int 1, .int (r 1 ((1510 * 1) + 0)), .int tk]) (rest := []) ⟨hx, hb, hml, hown, hts⟩ (c_X6_anew l D cI cB A r (r 1 ((1510 * 1) + 0)) tk 1 (by decide) _) (cwV 3 hts gX6_turn_X6_anew rfl rfl rfl (by decide +kernel) ⟨Nat.le_of_ble_eq_true rfl, Nat.le_of_ble_eq_true rfl⟩) (preV_cut hH.1 hH.2.1 hK hN (ci := 6) rfl 0 rfl [0, 1, 2, 3, 4, 5] (by decide) rfl) rfl rfl hl.1 rfl (lv_room (Nat.le_of_ble_eq_true rfl)) dX6_turn_35 ⟨Nat.zero_le _, Nat.zero_le _⟩) hH hA [0, 1, 2, 3, 4, 5] rfl adr_model (by rw [er_4]; exact putL_model_model) (fun H locs hH => ?_)
          refine lv_iconst (v := 1) hx hb dX6_turn_38 (by decide) ?_
          have hf_r : r_4 = rdV 1 (turnM r (1510 * 0) tk) (turnM r (1510 * 1) tk) r := by subst er_4; first | (rw [rdV_1]; done) | (rw [rdV_1]; unfold turnM; rw [if_neg c_9, if_pos c_15]; done)
          exact hE _ _ _ _ _ _ hH ((congrArg (fun zz => (modelW A cI zz)) hf_r)) (by subst er_4; first | (rw [rdV_1]; done) | (rw [rdV_1]; unfold turnOK; rw [if_neg c_9, if_pos c_15]; done)) rfl dX6_turn_39
        · skip
          refine lv_iconst (v := 0) hx hb dX6_turn_18 (by decide) ?_
          have hf_r : r = rdV 1 (turnM r (1510 * 0) tk) (turnM r (1510 * 1) tk) r := by first | (rw [rdV_1]; done) | (rw [rdV_1]; unfold turnM; rw [if_neg c_9, if_neg c_15]; done)
          exact hE _ _ _ _ _ _ hH ((congrArg (fun zz => (modelW A cI zz)) hf_r)) (by first | (rw [rdV_1]; done) | (rw [rdV_1]; unfold turnOK; rw [if_neg c_9, if_neg c_15]; done)) rfl dX6_turn_19
  refine lv_iload_n hx hb dX6_turn_0 rfl (lv_at hl 1 rfl) ?_
  refine kSI (va_runS (As := [.int rd]) (rest := []) ⟨hx, hb, hml, hown, hts⟩ (c_X6_isReader l D cI cB rd  _) (va_cwS 1 hts gX6_turn_X6_isReader rfl rfl rfl (by decide +kernel) ⟨Nat.le_of_ble_eq_true rfl, Nat.le_of_ble_eq_true rfl⟩) (preS_nil hK hN) rfl rfl hl.1 rfl (lv_room (Nat.le_of_ble_eq_true rfl)) dX6_turn_1 ⟨Nat.zero_le _, Nat.zero_le _⟩) ?_
  refine lv_if_eq (tgt := 18) hx hb dX6_turn_4 (by decide) (fun c_4 => ?_) (fun c_4 => ?_)
  · skip
    refine lv_iconst (v := 0) hx hb dX6_turn_18 (by decide) ?_
    have hf_r : r = rdV rd (turnM r (1510 * 0) tk) (turnM r (1510 * 1) tk) r := by first | (rw [rdV_n c0 c1]; done) | (rw [rdV_n c0 c1]; unfold turnM; rw [if_true]; done)
    exact hE _ _ _ _ _ _ hH ((congrArg (fun zz => (modelW A cI zz)) hf_r)) (by first | (rw [rdV_n c0 c1]; done) | (rw [rdV_n c0 c1]; unfold turnOK; rw [if_true]; done)) rfl dX6_turn_19
  · exact absurd (by unfold isRdV; rw [if_neg c0, if_neg c1]) c_4

def rm_X6_doAgree : Room := { frames := 0, cells := 0, slots := 0, locals := 0 }
set_option maxHeartbeats 1000000 in
set_option maxRecDepth 100000 in
theorem c_X6_doAgree (l : Launch) (D : va_G) (cI cB : ClassId) (A : Nat → Nat) (r : Tb) : SI l D cI cB yX6_doAgree wsX6_doAgree rm_X6_doAgree [.ref (A 0)] (modelW A cI r) (agreeM r) := by
  refine SI.of (cc := cX6_doAgree) (maxL := 4) (ty := .boolean) (by decide +kernel) rfl (Nat.le_of_ble_eq_true rfl) ?_
  intro p e s m args below meth c ls Q hT hP hD hl hE
  obtain ⟨hx, hb, hr, hlocks, hnm, hml, hown, hts, hK, hN⟩ := hT
  have hl : lv_has ls 4 [(0, .ref (A 0))] := hl
  have hi6 : ∀ w ∈ wsX60, w ∈ wsX6_doAgree := by decide +kernel
  refine lv_aload_n hx hb dX6_doAgree_0 rfl (lv_at hl 0 rfl) ?_
  refine x_get (v := .ref (A 1)) (C := RX6) (T := TX6) (N := 9) hx hb hts hi6 hown hK hP 0 rfl rfl 0 (by decide) (hts (.fieldLink RX6 7 "PulseWheelModel" "now" "[I") (by decide +kernel)) rfl rfl dX6_doAgree_1 ?_
  refine lv_bipush (v := 13) hx hb dX6_doAgree_4 (by decide) ?_
  have hq_1 := ix_in (i := 13) (n := 3020) 13 (rfl) (by omega) (by decide)
  refine x_ild (v := r 1 13) hx hb hK hP 1 rfl hq_1.1 (by rw [hq_1.2]) dX6_doAgree_6 ?_
  refine lv_if_eq (tgt := 21) hx hb dX6_doAgree_7 (by decide) (fun c_7 => ?_) (fun c_7 => ?_)
  · skip
    refine lv_iconst (v := 1) hx hb dX6_doAgree_21 (by decide) ?_
    exact hE _ _ _ (by first | rfl | (unfold agreeM  wayM; rw [if_pos c_7]; done) | (simp only [agreeM, wayM, if_pos c_7]; done) | (simp only [agreeM, wayM, c_7, if_true, if_false]; done) | (simp only [agreeM, wayM, c_7, if_true, if_false, not_true, not_false_iff, reduceIte]; done) | (exfalso; simp_all; done) | (simp [agreeM, wayM, c_7]; done) | (simp_all [agreeM, wayM]; done)) rfl dX6_doAgree_22
  · skip
    refine lv_aload_n hx hb dX6_doAgree_10 rfl (lv_at hl 0 rfl) ?_
    refine x_get (v := .ref (A 1)) (C := RX6) (T := TX6) (N := 9) hx hb hts hi6 hown hK hP 0 rfl rfl 0 (by decide) (hts (.fieldLink RX6 7 "PulseWheelModel" "now" "[I") (by decide +kernel)) rfl rfl dX6_doAgree_11 ?_
    refine lv_sipush (v := 1523) hx hb dX6_doAgree_14 (by decide) ?_
    have hq_2 := ix_in (i := 1523) (n := 3020) 1523 (rfl) (by omega) (by decide)
    refine x_ild (v := r 1 1523) hx hb hK hP 1 rfl hq_2.1 (by rw [hq_2.2]) dX6_doAgree_17 ?_
    refine lv_if_ne (tgt := 23) hx hb dX6_doAgree_18 (by decide) (fun c_18 => ?_) (fun c_18 => ?_)
    · skip
      refine lv_aload_n hx hb dX6_doAgree_23 rfl (lv_at hl 0 rfl) ?_
      refine x_get (v := .ref (A 1)) (C := RX6) (T := TX6) (N := 9) hx hb hts hi6 hown hK hP 0 rfl rfl 0 (by decide) (hts (.fieldLink RX6 7 "PulseWheelModel" "now" "[I") (by decide +kernel)) rfl rfl dX6_doAgree_24 ?_
      refine lv_iconst (v := 1) hx hb dX6_doAgree_27 (by decide) ?_
      have hq_3 := ix_in (i := 1) (n := 3020) 1 (rfl) (by omega) (by decide)
      refine x_ild (v := r 1 1) hx hb hK hP 1 rfl hq_3.1 (by rw [hq_3.2]) dX6_doAgree_28 ?_
      refine lv_istore_n (lv' := [(1, .int (r 1 1)), (0, .ref (A 0))]) hx hb dX6_doAgree_29 rfl hl (by decide) rfl (fun ls hl => ?_)
      refine lv_aload_n hx hb dX6_doAgree_30 rfl (lv_at hl 1 rfl) ?_
      refine x_get (v := .ref (A 1)) (C := RX6) (T := TX6) (N := 9) hx hb hts hi6 hown hK hP 0 rfl rfl 0 (by decide) (hts (.fieldLink RX6 7 "PulseWheelModel" "now" "[I") (by decide +kernel)) rfl rfl dX6_doAgree_31 ?_
      refine lv_sipush (v := 1511) hx hb dX6_doAgree_34 (by decide) ?_
      have hq_4 := ix_in (i := 1511) (n := 3020) 1511 (rfl) (by omega) (by decide)
      refine x_ild (v := r 1 1511) hx hb hK hP 1 rfl hq_4.1 (by rw [hq_4.2]) dX6_doAgree_37 ?_
      refine lv_istore_n (lv' := [(2, .int (r 1 1511)), (1, .int (r 1 1)), (0, .ref (A 0))]) hx hb dX6_doAgree_38 rfl hl (by decide) rfl (fun ls hl => ?_)
      refine lv_aload_n hx hb dX6_doAgree_39 rfl (lv_at hl 2 rfl) ?_
      refine x_get (v := .ref (A 1)) (C := RX6) (T := TX6) (N := 9) hx hb hts hi6 hown hK hP 0 rfl rfl 0 (by decide) (hts (.fieldLink RX6 7 "PulseWheelModel" "now" "[I") (by decide +kernel)) rfl rfl dX6_doAgree_40 ?_
      refine lv_bipush (v := 6) hx hb dX6_doAgree_43 (by decide) ?_
      have hq_5 := ix_in (i := 6) (n := 3020) 6 (rfl) (by omega) (by decide)
      refine x_ild (v := r 1 6) hx hb hK hP 1 rfl hq_5.1 (by rw [hq_5.2]) dX6_doAgree_45 ?_
      refine lv_aload_n hx hb dX6_doAgree_46 rfl (lv_at hl 2 rfl) ?_
      refine x_get (v := .ref (A 1)) (C := RX6) (T := TX6) (N := 9) hx hb hts hi6 hown hK hP 0 rfl rfl 0 (by decide) (hts (.fieldLink RX6 7 "PulseWheelModel" "now" "[I") (by decide +kernel)) rfl rfl dX6_doAgree_47 ?_
      refine lv_bipush (v := 14) hx hb dX6_doAgree_50 (by decide) ?_
      have hq_6 := ix_in (i := 14) (n := 3020) 14 (rfl) (by omega) (by decide)
      refine x_ild (v := r 1 14) hx hb hK hP 1 rfl hq_6.1 (by rw [hq_6.2]) dX6_doAgree_52 ?_
      refine lv_isub hx hb dX6_doAgree_53 ?_
      refine lv_iload_n hx hb dX6_doAgree_54 rfl (lv_at hl 0 rfl) ?_
      refine lv_imul hx hb dX6_doAgree_55 ?_
      refine lv_aload_n hx hb dX6_doAgree_56 rfl (lv_at hl 2 rfl) ?_
      refine x_get (v := .ref (A 1)) (C := RX6) (T := TX6) (N := 9) hx hb hts hi6 hown hK hP 0 rfl rfl 0 (by decide) (hts (.fieldLink RX6 7 "PulseWheelModel" "now" "[I") (by decide +kernel)) rfl rfl dX6_doAgree_57 ?_
      refine lv_sipush (v := 1516) hx hb dX6_doAgree_60 (by decide) ?_
      have hq_7 := ix_in (i := 1516) (n := 3020) 1516 (rfl) (by omega) (by decide)
      refine x_ild (v := r 1 1516) hx hb hK hP 1 rfl hq_7.1 (by rw [hq_7.2]) dX6_doAgree_63 ?_
      refine lv_aload_n hx hb dX6_doAgree_64 rfl (lv_at hl 2 rfl) ?_
      refine x_get (v := .ref (A 1)) (C := RX6) (T := TX6) (N := 9) hx hb hts hi6 hown hK hP 0 rfl rfl 0 (by decide) (hts (.fieldLink RX6 7 "PulseWheelModel" "now" "[I") (by decide +kernel)) rfl rfl dX6_doAgree_65 ?_
      refine lv_sipush (v := 1524) hx hb dX6_doAgree_68 (by decide) ?_
      have hq_8 := ix_in (i := 1524) (n := 3020) 1524 (rfl) (by omega) (by decide)
      refine x_ild (v := r 1 1524) hx hb hK hP 1 rfl hq_8.1 (by rw [hq_8.2]) dX6_doAgree_71 ?_
      refine lv_isub hx hb dX6_doAgree_72 ?_
      refine lv_iload_n hx hb dX6_doAgree_73 rfl (lv_at hl 1 rfl) ?_
      refine lv_imul hx hb dX6_doAgree_74 ?_
      refine lv_isub hx hb dX6_doAgree_75 ?_
      refine lv_istore_n (lv' := [(3, .int ((((r 1 6) - (r 1 14)) * (r 1 1511)) - (((r 1 1516) - (r 1 1524)) * (r 1 1)))), (2, .int (r 1 1511)), (1, .int (r 1 1)), (0, .ref (A 0))]) hx hb dX6_doAgree_76 rfl hl (by decide) rfl (fun ls hl => ?_)
      refine lv_iload_n hx hb dX6_doAgree_77 rfl (lv_at hl 0 rfl) ?_
      refine lv_iload_n hx hb dX6_doAgree_78 rfl (lv_at hl 2 rfl) ?_
      refine lv_iload_n hx hb dX6_doAgree_79 rfl (lv_at hl 1 rfl) ?_
      refine lv_iadd hx hb dX6_doAgree_80 ?_
      refine lv_icmp_gt (tgt := 96) hx hb dX6_doAgree_81 (by decide) (fun c_81 => ?_) (fun c_81 => ?_)
      · skip
        refine lv_iconst (v := 0) hx hb dX6_doAgree_96 (by decide) ?_
        exact hE _ _ _ (by first | rfl | (unfold agreeM  wayM; rw [if_neg c_7, if_neg c_18, if_pos c_81]; done) | (simp only [agreeM, wayM, if_neg c_7, if_neg c_18, if_pos c_81]; done) | (simp only [agreeM, wayM, c_7, c_18, c_81, if_true, if_false]; done) | (simp only [agreeM, wayM, c_7, c_18, c_81, if_true, if_false, not_true, not_false_iff, reduceIte]; done) | (exfalso; simp_all; done) | (simp [agreeM, wayM, c_7, c_18, c_81]; done) | (simp_all [agreeM, wayM]; done)) rfl dX6_doAgree_97
      · skip
        refine lv_iload_n hx hb dX6_doAgree_84 rfl (lv_at hl 0 rfl) ?_
        refine lv_ineg hx hb dX6_doAgree_85 ?_
        refine lv_iload_n hx hb dX6_doAgree_86 rfl (lv_at hl 2 rfl) ?_
        refine lv_iload_n hx hb dX6_doAgree_87 rfl (lv_at hl 1 rfl) ?_
        refine lv_iadd hx hb dX6_doAgree_88 ?_
        refine lv_icmp_gt (tgt := 96) hx hb dX6_doAgree_89 (by decide) (fun c_89 => ?_) (fun c_89 => ?_)
        · skip
          refine lv_iconst (v := 0) hx hb dX6_doAgree_96 (by decide) ?_
          exact hE _ _ _ (by first | rfl | (unfold agreeM  wayM; rw [if_neg c_7, if_neg c_18, if_neg c_81, if_pos c_89]; done) | (simp only [agreeM, wayM, if_neg c_7, if_neg c_18, if_neg c_81, if_pos c_89]; done) | (simp only [agreeM, wayM, c_7, c_18, c_81, c_89, if_true, if_false]; done) | (simp only [agreeM, wayM, c_7, c_18, c_81, c_89, if_true, if_false, not_true, not_false_iff, reduceIte]; done) | (exfalso; simp_all; done) | (simp [agreeM, wayM, c_7, c_18, c_81, c_89]; done) | (simp_all [agreeM, wayM]; done)) rfl dX6_doAgree_97
        · skip
          refine lv_iconst (v := 1) hx hb dX6_doAgree_92 (by decide) ?_
          refine lv_goto (tgt := 97) hx hb dX6_doAgree_93 (by decide) ?_
          exact hE _ _ _ (by first | rfl | (unfold agreeM  wayM; rw [if_neg c_7, if_neg c_18, if_neg c_81, if_neg c_89]; done) | (simp only [agreeM, wayM, if_neg c_7, if_neg c_18, if_neg c_81, if_neg c_89]; done) | (simp only [agreeM, wayM, c_7, c_18, c_81, c_89, if_true, if_false]; done) | (simp only [agreeM, wayM, c_7, c_18, c_81, c_89, if_true, if_false, not_true, not_false_iff, reduceIte]; done) | (exfalso; simp_all; done) | (simp [agreeM, wayM, c_7, c_18, c_81, c_89]; done) | (simp_all [agreeM, wayM]; done)) rfl dX6_doAgree_97
    · skip
      refine lv_iconst (v := 1) hx hb dX6_doAgree_21 (by decide) ?_
      exact hE _ _ _ (by first | rfl | (unfold agreeM  wayM; rw [if_neg c_7, if_pos c_18]; done) | (simp only [agreeM, wayM, if_neg c_7, if_pos c_18]; done) | (simp only [agreeM, wayM, c_7, c_18, if_true, if_false]; done) | (simp only [agreeM, wayM, c_7, c_18, if_true, if_false, not_true, not_false_iff, reduceIte]; done) | (exfalso; simp_all; done) | (simp [agreeM, wayM, c_7, c_18]; done) | (simp_all [agreeM, wayM]; done)) rfl dX6_doAgree_22

def rm_X6_four : Room := { frames := 0, cells := 0, slots := 0, locals := 0 }
set_option maxHeartbeats 1000000 in
set_option maxRecDepth 100000 in
theorem c_X6_four (l : Launch) (D : va_G) (cI cB : ClassId) (A : Nat → Nat) (r : Tb) (v : Int32) (n : Nat) (hn : r 0 8 = nI n) (hn2 : n + 4 ≤ 2000) : CV l D cI cB yX6_four wsX6_four rm_X6_four [.ref (A 0), .int v] (modelW A cI r) (modelW A cI (fourM r n v)) := by
  refine CV.of (cc := cX6_four) (maxL := 3)  (by decide +kernel) rfl (Nat.le_of_ble_eq_true rfl) ?_
  intro p e s m args below meth c ls A0 Q hT hH hA hl hE
  obtain ⟨hx, hb, hr, hlocks, hnm, hml, hown, hts, hK, hN⟩ := hT
  have hl : lv_has ls 3 [(0, .ref (A 0)), (1, .int v)] := hl
  have hi6 : ∀ w ∈ wsX60, w ∈ wsX6_four := by decide +kernel
  refine lv_bipush (v := 24) hx hb dX6_four_0 (by decide) ?_
  refine lv_istore_n (lv' := [(2, .int 24), (0, .ref (A 0)), (1, .int v)]) hx hb dX6_four_2 rfl hl (by decide) rfl (fun ls hl => ?_)
  refine lv_iload_n hx hb dX6_four_3 rfl (lv_at hl 0 rfl) ?_
  refine lv_if_lt (tgt := 39) hx hb dX6_four_4 (by decide) (fun c_4 => ?_) (fun c_4 => ?_)
  · exact absurd c_4 (by decide)
  · skip
    refine lv_aload_n hx hb dX6_four_7 rfl (lv_at hl 1 rfl) ?_
    refine x_get (v := .ref (A 5)) (C := RX6) (T := TX6) (N := 9) hx hb hts hi6 hown hK hH.1 0 rfl rfl 7 (by decide) (hts (.fieldLink RX6 26 "PulseWheelModel" "tape" "[I") (by decide +kernel)) rfl rfl dX6_four_8 ?_
    refine lv_aload_n hx hb dX6_four_11 rfl (lv_at hl 1 rfl) ?_
    refine x_get (v := .int (r 0 8)) (C := RX6) (T := TX6) (N := 9) hx hb hts hi6 hown hK hH.1 0 rfl rfl 8 (by decide) (hts (.fieldLink RX6 73 "PulseWheelModel" "taped" "I") (by decide +kernel)) rfl rfl dX6_four_12 ?_
    refine lv_iload_n hx hb dX6_four_15 rfl (lv_at hl 2 rfl) ?_
    refine lv_iload_n hx hb dX6_four_16 rfl (lv_at hl 0 rfl) ?_
    refine lv_ishr hx hb dX6_four_17 ?_
    refine lv_sipush (v := 255) hx hb dX6_four_18 (by decide) ?_
    refine lv_iand hx hb dX6_four_21 ?_
    have hq_1 := ix_in (i := (r 0 8)) (n := 2000) n (by rw [hn]) (by omega) (by decide)
    obtain ⟨r_2, er_2⟩ : ∃ z, z = up2 r 5 n ((v >>> ((24 : Int32) &&& 31)) &&& 255) := ⟨_, rfl⟩
    refine x_ist (ws' := (modelW A cI r_2)) hx hb hK hH 5 rfl hq_1.1 hq_1.2 dX6_four_22 (by rw [er_2]; rfl) (fun H locs hH => ?_)
    refine lv_aload_n hx hb dX6_four_23 rfl (lv_at hl 1 rfl) ?_
    refine lv_dup hx hb dX6_four_24 rfl ?_
    refine x_get (v := .int (r_2 0 8)) (C := RX6) (T := TX6) (N := 9) hx hb hts hi6 hown hK hH.1 0 rfl rfl 8 (by decide) (hts (.fieldLink RX6 73 "PulseWheelModel" "taped" "I") (by decide +kernel)) rfl rfl dX6_four_25 ?_
    refine x_top (y := r 0 8) (congrFun (congrFun er_2 0) 8) ?_
    refine lv_iconst (v := 1) hx hb dX6_four_28 (by decide) ?_
    refine lv_iadd hx hb dX6_four_29 ?_
    obtain ⟨r_3, er_3⟩ : ∃ z, z = up2 r_2 0 8 ((r 0 8) + 1) := ⟨_, rfl⟩
    refine x_put (ws' := (modelW A cI r_3)) (v := .int ((r 0 8) + 1)) (ty := .int) (C := RX6) (T := TX6) (N := 9) hx hb hts hi6 tyX6_ok nmX6 hown hK hH 0 rfl rfl 8 (by decide) (hts (.fieldLink RX6 73 "PulseWheelModel" "taped" "I") (by decide +kernel)) rfl rfl rfl (rfl) (rfl) (Nat.le_of_ble_eq_true rfl) dX6_four_30 (by rw [er_3]; rfl) (fun H locs hH => ?_)
    refine lv_iinc (v := 16) (lv' := [(2, .int 16), (0, .ref (A 0)), (1, .int v)]) hx hb dX6_four_33 hl (k := 0) rfl (by decide) (by decide) rfl (fun ls hl => ?_)
    refine lv_goto (tgt := 3) hx hb dX6_four_36 (by decide) ?_
    refine lv_iload_n hx hb dX6_four_3 rfl (lv_at hl 0 rfl) ?_
    refine lv_if_lt (tgt := 39) hx hb dX6_four_4 (by decide) (fun c_4 => ?_) (fun c_4 => ?_)
    · exact absurd c_4 (by decide)
    · skip
      refine lv_aload_n hx hb dX6_four_7 rfl (lv_at hl 1 rfl) ?_
      refine x_get (v := .ref (A 5)) (C := RX6) (T := TX6) (N := 9) hx hb hts hi6 hown hK hH.1 0 rfl rfl 7 (by decide) (hts (.fieldLink RX6 26 "PulseWheelModel" "tape" "[I") (by decide +kernel)) rfl rfl dX6_four_8 ?_
      refine lv_aload_n hx hb dX6_four_11 rfl (lv_at hl 1 rfl) ?_
      refine x_get (v := .int (r_3 0 8)) (C := RX6) (T := TX6) (N := 9) hx hb hts hi6 hown hK hH.1 0 rfl rfl 8 (by decide) (hts (.fieldLink RX6 73 "PulseWheelModel" "taped" "I") (by decide +kernel)) rfl rfl dX6_four_12 ?_
      refine x_top (y := ((r 0 8) + 1)) (congrFun (congrFun er_3 0) 8) ?_
      refine lv_iload_n hx hb dX6_four_15 rfl (lv_at hl 2 rfl) ?_
      refine lv_iload_n hx hb dX6_four_16 rfl (lv_at hl 0 rfl) ?_
      refine lv_ishr hx hb dX6_four_17 ?_
      refine lv_sipush (v := 255) hx hb dX6_four_18 (by decide) ?_
      refine lv_iand hx hb dX6_four_21 ?_
      have hq_4 := ix_in (i := ((r 0 8) + 1)) (n := 2000) (n + 1) (by rw [hn, nI_1]) (by omega) (by decide)
      obtain ⟨r_5, er_5⟩ : ∃ z, z = up2 r_3 5 (n + 1) ((v >>> ((16 : Int32) &&& 31)) &&& 255) := ⟨_, rfl⟩
      refine x_ist (ws' := (modelW A cI r_5)) hx hb hK hH 5 rfl hq_4.1 hq_4.2 dX6_four_22 (by rw [er_5]; rfl) (fun H locs hH => ?_)
      refine lv_aload_n hx hb dX6_four_23 rfl (lv_at hl 1 rfl) ?_
      refine lv_dup hx hb dX6_four_24 rfl ?_
      refine x_get (v := .int (r_5 0 8)) (C := RX6) (T := TX6) (N := 9) hx hb hts hi6 hown hK hH.1 0 rfl rfl 8 (by decide) (hts (.fieldLink RX6 73 "PulseWheelModel" "taped" "I") (by decide +kernel)) rfl rfl dX6_four_25 ?_
      refine x_top (y := ((r 0 8) + 1)) ((congrFun (congrFun er_5 0) 8).trans (congrFun (congrFun er_3 0) 8)) ?_
      refine lv_iconst (v := 1) hx hb dX6_four_28 (by decide) ?_
      refine lv_iadd hx hb dX6_four_29 ?_
      obtain ⟨r_6, er_6⟩ : ∃ z, z = up2 r_5 0 8 (((r 0 8) + 1) + 1) := ⟨_, rfl⟩
      refine x_put (ws' := (modelW A cI r_6)) (v := .int (((r 0 8) + 1) + 1)) (ty := .int) (C := RX6) (T := TX6) (N := 9) hx hb hts hi6 tyX6_ok nmX6 hown hK hH 0 rfl rfl 8 (by decide) (hts (.fieldLink RX6 73 "PulseWheelModel" "taped" "I") (by decide +kernel)) rfl rfl rfl (rfl) (rfl) (Nat.le_of_ble_eq_true rfl) dX6_four_30 (by rw [er_6]; rfl) (fun H locs hH => ?_)
      refine lv_iinc (v := 8) (lv' := [(2, .int 8), (0, .ref (A 0)), (1, .int v)]) hx hb dX6_four_33 hl (k := 0) rfl (by decide) (by decide) rfl (fun ls hl => ?_)
      refine lv_goto (tgt := 3) hx hb dX6_four_36 (by decide) ?_
      refine lv_iload_n hx hb dX6_four_3 rfl (lv_at hl 0 rfl) ?_
      refine lv_if_lt (tgt := 39) hx hb dX6_four_4 (by decide) (fun c_4 => ?_) (fun c_4 => ?_)
      · exact absurd c_4 (by decide)
      · skip
        refine lv_aload_n hx hb dX6_four_7 rfl (lv_at hl 1 rfl) ?_
        refine x_get (v := .ref (A 5)) (C := RX6) (T := TX6) (N := 9) hx hb hts hi6 hown hK hH.1 0 rfl rfl 7 (by decide) (hts (.fieldLink RX6 26 "PulseWheelModel" "tape" "[I") (by decide +kernel)) rfl rfl dX6_four_8 ?_
        refine lv_aload_n hx hb dX6_four_11 rfl (lv_at hl 1 rfl) ?_
        refine x_get (v := .int (r_6 0 8)) (C := RX6) (T := TX6) (N := 9) hx hb hts hi6 hown hK hH.1 0 rfl rfl 8 (by decide) (hts (.fieldLink RX6 73 "PulseWheelModel" "taped" "I") (by decide +kernel)) rfl rfl dX6_four_12 ?_
        refine x_top (y := (((r 0 8) + 1) + 1)) (congrFun (congrFun er_6 0) 8) ?_
        refine lv_iload_n hx hb dX6_four_15 rfl (lv_at hl 2 rfl) ?_
        refine lv_iload_n hx hb dX6_four_16 rfl (lv_at hl 0 rfl) ?_
        refine lv_ishr hx hb dX6_four_17 ?_
        refine lv_sipush (v := 255) hx hb dX6_four_18 (by decide) ?_
        refine lv_iand hx hb dX6_four_21 ?_
        have hq_7 := ix_in (i := (((r 0 8) + 1) + 1)) (n := 2000) (n + 1 + 1) (by rw [hn, nI_1, nI_1]) (by omega) (by decide)
        obtain ⟨r_8, er_8⟩ : ∃ z, z = up2 r_6 5 (n + 1 + 1) ((v >>> ((8 : Int32) &&& 31)) &&& 255) := ⟨_, rfl⟩
        refine x_ist (ws' := (modelW A cI r_8)) hx hb hK hH 5 rfl hq_7.1 hq_7.2 dX6_four_22 (by rw [er_8]; rfl) (fun H locs hH => ?_)
        refine lv_aload_n hx hb dX6_four_23 rfl (lv_at hl 1 rfl) ?_
        refine lv_dup hx hb dX6_four_24 rfl ?_
        refine x_get (v := .int (r_8 0 8)) (C := RX6) (T := TX6) (N := 9) hx hb hts hi6 hown hK hH.1 0 rfl rfl 8 (by decide) (hts (.fieldLink RX6 73 "PulseWheelModel" "taped" "I") (by decide +kernel)) rfl rfl dX6_four_25 ?_
        refine x_top (y := (((r 0 8) + 1) + 1)) ((congrFun (congrFun er_8 0) 8).trans (congrFun (congrFun er_6 0) 8)) ?_
        refine lv_iconst (v := 1) hx hb dX6_four_28 (by decide) ?_
        refine lv_iadd hx hb dX6_four_29 ?_
        obtain ⟨r_9, er_9⟩ : ∃ z, z = up2 r_8 0 8 ((((r 0 8) + 1) + 1) + 1) := ⟨_, rfl⟩
        refine x_put (ws' := (modelW A cI r_9)) (v := .int ((((r 0 8) + 1) + 1) + 1)) (ty := .int) (C := RX6) (T := TX6) (N := 9) hx hb hts hi6 tyX6_ok nmX6 hown hK hH 0 rfl rfl 8 (by decide) (hts (.fieldLink RX6 73 "PulseWheelModel" "taped" "I") (by decide +kernel)) rfl rfl rfl (rfl) (rfl) (Nat.le_of_ble_eq_true rfl) dX6_four_30 (by rw [er_9]; rfl) (fun H locs hH => ?_)
        refine lv_iinc (v := 0) (lv' := [(2, .int 0), (0, .ref (A 0)), (1, .int v)]) hx hb dX6_four_33 hl (k := 0) rfl (by decide) (by decide) rfl (fun ls hl => ?_)
        refine lv_goto (tgt := 3) hx hb dX6_four_36 (by decide) ?_
        refine lv_iload_n hx hb dX6_four_3 rfl (lv_at hl 0 rfl) ?_
        refine lv_if_lt (tgt := 39) hx hb dX6_four_4 (by decide) (fun c_4 => ?_) (fun c_4 => ?_)
        · exact absurd c_4 (by decide)
        · skip
          refine lv_aload_n hx hb dX6_four_7 rfl (lv_at hl 1 rfl) ?_
          refine x_get (v := .ref (A 5)) (C := RX6) (T := TX6) (N := 9) hx hb hts hi6 hown hK hH.1 0 rfl rfl 7 (by decide) (hts (.fieldLink RX6 26 "PulseWheelModel" "tape" "[I") (by decide +kernel)) rfl rfl dX6_four_8 ?_
          refine lv_aload_n hx hb dX6_four_11 rfl (lv_at hl 1 rfl) ?_
          refine x_get (v := .int (r_9 0 8)) (C := RX6) (T := TX6) (N := 9) hx hb hts hi6 hown hK hH.1 0 rfl rfl 8 (by decide) (hts (.fieldLink RX6 73 "PulseWheelModel" "taped" "I") (by decide +kernel)) rfl rfl dX6_four_12 ?_
          refine x_top (y := ((((r 0 8) + 1) + 1) + 1)) (congrFun (congrFun er_9 0) 8) ?_
          refine lv_iload_n hx hb dX6_four_15 rfl (lv_at hl 2 rfl) ?_
          refine lv_iload_n hx hb dX6_four_16 rfl (lv_at hl 0 rfl) ?_
          refine lv_ishr hx hb dX6_four_17 ?_
          refine lv_sipush (v := 255) hx hb dX6_four_18 (by decide) ?_
          refine lv_iand hx hb dX6_four_21 ?_
          have hq_10 := ix_in (i := ((((r 0 8) + 1) + 1) + 1)) (n := 2000) (n + 1 + 1 + 1) (by rw [hn, nI_1, nI_1, nI_1]) (by omega) (by decide)
          obtain ⟨r_11, er_11⟩ : ∃ z, z = up2 r_9 5 (n + 1 + 1 + 1) ((v >>> ((0 : Int32) &&& 31)) &&& 255) := ⟨_, rfl⟩
          refine x_ist (ws' := (modelW A cI r_11)) hx hb hK hH 5 rfl hq_10.1 hq_10.2 dX6_four_22 (by rw [er_11]; rfl) (fun H locs hH => ?_)
          refine lv_aload_n hx hb dX6_four_23 rfl (lv_at hl 1 rfl) ?_
          refine lv_dup hx hb dX6_four_24 rfl ?_
          refine x_get (v := .int (r_11 0 8)) (C := RX6) (T := TX6) (N := 9) hx hb hts hi6 hown hK hH.1 0 rfl rfl 8 (by decide) (hts (.fieldLink RX6 73 "PulseWheelModel" "taped" "I") (by decide +kernel)) rfl rfl dX6_four_25 ?_
          refine x_top (y := ((((r 0 8) + 1) + 1) + 1)) ((congrFun (congrFun er_11 0) 8).trans (congrFun (congrFun er_9 0) 8)) ?_
          refine lv_iconst (v := 1) hx hb dX6_four_28 (by decide) ?_
          refine lv_iadd hx hb dX6_four_29 ?_
          obtain ⟨r_12, er_12⟩ : ∃ z, z = up2 r_11 0 8 (((((r 0 8) + 1) + 1) + 1) + 1) := ⟨_, rfl⟩
          refine x_put (ws' := (modelW A cI r_12)) (v := .int (((((r 0 8) + 1) + 1) + 1) + 1)) (ty := .int) (C := RX6) (T := TX6) (N := 9) hx hb hts hi6 tyX6_ok nmX6 hown hK hH 0 rfl rfl 8 (by decide) (hts (.fieldLink RX6 73 "PulseWheelModel" "taped" "I") (by decide +kernel)) rfl rfl rfl (rfl) (rfl) (Nat.le_of_ble_eq_true rfl) dX6_four_30 (by rw [er_12]; rfl) (fun H locs hH => ?_)
          refine lv_iinc (v := -8) (lv' := [(2, .int (-8)), (0, .ref (A 0)), (1, .int v)]) hx hb dX6_four_33 hl (k := 0) rfl (by decide) (by decide) rfl (fun ls hl => ?_)
          refine lv_goto (tgt := 3) hx hb dX6_four_36 (by decide) ?_
          refine lv_iload_n hx hb dX6_four_3 rfl (lv_at hl 0 rfl) ?_
          refine lv_if_lt (tgt := 39) hx hb dX6_four_4 (by decide) (fun c_4 => ?_) (fun c_4 => ?_)
          · skip
            have hf_r : r_12 = fourM r n v := by subst er_12; subst er_11; subst er_9; subst er_8; subst er_6; subst er_5; subst er_3; subst er_2; rfl
            exact hE _ _ _ _ _ hH ((congrArg (fun zz => (modelW A cI zz)) hf_r)) dX6_four_39
          · exact absurd (by decide) c_4

def rm_X6_feed : Room := { frames := 1, cells := 0, slots := 0, locals := 22 }
set_option maxHeartbeats 1000000 in
set_option maxRecDepth 100000 in
theorem c_X6_feed (l : Launch) (D : va_G) (cI cB : ClassId) (A : Nat → Nat) (r : Tb) (a1 a2 a3 a4 a5 : Int32) (n : Nat) (hn : r 0 8 = nI n) (hn2 : n ≤ 2000) : CI l D cI cB yX6_feed wsX6_feed rm_X6_feed [.ref (A 0), .int a1, .int a2, .int a3, .int a4, .int a5] (modelW A cI r) (modelW A cI (feedM r n a1 a2 a3 a4 a5)) (feedMV r n) := by
  refine CI.of (cc := cX6_feed) (maxL := 6) (ty := .int) (by decide +kernel) rfl (Nat.le_of_ble_eq_true rfl) ?_
  intro p e s m args below meth c ls A0 Q hT hH hA hl hE
  obtain ⟨hx, hb, hr, hlocks, hnm, hml, hown, hts, hK, hN⟩ := hT
  have hl : lv_has ls 6 [(0, .ref (A 0)), (1, .int a1), (2, .int a2), (3, .int a3), (4, .int a4), (5, .int a5)] := hl
  have hi6 : ∀ w ∈ wsX60, w ∈ wsX6_feed := by decide +kernel
  refine lv_aload_n hx hb dX6_feed_0 rfl (lv_at hl 0 rfl) ?_
  refine x_get (v := .int (r 0 8)) (C := RX6) (T := TX6) (N := 9) hx hb hts hi6 hown hK hH.1 0 rfl rfl 8 (by decide) (hts (.fieldLink RX6 73 "PulseWheelModel" "taped" "I") (by decide +kernel)) rfl rfl dX6_feed_1 ?_
  refine lv_bipush (v := 20) hx hb dX6_feed_4 (by decide) ?_
  refine lv_iadd hx hb dX6_feed_6 ?_
  refine lv_sipush (v := 2000) hx hb dX6_feed_7 (by decide) ?_
  refine lv_icmp_le (tgt := 15) hx hb dX6_feed_10 (by decide) (fun c_10 => ?_) (fun c_10 => ?_)
  · skip
    refine lv_aload_n hx hb dX6_feed_15 rfl (lv_at hl 0 rfl) ?_
    refine lv_iload_n hx hb dX6_feed_16 rfl (lv_at hl 1 rfl) ?_
    obtain ⟨r_1, er_1⟩ : ∃ z, z = fourM r (n) a1 := ⟨_, rfl⟩
    refine kCV (ws' := (modelW A cI r_1)) (va_runV (As := [.int a1]) (rest := []) ⟨hx, hb, hml, hown, hts⟩ (c_X6_four l D cI cB A r a1 (n) hn (by have := le20 hn hn2 c_10; omega) _) (cwV 1 hts gX6_feed_X6_four rfl rfl rfl (by decide +kernel) ⟨Nat.le_of_ble_eq_true rfl, Nat.le_of_ble_eq_true rfl⟩) (preV_cut hH.1 hH.2.1 hK hN (ci := 6) rfl 0 rfl [0, 1, 2, 3, 4, 5] (by decide) rfl) rfl rfl hl.1 rfl (lv_room (Nat.le_of_ble_eq_true rfl)) dX6_feed_17 ⟨Nat.zero_le _, Nat.zero_le _⟩) hH hA [0, 1, 2, 3, 4, 5] rfl adr_model (by rw [er_1]; exact putL_model_model) (fun H locs hH => ?_)
    refine lv_aload_n hx hb dX6_feed_20 rfl (lv_at hl 0 rfl) ?_
    refine lv_iload_n hx hb dX6_feed_21 rfl (lv_at hl 2 rfl) ?_
    obtain ⟨r_2, er_2⟩ : ∃ z, z = fourM r_1 (n + 4) a2 := ⟨_, rfl⟩
    refine kCV (ws' := (modelW A cI r_2)) (va_runV (As := [.int a2]) (rest := []) ⟨hx, hb, hml, hown, hts⟩ (c_X6_four l D cI cB A r_1 a2 (n + 4) (by subst er_1; exact four_8 (hn)) (by have := le20 hn hn2 c_10; omega) _) (cwV 1 hts gX6_feed_X6_four rfl rfl rfl (by decide +kernel) ⟨Nat.le_of_ble_eq_true rfl, Nat.le_of_ble_eq_true rfl⟩) (preV_cut hH.1 hH.2.1 hK hN (ci := 6) rfl 0 rfl [0, 1, 2, 3, 4, 5] (by decide) rfl) rfl rfl hl.1 rfl (lv_room (Nat.le_of_ble_eq_true rfl)) dX6_feed_22 ⟨Nat.zero_le _, Nat.zero_le _⟩) hH hA [0, 1, 2, 3, 4, 5] rfl adr_model (by rw [er_2]; exact putL_model_model) (fun H locs hH => ?_)
    refine lv_aload_n hx hb dX6_feed_25 rfl (lv_at hl 0 rfl) ?_
    refine lv_iload_n hx hb dX6_feed_26 rfl (lv_at hl 3 rfl) ?_
    obtain ⟨r_3, er_3⟩ : ∃ z, z = fourM r_2 (n + 4 + 4) a3 := ⟨_, rfl⟩
    refine kCV (ws' := (modelW A cI r_3)) (va_runV (As := [.int a3]) (rest := []) ⟨hx, hb, hml, hown, hts⟩ (c_X6_four l D cI cB A r_2 a3 (n + 4 + 4) (by subst er_2; subst er_1; exact four_8 (four_8 (hn))) (by have := le20 hn hn2 c_10; omega) _) (cwV 1 hts gX6_feed_X6_four rfl rfl rfl (by decide +kernel) ⟨Nat.le_of_ble_eq_true rfl, Nat.le_of_ble_eq_true rfl⟩) (preV_cut hH.1 hH.2.1 hK hN (ci := 6) rfl 0 rfl [0, 1, 2, 3, 4, 5] (by decide) rfl) rfl rfl hl.1 rfl (lv_room (Nat.le_of_ble_eq_true rfl)) dX6_feed_27 ⟨Nat.zero_le _, Nat.zero_le _⟩) hH hA [0, 1, 2, 3, 4, 5] rfl adr_model (by rw [er_3]; exact putL_model_model) (fun H locs hH => ?_)
    refine lv_aload_n hx hb dX6_feed_30 rfl (lv_at hl 0 rfl) ?_
    refine lv_iload hx hb dX6_feed_31 (lv_at hl 4 rfl) ?_
    obtain ⟨r_4, er_4⟩ : ∃ z, z = fourM r_3 (n + 4 + 4 + 4) a4 := ⟨_, rfl⟩
    refine kCV (ws' := (modelW A cI r_4)) (va_runV (As := [.int a4]) (rest := []) ⟨hx, hb, hml, hown, hts⟩ (c_X6_four l D cI cB A r_3 a4 (n + 4 + 4 + 4) (by subst er_3; subst er_2; subst er_1; exact four_8 (four_8 (four_8 (hn)))) (by have := le20 hn hn2 c_10; omega) _) (cwV 1 hts gX6_feed_X6_four rfl rfl rfl (by decide +kernel) ⟨Nat.le_of_ble_eq_true rfl, Nat.le_of_ble_eq_true rfl⟩) (preV_cut hH.1 hH.2.1 hK hN (ci := 6) rfl 0 rfl [0, 1, 2, 3, 4, 5] (by decide) rfl) rfl rfl hl.1 rfl (lv_room (Nat.le_of_ble_eq_true rfl)) dX6_feed_33 ⟨Nat.zero_le _, Nat.zero_le _⟩) hH hA [0, 1, 2, 3, 4, 5] rfl adr_model (by rw [er_4]; exact putL_model_model) (fun H locs hH => ?_)
    refine lv_aload_n hx hb dX6_feed_36 rfl (lv_at hl 0 rfl) ?_
    refine lv_iload hx hb dX6_feed_37 (lv_at hl 5 rfl) ?_
    obtain ⟨r_5, er_5⟩ : ∃ z, z = fourM r_4 (n + 4 + 4 + 4 + 4) a5 := ⟨_, rfl⟩
    refine kCV (ws' := (modelW A cI r_5)) (va_runV (As := [.int a5]) (rest := []) ⟨hx, hb, hml, hown, hts⟩ (c_X6_four l D cI cB A r_4 a5 (n + 4 + 4 + 4 + 4) (by subst er_4; subst er_3; subst er_2; subst er_1; exact four_8 (four_8 (four_8 (four_8 (hn))))) (by have := le20 hn hn2 c_10; omega) _) (cwV 1 hts gX6_feed_X6_four rfl rfl rfl (by decide +kernel) ⟨Nat.le_of_ble_eq_true rfl, Nat.le_of_ble_eq_true rfl⟩) (preV_cut hH.1 hH.2.1 hK hN (ci := 6) rfl 0 rfl [0, 1, 2, 3, 4, 5] (by decide) rfl) rfl rfl hl.1 rfl (lv_room (Nat.le_of_ble_eq_true rfl)) dX6_feed_39 ⟨Nat.zero_le _, Nat.zero_le _⟩) hH hA [0, 1, 2, 3, 4, 5] rfl adr_model (by rw [er_5]; exact putL_model_model) (fun H locs hH => ?_)
    refine lv_aload_n hx hb dX6_feed_42 rfl (lv_at hl 0 rfl) ?_
    refine x_get (v := .int (r_5 0 8)) (C := RX6) (T := TX6) (N := 9) hx hb hts hi6 hown hK hH.1 0 rfl rfl 8 (by decide) (hts (.fieldLink RX6 73 "PulseWheelModel" "taped" "I") (by decide +kernel)) rfl rfl dX6_feed_43 ?_
    have hf_r : r_5 = feedM r n a1 a2 a3 a4 a5 := by subst er_5; subst er_4; subst er_3; subst er_2; subst er_1; first | (unfold feedM; rw [if_pos c_10]; done) | (unfold feedM fiveM; rw [if_pos c_10]; done)
    exact hE _ _ _ _ _ _ hH ((congrArg (fun zz => (modelW A cI zz)) hf_r)) (by subst er_5; subst er_4; subst er_3; subst er_2; subst er_1; first | (unfold feedMV; rw [if_pos c_10]; done) | (unfold feedMV; rw [if_pos c_10]; exact four_8 (four_8 (four_8 (four_8 (four_8 hn)))))) rfl dX6_feed_46
  · skip
    refine lv_iconst (v := -1) hx hb dX6_feed_13 (by decide) ?_
    have hf_r : r = feedM r n a1 a2 a3 a4 a5 := by first | (unfold feedM; rw [if_neg c_10]; done) | (unfold feedM fiveM; rw [if_neg c_10]; done)
    exact hE _ _ _ _ _ _ hH ((congrArg (fun zz => (modelW A cI zz)) hf_r)) (by first | (unfold feedMV; rw [if_neg c_10]; done) | (unfold feedMV; rw [if_neg c_10]; exact four_8 (four_8 (four_8 (four_8 (four_8 hn)))))) rfl dX6_feed_14
