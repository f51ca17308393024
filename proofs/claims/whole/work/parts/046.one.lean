/-! ### the reference: one, tick, play -/
def nOf (r : Tb) (b : Nat) : Nat := (r 1 (b + 9)).toNatClampNeg
def tOf (r : Tb) (b : Nat) : Nat := (r 1 (b + 1)).toNatClampNeg
def sOf (r : Tb) (b : Nat) : Nat := (r 1 (b + 15)).toNatClampNeg
/-- what a tick needs of the reader at b -/
def okS (r : Tb) (b : Nat) : Prop := r 1 (b + 9) = nI (nOf r b) ∧ nOf r b < 1000000 ∧ r 1 (b + 1) = nI (tOf r b) ∧ 4 ≤ tOf r b ∧ tOf r b ≤ 64 ∧ r 1 (b + 15) = nI (sOf r b) ∧ sOf r b < 1000000
theorem okS_ext {r q : Tb} {b : Nat} (h : ∀ j, b ≤ j → q 1 j = r 1 j) (o : okS r b) : okS q b := by
  unfold okS nOf tOf sOf at *
  rw [h (b + 9) (by omega), h (b + 1) (by omega), h (b + 15) (by omega)]
  exact o
noncomputable def rdM (r : Tb) (b : Nat) (raw : Int32) : Tb := readM r b (nOf r b) (tOf r b) (sOf r b) raw
noncomputable def oneA (r : Tb) (f g : Int32) : Tb := rdM (rdM (up2 r 0 4 (r 0 4 + 1)) 0 f) 1510 g
noncomputable def oneM (r : Tb) (f g : Int32) : Tb := if agreeM (oneA r f g) = 0 then (if r 0 5 = -1 then up2 (oneA r f g) 0 5 (r 0 4 + 1) else oneA r f g) else up2 (oneA r f g) 0 5 (-1)
theorem okS_put {r : Tb} {b k : Nat} {v : Int32} (o : okS r b) : okS (up2 r 0 k v) b := okS_ext (fun j _ => rfl) o
theorem okS_rd0 {r : Tb} {raw : Int32} (h64 : tOf r 0 ≤ 64) (o : okS r 1510) : okS (rdM r 0 raw) 1510 := okS_ext (fun j hj => readM_far h64 (Or.inr (by omega))) o

def rm_X6_one : Room := { frames := 4, cells := 0, slots := 0, locals := 100 }
set_option maxHeartbeats 1000000 in
set_option maxRecDepth 100000 in
theorem c_X6_one (l : Launch) (D : va_G) (cI cB : ClassId) (A : Nat → Nat) (r : Tb) (f g : Int32) (o0 : okS r 0) (o1 : okS r 1510) : CV l D cI cB yX6_one wsX6_one rm_X6_one [.ref (A 0), .int f, .int g] (modelW A cI r) (modelW A cI (oneM r f g)) := by
  refine CV.of (cc := cX6_one) (maxL := 3)  (by decide +kernel) rfl (Nat.le_of_ble_eq_true rfl) ?_
  intro p e s m args below meth c ls A0 Q hT hH hA hl hE
  obtain ⟨hx, hb, hr, hlocks, hnm, hml, hown, hts, hK, hN⟩ := hT
  have hl : lv_has ls 3 [(0, .ref (A 0)), (1, .int f), (2, .int g)] := hl
  have hi6 : ∀ w ∈ wsX60, w ∈ wsX6_one := by decide +kernel
  refine lv_aload_n hx hb dX6_one_0 rfl (lv_at hl 0 rfl) ?_
  refine lv_dup hx hb dX6_one_1 rfl ?_
  refine x_get (v := .int (r 0 4)) (C := RX6) (T := TX6) (N := 9) hx hb hts hi6 hown hK hH.1 0 rfl rfl 4 (by decide) (hts (.fieldLink RX6 37 "PulseWheelModel" "ticks" "I") (by decide +kernel)) rfl rfl dX6_one_2 ?_
  refine lv_iconst (v := 1) hx hb dX6_one_5 (by decide) ?_
  refine lv_iadd hx hb dX6_one_6 ?_
  obtain ⟨r_1, er_1⟩ : ∃ z, z = up2 r 0 4 ((r 0 4) + 1) := ⟨_, rfl⟩
  refine x_put (ws' := (modelW A cI r_1)) (v := .int ((r 0 4) + 1)) (ty := .int) (C := RX6) (T := TX6) (N := 9) hx hb hts hi6 tyX6_ok nmX6 hown hK hH 0 rfl rfl 4 (by decide) (hts (.fieldLink RX6 37 "PulseWheelModel" "ticks" "I") (by decide +kernel)) rfl rfl rfl (rfl) (rfl) (Nat.le_of_ble_eq_true rfl) dX6_one_7 (by rw [er_1]; rfl) (fun H locs hH => ?_)
  refine lv_aload_n hx hb dX6_one_10 rfl (lv_at hl 0 rfl) ?_
  refine lv_iconst (v := 0) hx hb dX6_one_11 (by decide) ?_
  refine lv_iload_n hx hb dX6_one_12 rfl (lv_at hl 1 rfl) ?_
  obtain ⟨r_2, er_2⟩ : ∃ z, z = readM r_1 0 (nOf r_1 0) (tOf r_1 0) (sOf r_1 0) f := ⟨_, rfl⟩
  refine kCV (ws' := (modelW A cI r_2)) (va_runV (As := [.int 0, .int f]) (rest := []) ⟨hx, hb, hml, hown, hts⟩ (c_X6_read l D cI cB A r_1 f 0 0 (nOf r_1 0) (tOf r_1 0) (sOf r_1 0) (by decide) rfl (show okS r_1 0 from (by rw [er_1]; exact okS_put o0)).1 (show okS r_1 0 from (by rw [er_1]; exact okS_put o0)).2.1 (show okS r_1 0 from (by rw [er_1]; exact okS_put o0)).2.2.1 (show okS r_1 0 from (by rw [er_1]; exact okS_put o0)).2.2.2.1 (show okS r_1 0 from (by rw [er_1]; exact okS_put o0)).2.2.2.2.1 (show okS r_1 0 from (by rw [er_1]; exact okS_put o0)).2.2.2.2.2.1 (show okS r_1 0 from (by rw [er_1]; exact okS_put o0)).2.2.2.2.2.2 _) (cwV 2 hts gX6_one_X6_read rfl rfl rfl (by decide +kernel) ⟨Nat.le_of_ble_eq_true rfl, Nat.le_of_ble_eq_true rfl⟩) (preV_cut hH.1 hH.2.1 hK hN (ci := 6) rfl 0 rfl [0, 1, 2, 3, 4, 5] (by decide) rfl) rfl rfl hl.1 rfl (lv_room (Nat.le_of_ble_eq_true rfl)) dX6_one_13 ⟨Nat.zero_le _, Nat.zero_le _⟩) hH hA [0, 1, 2, 3, 4, 5] rfl adr_model (by rw [er_2]; exact putL_model_model) (fun H locs hH => ?_)
  refine lv_aload_n hx hb dX6_one_16 rfl (lv_at hl 0 rfl) ?_
  refine lv_iconst (v := 1) hx hb dX6_one_17 (by decide) ?_
  refine lv_iload_n hx hb dX6_one_18 rfl (lv_at hl 2 rfl) ?_
  obtain ⟨r_3, er_3⟩ : ∃ z, z = readM r_2 1510 (nOf r_2 1510) (tOf r_2 1510) (sOf r_2 1510) g := ⟨_, rfl⟩
  refine kCV (ws' := (modelW A cI r_3)) (va_runV (As := [.int 1, .int g]) (rest := []) ⟨hx, hb, hml, hown, hts⟩ (c_X6_read l D cI cB A r_2 g 1 1510 (nOf r_2 1510) (tOf r_2 1510) (sOf r_2 1510) (by decide) rfl (show okS r_2 1510 from (by rw [er_2]; exact okS_rd0 (by rw [er_1]; exact o0.2.2.2.2.1) (by rw [er_1]; exact okS_put o1))).1 (show okS r_2 1510 from (by rw [er_2]; exact okS_rd0 (by rw [er_1]; exact o0.2.2.2.2.1) (by rw [er_1]; exact okS_put o1))).2.1 (show okS r_2 1510 from (by rw [er_2]; exact okS_rd0 (by rw [er_1]; exact o0.2.2.2.2.1) (by rw [er_1]; exact okS_put o1))).2.2.1 (show okS r_2 1510 from (by rw [er_2]; exact okS_rd0 (by rw [er_1]; exact o0.2.2.2.2.1) (by rw [er_1]; exact okS_put o1))).2.2.2.1 (show okS r_2 1510 from (by rw [er_2]; exact okS_rd0 (by rw [er_1]; exact o0.2.2.2.2.1) (by rw [er_1]; exact okS_put o1))).2.2.2.2.1 (show okS r_2 1510 from (by rw [er_2]; exact okS_rd0 (by rw [er_1]; exact o0.2.2.2.2.1) (by rw [er_1]; exact okS_put o1))).2.2.2.2.2.1 (show okS r_2 1510 from (by rw [er_2]; exact okS_rd0 (by rw [er_1]; exact o0.2.2.2.2.1) (by rw [er_1]; exact okS_put o1))).2.2.2.2.2.2 _) (cwV 2 hts gX6_one_X6_read rfl rfl rfl (by decide +kernel) ⟨Nat.le_of_ble_eq_true rfl, Nat.le_of_ble_eq_true rfl⟩) (preV_cut hH.1 hH.2.1 hK hN (ci := 6) rfl 0 rfl [0, 1, 2, 3, 4, 5] (by decide) rfl) rfl rfl hl.1 rfl (lv_room (Nat.le_of_ble_eq_true rfl)) dX6_one_19 ⟨Nat.zero_le _, Nat.zero_le _⟩) hH hA [0, 1, 2, 3, 4, 5] rfl adr_model (by rw [er_3]; exact putL_model_model) (fun H locs hH => ?_)
  refine lv_aload_n hx hb dX6_one_22 rfl (lv_at hl 0 rfl) ?_
  refine kSI (va_runV (As := []) (rest := []) ⟨hx, hb, hml, hown, hts⟩ (c_X6_doAgree l D cI cB A r_3  _) (cwV 0 hts gX6_one_X6_doAgree rfl rfl rfl (by decide +kernel) ⟨Nat.le_of_ble_eq_true rfl, Nat.le_of_ble_eq_true rfl⟩) (preV_cut hH.1 hH.2.1 hK hN (ci := 6) rfl 0 rfl [0, 1, 2, 3, 4, 5] (by decide) rfl) rfl rfl hl.1 rfl (lv_room (Nat.le_of_ble_eq_true rfl)) dX6_one_23 ⟨Nat.zero_le _, Nat.zero_le _⟩) ?_
  refine lv_if_eq (tgt := 37) hx hb dX6_one_26 (by decide) (fun c_26 => ?_) (fun c_26 => ?_)
  · skip
    refine lv_aload_n hx hb dX6_one_37 rfl (lv_at hl 0 rfl) ?_
    refine x_get (v := .int (r_3 0 5)) (C := RX6) (T := TX6) (N := 9) hx hb hts hi6 hown hK hH.1 0 rfl rfl 5 (by decide) (hts (.fieldLink RX6 22 "PulseWheelModel" "apart" "I") (by decide +kernel)) rfl rfl dX6_one_38 ?_
    refine x_top (y := r 0 5) ((congrFun (congrFun er_3 0) 5).trans ((congrFun (readM_row (by decide)) 5).trans ((congrFun (congrFun er_2 0) 5).trans ((congrFun (readM_row (by decide)) 5).trans (congrFun (congrFun er_1 0) 5))))) ?_
    refine lv_iconst (v := -1) hx hb dX6_one_41 (by decide) ?_
    refine lv_icmp_ne (tgt := 53) hx hb dX6_one_42 (by decide) (fun c_42 => ?_) (fun c_42 => ?_)
    · skip
      have hf_r : r_3 = oneM r f g := by subst er_3; subst er_2; subst er_1; first | (unfold oneM oneA rdM; rw [if_pos c_26, if_neg c_42]; done) | (unfold oneM oneA rdM; rw [if_pos c_26, if_neg c_42]; rfl)
      exact hE _ _ _ _ _ hH ((congrArg (fun zz => (modelW A cI zz)) hf_r)) dX6_one_53
    · skip
      refine lv_aload_n hx hb dX6_one_45 rfl (lv_at hl 0 rfl) ?_
      refine lv_aload_n hx hb dX6_one_46 rfl (lv_at hl 0 rfl) ?_
      refine x_get (v := .int (r_3 0 4)) (C := RX6) (T := TX6) (N := 9) hx hb hts hi6 hown hK hH.1 0 rfl rfl 4 (by decide) (hts (.fieldLink RX6 37 "PulseWheelModel" "ticks" "I") (by decide +kernel)) rfl rfl dX6_one_47 ?_
      refine x_top (y := ((r 0 4) + 1)) ((congrFun (congrFun er_3 0) 4).trans ((congrFun (readM_row (by decide)) 4).trans ((congrFun (congrFun er_2 0) 4).trans ((congrFun (readM_row (by decide)) 4).trans (congrFun (congrFun er_1 0) 4))))) ?_
      obtain ⟨r_4, er_4⟩ : ∃ z, z = up2 r_3 0 5 ((r 0 4) + 1) := ⟨_, rfl⟩
      refine x_put (ws' := (modelW A cI r_4)) (v := .int ((r 0 4) + 1)) (ty := .int) (C := RX6) (T := TX6) (N := 9) hx hb hts hi6 tyX6_ok nmX6 hown hK hH 0 rfl rfl 5 (by decide) (hts (.fieldLink RX6 22 "PulseWheelModel" "apart" "I") (by decide +kernel)) rfl rfl rfl (rfl) (rfl) (Nat.le_of_ble_eq_true rfl) dX6_one_50 (by rw [er_4]; rfl) (fun H locs hH => ?_)
      have hf_r : r_4 = oneM r f g := by subst er_4; subst er_3; subst er_2; subst er_1; first | (unfold oneM oneA rdM; rw [if_pos c_26, if_pos c_42]; done) | (unfold oneM oneA rdM; rw [if_pos c_26, if_pos c_42]; rfl)
      exact hE _ _ _ _ _ hH ((congrArg (fun zz => (modelW A cI zz)) hf_r)) dX6_one_53
  · skip
    refine lv_aload_n hx hb dX6_one_29 rfl (lv_at hl 0 rfl) ?_
    refine lv_iconst (v := -1) hx hb dX6_one_30 (by decide) ?_
    obtain ⟨r_5, er_5⟩ : ∃ z, z = up2 r_3 0 5 (-1) := ⟨_, rfl⟩
    refine x_put (ws' := (modelW A cI r_5)) (v := .int (-1)) (ty := .int) (C := RX6) (T := TX6) (N := 9) hx hb hts hi6 tyX6_ok nmX6 hown hK hH 0 rfl rfl 5 (by decide) (hts (.fieldLink RX6 22 "PulseWheelModel" "apart" "I") (by decide +kernel)) rfl rfl rfl (rfl) (rfl) (Nat.le_of_ble_eq_true rfl) dX6_one_31 (by rw [er_5]; rfl) (fun H locs hH => ?_)
    refine lv_goto (tgt := 53) hx hb dX6_one_34 (by decide) ?_
    have hf_r : r_5 = oneM r f g := by subst er_5; subst er_3; subst er_2; subst er_1; first | (unfold oneM oneA rdM; rw [if_neg c_26]; done) | (unfold oneM oneA rdM; rw [if_neg c_26]; rfl)
    exact hE _ _ _ _ _ hH ((congrArg (fun zz => (modelW A cI zz)) hf_r)) dX6_one_53
