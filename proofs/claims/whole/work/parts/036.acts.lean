/-! ### PulseWheel: what changes it, images aside -/
theorem putW_nn {tw : Int32} (h : ¬ tw < 0) : ¬ putW tw < 0 := by
  unfold putW
  split
  · exact h
  · rename_i h2
    obtain ⟨j, hj, e⟩ := nI_of h
    subst e
    have h3 : j < 500 := lt_of_nI (n := 500) hj h2
    rw [nI_1]
    exact nI_pos (by omega)
theorem put_ix {tw : Int32} (h : ¬ tw < 0) (h9 : ¬ 500 ≤ tw) : tw = nI tw.toNatClampNeg ∧ tw.toNatClampNeg < 500 := by
  obtain ⟨j, hj, e⟩ := nI_of h
  subst e
  rw [nI_clamp hj]
  exact ⟨rfl, lt_of_nI (n := 500) hj h9⟩
theorem byte_ix {k tw : Int32} (h5 : ¬ k < 0) (h13 : k / 4 < tw) (h : tw ≤ 500) : k / 4 = nI (k / 4).toNatClampNeg ∧ (k / 4).toNatClampNeg < 500 := by
  obtain ⟨j, hj, e⟩ := nI_of h5
  subst e
  have e4 : nI j / 4 = nI (j / 4) := pk_div (d := 4) hj (by decide) (by decide)
  rw [e4] at h13 ⊢
  have hb : j / 4 < 2 ^ 31 := by omega
  rw [nI_clamp hb]
  refine ⟨rfl, ?_⟩
  have h1 := Int32.lt_iff_toInt_lt.mp h13
  have h2 := Int32.le_iff_toInt_le.mp h
  rw [nI_toInt hb] at h1
  rw [show (500 : Int32).toInt = 500 by decide] at h2
  omega
theorem le_exit {i N : Nat} (hi : i ≤ N) (hN : N < 2 ^ 31) (h : nI N ≤ nI i) : i = N := by
  have h8 := (nI_leI hN (by omega)).mp h
  omega
def feedW (tw : Int32) : Int32 := if tw ≤ 500 - 5 then putW (putW (putW (putW (putW tw)))) else tw
def feedT (tw : Int32) (tp : Nat → Int32) (a1 a2 a3 a4 a5 : Int32) : Nat → Int32 := if tw ≤ 500 - 5 then putT (putW (putW (putW (putW tw)))) (putT (putW (putW (putW tw))) (putT (putW (putW tw)) (putT (putW tw) (putT tw tp a1) a2) a3) a4) a5 else tp
def tickB (n f g : Int32) (x : BS) : BS := if n < 0 then x else if 2000 < n then x else if n ≤ 1000000 - x.1 then (if lineV f = 0 then x else if lineV g = 0 then x else stepsB x f g n.toNatClampNeg) else x
def tickV (n f g t : Int32) : Int32 := if n < 0 then -1 else if 2000 < n then -1 else if n ≤ 1000000 - t then (if lineV f = 0 then -1 else if lineV g = 0 then -1 else n) else -1
theorem stepsB_s (x : BS) (f g : Int32) (n : Nat) : stepsB x f g (n + 1) = stepB (stepsB x f g n) f g := rfl
def playF (tw : Int32) (tp : Nat → Int32) (n : Int32) : Nat → Nat → BS → Nat × BS
  | 0, k, x => (k, x)
  | fuel + 1, k, x => if n ≤ nI k then (k, x) else if 1000000 ≤ x.1 then (k, x) else if byteV tw tp (nI k) &&& 192 = 0 then playF tw tp n fuel (k + 1) (stepB x (byteV tw tp (nI k) &&& 7) (byteV tw tp (nI k) >>> ((3 : Int32) &&& 31) &&& 7)) else (k, x)
theorem playF_s (tw : Int32) (tp : Nat → Int32) (n : Int32) (fuel k : Nat) (x : BS) : playF tw tp n (fuel + 1) k x = if n ≤ nI k then (k, x) else if 1000000 ≤ x.1 then (k, x) else if byteV tw tp (nI k) &&& 192 = 0 then playF tw tp n fuel (k + 1) (stepB x (byteV tw tp (nI k) &&& 7) (byteV tw tp (nI k) >>> ((3 : Int32) &&& 31) &&& 7)) else (k, x) := rfl
def playB (tw : Int32) (tp : Nat → Int32) (n : Int32) (x : BS) : BS := if n < 0 then x else if n ≤ tw * 4 then (playF tw tp n (n.toNatClampNeg + 1) 0 x).2 else x
def playV (tw : Int32) (tp : Nat → Int32) (n : Int32) (x : BS) : Int32 := if n < 0 then -1 else if n ≤ tw * 4 then nI (playF tw tp n (n.toNatClampNeg + 1) 0 x).1 else -1
def playW (tw n : Int32) : Int32 := if n < 0 then tw else if n ≤ tw * 4 then 0 else tw

def rm_X5_hold : Room := { frames := 3, cells := 0, slots := 0, locals := 64 }
set_option maxHeartbeats 1000000 in
set_option maxRecDepth 100000 in
theorem c_X5_hold (l : Launch) (D : va_G) (cI cB : ClassId) (P : Nat → Nat) (b : Nat) (A1 : Nat → Nat) (A2 : Nat → Nat) (tw : Int32) (im : Nat → Option Nat) (tp : Nat → Int32) (t : Int32) (ap : Int32) (r1 : Tb) (r2 : Tb) (rd tk : Int32) : CI l D cI cB yX5_hold wsX5_hold rm_X5_hold [.ref (P 0), .int rd, .int tk] (pwW P b A1 A2 cI cB tw im tp t ap r1 r2) (pwW P b A1 A2 cI cB tw im tp t ap (rdV rd (holdR r1 tk t) r1 r1) (rdV rd r2 (holdR r2 tk t) r2)) (rdV rd (holdOK tk) (holdOK tk) 0) := by
  refine CI.of (cc := cX5_hold) (maxL := 4) (ty := .boolean) (by decide +kernel) rfl (Nat.le_of_ble_eq_true rfl) ?_
  intro p e s m args below meth c ls A0 Q hT hH hA hl hE
  obtain ⟨hx, hb, hr, hlocks, hnm, hml, hown, hts, hK, hN⟩ := hT
  have hl : lv_has ls 4 [(0, .ref (P 0)), (1, .int rd), (2, .int tk)] := hl
  have hi0 : ∀ w ∈ wsX00, w ∈ wsX5_hold := by decide +kernel
  have hi2 : ∀ w ∈ wsX20, w ∈ wsX5_hold := by decide +kernel
  have hi5 : ∀ w ∈ wsX50, w ∈ wsX5_hold := by decide +kernel
  by_cases c0 : rd = 0
  · subst c0
    refine lv_aload_n hx hb dX5_hold_0 rfl (lv_at hl 0 rfl) ?_
    refine x_get (v := .ref b) (C := RX5) (T := TX5) (N := 4) hx hb hts hi5 hown hK hH.1 0 rfl rfl 0 (by decide) (hts (.fieldLink RX5 10 "PulseWheel" "bench" "LPulseWheel$Bench;") (by decide +kernel)) rfl rfl dX5_hold_1 ?_
    refine lv_iload_n hx hb dX5_hold_4 rfl (lv_at hl 1 rfl) ?_
    refine kSQ (va_runVN (As := [.int 0]) (rest := []) ⟨hx, hb, hml, hown, hts⟩ (c_X0_readerAt_0 l D cI cB b A1 A2 t ap r1 r2  _) ⟨va_cnB 1 hts gX5_hold_X0_readerAt_n24 rfl rfl rfl (nwm5_24 (args := args) hN) (hts (.initialized RX0) (by decide +kernel)) (by decide +kernel) ⟨Nat.le_of_ble_eq_true rfl, Nat.le_of_ble_eq_true rfl⟩, hts (.instanceMethod yX0_readerAt) (by decide +kernel), hts (.selects RX0 yX0_readerAt yX0_readerAt) (by decide +kernel)⟩ (preV_cut hH.1 hH.2.1 hK hN (ci := 0) rfl 3 rfl [3, 4, 5, 6, 7, 8, 9, 10, 11, 12, 13, 14, 15, 16, 17, 18, 19, 20, 21] (by decide) rfl) rfl rfl hl.1 rfl (lv_room (Nat.le_of_ble_eq_true rfl)) dX5_hold_5 ⟨Nat.zero_le _, Nat.zero_le _⟩) ?_
    show W _ _ _ _ _ _ _ _ _ _ _ _ _ _ _ (F0 m 8 ls (.ref (A1 0) :: _))
    refine lv_astore_n (lv' := [(3, .ref (A1 0)), (0, .ref (P 0)), (1, .int 0), (2, .int tk)]) hx hb dX5_hold_8 rfl hl (by decide) rfl (fun ls hl => ?_)
    refine lv_aload_n hx hb dX5_hold_9 rfl (lv_at hl 0 rfl) ?_
    refine lv_ifnull hx hb dX5_hold_10 ?_
    refine lv_iload_n hx hb dX5_hold_13 rfl (lv_at hl 3 rfl) ?_
    refine lv_iconst (v := 1) hx hb dX5_hold_14 (by decide) ?_
    refine lv_icmp_lt (tgt := 24) hx hb dX5_hold_15 (by decide) (fun c_15 => ?_) (fun c_15 => ?_)
    · skip
      refine lv_iconst (v := 0) hx hb dX5_hold_24 (by decide) ?_
      have hf_r1 : r1 = rdV 0 (holdR r1 tk t) r1 r1 := by first | (rw [rdV_0]; done) | (rw [rdV_0]; (first | rfl | (unfold holdR; rw [if_pos c_15]; done) | (simp only [holdR, if_pos c_15]; done) | (simp only [holdR, c_15, if_true, if_false]; done) | (simp only [holdR, c_15, if_true, if_false, not_true, not_false_iff, reduceIte]; done) | (exfalso; simp_all; done) | (simp [holdR, c_15]; done) | (simp_all [holdR]; done)))
      have hf_r2 : r2 = rdV 0 r2 (holdR r2 tk t) r2 := by first | (rw [rdV_0]; done) | (rw [rdV_0]; (first | rfl | (unfold holdR; rw [if_pos c_15]; done) | (simp only [holdR, if_pos c_15]; done) | (simp only [holdR, c_15, if_true, if_false]; done) | (simp only [holdR, c_15, if_true, if_false, not_true, not_false_iff, reduceIte]; done) | (exfalso; simp_all; done) | (simp [holdR, c_15]; done) | (simp_all [holdR]; done)))
      exact hE _ _ _ _ _ _ hH (((congrArg (fun zz => (pwW P b A1 A2 cI cB tw im tp t ap zz r2)) hf_r1).trans (congrArg (fun zz => (pwW P b A1 A2 cI cB tw im tp t ap (rdV 0 (holdR r1 tk t) r1 r1) zz)) hf_r2))) (by first | (rw [rdV_0]; done) | (rw [rdV_0]; (first | rfl | (unfold holdOK; rw [if_pos c_15]; done) | (simp only [holdOK, if_pos c_15]; done) | (simp only [holdOK, c_15, if_true, if_false]; done) | (simp only [holdOK, c_15, if_true, if_false, not_true, not_false_iff, reduceIte]; done) | (exfalso; simp_all; done) | (simp [holdOK, c_15]; done) | (simp_all [holdOK]; done)))) rfl dX5_hold_25
    · skip
      refine lv_iload_n hx hb dX5_hold_18 rfl (lv_at hl 3 rfl) ?_
      refine lv_bipush (v := 16) hx hb dX5_hold_19 (by decide) ?_
      refine lv_icmp_le (tgt := 26) hx hb dX5_hold_21 (by decide) (fun c_21 => ?_) (fun c_21 => ?_)
      · skip
        refine lv_aload_n hx hb dX5_hold_26 rfl (lv_at hl 0 rfl) ?_
        refine lv_iload_n hx hb dX5_hold_27 rfl (lv_at hl 3 rfl) ?_
        obtain ⟨r1_1, er1_1⟩ : ∃ z, z = up2 r1 0 4 tk := ⟨_, rfl⟩
        refine x_putN (ws' := (pwW P b A1 A2 cI cB tw im tp t ap r1_1 r2)) (v := .int tk) (ty := .int) (C := RX2) (T := TX2) (N := 16) hx hb hts hi2 tyX2_ok nmX2 hown hK hH 4 rfl rfl 4 (by decide) (nwf5_28 (args := args) hN) rfl rfl rfl (rfl) (rfl) (Nat.le_of_ble_eq_true rfl) dX5_hold_28 (by rw [er1_1]; rfl) (fun H locs hH => ?_)
        refine lv_aload_n hx hb dX5_hold_31 rfl (lv_at hl 0 rfl) ?_
        refine lv_aload_n hx hb dX5_hold_32 rfl (lv_at hl 1 rfl) ?_
        refine x_get (v := .ref b) (C := RX5) (T := TX5) (N := 4) hx hb hts hi5 hown hK hH.1 0 rfl rfl 0 (by decide) (hts (.fieldLink RX5 10 "PulseWheel" "bench" "LPulseWheel$Bench;") (by decide +kernel)) rfl rfl dX5_hold_33 ?_
        refine x_getN (v := .int t) (C := RX0) (T := TX0) (N := 4) hx hb hts hi0 hown hK hH.1 3 rfl rfl 2 (by decide) (nwf5_34 (args := args) hN) rfl rfl dX5_hold_36 ?_
        obtain ⟨r1_2, er1_2⟩ : ∃ z, z = anewV r1_1 t := ⟨_, rfl⟩
        refine kCV (ws' := (pwW P b A1 A2 cI cB tw im tp t ap r1_2 r2)) (va_runVN (As := [.int t]) (rest := []) ⟨hx, hb, hml, hown, hts⟩ (c_X2_beginAnew l D cI cB A1 r1_1 t  _) ⟨va_cnB 1 hts gX5_hold_X2_beginAnew_n37 rfl rfl rfl (nwm5_37 (args := args) hN) (hts (.initialized RX2) (by decide +kernel)) (by decide +kernel) ⟨Nat.le_of_ble_eq_true rfl, Nat.le_of_ble_eq_true rfl⟩, hts (.instanceMethod yX2_beginAnew) (by decide +kernel), hts (.selects RX2 yX2_beginAnew yX2_beginAnew) (by decide +kernel)⟩ (preV_cut hH.1 hH.2.1 hK hN (ci := 2) rfl 4 rfl [4, 5, 6, 7, 8, 9, 10, 11, 12] (by decide) rfl) rfl rfl hl.1 rfl (lv_room (Nat.le_of_ble_eq_true rfl)) dX5_hold_39 ⟨Nat.zero_le _, Nat.zero_le _⟩) hH hA [4, 5, 6, 7, 8, 9, 10, 11, 12] rfl adr_reader (by rw [er1_2]; exact putL_pw_reader1) (fun H locs hH => ?_)
        refine lv_iconst (v := 1) hx hb dX5_hold_42 (by decide) ?_
        have hf_r1 : r1_2 = rdV 0 (holdR r1 tk t) r1 r1 := by subst er1_2; subst er1_1; first | (rw [rdV_0]; done) | (rw [rdV_0]; (first | rfl | (unfold holdR; rw [if_neg c_15, if_pos c_21]; done) | (simp only [holdR, if_neg c_15, if_pos c_21]; done) | (simp only [holdR, c_15, c_21, if_true, if_false]; done) | (simp only [holdR, c_15, c_21, if_true, if_false, not_true, not_false_iff, reduceIte]; done) | (exfalso; simp_all; done) | (simp [holdR, c_15, c_21]; done) | (simp_all [holdR]; done)))
        have hf_r2 : r2 = rdV 0 r2 (holdR r2 tk t) r2 := by subst er1_2; subst er1_1; first | (rw [rdV_0]; done) | (rw [rdV_0]; (first | rfl | (unfold holdR; rw [if_neg c_15, if_pos c_21]; done) | (simp only [holdR, if_neg c_15, if_pos c_21]; done) | (simp only [holdR, c_15, c_21, if_true, if_false]; done) | (simp only [holdR, c_15, c_21, if_true, if_false, not_true, not_false_iff, reduceIte]; done) | (exfalso; simp_all; done) | (simp [holdR, c_15, c_21]; done) | (simp_all [holdR]; done)))
        exact hE _ _ _ _ _ _ hH (((congrArg (fun zz => (pwW P b A1 A2 cI cB tw im tp t ap zz r2)) hf_r1).trans (congrArg (fun zz => (pwW P b A1 A2 cI cB tw im tp t ap (rdV 0 (holdR r1 tk t) r1 r1) zz)) hf_r2))) (by subst er1_2; subst er1_1; first | (rw [rdV_0]; done) | (rw [rdV_0]; (first | rfl | (unfold holdOK; rw [if_neg c_15, if_pos c_21]; done) | (simp only [holdOK, if_neg c_15, if_pos c_21]; done) | (simp only [holdOK, c_15, c_21, if_true, if_false]; done) | (simp only [holdOK, c_15, c_21, if_true, if_false, not_true, not_false_iff, reduceIte]; done) | (exfalso; simp_all; done) | (simp [holdOK, c_15, c_21]; done) | (simp_all [holdOK]; done)))) rfl dX5_hold_43
      · skip
        refine lv_iconst (v := 0) hx hb dX5_hold_24 (by decide) ?_
        have hf_r1 : r1 = rdV 0 (holdR r1 tk t) r1 r1 := by first | (rw [rdV_0]; done) | (rw [rdV_0]; (first | rfl | (unfold holdR; rw [if_neg c_15, if_neg c_21]; done) | (simp only [holdR, if_neg c_15, if_neg c_21]; done) | (simp only [holdR, c_15, c_21, if_true, if_false]; done) | (simp only [holdR, c_15, c_21, if_true, if_false, not_true, not_false_iff, reduceIte]; done) | (exfalso; simp_all; done) | (simp [holdR, c_15, c_21]; done) | (simp_all [holdR]; done)))
        have hf_r2 : r2 = rdV 0 r2 (holdR r2 tk t) r2 := by first | (rw [rdV_0]; done) | (rw [rdV_0]; (first | rfl | (unfold holdR; rw [if_neg c_15, if_neg c_21]; done) | (simp only [holdR, if_neg c_15, if_neg c_21]; done) | (simp only [holdR, c_15, c_21, if_true, if_false]; done) | (simp only [holdR, c_15, c_21, if_true, if_false, not_true, not_false_iff, reduceIte]; done) | (exfalso; simp_all; done) | (simp [holdR, c_15, c_21]; done) | (simp_all [holdR]; done)))
        exact hE _ _ _ _ _ _ hH (((congrArg (fun zz => (pwW P b A1 A2 cI cB tw im tp t ap zz r2)) hf_r1).trans (congrArg (fun zz => (pwW P b A1 A2 cI cB tw im tp t ap (rdV 0 (holdR r1 tk t) r1 r1) zz)) hf_r2))) (by first | (rw [rdV_0]; done) | (rw [rdV_0]; (first | rfl | (unfold holdOK; rw [if_neg c_15, if_neg c_21]; done) | (simp only [holdOK, if_neg c_15, if_neg c_21]; done) | (simp only [holdOK, c_15, c_21, if_true, if_false]; done) | (simp only [holdOK, c_15, c_21, if_true, if_false, not_true, not_false_iff, reduceIte]; done) | (exfalso; simp_all; done) | (simp [holdOK, c_15, c_21]; done) | (simp_all [holdOK]; done)))) rfl dX5_hold_25
  by_cases c1 : rd = 1
  · subst c1
    refine lv_aload_n hx hb dX5_hold_0 rfl (lv_at hl 0 rfl) ?_
    refine x_get (v := .ref b) (C := RX5) (T := TX5) (N := 4) hx hb hts hi5 hown hK hH.1 0 rfl rfl 0 (by decide) (hts (.fieldLink RX5 10 "PulseWheel" "bench" "LPulseWheel$Bench;") (by decide +kernel)) rfl rfl dX5_hold_1 ?_
    refine lv_iload_n hx hb dX5_hold_4 rfl (lv_at hl 1 rfl) ?_
    refine kSQ (va_runVN (As := [.int 1]) (rest := []) ⟨hx, hb, hml, hown, hts⟩ (c_X0_readerAt_1 l D cI cB b A1 A2 t ap r1 r2  _) ⟨va_cnB 1 hts gX5_hold_X0_readerAt_n24 rfl rfl rfl (nwm5_24 (args := args) hN) (hts (.initialized RX0) (by decide +kernel)) (by decide +kernel) ⟨Nat.le_of_ble_eq_true rfl, Nat.le_of_ble_eq_true rfl⟩, hts (.instanceMethod yX0_readerAt) (by decide +kernel), hts (.selects RX0 yX0_readerAt yX0_readerAt) (by decide +kernel)⟩ (preV_cut hH.1 hH.2.1 hK hN (ci := 0) rfl 3 rfl [3, 4, 5, 6, 7, 8, 9, 10, 11, 12, 13, 14, 15, 16, 17, 18, 19, 20, 21] (by decide) rfl) rfl rfl hl.1 rfl (lv_room (Nat.le_of_ble_eq_true rfl)) dX5_hold_5 ⟨Nat.zero_le _, Nat.zero_le _⟩) ?_
    show W _ _ _ _ _ _ _ _ _ _ _ _ _ _ _ (F0 m 8 ls (.ref (A2 0) :: _))
    refine lv_astore_n (lv' := [(3, .ref (A2 0)), (0, .ref (P 0)), (1, .int 1), (2, .int tk)]) hx hb dX5_hold_8 rfl hl (by decide) rfl (fun ls hl => ?_)
    refine lv_aload_n hx hb dX5_hold_9 rfl (lv_at hl 0 rfl) ?_
    refine lv_ifnull hx hb dX5_hold_10 ?_
    refine lv_iload_n hx hb dX5_hold_13 rfl (lv_at hl 3 rfl) ?_
    refine lv_iconst (v := 1) hx hb dX5_hold_14 (by decide) ?_
    refine lv_icmp_lt (tgt := 24) hx hb dX5_hold_15 (by decide) (fun c_15 => ?_) (fun c_15 => ?_)
    · skip
      refine lv_iconst (v := 0) hx hb dX5_hold_24 (by decide) ?_
      have hf_r1 : r1 = rdV 1 (holdR r1 tk t) r1 r1 := by first | (rw [rdV_1]; done) | (rw [rdV_1]; (first | rfl | (unfold holdR; rw [if_pos c_15]; done) | (simp only [holdR, if_pos c_15]; done) | (simp only [holdR, c_15, if_true, if_false]; done) | (simp only [holdR, c_15, if_true, if_false, not_true, not_false_iff, reduceIte]; done) | (exfalso; simp_all; done) | (simp [holdR, c_15]; done) | (simp_all [holdR]; done)))
      have hf_r2 : r2 = rdV 1 r2 (holdR r2 tk t) r2 := by first | (rw [rdV_1]; done) | (rw [rdV_1]; (first | rfl | (unfold holdR; rw [if_pos c_15]; done) | (simp only [holdR, if_pos c_15]; done) | (simp only [holdR, c_15, if_true, if_false]; done) | (simp only [holdR, c_15, if_true, if_false, not_true, not_false_iff, reduceIte]; done) | (exfalso; simp_all; done) | (simp [holdR, c_15]; done) | (simp_all [holdR]; done)))
      exact hE _ _ _ _ _ _ hH (((congrArg (fun zz => (pwW P b A1 A2 cI cB tw im tp t ap zz r2)) hf_r1).trans (congrArg (fun zz => (pwW P b A1 A2 cI cB tw im tp t ap (rdV 1 (holdR r1 tk t) r1 r1) zz)) hf_r2))) (by first | (rw [rdV_1]; done) | (rw [rdV_1]; (first | rfl | (unfold holdOK; rw [if_pos c_15]; done) | (simp only [holdOK, if_pos c_15]; done) | (simp only [holdOK, c_15, if_true, if_false]; done) | (simp only [holdOK, c_15, if_true, if_false, not_true, not_false_iff, reduceIte]; done) | (exfalso; simp_all; done) | (simp [holdOK, c_15]; done) | (simp_all [holdOK]; done)))) rfl dX5_hold_25
    · skip
      refine lv_iload_n hx hb dX5_hold_18 rfl (lv_at hl 3 rfl) ?_
      refine lv_bipush (v := 16) hx hb dX5_hold_19 (by decide) ?_
      refine lv_icmp_le (tgt := 26) hx hb dX5_hold_21 (by decide) (fun c_21 => ?_) (fun c_21 => ?_)
      · skip
        refine lv_aload_n hx hb dX5_hold_26 rfl (lv_at hl 0 rfl) ?_
        refine lv_iload_n hx hb dX5_hold_27 rfl (lv_at hl 3 rfl) ?_
        obtain ⟨r2_3, er2_3⟩ : ∃ z, z = up2 r2 0 4 tk := ⟨_, rfl⟩
        refine x_putN (ws' := (pwW P b A1 A2 cI cB tw im tp t ap r1 r2_3)) (v := .int tk) (ty := .int) (C := RX2) (T := TX2) (N := 16) hx hb hts hi2 tyX2_ok nmX2 hown hK hH 13 rfl rfl 4 (by decide) (nwf5_28 (args := args) hN) rfl rfl rfl (rfl) (rfl) (Nat.le_of_ble_eq_true rfl) dX5_hold_28 (by rw [er2_3]; rfl) (fun H locs hH => ?_)
        refine lv_aload_n hx hb dX5_hold_31 rfl (lv_at hl 0 rfl) ?_
        refine lv_aload_n hx hb dX5_hold_32 rfl (lv_at hl 1 rfl) ?_
        refine x_get (v := .ref b) (C := RX5) (T := TX5) (N := 4) hx hb hts hi5 hown hK hH.1 0 rfl rfl 0 (by decide) (hts (.fieldLink RX5 10 "PulseWheel" "bench" "LPulseWheel$Bench;") (by decide +kernel)) rfl rfl dX5_hold_33 ?_
        refine x_getN (v := .int t) (C := RX0) (T := TX0) (N := 4) hx hb hts hi0 hown hK hH.1 3 rfl rfl 2 (by decide) (nwf5_34 (args := args) hN) rfl rfl dX5_hold_36 ?_
        obtain ⟨r2_4, er2_4⟩ : ∃ z, z = anewV r2_3 t := ⟨_, rfl⟩
        refine kCV (ws' := (pwW P b A1 A2 cI cB tw im tp t ap r1 r2_4)) (va_runVN (As := [.int t]) (rest := []) ⟨hx, hb, hml, hown, hts⟩ (c_X2_beginAnew l D cI cB A2 r2_3 t  _) ⟨va_cnB 1 hts gX5_hold_X2_beginAnew_n37 rfl rfl rfl (nwm5_37 (args := args) hN) (hts (.initialized RX2) (by decide +kernel)) (by decide +kernel) ⟨Nat.le_of_ble_eq_true rfl, Nat.le_of_ble_eq_true rfl⟩, hts (.instanceMethod yX2_beginAnew) (by decide +kernel), hts (.selects RX2 yX2_beginAnew yX2_beginAnew) (by decide +kernel)⟩ (preV_cut hH.1 hH.2.1 hK hN (ci := 2) rfl 13 rfl [13, 14, 15, 16, 17, 18, 19, 20, 21] (by decide) rfl) rfl rfl hl.1 rfl (lv_room (Nat.le_of_ble_eq_true rfl)) dX5_hold_39 ⟨Nat.zero_le _, Nat.zero_le _⟩) hH hA [13, 14, 15, 16, 17, 18, 19, 20, 21] rfl adr_reader (by rw [er2_4]; exact putL_pw_reader2) (fun H locs hH => ?_)
        refine lv_iconst (v := 1) hx hb dX5_hold_42 (by decide) ?_
        have hf_r1 : r1 = rdV 1 (holdR r1 tk t) r1 r1 := by subst er2_4; subst er2_3; first | (rw [rdV_1]; done) | (rw [rdV_1]; (first | rfl | (unfold holdR; rw [if_neg c_15, if_pos c_21]; done) | (simp only [holdR, if_neg c_15, if_pos c_21]; done) | (simp only [holdR, c_15, c_21, if_true, if_false]; done) | (simp only [holdR, c_15, c_21, if_true, if_false, not_true, not_false_iff, reduceIte]; done) | (exfalso; simp_all; done) | (simp [holdR, c_15, c_21]; done) | (simp_all [holdR]; done)))
        have hf_r2 : r2_4 = rdV 1 r2 (holdR r2 tk t) r2 := by subst er2_4; subst er2_3; first | (rw [rdV_1]; done) | (rw [rdV_1]; (first | rfl | (unfold holdR; rw [if_neg c_15, if_pos c_21]; done) | (simp only [holdR, if_neg c_15, if_pos c_21]; done) | (simp only [holdR, c_15, c_21, if_true, if_false]; done) | (simp only [holdR, c_15, c_21, if_true, if_false, not_true, not_false_iff, reduceIte]; done) | (exfalso; simp_all; done) | (simp [holdR, c_15, c_21]; done) | (simp_all [holdR]; done)))
        exact hE _ _ _ _ _ _ hH (((congrArg (fun zz => (pwW P b A1 A2 cI cB tw im tp t ap zz r2_4)) hf_r1).trans (congrArg (fun zz => (pwW P b A1 A2 cI cB tw im tp t ap (rdV 1 (holdR r1 tk t) r1 r1) zz)) hf_r2))) (by subst er2_4; subst er2_3; first | (rw [rdV_1]; done) | (rw [rdV_1]; (first | rfl | (unfold holdOK; rw [if_neg c_15, if_pos c_21]; done) | (simp only [holdOK, if_neg c_15, if_pos c_21]; done) | (simp only [holdOK, c_15, c_21, if_true, if_false]; done) | (simp only [holdOK, c_15, c_21, if_true, if_false, not_true, not_false_iff, reduceIte]; done) | (exfalso; simp_all; done) | (simp [holdOK, c_15, c_21]; done) | (simp_all [holdOK]; done)))) rfl dX5_hold_43
      · skip
        refine lv_iconst (v := 0) hx hb dX5_hold_24 (by decide) ?_
        have hf_r1 : r1 = rdV 1 (holdR r1 tk t) r1 r1 := by first | (rw [rdV_1]; done) | (rw [rdV_1]; (first | rfl | (unfold holdR; rw [if_neg c_15, if_neg c_21]; done) | (simp only [holdR, if_neg c_15, if_neg c_21]; done) | (simp only [holdR, c_15, c_21, if_true, if_false]; done) | (simp only [holdR, c_15, c_21, if_true, if_false, not_true, not_false_iff, reduceIte]; done) | (exfalso; simp_all; done) | (simp [holdR, c_15, c_21]; done) | (simp_all [holdR]; done)))
        have hf_r2 : r2 = rdV 1 r2 (holdR r2 tk t) r2 := by first | (rw [rdV_1]; done) | (rw [rdV_1]; (first | rfl | (unfold holdR; rw [if_neg c_15, if_neg c_21]; done) | (simp only [holdR, if_neg c_15, if_neg c_21]; done) | (simp only [holdR, c_15, c_21, if_true, if_false]; done) | (simp only [holdR, c_15, c_21, if_true, if_false, not_true, not_false_iff, reduceIte]; done) | (exfalso; simp_all; done) | (simp [holdR, c_15, c_21]; done) | (simp_all [holdR]; done)))
        exact hE _ _ _ _ _ _ hH (((congrArg (fun zz => (pwW P b A1 A2 cI cB tw im tp t ap zz r2)) hf_r1).trans (congrArg (fun zz => (pwW P b A1 A2 cI cB tw im tp t ap (rdV 1 (holdR r1 tk t) r1 r1) zz)) hf_r2))) (by first | (rw [rdV_1]; done) | (rw [rdV_1]; (first | rfl | (unfold holdOK; rw [if_neg c_15, if_neg c_21]; done) | (simp only [holdOK, if_neg c_15, if_neg c_21]; done) | (simp only [holdOK, c_15, c_21, if_true, if_false]; done) | (simp only [holdOK, c_15, c_21, if_true, if_false, not_true, not_false_iff, reduceIte]; done) | (exfalso; simp_all; done) | (simp [holdOK, c_15, c_21]; done) | (simp_all [holdOK]; done)))) rfl dX5_hold_25
  refine lv_aload_n hx hb dX5_hold_0 rfl (lv_at hl 0 rfl) ?_
  refine x_get (v := .ref b) (C := RX5) (T := TX5) (N := 4) hx hb hts hi5 hown hK hH.1 0 rfl rfl 0 (by decide) (hts (.fieldLink RX5 10 "PulseWheel" "bench" "LPulseWheel$Bench;") (by decide +kernel)) rfl rfl dX5_hold_1 ?_
  refine lv_iload_n hx hb dX5_hold_4 rfl (lv_at hl 1 rfl) ?_
  refine kSQ (va_runVN (As := [.int rd]) (rest := []) ⟨hx, hb, hml, hown, hts⟩ (c_X0_readerAt_n l D cI cB b A1 A2 t ap r1 r2 rd c0 c1 _) ⟨va_cnB 1 hts gX5_hold_X0_readerAt_n24 rfl rfl rfl (nwm5_24 (args := args) hN) (hts (.initialized RX0) (by decide +kernel)) (by decide +kernel) ⟨Nat.le_of_ble_eq_true rfl, Nat.le_of_ble_eq_true rfl⟩, hts (.instanceMethod yX0_readerAt) (by decide +kernel), hts (.selects RX0 yX0_readerAt yX0_readerAt) (by decide +kernel)⟩ (preV_cut hH.1 hH.2.1 hK hN (ci := 0) rfl 3 rfl [3, 4, 5, 6, 7, 8, 9, 10, 11, 12, 13, 14, 15, 16, 17, 18, 19, 20, 21] (by decide) rfl) rfl rfl hl.1 rfl (lv_room (Nat.le_of_ble_eq_true rfl)) dX5_hold_5 ⟨Nat.zero_le _, Nat.zero_le _⟩) ?_
  show W _ _ _ _ _ _ _ _ _ _ _ _ _ _ _ (F0 m 8 ls (.null :: _))
  refine lv_astore_nN (lv' := [(3, .null), (0, .ref (P 0)), (1, .int rd), (2, .int tk)]) hx hb dX5_hold_8 rfl hl (by decide) rfl (fun ls hl => ?_)
  refine lv_aload_nN hx hb dX5_hold_9 rfl (lv_at hl 0 rfl) ?_
  refine lv_ifnullN (tgt := 24) hx hb dX5_hold_10 (by decide) ?_
  refine lv_iconst (v := 0) hx hb dX5_hold_24 (by decide) ?_
  have hf_r1 : r1 = rdV rd (holdR r1 tk t) r1 r1 := by first | (rw [rdV_n c0 c1]; done) | (rw [rdV_n c0 c1]; (first | rfl | (unfold holdR; rw [if_true]; done) | (simp only [holdR]; done) | (simp only [holdR, if_true, if_false]; done) | (simp only [holdR, if_true, if_false, not_true, not_false_iff, reduceIte]; done) | (exfalso; simp_all; done) | (simp [holdR]; done) | (simp_all [holdR]; done)))
  have hf_r2 : r2 = rdV rd r2 (holdR r2 tk t) r2 := by first | (rw [rdV_n c0 c1]; done) | (rw [rdV_n c0 c1]; (first | rfl | (unfold holdR; rw [if_true]; done) | (simp only [holdR]; done) | (simp only [holdR, if_true, if_false]; done) | (simp only [holdR, if_true, if_false, not_true, not_false_iff, reduceIte]; done) | (exfalso; simp_all; done) | (simp [holdR]; done) | (simp_all [holdR]; done)))
  exact hE _ _ _ _ _ _ hH (((congrArg (fun zz => (pwW P b A1 A2 cI cB tw im tp t ap zz r2)) hf_r1).trans (congrArg (fun zz => (pwW P b A1 A2 cI cB tw im tp t ap (rdV rd (holdR r1 tk t) r1 r1) zz)) hf_r2))) (by first | (rw [rdV_n c0 c1]; done) | (rw [rdV_n c0 c1]; (first | rfl | (unfold holdOK; rw [if_true]; done) | (simp only [holdOK]; done) | (simp only [holdOK, if_true, if_false]; done) | (simp only [holdOK, if_true, if_false, not_true, not_false_iff, reduceIte]; done) | (exfalso; simp_all; done) | (simp [holdOK]; done) | (simp_all [holdOK]; done)))) rfl dX5_hold_25

def rm_X5_turn : Room := { frames := 3, cells := 0, slots := 0, locals := 64 }
set_option maxHeartbeats 1000000 in
set_option maxRecDepth 100000 in
theorem c_X5_turn (l : Launch) (D : va_G) (cI cB : ClassId) (P : Nat → Nat) (b : Nat) (A1 : Nat → Nat) (A2 : Nat → Nat) (tw : Int32) (im : Nat → Option Nat) (tp : Nat → Int32) (t : Int32) (ap : Int32) (r1 : Tb) (r2 : Tb) (rd tk : Int32) : CI l D cI cB yX5_turn wsX5_turn rm_X5_turn [.ref (P 0), .int rd, .int tk] (pwW P b A1 A2 cI cB tw im tp t ap r1 r2) (pwW P b A1 A2 cI cB tw im tp t ap (rdV rd (turnR r1 tk t) r1 r1) (rdV rd r2 (turnR r2 tk t) r2)) (rdV rd (turnOK tk) (turnOK tk) 0) := by
  refine CI.of (cc := cX5_turn) (maxL := 4) (ty := .boolean) (by decide +kernel) rfl (Nat.le_of_ble_eq_true rfl) ?_
  intro p e s m args below meth c ls A0 Q hT hH hA hl hE
  obtain ⟨hx, hb, hr, hlocks, hnm, hml, hown, hts, hK, hN⟩ := hT
  have hl : lv_has ls 4 [(0, .ref (P 0)), (1, .int rd), (2, .int tk)] := hl
  have hi0 : ∀ w ∈ wsX00, w ∈ wsX5_turn := by decide +kernel
  have hi2 : ∀ w ∈ wsX20, w ∈ wsX5_turn := by decide +kernel
  have hi5 : ∀ w ∈ wsX50, w ∈ wsX5_turn := by decide +kernel
  by_cases c0 : rd = 0
  · subst c0
    refine lv_aload_n hx hb dX5_turn_0 rfl (lv_at hl 0 rfl) ?_
    refine x_get (v := .ref b) (C := RX5) (T := TX5) (N := 4) hx hb hts hi5 hown hK hH.1 0 rfl rfl 0 (by decide) (hts (.fieldLink RX5 10 "PulseWheel" "bench" "LPulseWheel$Bench;") (by decide +kernel)) rfl rfl dX5_turn_1 ?_
    refine lv_iload_n hx hb dX5_turn_4 rfl (lv_at hl 1 rfl) ?_
    refine kSQ (va_runVN (As := [.int 0]) (rest := []) ⟨hx, hb, hml, hown, hts⟩ (c_X0_readerAt_0 l D cI cB b A1 A2 t ap r1 r2  _) ⟨va_cnB 1 hts gX5_turn_X0_readerAt_n24 rfl rfl rfl (nwm5_24 (args := args) hN) (hts (.initialized RX0) (by decide +kernel)) (by decide +kernel) ⟨Nat.le_of_ble_eq_true rfl, Nat.le_of_ble_eq_true rfl⟩, hts (.instanceMethod yX0_readerAt) (by decide +kernel), hts (.selects RX0 yX0_readerAt yX0_readerAt) (by decide +kernel)⟩ (preV_cut hH.1 hH.2.1 hK hN (ci := 0) rfl 3 rfl [3, 4, 5, 6, 7, 8, 9, 10, 11, 12, 13, 14, 15, 16, 17, 18, 19, 20, 21] (by decide) rfl) rfl rfl hl.1 rfl (lv_room (Nat.le_of_ble_eq_true rfl)) dX5_turn_5 ⟨Nat.zero_le _, Nat.zero_le _⟩) ?_
    show W _ _ _ _ _ _ _ _ _ _ _ _ _ _ _ (F0 m 8 ls (.ref (A1 0) :: _))
    refine lv_astore_n (lv' := [(3, .ref (A1 0)), (0, .ref (P 0)), (1, .int 0), (2, .int tk)]) hx hb dX5_turn_8 rfl hl (by decide) rfl (fun ls hl => ?_)
    refine lv_aload_n hx hb dX5_turn_9 rfl (lv_at hl 0 rfl) ?_
    refine lv_ifnull hx hb dX5_turn_10 ?_
    refine lv_iload_n hx hb dX5_turn_13 rfl (lv_at hl 3 rfl) ?_
    refine lv_iconst (v := 4) hx hb dX5_turn_14 (by decide) ?_
    refine lv_icmp_lt (tgt := 24) hx hb dX5_turn_15 (by decide) (fun c_15 => ?_) (fun c_15 => ?_)
    · skip
      refine lv_iconst (v := 0) hx hb dX5_turn_24 (by decide) ?_
      have hf_r1 : r1 = rdV 0 (turnR r1 tk t) r1 r1 := by first | (rw [rdV_0]; done) | (rw [rdV_0]; (first | rfl | (unfold turnR; rw [if_pos c_15]; done) | (simp only [turnR, if_pos c_15]; done) | (simp only [turnR, c_15, if_true, if_false]; done) | (simp only [turnR, c_15, if_true, if_false, not_true, not_false_iff, reduceIte]; done) | (exfalso; simp_all; done) | (simp [turnR, c_15]; done) | (simp_all [turnR]; done)))
      have hf_r2 : r2 = rdV 0 r2 (turnR r2 tk t) r2 := by first | (rw [rdV_0]; done) | (rw [rdV_0]; (first | rfl | (unfold turnR; rw [if_pos c_15]; done) | (simp only [turnR, if_pos c_15]; done) | (simp only [turnR, c_15, if_true, if_false]; done) | (simp only [turnR, c_15, if_true, if_false, not_true, not_false_iff, reduceIte]; done) | (exfalso; simp_all; done) | (simp [turnR, c_15]; done) | (simp_all [turnR]; done)))
      exact hE _ _ _ _ _ _ hH (((congrArg (fun zz => (pwW P b A1 A2 cI cB tw im tp t ap zz r2)) hf_r1).trans (congrArg (fun zz => (pwW P b A1 A2 cI cB tw im tp t ap (rdV 0 (turnR r1 tk t) r1 r1) zz)) hf_r2))) (by first | (rw [rdV_0]; done) | (rw [rdV_0]; (first | rfl | (unfold turnOK; rw [if_pos c_15]; done) | (simp only [turnOK, if_pos c_15]; done) | (simp only [turnOK, c_15, if_true, if_false]; done) | (simp only [turnOK, c_15, if_true, if_false, not_true, not_false_iff, reduceIte]; done) | (exfalso; simp_all; done) | (simp [turnOK, c_15]; done) | (simp_all [turnOK]; done)))) rfl dX5_turn_25
    · skip
      refine lv_iload_n hx hb dX5_turn_18 rfl (lv_at hl 3 rfl) ?_
      refine lv_bipush (v := 64) hx hb dX5_turn_19 (by decide) ?_
      refine lv_icmp_le (tgt := 26) hx hb dX5_turn_21 (by decide) (fun c_21 => ?_) (fun c_21 => ?_)
      · skip
        refine lv_aload_n hx hb dX5_turn_26 rfl (lv_at hl 0 rfl) ?_
        refine lv_iload_n hx hb dX5_turn_27 rfl (lv_at hl 3 rfl) ?_
        obtain ⟨r1_1, er1_1⟩ : ∃ z, z = up2 r1 0 5 tk := ⟨_, rfl⟩
        refine x_putN (ws' := (pwW P b A1 A2 cI cB tw im tp t ap r1_1 r2)) (v := .int tk) (ty := .int) (C := RX2) (T := TX2) (N := 16) hx hb hts hi2 tyX2_ok nmX2 hown hK hH 4 rfl rfl 5 (by decide) (nwf5_41 (args := args) hN) rfl rfl rfl (rfl) (rfl) (Nat.le_of_ble_eq_true rfl) dX5_turn_28 (by rw [er1_1]; rfl) (fun H locs hH => ?_)
        refine lv_aload_n hx hb dX5_turn_31 rfl (lv_at hl 0 rfl) ?_
        refine lv_aload_n hx hb dX5_turn_32 rfl (lv_at hl 1 rfl) ?_
        refine x_get (v := .ref b) (C := RX5) (T := TX5) (N := 4) hx hb hts hi5 hown hK hH.1 0 rfl rfl 0 (by decide) (hts (.fieldLink RX5 10 "PulseWheel" "bench" "LPulseWheel$Bench;") (by decide +kernel)) rfl rfl dX5_turn_33 ?_
        refine x_getN (v := .int t) (C := RX0) (T := TX0) (N := 4) hx hb hts hi0 hown hK hH.1 3 rfl rfl 2 (by decide) (nwf5_34 (args := args) hN) rfl rfl dX5_turn_36 ?_
        obtain ⟨r1_2, er1_2⟩ : ∃ z, z = anewV r1_1 t := ⟨_, rfl⟩
        refine kCV (ws' := (pwW P b A1 A2 cI cB tw im tp t ap r1_2 r2)) (va_runVN (As := [.int t]) (rest := []) ⟨hx, hb, hml, hown, hts⟩ (c_X2_beginAnew l D cI cB A1 r1_1 t  _) ⟨va_cnB 1 hts gX5_turn_X2_beginAnew_n37 rfl rfl rfl (nwm5_37 (args := args) hN) (hts (.initialized RX2) (by decide +kernel)) (by decide +kernel) ⟨Nat.le_of_ble_eq_true rfl, Nat.le_of_ble_eq_true rfl⟩, hts (.instanceMethod yX2_beginAnew) (by decide +kernel), hts (.selects RX2 yX2_beginAnew yX2_beginAnew) (by decide +kernel)⟩ (preV_cut hH.1 hH.2.1 hK hN (ci := 2) rfl 4 rfl [4, 5, 6, 7, 8, 9, 10, 11, 12] (by decide) rfl) rfl rfl hl.1 rfl (lv_room (Nat.le_of_ble_eq_true rfl)) dX5_turn_39 ⟨Nat.zero_le _, Nat.zero_le _⟩) hH hA [4, 5, 6, 7, 8, 9, 10, 11, 12] rfl adr_reader (by rw [er1_2]; exact putL_pw_reader1) (fun H locs hH => ?_)
        refine lv_iconst (v := 1) hx hb dX5_turn_42 (by decide) ?_
        have hf_r1 : r1_2 = rdV 0 (turnR r1 tk t) r1 r1 := by subst er1_2; subst er1_1; first | (rw [rdV_0]; done) | (rw [rdV_0]; (first | rfl | (unfold turnR; rw [if_neg c_15, if_pos c_21]; done) | (simp only [turnR, if_neg c_15, if_pos c_21]; done) | (simp only [turnR, c_15, c_21, if_true, if_false]; done) | (simp only [turnR, c_15, c_21, if_true, if_false, not_true, not_false_iff, reduceIte]; done) | (exfalso; simp_all; done) | (simp [turnR, c_15, c_21]; done) | (simp_all [turnR]; done)))
        have hf_r2 : r2 = rdV 0 r2 (turnR r2 tk t) r2 := by subst er1_2; subst er1_1; first | (rw [rdV_0]; done) | (rw [rdV_0]; (first | rfl | (unfold turnR; rw [if_neg c_15, if_pos c_21]; done) | (simp only [turnR, if_neg c_15, if_pos c_21]; done) | (simp only [turnR, c_15, c_21, if_true, if_false]; done) | (simp only [turnR, c_15, c_21, if_true, if_false, not_true, not_false_iff, reduceIte]; done) | (exfalso; simp_all; done) | (simp [turnR, c_15, c_21]; done) | (simp_all [turnR]; done)))
        exact hE _ _ _ _ _ _ hH (((congrArg (fun zz => (pwW P b A1 A2 cI cB tw im tp t ap zz r2)) hf_r1).trans (congrArg (fun zz => (pwW P b A1 A2 cI cB tw im tp t ap (rdV 0 (turnR r1 tk t) r1 r1) zz)) hf_r2))) (by subst er1_2; subst er1_1; first | (rw [rdV_0]; done) | (rw [rdV_0]; (first | rfl | (unfold turnOK; rw [if_neg c_15, if_pos c_21]; done) | (simp only [turnOK, if_neg c_15, if_pos c_21]; done) | (simp only [turnOK, c_15, c_21, if_true, if_false]; done) | (simp only [turnOK, c_15, c_21, if_true, if_false, not_true, not_false_iff, reduceIte]; done) | (exfalso; simp_all; done) | (simp [turnOK, c_15, c_21]; done) | (simp_all [turnOK]; done)))) rfl dX5_turn_43
      · skip
        refine lv_iconst (v := 0) hx hb dX5_turn_24 (by decide) ?_
        have hf_r1 : r1 = rdV 0 (turnR r1 tk t) r1 r1 := by first | (rw [rdV_0]; done) | (rw [rdV_0]; (first | rfl | (unfold turnR; rw [if_neg c_15, if_neg c_21]; done) | (simp only [turnR, if_neg c_15, if_neg c_21]; done) | (simp only [turnR, c_15, c_21, if_true, if_false]; done) | (simp only [turnR, c_15, c_21, if_true, if_false, not_true, not_false_iff, reduceIte]; done) | (exfalso; simp_all; done) | (simp [turnR, c_15, c_21]; done) | (simp_all [turnR]; done)))
        have hf_r2 : r2 = rdV 0 r2 (turnR r2 tk t) r2 := by first | (rw [rdV_0]; done) | (rw [rdV_0]; (first | rfl | (unfold turnR; rw [if_neg c_15, if_neg c_21]; done) | (simp only [turnR, if_neg c_15, if_neg c_21]; done) | (simp only [turnR, c_15, c_21, if_true, if_false]; done) | (simp only [turnR, c_15, c_21, if_true, if_false, not_true, not_false_iff, reduceIte]; done) | (exfalso; simp_all; done) | (simp [turnR, c_15, c_21]; done) | (simp_all [turnR]; done)))
        exact hE _ _ _ _ _ _ hH (((congrArg (fun zz => (pwW P b A1 A2 cI cB tw im tp t ap zz r2)) hf_r1).trans (congrArg (fun zz => (pwW P b A1 A2 cI cB tw im tp t ap (rdV 0 (turnR r1 tk t) r1 r1) zz)) hf_r2))) (by first | (rw [rdV_0]; done) | (rw [rdV_0]; (first | rfl | (unfold turnOK; rw [if_neg c_15, if_neg c_21]; done) | (simp only [turnOK, if_neg c_15, if_neg c_21]; done) | (simp only [turnOK, c_15, c_21, if_true, if_false]; done) | (simp only [turnOK, c_15, c_21, if_true, if_false, not_true, not_false_iff, reduceIte]; done) | (exfalso; simp_all; done) | (simp [turnOK, c_15, c_21]; done) | (simp_all [turnOK]; done)))) rfl dX5_turn_25
  by_cases c1 : rd = 1
  · subst c1
    refine lv_aload_n hx hb dX5_turn_0 rfl (lv_at hl 0 rfl) ?_
    refine x_get (v := .ref b) (C := RX5) (T := TX5) (N := 4) hx hb hts hi5 hown hK hH.1 0 rfl rfl 0 (by decide) (hts (.fieldLink RX5 10 "PulseWheel" "bench" "LPulseWheel$Bench;") (by decide +kernel)) rfl rfl dX5_turn_1 ?_
    refine lv_iload_n hx hb dX5_turn_4 rfl (lv_at hl 1 rfl) ?_
    refine kSQ (va_runVN (As := [.int 1]) (rest := []) ⟨hx, hb, hml, hown, hts⟩ (c_X0_readerAt_1 l D cI cB b A1 A2 t ap r1 r2  _) ⟨va_cnB 1 hts gX5_turn_X0_readerAt_n24 rfl rfl rfl (nwm5_24 (args := args) hN) (hts (.initialized RX0) (by decide +kernel)) (by decide +kernel) ⟨Nat.le_of_ble_eq_true rfl, Nat.le_of_ble_eq_true rfl⟩, hts (.instanceMethod yX0_readerAt) (by decide +kernel), hts (.selects RX0 yX0_readerAt yX0_readerAt) (by decide +kernel)⟩ (preV_cut hH.1 hH.2.1 hK hN (ci := 0) rfl 3 rfl [3, 4, 5, 6, 7, 8, 9, 10, 11, 12, 13, 14, 15, 16, 17, 18, 19, 20, 21] (by decide) rfl) rfl rfl hl.1 rfl (lv_room (Nat.le_of_ble_eq_true rfl)) dX5_turn_5 ⟨Nat.zero_le _, Nat.zero_le _⟩) ?_
    show W _ _ _ _ _ _ _ _ _ _ _ _ _ _ _ (F0 m 8 ls (.ref (A2 0) :: _))
    refine lv_astore_n (lv' := [(3, .ref (A2 0)), (0, .ref (P 0)), (1, .int 1), (2, .int tk)]) hx hb dX5_turn_8 rfl hl (by decide) rfl (fun ls hl => ?_)
    refine lv_aload_n hx hb dX5_turn_9 rfl (lv_at hl 0 rfl) ?_
    refine lv_ifnull hx hb dX5_turn_10 ?_
    refine lv_iload_n hx hb dX5_turn_13 rfl (lv_at hl 3 rfl) ?_
    refine lv_iconst (v := 4) hx hb dX5_turn_14 (by decide) ?_
    refine lv_icmp_lt (tgt := 24) hx hb dX5_turn_15 (by decide) (fun c_15 => ?_) (fun c_15 => ?_)
    · skip
      refine lv_iconst (v := 0) hx hb dX5_turn_24 (by decide) ?_
      have hf_r1 : r1 = rdV 1 (turnR r1 tk t) r1 r1 := by first | (rw [rdV_1]; done) | (rw [rdV_1]; (first | rfl | (unfold turnR; rw [if_pos c_15]; done) | (simp only [turnR, if_pos c_15]; done) | (simp only [turnR, c_15, if_true, if_false]; done) | (simp only [turnR, c_15, if_true, if_false, not_true, not_false_iff, reduceIte]; done) | (exfalso; simp_all; done) | (simp [turnR, c_15]; done) | (simp_all [turnR]; done)))
      have hf_r2 : r2 = rdV 1 r2 (turnR r2 tk t) r2 := by first | (rw [rdV_1]; done) | (rw [rdV_1]; (first | rfl | (unfold turnR; rw [if_pos c_15]; done) | (simp only [turnR, if_pos c_15]; done) | (simp only [turnR, c_15, if_true, if_false]; done) | (simp only [turnR, c_15, if_true, if_false, not_true, not_false_iff, reduceIte]; done) | (exfalso; simp_all; done) | (simp [turnR, c_15]; done) | (simp_all [turnR]; done)))
      exact hE _ _ _ _ _ _ hH (((congrArg (fun zz => (pwW P b A1 A2 cI cB tw im tp t ap zz r2)) hf_r1).trans (congrArg (fun zz => (pwW P b A1 A2 cI cB tw im tp t ap (rdV 1 (turnR r1 tk t) r1 r1) zz)) hf_r2))) (by first | (rw [rdV_1]; done) | (rw [rdV_1]; (first | rfl | (unfold turnOK; rw [if_pos c_15]; done) | (simp only [turnOK, if_pos c_15]; done) | (simp only [turnOK, c_15, if_true, if_false]; done) | (simp only [turnOK, c_15, if_true, if_false, not_true, not_false_iff, reduceIte]; done) | (exfalso; simp_all; done) | (simp [turnOK, c_15]; done) | (simp_all [turnOK]; done)))) rfl dX5_turn_25
    · skip
      refine lv_iload_n hx hb dX5_turn_18 rfl (lv_at hl 3 rfl) ?_
      refine lv_bipush (v := 64) hx hb dX5_turn_19 (by decide) ?_
      refine lv_icmp_le (tgt := 26) hx hb dX5_turn_21 (by decide) (fun c_21 => ?_) (fun c_21 => ?_)
      · skip
        refine lv_aload_n hx hb dX5_turn_26 rfl (lv_at hl 0 rfl) ?_
        refine lv_iload_n hx hb dX5_turn_27 rfl (lv_at hl 3 rfl) ?_
        obtain ⟨r2_3, er2_3⟩ : ∃ z, z = up2 r2 0 5 tk := ⟨_, rfl⟩
        refine x_putN (ws' := (pwW P b A1 A2 cI cB tw im tp t ap r1 r2_3)) (v := .int tk) (ty := .int) (C := RX2) (T := TX2) (N := 16) hx hb hts hi2 tyX2_ok nmX2 hown hK hH 13 rfl rfl 5 (by decide) (nwf5_41 (args := args) hN) rfl rfl rfl (rfl) (rfl) (Nat.le_of_ble_eq_true rfl) dX5_turn_28 (by rw [er2_3]; rfl) (fun H locs hH => ?_)
        refine lv_aload_n hx hb dX5_turn_31 rfl (lv_at hl 0 rfl) ?_
        refine lv_aload_n hx hb dX5_turn_32 rfl (lv_at hl 1 rfl) ?_
        refine x_get (v := .ref b) (C := RX5) (T := TX5) (N := 4) hx hb hts hi5 hown hK hH.1 0 rfl rfl 0 (by decide) (hts (.fieldLink RX5 10 "PulseWheel" "bench" "LPulseWheel$Bench;") (by decide +kernel)) rfl rfl dX5_turn_33 ?_
        refine x_getN (v := .int t) (C := RX0) (T := TX0) (N := 4) hx hb hts hi0 hown hK hH.1 3 rfl rfl 2 (by decide) (nwf5_34 (args := args) hN) rfl rfl dX5_turn_36 ?_
        obtain ⟨r2_4, er2_4⟩ : ∃ z, z = anewV r2_3 t := ⟨_, rfl⟩
        refine kCV (ws' := (pwW P b A1 A2 cI cB tw im tp t ap r1 r2_4)) (va_runVN (As := [.int t]) (rest := []) ⟨hx, hb, hml, hown, hts⟩ (c_X2_beginAnew l D cI cB A2 r2_3 t  _) ⟨va_cnB 1 hts gX5_turn_X2_beginAnew_n37 rfl rfl rfl (nwm5_37 (args := args) hN) (hts (.initialized RX2) (by decide +kernel)) (by decide +kernel) ⟨Nat.le_of_ble_eq_true rfl, Nat.le_of_ble_eq_true rfl⟩, hts (.instanceMethod yX2_beginAnew) (by decide +kernel), hts (.selects RX2 yX2_beginAnew yX2_beginAnew) (by decide +kernel)⟩ (preV_cut hH.1 hH.2.1 hK hN (ci := 2) rfl 13 rfl [13, 14, 15, 16, 17, 18, 19, 20, 21] (by decide) rfl) rfl rfl hl.1 rfl (lv_room (Nat.le_of_ble_eq_true rfl)) dX5_turn_39 ⟨Nat.zero_le _, Nat.zero_le _⟩) hH hA [13, 14, 15, 16, 17, 18, 19, 20, 21] rfl adr_reader (by rw [er2_4]; exact putL_pw_reader2) (fun H locs hH => ?_)
        refine lv_iconst (v := 1) hx hb dX5_turn_42 (by decide) ?_
        have hf_r1 : r1 = rdV 1 (turnR r1 tk t) r1 r1 := by subst er2_4; subst er2_3; first | (rw [rdV_1]; done) | (rw [rdV_1]; (first | rfl | (unfold turnR; rw [if_neg c_15, if_pos c_21]; done) | (simp only [turnR, if_neg c_15, if_pos c_21]; done) | (simp only [turnR, c_15, c_21, if_true, if_false]; done) | (simp only [turnR, c_15, c_21, if_true, if_false, not_true, not_false_iff, reduceIte]; done) | (exfalso; simp_all; done) | (simp [turnR, c_15, c_21]; done) | (simp_all [turnR]; done)))
        have hf_r2 : r2_4 = rdV 1 r2 (turnR r2 tk t) r2 := by subst er2_4; subst er2_3; first | (rw [rdV_1]; done) | (rw [rdV_1]; (first | rfl | (unfold turnR; rw [if_neg c_15, if_pos c_21]; done) | (simp only [turnR, if_neg c_15, if_pos c_21]; done) | (simp only [turnR, c_15, c_21, if_true, if_false]; done) | (simp only [turnR, c_15, c_21, if_true, if_false, not_true, not_false_iff, reduceIte]; done) | (exfalso; simp_all; done) | (simp [turnR, c_15, c_21]; done) | (simp_all [turnR]; done)))
        exact hE _ _ _ _ _ _ hH (((congrArg (fun zz => (pwW P b A1 A2 cI cB tw im tp t ap zz r2_4)) hf_r1).trans (congrArg (fun zz => (pwW P b A1 A2 cI cB tw im tp t ap (rdV 1 (turnR r1 tk t) r1 r1) zz)) hf_r2))) (by subst er2_4; subst er2_3; first | (rw [rdV_1]; done) | (rw [rdV_1]; (first | rfl | (unfold turnOK; rw [if_neg c_15, if_pos c_21]; done) | (simp only [turnOK, if_neg c_15, if_pos c_21]; done) | (simp only [turnOK, c_15, c_21, if_true, if_false]; done) | (simp only [turnOK, c_15, c_21, if_true, if_false, not_true, not_false_iff, reduceIte]; done) | (exfalso; simp_all; done) | (simp [turnOK, c_15, c_21]; done) | (simp_all [turnOK]; done)))) rfl dX5_turn_43
      · skip
        refine lv_iconst (v := 0) hx hb dX5_turn_24 (by decide) ?_
        have hf_r1 : r1 = rdV 1 (turnR r1 tk t) r1 r1 := by first | (rw [rdV_1]; done) | (rw [rdV_1]; (first | rfl | (unfold turnR; rw [if_neg c_15, if_neg c_21]; done) | (simp only [turnR, if_neg c_15, if_neg c_21]; done) | (simp only [turnR, c_15, c_21, if_true, if_false]; done) | (simp only [turnR, c_15, c_21, if_true, if_false, not_true, not_false_iff, reduceIte]; done) | (exfalso; simp_all; done) | (simp [turnR, c_15, c_21]; done) | (simp_all [turnR]; done)))
        have hf_r2 : r2 = rdV 1 r2 (turnR r2 tk t) r2 := by first | (rw [rdV_1]; done) | (rw [rdV_1]; (first | rfl | (unfold turnR; rw [if_neg c_15, if_neg c_21]; done) | (simp only [turnR, if_neg c_15, if_neg c_21]; done) | (simp only [turnR, c_15, c_21, if_true, if_false]; done) | (simp only [turnR, c_15, c_21, if_true, if_false, not_true, not_false_iff, reduceIte]; done) | (exfalso; simp_all; done) | (simp [turnR, c_15, c_21]; done) | (simp_all [turnR]; done)))
        exact hE _ _ _ _ _ _ hH (((congrArg (fun zz => (pwW P b A1 A2 cI cB tw im tp t ap zz r2)) hf_r1).trans (congrArg (fun zz => (pwW P b A1 A2 cI cB tw im tp t ap (rdV 1 (turnR r1 tk t) r1 r1) zz)) hf_r2))) (by first | (rw [rdV_1]; done) | (rw [rdV_1]; (first | rfl | (unfold turnOK; rw [if_neg c_15, if_neg c_21]; done) | (simp only [turnOK, if_neg c_15, if_neg c_21]; done) | (simp only [turnOK, c_15, c_21, if_true, if_false]; done) | (simp only [turnOK, c_15, c_21, if_true, if_false, not_true, not_false_iff, reduceIte]; done) | (exfalso; simp_all; done) | (simp [turnOK, c_15, c_21]; done) | (simp_all [turnOK]; done)))) rfl dX5_turn_25
  refine lv_aload_n hx hb dX5_turn_0 rfl (lv_at hl 0 rfl) ?_
  refine x_get (v := .ref b) (C := RX5) (T := TX5) (N := 4) hx hb hts hi5 hown hK hH.1 0 rfl rfl 0 (by decide) (hts (.fieldLink RX5 10 "PulseWheel" "bench" "LPulseWheel$Bench;") (by decide +kernel)) rfl rfl dX5_turn_1 ?_
  refine lv_iload_n hx hb dX5_turn_4 rfl (lv_at hl 1 rfl) ?_
  refine kSQ (va_runVN (As := [.int rd]) (rest := []) ⟨hx, hb, hml, hown, hts⟩ (c_X0_readerAt_n l D cI cB b A1 A2 t ap r1 r2 rd c0 c1 _) ⟨va_cnB 1 hts gX5_turn_X0_readerAt_n24 rfl rfl rfl (nwm5_24 (args := args) hN) (hts (.initialized RX0) (by decide +kernel)) (by decide +kernel) ⟨Nat.le_of_ble_eq_true rfl, Nat.le_of_ble_eq_true rfl⟩, hts (.instanceMethod yX0_readerAt) (by decide +kernel), hts (.selects RX0 yX0_readerAt yX0_readerAt) (by decide +kernel)⟩ (preV_cut hH.1 hH.2.1 hK hN (ci := 0) rfl 3 rfl [3, 4, 5, 6, 7, 8, 9, 10, 11, 12, 13, 14, 15, 16, 17, 18, 19, 20, 21] (by decide) rfl) rfl rfl hl.1 rfl (lv_room (Nat.le_of_ble_eq_true rfl)) dX5_turn_5 ⟨Nat.zero_le _, Nat.zero_le _⟩) ?_
  show W _ _ _ _ _ _ _ _ _ _ _ _ _ _ _ (F0 m 8 ls (.null :: _))
  refine lv_astore_nN (lv' := [(3, .null), (0, .ref (P 0)), (1, .int rd), (2, .int tk)]) hx hb dX5_turn_8 rfl hl (by decide) rfl (fun ls hl => ?_)
  refine lv_aload_nN hx hb dX5_turn_9 rfl (lv_at hl 0 rfl) ?_
  refine lv_ifnullN (tgt := 24) hx hb dX5_turn_10 (by decide) ?_
  refine lv_iconst (v := 0) hx hb dX5_turn_24 (by decide) ?_
  have hf_r1 : r1 = rdV rd (turnR r1 tk t) r1 r1 := by first | (rw [rdV_n c0 c1]; done) | (rw [rdV_n c0 c1]; (first | rfl | (unfold turnR; rw [if_true]; done) | (simp only [turnR]; done) | (simp only [turnR, if_true, if_false]; done) | (simp only [turnR, if_true, if_false, not_true, not_false_iff, reduceIte]; done) | (exfalso; simp_all; done) | (simp [turnR]; done) | (simp_all [turnR]; done)))
  have hf_r2 : r2 = rdV rd r2 (turnR r2 tk t) r2 := by first | (rw [rdV_n c0 c1]; done) | (rw [rdV_n c0 c1]; (first | rfl | (unfold turnR; rw [if_true]; done) | (simp only [turnR]; done) | (simp only [turnR, if_true, if_false]; done) | (simp only [turnR, if_true, if_false, not_true, not_false_iff, reduceIte]; done) | (exfalso; simp_all; done) | (simp [turnR]; done) | (simp_all [turnR]; done)))
  exact hE _ _ _ _ _ _ hH (((congrArg (fun zz => (pwW P b A1 A2 cI cB tw im tp t ap zz r2)) hf_r1).trans (congrArg (fun zz => (pwW P b A1 A2 cI cB tw im tp t ap (rdV rd (turnR r1 tk t) r1 r1) zz)) hf_r2))) (by first | (rw [rdV_n c0 c1]; done) | (rw [rdV_n c0 c1]; (first | rfl | (unfold turnOK; rw [if_true]; done) | (simp only [turnOK]; done) | (simp only [turnOK, if_true, if_false]; done) | (simp only [turnOK, if_true, if_false, not_true, not_false_iff, reduceIte]; done) | (exfalso; simp_all; done) | (simp [turnOK]; done) | (simp_all [turnOK]; done)))) rfl dX5_turn_25

def rm_X5_putWord : Room := { frames := 0, cells := 0, slots := 0, locals := 0 }
set_option maxHeartbeats 1000000 in
set_option maxRecDepth 100000 in
theorem c_X5_putWord (l : Launch) (D : va_G) (cI cB : ClassId) (P : Nat → Nat) (b : Nat) (A1 : Nat → Nat) (A2 : Nat → Nat) (tw : Int32) (im : Nat → Option Nat) (tp : Nat → Int32) (t : Int32) (ap : Int32) (r1 : Tb) (r2 : Tb) (w : Int32) (h0 : ¬ tw < 0) : CV l D cI cB yX5_putWord wsX5_putWord rm_X5_putWord [.ref (P 0), .int w] (pwW P b A1 A2 cI cB tw im tp t ap r1 r2) (pwW P b A1 A2 cI cB (putW tw) im (putT tw tp w) t ap r1 r2) := by
  refine CV.of (cc := cX5_putWord) (maxL := 2)  (by decide +kernel) rfl (Nat.le_of_ble_eq_true rfl) ?_
  intro p e s m args below meth c ls A0 Q hT hH hA hl hE
  obtain ⟨hx, hb, hr, hlocks, hnm, hml, hown, hts, hK, hN⟩ := hT
  have hl : lv_has ls 2 [(0, .ref (P 0)), (1, .int w)] := hl
  have hi5 : ∀ w ∈ wsX50, w ∈ wsX5_putWord := by decide +kernel
  refine lv_aload_n hx hb dX5_putWord_0 rfl (lv_at hl 0 rfl) ?_
  refine x_get (v := .int tw) (C := RX5) (T := TX5) (N := 4) hx hb hts hi5 hown hK hH.1 0 rfl rfl 3 (by decide) (hts (.fieldLink RX5 53 "PulseWheel" "tapeWords" "I") (by decide +kernel)) rfl rfl dX5_putWord_1 ?_
  refine lv_aload_n hx hb dX5_putWord_4 rfl (lv_at hl 0 rfl) ?_
  refine x_get (v := .ref (P 2)) (C := RX5) (T := TX5) (N := 4) hx hb hts hi5 hown hK hH.1 0 rfl rfl 2 (by decide) (hts (.fieldLink RX5 20 "PulseWheel" "tape" "[I") (by decide +kernel)) rfl rfl dX5_putWord_5 ?_
  refine x_alen (v := 500) hx hb hK hH.1 2 rfl rfl dX5_putWord_8 ?_
  refine lv_icmp_ge (tgt := 32) hx hb dX5_putWord_9 (by decide) (fun c_9 => ?_) (fun c_9 => ?_)
  · skip
    have hf_tw : tw = putW tw := by first | rfl | (unfold putW; rw [if_pos c_9]; done) | (unfold putT; rw [if_pos c_9]; done) | (simp only [putW, putT, if_pos c_9]; done) | (simp only [putW, putT, c_9, if_true, if_false]; done) | (simp only [putW, putT, c_9, if_true, if_false, not_true, not_false_iff, reduceIte]; done) | (exfalso; simp_all; done) | (simp [putW, putT, c_9]; done) | (simp_all [putW, putT]; done)
    have hf_tp : tp = putT tw tp w := by first | rfl | (unfold putW; rw [if_pos c_9]; done) | (unfold putT; rw [if_pos c_9]; done) | (simp only [putW, putT, if_pos c_9]; done) | (simp only [putW, putT, c_9, if_true, if_false]; done) | (simp only [putW, putT, c_9, if_true, if_false, not_true, not_false_iff, reduceIte]; done) | (exfalso; simp_all; done) | (simp [putW, putT, c_9]; done) | (simp_all [putW, putT]; done)
    exact hE _ _ _ _ _ hH (((congrArg (fun zz => (pwW P b A1 A2 cI cB zz im tp t ap r1 r2)) hf_tw).trans (congrArg (fun zz => (pwW P b A1 A2 cI cB (putW tw) im zz t ap r1 r2)) hf_tp))) dX5_putWord_32
  · skip
    refine lv_aload_n hx hb dX5_putWord_12 rfl (lv_at hl 0 rfl) ?_
    refine x_get (v := .ref (P 2)) (C := RX5) (T := TX5) (N := 4) hx hb hts hi5 hown hK hH.1 0 rfl rfl 2 (by decide) (hts (.fieldLink RX5 20 "PulseWheel" "tape" "[I") (by decide +kernel)) rfl rfl dX5_putWord_13 ?_
    refine lv_aload_n hx hb dX5_putWord_16 rfl (lv_at hl 0 rfl) ?_
    refine x_get (v := .int tw) (C := RX5) (T := TX5) (N := 4) hx hb hts hi5 hown hK hH.1 0 rfl rfl 3 (by decide) (hts (.fieldLink RX5 53 "PulseWheel" "tapeWords" "I") (by decide +kernel)) rfl rfl dX5_putWord_17 ?_
    refine lv_iload_n hx hb dX5_putWord_20 rfl (lv_at hl 1 rfl) ?_
    have hq_1 := ix_in (i := tw) (n := 500) tw.toNatClampNeg ((put_ix h0 c_9).1) ((put_ix h0 c_9).2) (by decide)
    obtain ⟨tp_2, etp_2⟩ : ∃ z, z = upd tp tw.toNatClampNeg w := ⟨_, rfl⟩
    refine x_ist (ws' := (pwW P b A1 A2 cI cB tw im tp_2 t ap r1 r2)) hx hb hK hH 2 rfl hq_1.1 hq_1.2 dX5_putWord_21 (by rw [etp_2]; rfl) (fun H locs hH => ?_)
    refine lv_aload_n hx hb dX5_putWord_22 rfl (lv_at hl 0 rfl) ?_
    refine lv_dup hx hb dX5_putWord_23 rfl ?_
    refine x_get (v := .int tw) (C := RX5) (T := TX5) (N := 4) hx hb hts hi5 hown hK hH.1 0 rfl rfl 3 (by decide) (hts (.fieldLink RX5 53 "PulseWheel" "tapeWords" "I") (by decide +kernel)) rfl rfl dX5_putWord_24 ?_
    refine lv_iconst (v := 1) hx hb dX5_putWord_27 (by decide) ?_
    refine lv_iadd hx hb dX5_putWord_28 ?_
    refine x_put (ws' := (pwW P b A1 A2 cI cB (tw + 1) im tp_2 t ap r1 r2)) (v := .int (tw + 1)) (ty := .int) (C := RX5) (T := TX5) (N := 4) hx hb hts hi5 tyX5_ok nmX5 hown hK hH 0 rfl rfl 3 (by decide) (hts (.fieldLink RX5 53 "PulseWheel" "tapeWords" "I") (by decide +kernel)) rfl rfl rfl (rfl) (rfl) (Nat.le_of_ble_eq_true rfl) dX5_putWord_29 (rfl) (fun H locs hH => ?_)
    have hf_tw : (tw + 1) = putW tw := by subst etp_2; first | rfl | (unfold putW; rw [if_neg c_9]; done) | (unfold putT; rw [if_neg c_9]; done) | (simp only [putW, putT, if_neg c_9]; done) | (simp only [putW, putT, c_9, if_true, if_false]; done) | (simp only [putW, putT, c_9, if_true, if_false, not_true, not_false_iff, reduceIte]; done) | (exfalso; simp_all; done) | (simp [putW, putT, c_9]; done) | (simp_all [putW, putT]; done)
    have hf_tp : tp_2 = putT tw tp w := by subst etp_2; first | rfl | (unfold putW; rw [if_neg c_9]; done) | (unfold putT; rw [if_neg c_9]; done) | (simp only [putW, putT, if_neg c_9]; done) | (simp only [putW, putT, c_9, if_true, if_false]; done) | (simp only [putW, putT, c_9, if_true, if_false, not_true, not_false_iff, reduceIte]; done) | (exfalso; simp_all; done) | (simp [putW, putT, c_9]; done) | (simp_all [putW, putT]; done)
    exact hE _ _ _ _ _ hH (((congrArg (fun zz => (pwW P b A1 A2 cI cB zz im tp_2 t ap r1 r2)) hf_tw).trans (congrArg (fun zz => (pwW P b A1 A2 cI cB (putW tw) im zz t ap r1 r2)) hf_tp))) dX5_putWord_32

def rm_X5_feed : Room := { frames := 1, cells := 0, slots := 0, locals := 21 }
set_option maxHeartbeats 1000000 in
set_option maxRecDepth 100000 in
theorem c_X5_feed (l : Launch) (D : va_G) (cI cB : ClassId) (P : Nat → Nat) (b : Nat) (A1 : Nat → Nat) (A2 : Nat → Nat) (tw : Int32) (im : Nat → Option Nat) (tp : Nat → Int32) (t : Int32) (ap : Int32) (r1 : Tb) (r2 : Tb) (a1 a2 a3 a4 a5 : Int32) (h0 : ¬ tw < 0) : CI l D cI cB yX5_feed wsX5_feed rm_X5_feed [.ref (P 0), .int a1, .int a2, .int a3, .int a4, .int a5] (pwW P b A1 A2 cI cB tw im tp t ap r1 r2) (pwW P b A1 A2 cI cB (feedW tw) im (feedT tw tp a1 a2 a3 a4 a5) t ap r1 r2) (if tw ≤ 500 - 5 then feedW tw * 4 else -1) := by
  refine CI.of (cc := cX5_feed) (maxL := 6) (ty := .int) (by decide +kernel) rfl (Nat.le_of_ble_eq_true rfl) ?_
  intro p e s m args below meth c ls A0 Q hT hH hA hl hE
  obtain ⟨hx, hb, hr, hlocks, hnm, hml, hown, hts, hK, hN⟩ := hT
  have hl : lv_has ls 6 [(0, .ref (P 0)), (1, .int a1), (2, .int a2), (3, .int a3), (4, .int a4), (5, .int a5)] := hl
  have hi5 : ∀ w ∈ wsX50, w ∈ wsX5_feed := by decide +kernel
  refine lv_aload_n hx hb dX5_feed_0 rfl (lv_at hl 0 rfl) ?_
  refine x_get (v := .int tw) (C := RX5) (T := TX5) (N := 4) hx hb hts hi5 hown hK hH.1 0 rfl rfl 3 (by decide) (hts (.fieldLink RX5 53 "PulseWheel" "tapeWords" "I") (by decide +kernel)) rfl rfl dX5_feed_1 ?_
  refine lv_aload_n hx hb dX5_feed_4 rfl (lv_at hl 0 rfl) ?_
  refine x_get (v := .ref (P 2)) (C := RX5) (T := TX5) (N := 4) hx hb hts hi5 hown hK hH.1 0 rfl rfl 2 (by decide) (hts (.fieldLink RX5 20 "PulseWheel" "tape" "[I") (by decide +kernel)) rfl rfl dX5_feed_5 ?_
  refine x_alen (v := 500) hx hb hK hH.1 2 rfl rfl dX5_feed_8 ?_
  refine lv_iconst (v := 5) hx hb dX5_feed_9 (by decide) ?_
  refine lv_isub hx hb dX5_feed_10 ?_
  refine lv_icmp_le (tgt := 16) hx hb dX5_feed_11 (by decide) (fun c_11 => ?_) (fun c_11 => ?_)
  · skip
    refine lv_aload_n hx hb dX5_feed_16 rfl (lv_at hl 0 rfl) ?_
    refine lv_iload_n hx hb dX5_feed_17 rfl (lv_at hl 1 rfl) ?_
    obtain ⟨tw_1, etw_1⟩ : ∃ z, z = putW tw := ⟨_, rfl⟩
    obtain ⟨tp_2, etp_2⟩ : ∃ z, z = putT tw tp a1 := ⟨_, rfl⟩
    refine kCV (ws' := (pwW P b A1 A2 cI cB tw_1 im tp_2 t ap r1 r2)) (va_runV (As := [.int a1]) (rest := []) ⟨hx, hb, hml, hown, hts⟩ (c_X5_putWord l D cI cB P b A1 A2 tw im tp t ap r1 r2 a1 (by exact h0) _) (cwV 1 hts gX5_feed_X5_putWord rfl rfl rfl (by decide +kernel) ⟨Nat.le_of_ble_eq_true rfl, Nat.le_of_ble_eq_true rfl⟩) (preV_cut hH.1 hH.2.1 hK hN (ci := 5) rfl 0 rfl [0, 1, 2, 3, 4, 5, 6, 7, 8, 9, 10, 11, 12, 13, 14, 15, 16, 17, 18, 19, 20, 21] (by decide) rfl) rfl rfl hl.1 rfl (lv_room (Nat.le_of_ble_eq_true rfl)) dX5_feed_18 ⟨Nat.zero_le _, Nat.zero_le _⟩) hH hA [0, 1, 2, 3, 4, 5, 6, 7, 8, 9, 10, 11, 12, 13, 14, 15, 16, 17, 18, 19, 20, 21] rfl adr_pw (by rw [etw_1, etp_2]; exact putL_pw_pw) (fun H locs hH => ?_)
    refine lv_aload_n hx hb dX5_feed_21 rfl (lv_at hl 0 rfl) ?_
    refine lv_iload_n hx hb dX5_feed_22 rfl (lv_at hl 2 rfl) ?_
    obtain ⟨tw_3, etw_3⟩ : ∃ z, z = putW tw_1 := ⟨_, rfl⟩
    obtain ⟨tp_4, etp_4⟩ : ∃ z, z = putT tw_1 tp_2 a2 := ⟨_, rfl⟩
    refine kCV (ws' := (pwW P b A1 A2 cI cB tw_3 im tp_4 t ap r1 r2)) (va_runV (As := [.int a2]) (rest := []) ⟨hx, hb, hml, hown, hts⟩ (c_X5_putWord l D cI cB P b A1 A2 tw_1 im tp_2 t ap r1 r2 a2 (by subst etw_1; exact putW_nn (h0)) _) (cwV 1 hts gX5_feed_X5_putWord rfl rfl rfl (by decide +kernel) ⟨Nat.le_of_ble_eq_true rfl, Nat.le_of_ble_eq_true rfl⟩) (preV_cut hH.1 hH.2.1 hK hN (ci := 5) rfl 0 rfl [0, 1, 2, 3, 4, 5, 6, 7, 8, 9, 10, 11, 12, 13, 14, 15, 16, 17, 18, 19, 20, 21] (by decide) rfl) rfl rfl hl.1 rfl (lv_room (Nat.le_of_ble_eq_true rfl)) dX5_feed_23 ⟨Nat.zero_le _, Nat.zero_le _⟩) hH hA [0, 1, 2, 3, 4, 5, 6, 7, 8, 9, 10, 11, 12, 13, 14, 15, 16, 17, 18, 19, 20, 21] rfl adr_pw (by rw [etw_3, etp_4]; exact putL_pw_pw) (fun H locs hH => ?_)
    refine lv_aload_n hx hb dX5_feed_26 rfl (lv_at hl 0 rfl) ?_
    refine lv_iload_n hx hb dX5_feed_27 rfl (lv_at hl 3 rfl) ?_
    obtain ⟨tw_5, etw_5⟩ : ∃ z, z = putW tw_3 := ⟨_, rfl⟩
    obtain ⟨tp_6, etp_6⟩ : ∃ z, z = putT tw_3 tp_4 a3 := ⟨_, rfl⟩
    refine kCV (ws' := (pwW P b A1 A2 cI cB tw_5 im tp_6 t ap r1 r2)) (va_runV (As := [.int a3]) (rest := []) ⟨hx, hb, hml, hown, hts⟩ (c_X5_putWord l D cI cB P b A1 A2 tw_3 im tp_4 t ap r1 r2 a3 (by subst etw_3; subst etw_1; exact putW_nn (putW_nn (h0))) _) (cwV 1 hts gX5_feed_X5_putWord rfl rfl rfl (by decide +kernel) ⟨Nat.le_of_ble_eq_true rfl, Nat.le_of_ble_eq_true rfl⟩) (preV_cut hH.1 hH.2.1 hK hN (ci := 5) rfl 0 rfl [0, 1, 2, 3, 4, 5, 6, 7, 8, 9, 10, 11, 12, 13, 14, 15, 16, 17, 18, 19, 20, 21] (by decide) rfl) rfl rfl hl.1 rfl (lv_room (Nat.le_of_ble_eq_true rfl)) dX5_feed_28 ⟨Nat.zero_le _, Nat.zero_le _⟩) hH hA [0, 1, 2, 3, 4, 5, 6, 7, 8, 9, 10, 11, 12, 13, 14, 15, 16, 17, 18, 19, 20, 21] rfl adr_pw (by rw [etw_5, etp_6]; exact putL_pw_pw) (fun H locs hH => ?_)
    refine lv_aload_n hx hb dX5_feed_31 rfl (lv_at hl 0 rfl) ?_
    refine lv_iload hx hb dX5_feed_32 (lv_at hl 4 rfl) ?_
    obtain ⟨tw_7, etw_7⟩ : ∃ z, z = putW tw_5 := ⟨_, rfl⟩
    obtain ⟨tp_8, etp_8⟩ : ∃ z, z = putT tw_5 tp_6 a4 := ⟨_, rfl⟩
    refine kCV (ws' := (pwW P b A1 A2 cI cB tw_7 im tp_8 t ap r1 r2)) (va_runV (As := [.int a4]) (rest := []) ⟨hx, hb, hml, hown, hts⟩ (c_X5_putWord l D cI cB P b A1 A2 tw_5 im tp_6 t ap r1 r2 a4 (by subst etw_5; subst etw_3; subst etw_1; exact putW_nn (putW_nn (putW_nn (h0)))) _) (cwV 1 hts gX5_feed_X5_putWord rfl rfl rfl (by decide +kernel) ⟨Nat.le_of_ble_eq_true rfl, Nat.le_of_ble_eq_true rfl⟩) (preV_cut hH.1 hH.2.1 hK hN (ci := 5) rfl 0 rfl [0, 1, 2, 3, 4, 5, 6, 7, 8, 9, 10, 11, 12, 13, 14, 15, 16, 17, 18, 19, 20, 21] (by decide) rfl) rfl rfl hl.1 rfl (lv_room (Nat.le_of_ble_eq_true rfl)) dX5_feed_34 ⟨Nat.zero_le _, Nat.zero_le _⟩) hH hA [0, 1, 2, 3, 4, 5, 6, 7, 8, 9, 10, 11, 12, 13, 14, 15, 16, 17, 18, 19, 20, 21] rfl adr_pw (by rw [etw_7, etp_8]; exact putL_pw_pw) (fun H locs hH => ?_)
    refine lv_aload_n hx hb dX5_feed_37 rfl (lv_at hl 0 rfl) ?_
    refine lv_iload hx hb dX5_feed_38 (lv_at hl 5 rfl) ?_
    obtain ⟨tw_9, etw_9⟩ : ∃ z, z = putW tw_7 := ⟨_, rfl⟩
    obtain ⟨tp_10, etp_10⟩ : ∃ z, z = putT tw_7 tp_8 a5 := ⟨_, rfl⟩
    refine kCV (ws' := (pwW P b A1 A2 cI cB tw_9 im tp_10 t ap r1 r2)) (va_runV (As := [.int a5]) (rest := []) ⟨hx, hb, hml, hown, hts⟩ (c_X5_putWord l D cI cB P b A1 A2 tw_7 im tp_8 t ap r1 r2 a5 (by subst etw_7; subst etw_5; subst etw_3; subst etw_1; exact putW_nn (putW_nn (putW_nn (putW_nn (h0))))) _) (cwV 1 hts gX5_feed_X5_putWord rfl rfl rfl (by decide +kernel) ⟨Nat.le_of_ble_eq_true rfl, Nat.le_of_ble_eq_true rfl⟩) (preV_cut hH.1 hH.2.1 hK hN (ci := 5) rfl 0 rfl [0, 1, 2, 3, 4, 5, 6, 7, 8, 9, 10, 11, 12, 13, 14, 15, 16, 17, 18, 19, 20, 21] (by decide) rfl) rfl rfl hl.1 rfl (lv_room (Nat.le_of_ble_eq_true rfl)) dX5_feed_40 ⟨Nat.zero_le _, Nat.zero_le _⟩) hH hA [0, 1, 2, 3, 4, 5, 6, 7, 8, 9, 10, 11, 12, 13, 14, 15, 16, 17, 18, 19, 20, 21] rfl adr_pw (by rw [etw_9, etp_10]; exact putL_pw_pw) (fun H locs hH => ?_)
    refine lv_aload_n hx hb dX5_feed_43 rfl (lv_at hl 0 rfl) ?_
    refine kSI (va_runV (As := []) (rest := []) ⟨hx, hb, hml, hown, hts⟩ (c_X5_tapeBytes l D cI cB P b A1 A2 tw_9 im tp_10 t ap r1 r2  _) (cwV 0 hts gX5_feed_X5_tapeBytes rfl rfl rfl (by decide +kernel) ⟨Nat.le_of_ble_eq_true rfl, Nat.le_of_ble_eq_true rfl⟩) (preV_cut hH.1 hH.2.1 hK hN (ci := 5) rfl 0 rfl [0, 1, 2, 3, 4, 5, 6, 7, 8, 9, 10, 11, 12, 13, 14, 15, 16, 17, 18, 19, 20, 21] (by decide) rfl) rfl rfl hl.1 rfl (lv_room (Nat.le_of_ble_eq_true rfl)) dX5_feed_44 ⟨Nat.zero_le _, Nat.zero_le _⟩) ?_
    have hf_tw : tw_9 = feedW tw := by subst etp_10; subst etw_9; subst etp_8; subst etw_7; subst etp_6; subst etw_5; subst etp_4; subst etw_3; subst etp_2; subst etw_1; first | (unfold feedW; rw [if_pos c_11]; done) | (unfold feedT; rw [if_pos c_11]; done)
    have hf_tp : tp_10 = feedT tw tp a1 a2 a3 a4 a5 := by subst etp_10; subst etw_9; subst etp_8; subst etw_7; subst etp_6; subst etw_5; subst etp_4; subst etw_3; subst etp_2; subst etw_1; first | (unfold feedW; rw [if_pos c_11]; done) | (unfold feedT; rw [if_pos c_11]; done)
    exact hE _ _ _ _ _ _ hH (((congrArg (fun zz => (pwW P b A1 A2 cI cB zz im tp_10 t ap r1 r2)) hf_tw).trans (congrArg (fun zz => (pwW P b A1 A2 cI cB (feedW tw) im zz t ap r1 r2)) hf_tp))) (by subst etp_10; subst etw_9; subst etp_8; subst etw_7; subst etp_6; subst etw_5; subst etp_4; subst etw_3; subst etp_2; subst etw_1; first | (rw [if_pos c_11]; done) | (unfold feedW; simp only [if_pos c_11]; done)) rfl dX5_feed_47
  · skip
    refine lv_iconst (v := -1) hx hb dX5_feed_14 (by decide) ?_
    have hf_tw : tw = feedW tw := by first | (unfold feedW; rw [if_neg c_11]; done) | (unfold feedT; rw [if_neg c_11]; done)
    have hf_tp : tp = feedT tw tp a1 a2 a3 a4 a5 := by first | (unfold feedW; rw [if_neg c_11]; done) | (unfold feedT; rw [if_neg c_11]; done)
    exact hE _ _ _ _ _ _ hH (((congrArg (fun zz => (pwW P b A1 A2 cI cB zz im tp t ap r1 r2)) hf_tw).trans (congrArg (fun zz => (pwW P b A1 A2 cI cB (feedW tw) im zz t ap r1 r2)) hf_tp))) (by first | (rw [if_neg c_11]; done) | (unfold feedW; simp only [if_neg c_11]; done)) rfl dX5_feed_15

def rm_X5_tapeByte : Room := { frames := 0, cells := 0, slots := 0, locals := 0 }
set_option maxHeartbeats 1000000 in
set_option maxRecDepth 100000 in
theorem c_X5_tapeByte (l : Launch) (D : va_G) (cI cB : ClassId) (P : Nat → Nat) (b : Nat) (A1 : Nat → Nat) (A2 : Nat → Nat) (tw : Int32) (im : Nat → Option Nat) (tp : Nat → Int32) (t : Int32) (ap : Int32) (r1 : Tb) (r2 : Tb) (k : Int32) (h5 : tw ≤ 500) : SI l D cI cB yX5_tapeByte wsX5_tapeByte rm_X5_tapeByte [.ref (P 0), .int k] (pwW P b A1 A2 cI cB tw im tp t ap r1 r2) (byteV tw tp k) := by
  refine SI.of (cc := cX5_tapeByte) (maxL := 4) (ty := .int) (by decide +kernel) rfl (Nat.le_of_ble_eq_true rfl) ?_
  intro p e s m args below meth c ls Q hT hP hD hl hE
  obtain ⟨hx, hb, hr, hlocks, hnm, hml, hown, hts, hK, hN⟩ := hT
  have hl : lv_has ls 4 [(0, .ref (P 0)), (1, .int k)] := hl
  have hi5 : ∀ w ∈ wsX50, w ∈ wsX5_tapeByte := by decide +kernel
  refine lv_iload_n hx hb dX5_tapeByte_0 rfl (lv_at hl 1 rfl) ?_
  refine lv_iconst (v := 4) hx hb dX5_tapeByte_1 (by decide) ?_
  refine lv_idiv hx hb dX5_tapeByte_2 (by decide) ?_
  refine lv_istore_n (lv' := [(2, .int (k / 4)), (0, .ref (P 0)), (1, .int k)]) hx hb dX5_tapeByte_3 rfl hl (by decide) rfl (fun ls hl => ?_)
  refine lv_iload_n hx hb dX5_tapeByte_4 rfl (lv_at hl 2 rfl) ?_
  refine lv_if_lt (tgt := 16) hx hb dX5_tapeByte_5 (by decide) (fun c_5 => ?_) (fun c_5 => ?_)
  · skip
    refine lv_sipush (v := 192) hx hb dX5_tapeByte_16 (by decide) ?_
    exact hE _ _ _ (by first | rfl | (unfold byteV  rem32; rw [if_pos c_5]; done) | (simp only [byteV, rem32, if_pos c_5]; done) | (simp only [byteV, rem32, c_5, if_true, if_false]; done) | (simp only [byteV, rem32, c_5, if_true, if_false, not_true, not_false_iff, reduceIte]; done) | (exfalso; simp_all; done) | (simp [byteV, rem32, c_5]; done) | (simp_all [byteV, rem32]; done)) rfl dX5_tapeByte_19
  · skip
    refine lv_iload_n hx hb dX5_tapeByte_8 rfl (lv_at hl 0 rfl) ?_
    refine lv_aload_n hx hb dX5_tapeByte_9 rfl (lv_at hl 1 rfl) ?_
    refine x_get (v := .int tw) (C := RX5) (T := TX5) (N := 4) hx hb hts hi5 hown hK hP 0 rfl rfl 3 (by decide) (hts (.fieldLink RX5 53 "PulseWheel" "tapeWords" "I") (by decide +kernel)) rfl rfl dX5_tapeByte_10 ?_
    refine lv_icmp_lt (tgt := 20) hx hb dX5_tapeByte_13 (by decide) (fun c_13 => ?_) (fun c_13 => ?_)
    · skip
      refine lv_iconst (v := 3) hx hb dX5_tapeByte_20 (by decide) ?_
      refine lv_iload_n hx hb dX5_tapeByte_21 rfl (lv_at hl 2 rfl) ?_
      refine lv_iconst (v := 4) hx hb dX5_tapeByte_22 (by decide) ?_
      refine lv_irem hx hb dX5_tapeByte_23 (by decide) ?_
      refine lv_isub hx hb dX5_tapeByte_24 ?_
      refine lv_istore_n (lv' := [(3, .int (3 - (k - k / 4 * 4))), (2, .int (k / 4)), (0, .ref (P 0)), (1, .int k)]) hx hb dX5_tapeByte_25 rfl hl (by decide) rfl (fun ls hl => ?_)
      refine lv_aload_n hx hb dX5_tapeByte_26 rfl (lv_at hl 2 rfl) ?_
      refine x_get (v := .ref (P 2)) (C := RX5) (T := TX5) (N := 4) hx hb hts hi5 hown hK hP 0 rfl rfl 2 (by decide) (hts (.fieldLink RX5 20 "PulseWheel" "tape" "[I") (by decide +kernel)) rfl rfl dX5_tapeByte_27 ?_
      refine lv_iload_n hx hb dX5_tapeByte_30 rfl (lv_at hl 1 rfl) ?_
      have hq_1 := ix_in (i := (k / 4)) (n := 500) ((k / 4).toNatClampNeg) ((byte_ix c_5 c_13 h5).1) ((byte_ix c_5 c_13 h5).2) (by decide)
      refine x_ild (v := tp ((k / 4).toNatClampNeg)) hx hb hK hP 2 rfl hq_1.1 (by rw [hq_1.2]) dX5_tapeByte_31 ?_
      refine lv_bipush (v := 8) hx hb dX5_tapeByte_32 (by decide) ?_
      refine lv_iload_n hx hb dX5_tapeByte_34 rfl (lv_at hl 0 rfl) ?_
      refine lv_imul hx hb dX5_tapeByte_35 ?_
      refine lv_iushr hx hb dX5_tapeByte_36 rfl ?_
      refine lv_sipush (v := 255) hx hb dX5_tapeByte_37 (by decide) ?_
      refine lv_iand hx hb dX5_tapeByte_40 ?_
      exact hE _ _ _ (by first | rfl | (unfold byteV  rem32; rw [if_neg c_5, if_pos c_13]; done) | (simp only [byteV, rem32, if_neg c_5, if_pos c_13]; done) | (simp only [byteV, rem32, c_5, c_13, if_true, if_false]; done) | (simp only [byteV, rem32, c_5, c_13, if_true, if_false, not_true, not_false_iff, reduceIte]; done) | (exfalso; simp_all; done) | (simp [byteV, rem32, c_5, c_13]; done) | (simp_all [byteV, rem32]; done)) rfl dX5_tapeByte_41
    · skip
      refine lv_sipush (v := 192) hx hb dX5_tapeByte_16 (by decide) ?_
      exact hE _ _ _ (by first | rfl | (unfold byteV  rem32; rw [if_neg c_5, if_neg c_13]; done) | (simp only [byteV, rem32, if_neg c_5, if_neg c_13]; done) | (simp only [byteV, rem32, c_5, c_13, if_true, if_false]; done) | (simp only [byteV, rem32, c_5, c_13, if_true, if_false, not_true, not_false_iff, reduceIte]; done) | (exfalso; simp_all; done) | (simp [byteV, rem32, c_5, c_13]; done) | (simp_all [byteV, rem32]; done)) rfl dX5_tapeByte_19

def rm_X5_tick : Room := { frames := 6, cells := 0, slots := 0, locals := 137 }
set_option maxHeartbeats 1000000 in
set_option maxRecDepth 100000 in
theorem c_X5_tick (l : Launch) (D : va_G) (cI cB : ClassId) (P : Nat → Nat) (b : Nat) (A1 : Nat → Nat) (A2 : Nat → Nat) (tw : Int32) (im : Nat → Option Nat) (tp : Nat → Int32) (t : Int32) (ap : Int32) (r1 : Tb) (r2 : Tb) (n f g : Int32) (h51 : ¬ r1 0 5 = 0) (h52 : ¬ r2 0 5 = 0) : CI l D cI cB yX5_tick wsX5_tick rm_X5_tick [.ref (P 0), .int n, .int f, .int g] (pwW P b A1 A2 cI cB tw im tp t ap r1 r2) (pwW P b A1 A2 cI cB tw im tp ((tickB n f g (t, ap, r1, r2)).1) ((tickB n f g (t, ap, r1, r2)).2.1) ((tickB n f g (t, ap, r1, r2)).2.2.1) ((tickB n f g (t, ap, r1, r2)).2.2.2)) (tickV n f g t) := by
  refine CI.of (cc := cX5_tick) (maxL := 5) (ty := .int) (by decide +kernel) rfl (Nat.le_of_ble_eq_true rfl) ?_
  intro p e s m args below meth c ls A0 Q hT hH hA hl hE
  obtain ⟨hx, hb, hr, hlocks, hnm, hml, hown, hts, hK, hN⟩ := hT
  have hl : lv_has ls 5 [(0, .ref (P 0)), (1, .int n), (2, .int f), (3, .int g)] := hl
  have hi0 : ∀ w ∈ wsX00, w ∈ wsX5_tick := by decide +kernel
  have hi5 : ∀ w ∈ wsX50, w ∈ wsX5_tick := by decide +kernel
  refine lv_iload_n hx hb dX5_tick_0 rfl (lv_at hl 1 rfl) ?_
  refine lv_if_lt (tgt := 25) hx hb dX5_tick_1 (by decide) (fun c_1 => ?_) (fun c_1 => ?_)
  · skip
    refine lv_iconst (v := -1) hx hb dX5_tick_25 (by decide) ?_
    have hf_t : t = (tickB n f g (t, ap, r1, r2)).1 := by first | (unfold tickB; rw [if_pos c_1]; done)
    have hf_ap : ap = (tickB n f g (t, ap, r1, r2)).2.1 := by first | (unfold tickB; rw [if_pos c_1]; done)
    have hf_r1 : r1 = (tickB n f g (t, ap, r1, r2)).2.2.1 := by first | (unfold tickB; rw [if_pos c_1]; done)
    have hf_r2 : r2 = (tickB n f g (t, ap, r1, r2)).2.2.2 := by first | (unfold tickB; rw [if_pos c_1]; done)
    exact hE _ _ _ _ _ _ hH (((congrArg (fun zz => (pwW P b A1 A2 cI cB tw im tp zz ap r1 r2)) hf_t).trans ((congrArg (fun zz => (pwW P b A1 A2 cI cB tw im tp ((tickB n f g (t, ap, r1, r2)).1) zz r1 r2)) hf_ap).trans ((congrArg (fun zz => (pwW P b A1 A2 cI cB tw im tp ((tickB n f g (t, ap, r1, r2)).1) ((tickB n f g (t, ap, r1, r2)).2.1) zz r2)) hf_r1).trans (congrArg (fun zz => (pwW P b A1 A2 cI cB tw im tp ((tickB n f g (t, ap, r1, r2)).1) ((tickB n f g (t, ap, r1, r2)).2.1) ((tickB n f g (t, ap, r1, r2)).2.2.1) zz)) hf_r2))))) (by first | (unfold tickV; rw [if_pos c_1]; done)) rfl dX5_tick_26
  · skip
    refine lv_iload_n hx hb dX5_tick_4 rfl (lv_at hl 1 rfl) ?_
    refine lv_sipush (v := 2000) hx hb dX5_tick_5 (by decide) ?_
    refine lv_icmp_gt (tgt := 25) hx hb dX5_tick_8 (by decide) (fun c_8 => ?_) (fun c_8 => ?_)
    · skip
      refine lv_iconst (v := -1) hx hb dX5_tick_25 (by decide) ?_
      have hf_t : t = (tickB n f g (t, ap, r1, r2)).1 := by first | (unfold tickB; rw [if_neg c_1, if_pos c_8]; done)
      have hf_ap : ap = (tickB n f g (t, ap, r1, r2)).2.1 := by first | (unfold tickB; rw [if_neg c_1, if_pos c_8]; done)
      have hf_r1 : r1 = (tickB n f g (t, ap, r1, r2)).2.2.1 := by first | (unfold tickB; rw [if_neg c_1, if_pos c_8]; done)
      have hf_r2 : r2 = (tickB n f g (t, ap, r1, r2)).2.2.2 := by first | (unfold tickB; rw [if_neg c_1, if_pos c_8]; done)
      exact hE _ _ _ _ _ _ hH (((congrArg (fun zz => (pwW P b A1 A2 cI cB tw im tp zz ap r1 r2)) hf_t).trans ((congrArg (fun zz => (pwW P b A1 A2 cI cB tw im tp ((tickB n f g (t, ap, r1, r2)).1) zz r1 r2)) hf_ap).trans ((congrArg (fun zz => (pwW P b A1 A2 cI cB tw im tp ((tickB n f g (t, ap, r1, r2)).1) ((tickB n f g (t, ap, r1, r2)).2.1) zz r2)) hf_r1).trans (congrArg (fun zz => (pwW P b A1 A2 cI cB tw im tp ((tickB n f g (t, ap, r1, r2)).1) ((tickB n f g (t, ap, r1, r2)).2.1) ((tickB n f g (t, ap, r1, r2)).2.2.1) zz)) hf_r2))))) (by first | (unfold tickV; rw [if_neg c_1, if_pos c_8]; done)) rfl dX5_tick_26
    · skip
      refine lv_iload_n hx hb dX5_tick_11 rfl (lv_at hl 1 rfl) ?_
      refine lv_ldc (v := 1000000) hx hb hown (hts (.constant RX5 44 (1000000)) (by decide +kernel)) dX5_tick_12 ?_
      refine lv_aload_n hx hb dX5_tick_14 rfl (lv_at hl 0 rfl) ?_
      refine x_get (v := .ref b) (C := RX5) (T := TX5) (N := 4) hx hb hts hi5 hown hK hH.1 0 rfl rfl 0 (by decide) (hts (.fieldLink RX5 10 "PulseWheel" "bench" "LPulseWheel$Bench;") (by decide +kernel)) rfl rfl dX5_tick_15 ?_
      refine x_getN (v := .int t) (C := RX0) (T := TX0) (N := 4) hx hb hts hi0 hown hK hH.1 3 rfl rfl 2 (by decide) (nwf5_34 (args := args) hN) rfl rfl dX5_tick_18 ?_
      refine lv_isub hx hb dX5_tick_21 ?_
      refine lv_icmp_le (tgt := 27) hx hb dX5_tick_22 (by decide) (fun c_22 => ?_) (fun c_22 => ?_)
      · skip
        refine lv_iload_n hx hb dX5_tick_27 rfl (lv_at hl 2 rfl) ?_
        refine kSI (va_runS (As := [.int f]) (rest := []) ⟨hx, hb, hml, hown, hts⟩ (c_X5_areLineBits l D cI cB f  _) (va_cwS 1 hts gX5_tick_X5_areLineBits rfl rfl rfl (by decide +kernel) ⟨Nat.le_of_ble_eq_true rfl, Nat.le_of_ble_eq_true rfl⟩) (preS_nil hK hN) rfl rfl hl.1 rfl (lv_room (Nat.le_of_ble_eq_true rfl)) dX5_tick_28 ⟨Nat.zero_le _, Nat.zero_le _⟩) ?_
        refine lv_if_eq (tgt := 41) hx hb dX5_tick_31 (by decide) (fun c_31 => ?_) (fun c_31 => ?_)
        · skip
          refine lv_iconst (v := -1) hx hb dX5_tick_41 (by decide) ?_
          have hf_t : t = (tickB n f g (t, ap, r1, r2)).1 := by first | (unfold tickB; rw [if_neg c_1, if_neg c_8, if_pos c_22, if_pos c_31]; done)
          have hf_ap : ap = (tickB n f g (t, ap, r1, r2)).2.1 := by first | (unfold tickB; rw [if_neg c_1, if_neg c_8, if_pos c_22, if_pos c_31]; done)
          have hf_r1 : r1 = (tickB n f g (t, ap, r1, r2)).2.2.1 := by first | (unfold tickB; rw [if_neg c_1, if_neg c_8, if_pos c_22, if_pos c_31]; done)
          have hf_r2 : r2 = (tickB n f g (t, ap, r1, r2)).2.2.2 := by first | (unfold tickB; rw [if_neg c_1, if_neg c_8, if_pos c_22, if_pos c_31]; done)
          exact hE _ _ _ _ _ _ hH (((congrArg (fun zz => (pwW P b A1 A2 cI cB tw im tp zz ap r1 r2)) hf_t).trans ((congrArg (fun zz => (pwW P b A1 A2 cI cB tw im tp ((tickB n f g (t, ap, r1, r2)).1) zz r1 r2)) hf_ap).trans ((congrArg (fun zz => (pwW P b A1 A2 cI cB tw im tp ((tickB n f g (t, ap, r1, r2)).1) ((tickB n f g (t, ap, r1, r2)).2.1) zz r2)) hf_r1).trans (congrArg (fun zz => (pwW P b A1 A2 cI cB tw im tp ((tickB n f g (t, ap, r1, r2)).1) ((tickB n f g (t, ap, r1, r2)).2.1) ((tickB n f g (t, ap, r1, r2)).2.2.1) zz)) hf_r2))))) (by first | (unfold tickV; rw [if_neg c_1, if_neg c_8, if_pos c_22, if_pos c_31]; done)) rfl dX5_tick_42
        · skip
          refine lv_iload_n hx hb dX5_tick_34 rfl (lv_at hl 3 rfl) ?_
          refine kSI (va_runS (As := [.int g]) (rest := []) ⟨hx, hb, hml, hown, hts⟩ (c_X5_areLineBits l D cI cB g  _) (va_cwS 1 hts gX5_tick_X5_areLineBits rfl rfl rfl (by decide +kernel) ⟨Nat.le_of_ble_eq_true rfl, Nat.le_of_ble_eq_true rfl⟩) (preS_nil hK hN) rfl rfl hl.1 rfl (lv_room (Nat.le_of_ble_eq_true rfl)) dX5_tick_35 ⟨Nat.zero_le _, Nat.zero_le _⟩) ?_
          refine lv_if_ne (tgt := 43) hx hb dX5_tick_38 (by decide) (fun c_38 => ?_) (fun c_38 => ?_)
          · skip
            refine lv_iconst (v := 0) hx hb dX5_tick_43 (by decide) ?_
            refine lv_istore (lv' := [(4, .int 0), (0, .ref (P 0)), (1, .int n), (2, .int f), (3, .int g)]) hx hb dX5_tick_44 hl (by decide) rfl (fun ls hl => ?_)
            obtain ⟨N, hN2, eN⟩ := nI_of c_1
            have lp : ∀ (fuel : Nat) (i : Nat) (t' : Int32) (ap' : Int32) (r1' : Tb) (r2' : Tb), (i ≤ N) → (N < i + fuel) → ((t', ap', r1', r2') = stepsB (t, ap, r1, r2) f g i) → (¬ r1' 0 5 = 0) → (¬ r2' 0 5 = 0) → ∀ (H : Heap) (locs : List Loc) (ls : Array Slot), Hd D A0 s (pwW P b A1 A2 cI cB tw im tp t' ap' r1' r2') H locs → lv_has ls 5 [(0, .ref (P 0)), (1, .int n), (2, .int f), (3, .int g), (4, .int (nI i))] → W p l e rm_X5_tick s m args below meth c H locs 0 0 Q (F0 m 46 ls []) := by
              intro fuel
              induction fuel with
              | zero => intro i t' ap' r1' r2' hi hm hbs k51 k52 H locs ls hH hl; exact absurd hm (by omega)
              | succ fuel ih =>
                intro i t' ap' r1' r2' hi hm hbs k51 k52 H locs ls hH hl
                refine lv_iload hx hb dX5_tick_46 (lv_at hl 4 rfl) ?_
                refine lv_iload_n hx hb dX5_tick_48 rfl (lv_at hl 1 rfl) ?_
                refine lv_icmp_ge (tgt := 67) hx hb dX5_tick_49 (by decide) (fun c_49 => ?_) (fun c_49 => ?_)
                · skip
                  refine lv_iload_n hx hb dX5_tick_67 rfl (lv_at hl 1 rfl) ?_
                  have hf_t : t' = (tickB n f g (t, ap, r1, r2)).1 := by have h7 : i = N := le_exit hi hN2 (eN ▸ c_49); unfold tickB; rw [if_neg c_1, if_neg c_8, if_pos c_22, if_neg c_31, if_neg c_38, eN, nI_clamp hN2, ← h7, ← hbs]
                  have hf_ap : ap' = (tickB n f g (t, ap, r1, r2)).2.1 := by have h7 : i = N := le_exit hi hN2 (eN ▸ c_49); unfold tickB; rw [if_neg c_1, if_neg c_8, if_pos c_22, if_neg c_31, if_neg c_38, eN, nI_clamp hN2, ← h7, ← hbs]
                  have hf_r1 : r1' = (tickB n f g (t, ap, r1, r2)).2.2.1 := by have h7 : i = N := le_exit hi hN2 (eN ▸ c_49); unfold tickB; rw [if_neg c_1, if_neg c_8, if_pos c_22, if_neg c_31, if_neg c_38, eN, nI_clamp hN2, ← h7, ← hbs]
                  have hf_r2 : r2' = (tickB n f g (t, ap, r1, r2)).2.2.2 := by have h7 : i = N := le_exit hi hN2 (eN ▸ c_49); unfold tickB; rw [if_neg c_1, if_neg c_8, if_pos c_22, if_neg c_31, if_neg c_38, eN, nI_clamp hN2, ← h7, ← hbs]
                  exact hE _ _ _ _ _ _ hH (((congrArg (fun zz => (pwW P b A1 A2 cI cB tw im tp zz ap' r1' r2')) hf_t).trans ((congrArg (fun zz => (pwW P b A1 A2 cI cB tw im tp ((tickB n f g (t, ap, r1, r2)).1) zz r1' r2')) hf_ap).trans ((congrArg (fun zz => (pwW P b A1 A2 cI cB tw im tp ((tickB n f g (t, ap, r1, r2)).1) ((tickB n f g (t, ap, r1, r2)).2.1) zz r2')) hf_r1).trans (congrArg (fun zz => (pwW P b A1 A2 cI cB tw im tp ((tickB n f g (t, ap, r1, r2)).1) ((tickB n f g (t, ap, r1, r2)).2.1) ((tickB n f g (t, ap, r1, r2)).2.2.1) zz)) hf_r2))))) (by unfold tickV; rw [if_neg c_1, if_neg c_8, if_pos c_22, if_neg c_31, if_neg c_38]) rfl dX5_tick_68
                · skip
                  refine lv_aload_n hx hb dX5_tick_52 rfl (lv_at hl 0 rfl) ?_
                  refine x_get (v := .ref b) (C := RX5) (T := TX5) (N := 4) hx hb hts hi5 hown hK hH.1 0 rfl rfl 0 (by decide) (hts (.fieldLink RX5 10 "PulseWheel" "bench" "LPulseWheel$Bench;") (by decide +kernel)) rfl rfl dX5_tick_53 ?_
                  refine lv_iload_n hx hb dX5_tick_56 rfl (lv_at hl 2 rfl) ?_
                  refine lv_iload_n hx hb dX5_tick_57 rfl (lv_at hl 3 rfl) ?_
                  obtain ⟨t_1, et_1⟩ : ∃ z, z = t' + 1 := ⟨_, rfl⟩
                  obtain ⟨ap_2, eap_2⟩ : ∃ z, z = apV (agreeV (takeV r1' f (t' + 1)) (takeV r2' g (t' + 1))) ap' (t' + 1) := ⟨_, rfl⟩
                  obtain ⟨r1_3, er1_3⟩ : ∃ z, z = takeV r1' f (t' + 1) := ⟨_, rfl⟩
                  obtain ⟨r2_4, er2_4⟩ : ∃ z, z = takeV r2' g (t' + 1) := ⟨_, rfl⟩
                  refine kCV (ws' := (pwW P b A1 A2 cI cB tw im tp t_1 ap_2 r1_3 r2_4)) (va_runVN (As := [.int f, .int g]) (rest := []) ⟨hx, hb, hml, hown, hts⟩ (c_X0_step l D cI cB b A1 A2 t' ap' r1' r2' f g k51 k52 _) ⟨va_cnB 2 hts gX5_tick_X0_step_n49 rfl rfl rfl (nwm5_49 (args := args) hN) (hts (.initialized RX0) (by decide +kernel)) (by decide +kernel) ⟨Nat.le_of_ble_eq_true rfl, Nat.le_of_ble_eq_true rfl⟩, hts (.instanceMethod yX0_step) (by decide +kernel), hts (.selects RX0 yX0_step yX0_step) (by decide +kernel)⟩ (preV_cut hH.1 hH.2.1 hK hN (ci := 0) rfl 3 rfl [3, 4, 5, 6, 7, 8, 9, 10, 11, 12, 13, 14, 15, 16, 17, 18, 19, 20, 21] (by decide) rfl) rfl rfl hl.1 rfl (lv_room (Nat.le_of_ble_eq_true rfl)) dX5_tick_58 ⟨Nat.zero_le _, Nat.zero_le _⟩) hH hA [3, 4, 5, 6, 7, 8, 9, 10, 11, 12, 13, 14, 15, 16, 17, 18, 19, 20, 21] rfl adr_bench (by rw [et_1, eap_2, er1_3, er2_4]; exact putL_pw_bench) (fun H locs hH => ?_)
                  refine lv_iinc (v := nI (i + 1)) (lv' := [(4, .int (nI (i + 1))), (0, .ref (P 0)), (1, .int n), (2, .int f), (3, .int g)]) hx hb dX5_tick_61 hl (k := 4) rfl (nI_1 i) (by decide) rfl (fun ls hl => ?_)
                  refine lv_goto (tgt := 46) hx hb dX5_tick_64 (by decide) ?_
                  exact ih (i + 1) t_1 ap_2 r1_3 r2_4 (by have h7 := lt_of_nI (n := N) (i := i) (by omega) (by rw [← eN]; exact c_49); omega) (by omega) (by subst er2_4; subst er1_3; subst eap_2; subst et_1; rw [stepsB_s, ← hbs]; rfl) (by rw [er1_3, takeV_ht _ _ _ 5 (Or.inr rfl)]; exact k51) (by rw [er2_4, takeV_ht _ _ _ 5 (Or.inr rfl)]; exact k52) H locs ls (hH) (lv_sub hl [1, 2, 3, 4, 0] rfl)
            exact lp (N + 1) 0 t ap r1 r2 (Nat.zero_le _) (by omega) (rfl) (h51) (h52) _ _ ls (hH) (lv_sub hl [1, 2, 3, 4, 0] rfl)
          · skip
            refine lv_iconst (v := -1) hx hb dX5_tick_41 (by decide) ?_
            have hf_t : t = (tickB n f g (t, ap, r1, r2)).1 := by first | (unfold tickB; rw [if_neg c_1, if_neg c_8, if_pos c_22, if_neg c_31, if_pos c_38]; done)
            have hf_ap : ap = (tickB n f g (t, ap, r1, r2)).2.1 := by first | (unfold tickB; rw [if_neg c_1, if_neg c_8, if_pos c_22, if_neg c_31, if_pos c_38]; done)
            have hf_r1 : r1 = (tickB n f g (t, ap, r1, r2)).2.2.1 := by first | (unfold tickB; rw [if_neg c_1, if_neg c_8, if_pos c_22, if_neg c_31, if_pos c_38]; done)
            have hf_r2 : r2 = (tickB n f g (t, ap, r1, r2)).2.2.2 := by first | (unfold tickB; rw [if_neg c_1, if_neg c_8, if_pos c_22, if_neg c_31, if_pos c_38]; done)
            exact hE _ _ _ _ _ _ hH (((congrArg (fun zz => (pwW P b A1 A2 cI cB tw im tp zz ap r1 r2)) hf_t).trans ((congrArg (fun zz => (pwW P b A1 A2 cI cB tw im tp ((tickB n f g (t, ap, r1, r2)).1) zz r1 r2)) hf_ap).trans ((congrArg (fun zz => (pwW P b A1 A2 cI cB tw im tp ((tickB n f g (t, ap, r1, r2)).1) ((tickB n f g (t, ap, r1, r2)).2.1) zz r2)) hf_r1).trans (congrArg (fun zz => (pwW P b A1 A2 cI cB tw im tp ((tickB n f g (t, ap, r1, r2)).1) ((tickB n f g (t, ap, r1, r2)).2.1) ((tickB n f g (t, ap, r1, r2)).2.2.1) zz)) hf_r2))))) (by first | (unfold tickV; rw [if_neg c_1, if_neg c_8, if_pos c_22, if_neg c_31, if_pos c_38]; done)) rfl dX5_tick_42
      · skip
        refine lv_iconst (v := -1) hx hb dX5_tick_25 (by decide) ?_
        have hf_t : t = (tickB n f g (t, ap, r1, r2)).1 := by first | (unfold tickB; rw [if_neg c_1, if_neg c_8, if_neg c_22]; done)
        have hf_ap : ap = (tickB n f g (t, ap, r1, r2)).2.1 := by first | (unfold tickB; rw [if_neg c_1, if_neg c_8, if_neg c_22]; done)
        have hf_r1 : r1 = (tickB n f g (t, ap, r1, r2)).2.2.1 := by first | (unfold tickB; rw [if_neg c_1, if_neg c_8, if_neg c_22]; done)
        have hf_r2 : r2 = (tickB n f g (t, ap, r1, r2)).2.2.2 := by first | (unfold tickB; rw [if_neg c_1, if_neg c_8, if_neg c_22]; done)
        exact hE _ _ _ _ _ _ hH (((congrArg (fun zz => (pwW P b A1 A2 cI cB tw im tp zz ap r1 r2)) hf_t).trans ((congrArg (fun zz => (pwW P b A1 A2 cI cB tw im tp ((tickB n f g (t, ap, r1, r2)).1) zz r1 r2)) hf_ap).trans ((congrArg (fun zz => (pwW P b A1 A2 cI cB tw im tp ((tickB n f g (t, ap, r1, r2)).1) ((tickB n f g (t, ap, r1, r2)).2.1) zz r2)) hf_r1).trans (congrArg (fun zz => (pwW P b A1 A2 cI cB tw im tp ((tickB n f g (t, ap, r1, r2)).1) ((tickB n f g (t, ap, r1, r2)).2.1) ((tickB n f g (t, ap, r1, r2)).2.2.1) zz)) hf_r2))))) (by first | (unfold tickV; rw [if_neg c_1, if_neg c_8, if_neg c_22]; done)) rfl dX5_tick_26

def rm_X5_play : Room := { frames := 6, cells := 0, slots := 0, locals := 137 }
set_option maxHeartbeats 1000000 in
set_option maxRecDepth 100000 in
theorem c_X5_play (l : Launch) (D : va_G) (cI cB : ClassId) (P : Nat → Nat) (b : Nat) (A1 : Nat → Nat) (A2 : Nat → Nat) (tw : Int32) (im : Nat → Option Nat) (tp : Nat → Int32) (t : Int32) (ap : Int32) (r1 : Tb) (r2 : Tb) (n : Int32) (h51 : ¬ r1 0 5 = 0) (h52 : ¬ r2 0 5 = 0) (h5 : tw ≤ 500) : CI l D cI cB yX5_play wsX5_play rm_X5_play [.ref (P 0), .int n] (pwW P b A1 A2 cI cB tw im tp t ap r1 r2) (pwW P b A1 A2 cI cB (playW tw n) im tp ((playB tw tp n (t, ap, r1, r2)).1) ((playB tw tp n (t, ap, r1, r2)).2.1) ((playB tw tp n (t, ap, r1, r2)).2.2.1) ((playB tw tp n (t, ap, r1, r2)).2.2.2)) (playV tw tp n (t, ap, r1, r2)) := by
  refine CI.of (cc := cX5_play) (maxL := 4) (ty := .int) (by decide +kernel) rfl (Nat.le_of_ble_eq_true rfl) ?_
  intro p e s m args below meth c ls A0 Q hT hH hA hl hE
  obtain ⟨hx, hb, hr, hlocks, hnm, hml, hown, hts, hK, hN⟩ := hT
  have hl : lv_has ls 4 [(0, .ref (P 0)), (1, .int n)] := hl
  have hi0 : ∀ w ∈ wsX00, w ∈ wsX5_play := by decide +kernel
  have hi5 : ∀ w ∈ wsX50, w ∈ wsX5_play := by decide +kernel
  refine lv_iload_n hx hb dX5_play_0 rfl (lv_at hl 1 rfl) ?_
  refine lv_if_lt (tgt := 12) hx hb dX5_play_1 (by decide) (fun c_1 => ?_) (fun c_1 => ?_)
  · skip
    refine lv_iconst (v := -1) hx hb dX5_play_12 (by decide) ?_
    have hf_tw : tw = playW tw n := by first | (unfold playW; rw [if_pos c_1]; done) | (unfold playB; rw [if_pos c_1]; done)
    have hf_t : t = (playB tw tp n (t, ap, r1, r2)).1 := by first | (unfold playW; rw [if_pos c_1]; done) | (unfold playB; rw [if_pos c_1]; done)
    have hf_ap : ap = (playB tw tp n (t, ap, r1, r2)).2.1 := by first | (unfold playW; rw [if_pos c_1]; done) | (unfold playB; rw [if_pos c_1]; done)
    have hf_r1 : r1 = (playB tw tp n (t, ap, r1, r2)).2.2.1 := by first | (unfold playW; rw [if_pos c_1]; done) | (unfold playB; rw [if_pos c_1]; done)
    have hf_r2 : r2 = (playB tw tp n (t, ap, r1, r2)).2.2.2 := by first | (unfold playW; rw [if_pos c_1]; done) | (unfold playB; rw [if_pos c_1]; done)
    exact hE _ _ _ _ _ _ hH (((congrArg (fun zz => (pwW P b A1 A2 cI cB zz im tp t ap r1 r2)) hf_tw).trans ((congrArg (fun zz => (pwW P b A1 A2 cI cB (playW tw n) im tp zz ap r1 r2)) hf_t).trans ((congrArg (fun zz => (pwW P b A1 A2 cI cB (playW tw n) im tp ((playB tw tp n (t, ap, r1, r2)).1) zz r1 r2)) hf_ap).trans ((congrArg (fun zz => (pwW P b A1 A2 cI cB (playW tw n) im tp ((playB tw tp n (t, ap, r1, r2)).1) ((playB tw tp n (t, ap, r1, r2)).2.1) zz r2)) hf_r1).trans (congrArg (fun zz => (pwW P b A1 A2 cI cB (playW tw n) im tp ((playB tw tp n (t, ap, r1, r2)).1) ((playB tw tp n (t, ap, r1, r2)).2.1) ((playB tw tp n (t, ap, r1, r2)).2.2.1) zz)) hf_r2)))))) (by unfold playV; rw [if_pos c_1]) rfl dX5_play_13
  · skip
    refine lv_iload_n hx hb dX5_play_4 rfl (lv_at hl 1 rfl) ?_
    refine lv_aload_n hx hb dX5_play_5 rfl (lv_at hl 0 rfl) ?_
    refine kSI (va_runV (As := []) (rest := [.int n]) ⟨hx, hb, hml, hown, hts⟩ (c_X5_tapeBytes l D cI cB P b A1 A2 tw im tp t ap r1 r2  _) (cwV 0 hts gX5_play_X5_tapeBytes rfl rfl rfl (by decide +kernel) ⟨Nat.le_of_ble_eq_true rfl, Nat.le_of_ble_eq_true rfl⟩) (preV_cut hH.1 hH.2.1 hK hN (ci := 5) rfl 0 rfl [0, 1, 2, 3, 4, 5, 6, 7, 8, 9, 10, 11, 12, 13, 14, 15, 16, 17, 18, 19, 20, 21] (by decide) rfl) rfl rfl hl.1 rfl (lv_room (Nat.le_of_ble_eq_true rfl)) dX5_play_6 ⟨Nat.zero_le _, Nat.zero_le _⟩) ?_
    refine lv_icmp_le (tgt := 14) hx hb dX5_play_9 (by decide) (fun c_9 => ?_) (fun c_9 => ?_)
    · skip
      refine lv_iconst (v := 0) hx hb dX5_play_14 (by decide) ?_
      refine lv_istore_n (lv' := [(2, .int 0), (0, .ref (P 0)), (1, .int n)]) hx hb dX5_play_15 rfl hl (by decide) rfl (fun ls hl => ?_)
      obtain ⟨N, hN2, eN⟩ := nI_of c_1
      have lp : ∀ (fuel : Nat) (k : Nat) (t' : Int32) (ap' : Int32) (r1' : Tb) (r2' : Tb), (k ≤ N) → (N < k + fuel) → (playF tw tp n fuel k (t', ap', r1', r2') = playF tw tp n (N + 1) 0 (t, ap, r1, r2)) → (¬ r1' 0 5 = 0) → (¬ r2' 0 5 = 0) → ∀ (H : Heap) (locs : List Loc) (ls : Array Slot), Hd D A0 s (pwW P b A1 A2 cI cB tw im tp t' ap' r1' r2') H locs → lv_has ls 4 [(0, .ref (P 0)), (1, .int n), (2, .int (nI k))] → W p l e rm_X5_play s m args below meth c H locs 0 0 Q (F0 m 16 ls []) := by
        intro fuel
        induction fuel with
        | zero => intro k t' ap' r1' r2' hi hm hbs k51 k52 H locs ls hH hl; exact absurd hm (by omega)
        | succ fuel ih =>
          intro k t' ap' r1' r2' hi hm hbs k51 k52 H locs ls hH hl
          refine lv_iload_n hx hb dX5_play_16 rfl (lv_at hl 2 rfl) ?_
          refine lv_iload_n hx hb dX5_play_17 rfl (lv_at hl 1 rfl) ?_
          refine lv_icmp_ge (tgt := 73) hx hb dX5_play_18 (by decide) (fun c_18 => ?_) (fun c_18 => ?_)
          · skip
            refine lv_aload_n hx hb dX5_play_73 rfl (lv_at hl 0 rfl) ?_
            refine lv_iconst (v := 0) hx hb dX5_play_74 (by decide) ?_
            refine x_put (ws' := (pwW P b A1 A2 cI cB 0 im tp t' ap' r1' r2')) (v := .int 0) (ty := .int) (C := RX5) (T := TX5) (N := 4) hx hb hts hi5 tyX5_ok nmX5 hown hK hH 0 rfl rfl 3 (by decide) (hts (.fieldLink RX5 53 "PulseWheel" "tapeWords" "I") (by decide +kernel)) rfl rfl rfl (rfl) (rfl) (Nat.le_of_ble_eq_true rfl) dX5_play_75 (rfl) (fun H locs hH => ?_)
            refine lv_iload_n hx hb dX5_play_78 rfl (lv_at hl 2 rfl) ?_
            have hf_tw : 0 = playW tw n := by first | (unfold playW; rw [if_neg c_1, if_pos c_9]; done) | (unfold playB; rw [playF_s, if_pos c_18] at hbs; rw [if_neg c_1, if_pos c_9, eN, nI_clamp hN2, ← eN, ← hbs]; done)
            have hf_t : t' = (playB tw tp n (t, ap, r1, r2)).1 := by first | (unfold playW; rw [if_neg c_1, if_pos c_9]; done) | (unfold playB; rw [playF_s, if_pos c_18] at hbs; rw [if_neg c_1, if_pos c_9, eN, nI_clamp hN2, ← eN, ← hbs]; done)
            have hf_ap : ap' = (playB tw tp n (t, ap, r1, r2)).2.1 := by first | (unfold playW; rw [if_neg c_1, if_pos c_9]; done) | (unfold playB; rw [playF_s, if_pos c_18] at hbs; rw [if_neg c_1, if_pos c_9, eN, nI_clamp hN2, ← eN, ← hbs]; done)
            have hf_r1 : r1' = (playB tw tp n (t, ap, r1, r2)).2.2.1 := by first | (unfold playW; rw [if_neg c_1, if_pos c_9]; done) | (unfold playB; rw [playF_s, if_pos c_18] at hbs; rw [if_neg c_1, if_pos c_9, eN, nI_clamp hN2, ← eN, ← hbs]; done)
            have hf_r2 : r2' = (playB tw tp n (t, ap, r1, r2)).2.2.2 := by first | (unfold playW; rw [if_neg c_1, if_pos c_9]; done) | (unfold playB; rw [playF_s, if_pos c_18] at hbs; rw [if_neg c_1, if_pos c_9, eN, nI_clamp hN2, ← eN, ← hbs]; done)
            exact hE _ _ _ _ _ _ hH (((congrArg (fun zz => (pwW P b A1 A2 cI cB zz im tp t' ap' r1' r2')) hf_tw).trans ((congrArg (fun zz => (pwW P b A1 A2 cI cB (playW tw n) im tp zz ap' r1' r2')) hf_t).trans ((congrArg (fun zz => (pwW P b A1 A2 cI cB (playW tw n) im tp ((playB tw tp n (t, ap, r1, r2)).1) zz r1' r2')) hf_ap).trans ((congrArg (fun zz => (pwW P b A1 A2 cI cB (playW tw n) im tp ((playB tw tp n (t, ap, r1, r2)).1) ((playB tw tp n (t, ap, r1, r2)).2.1) zz r2')) hf_r1).trans (congrArg (fun zz => (pwW P b A1 A2 cI cB (playW tw n) im tp ((playB tw tp n (t, ap, r1, r2)).1) ((playB tw tp n (t, ap, r1, r2)).2.1) ((playB tw tp n (t, ap, r1, r2)).2.2.1) zz)) hf_r2)))))) (by unfold playV; rw [playF_s, if_pos c_18] at hbs; rw [if_neg c_1, if_pos c_9, eN, nI_clamp hN2, ← eN, ← hbs]) rfl dX5_play_79
          · skip
            refine lv_aload_n hx hb dX5_play_21 rfl (lv_at hl 0 rfl) ?_
            refine x_get (v := .ref b) (C := RX5) (T := TX5) (N := 4) hx hb hts hi5 hown hK hH.1 0 rfl rfl 0 (by decide) (hts (.fieldLink RX5 10 "PulseWheel" "bench" "LPulseWheel$Bench;") (by decide +kernel)) rfl rfl dX5_play_22 ?_
            refine x_getN (v := .int t') (C := RX0) (T := TX0) (N := 4) hx hb hts hi0 hown hK hH.1 3 rfl rfl 2 (by decide) (nwf5_34 (args := args) hN) rfl rfl dX5_play_25 ?_
            refine lv_ldc (v := 1000000) hx hb hown (hts (.constant RX5 44 (1000000)) (by decide +kernel)) dX5_play_28 ?_
            refine lv_icmp_ge (tgt := 73) hx hb dX5_play_30 (by decide) (fun c_30 => ?_) (fun c_30 => ?_)
            · skip
              refine lv_aload_n hx hb dX5_play_73 rfl (lv_at hl 0 rfl) ?_
              refine lv_iconst (v := 0) hx hb dX5_play_74 (by decide) ?_
              refine x_put (ws' := (pwW P b A1 A2 cI cB 0 im tp t' ap' r1' r2')) (v := .int 0) (ty := .int) (C := RX5) (T := TX5) (N := 4) hx hb hts hi5 tyX5_ok nmX5 hown hK hH 0 rfl rfl 3 (by decide) (hts (.fieldLink RX5 53 "PulseWheel" "tapeWords" "I") (by decide +kernel)) rfl rfl rfl (rfl) (rfl) (Nat.le_of_ble_eq_true rfl) dX5_play_75 (rfl) (fun H locs hH => ?_)
              refine lv_iload_n hx hb dX5_play_78 rfl (lv_at hl 2 rfl) ?_
              have hf_tw : 0 = playW tw n := by first | (unfold playW; rw [if_neg c_1, if_pos c_9]; done) | (unfold playB; rw [playF_s, if_neg c_18, if_pos c_30] at hbs; rw [if_neg c_1, if_pos c_9, eN, nI_clamp hN2, ← eN, ← hbs]; done)
              have hf_t : t' = (playB tw tp n (t, ap, r1, r2)).1 := by first | (unfold playW; rw [if_neg c_1, if_pos c_9]; done) | (unfold playB; rw [playF_s, if_neg c_18, if_pos c_30] at hbs; rw [if_neg c_1, if_pos c_9, eN, nI_clamp hN2, ← eN, ← hbs]; done)
              have hf_ap : ap' = (playB tw tp n (t, ap, r1, r2)).2.1 := by first | (unfold playW; rw [if_neg c_1, if_pos c_9]; done) | (unfold playB; rw [playF_s, if_neg c_18, if_pos c_30] at hbs; rw [if_neg c_1, if_pos c_9, eN, nI_clamp hN2, ← eN, ← hbs]; done)
              have hf_r1 : r1' = (playB tw tp n (t, ap, r1, r2)).2.2.1 := by first | (unfold playW; rw [if_neg c_1, if_pos c_9]; done) | (unfold playB; rw [playF_s, if_neg c_18, if_pos c_30] at hbs; rw [if_neg c_1, if_pos c_9, eN, nI_clamp hN2, ← eN, ← hbs]; done)
              have hf_r2 : r2' = (playB tw tp n (t, ap, r1, r2)).2.2.2 := by first | (unfold playW; rw [if_neg c_1, if_pos c_9]; done) | (unfold playB; rw [playF_s, if_neg c_18, if_pos c_30] at hbs; rw [if_neg c_1, if_pos c_9, eN, nI_clamp hN2, ← eN, ← hbs]; done)
              exact hE _ _ _ _ _ _ hH (((congrArg (fun zz => (pwW P b A1 A2 cI cB zz im tp t' ap' r1' r2')) hf_tw).trans ((congrArg (fun zz => (pwW P b A1 A2 cI cB (playW tw n) im tp zz ap' r1' r2')) hf_t).trans ((congrArg (fun zz => (pwW P b A1 A2 cI cB (playW tw n) im tp ((playB tw tp n (t, ap, r1, r2)).1) zz r1' r2')) hf_ap).trans ((congrArg (fun zz => (pwW P b A1 A2 cI cB (playW tw n) im tp ((playB tw tp n (t, ap, r1, r2)).1) ((playB tw tp n (t, ap, r1, r2)).2.1) zz r2')) hf_r1).trans (congrArg (fun zz => (pwW P b A1 A2 cI cB (playW tw n) im tp ((playB tw tp n (t, ap, r1, r2)).1) ((playB tw tp n (t, ap, r1, r2)).2.1) ((playB tw tp n (t, ap, r1, r2)).2.2.1) zz)) hf_r2)))))) (by unfold playV; rw [playF_s, if_neg c_18, if_pos c_30] at hbs; rw [if_neg c_1, if_pos c_9, eN, nI_clamp hN2, ← eN, ← hbs]) rfl dX5_play_79
            · skip
              refine lv_aload_n hx hb dX5_play_33 rfl (lv_at hl 0 rfl) ?_
              refine lv_iload_n hx hb dX5_play_34 rfl (lv_at hl 2 rfl) ?_
              refine kSI (va_runV (As := [.int (nI k)]) (rest := []) ⟨hx, hb, hml, hown, hts⟩ (c_X5_tapeByte l D cI cB P b A1 A2 tw im tp t' ap' r1' r2' (nI k) h5 _) (cwV 1 hts gX5_play_X5_tapeByte rfl rfl rfl (by decide +kernel) ⟨Nat.le_of_ble_eq_true rfl, Nat.le_of_ble_eq_true rfl⟩) (preV_cut hH.1 hH.2.1 hK hN (ci := 5) rfl 0 rfl [0, 1, 2, 3, 4, 5, 6, 7, 8, 9, 10, 11, 12, 13, 14, 15, 16, 17, 18, 19, 20, 21] (by decide) rfl) rfl rfl hl.1 rfl (lv_room (Nat.le_of_ble_eq_true rfl)) dX5_play_35 ⟨Nat.zero_le _, Nat.zero_le _⟩) ?_
              refine lv_istore_n (lv' := [(3, .int (byteV tw tp (nI k))), (0, .ref (P 0)), (1, .int n), (2, .int (nI k))]) hx hb dX5_play_38 rfl hl (by decide) rfl (fun ls hl => ?_)
              refine lv_iload_n hx hb dX5_play_39 rfl (lv_at hl 0 rfl) ?_
              refine lv_sipush (v := 192) hx hb dX5_play_40 (by decide) ?_
              refine lv_iand hx hb dX5_play_43 ?_
              refine lv_if_eq (tgt := 50) hx hb dX5_play_44 (by decide) (fun c_44 => ?_) (fun c_44 => ?_)
              · skip
                refine lv_aload_n hx hb dX5_play_50 rfl (lv_at hl 1 rfl) ?_
                refine x_get (v := .ref b) (C := RX5) (T := TX5) (N := 4) hx hb hts hi5 hown hK hH.1 0 rfl rfl 0 (by decide) (hts (.fieldLink RX5 10 "PulseWheel" "bench" "LPulseWheel$Bench;") (by decide +kernel)) rfl rfl dX5_play_51 ?_
                refine lv_iload_n hx hb dX5_play_54 rfl (lv_at hl 0 rfl) ?_
                refine lv_bipush (v := 7) hx hb dX5_play_55 (by decide) ?_
                refine lv_iand hx hb dX5_play_57 ?_
                refine lv_iload_n hx hb dX5_play_58 rfl (lv_at hl 0 rfl) ?_
                refine lv_iconst (v := 3) hx hb dX5_play_59 (by decide) ?_
                refine lv_ishr hx hb dX5_play_60 ?_
                refine lv_bipush (v := 7) hx hb dX5_play_61 (by decide) ?_
                refine lv_iand hx hb dX5_play_63 ?_
                obtain ⟨t_1, et_1⟩ : ∃ z, z = t' + 1 := ⟨_, rfl⟩
                obtain ⟨ap_2, eap_2⟩ : ∃ z, z = apV (agreeV (takeV r1' ((byteV tw tp (nI k)) &&& 7) (t' + 1)) (takeV r2' (((byteV tw tp (nI k)) >>> ((3 : Int32) &&& 31)) &&& 7) (t' + 1))) ap' (t' + 1) := ⟨_, rfl⟩
                obtain ⟨r1_3, er1_3⟩ : ∃ z, z = takeV r1' ((byteV tw tp (nI k)) &&& 7) (t' + 1) := ⟨_, rfl⟩
                obtain ⟨r2_4, er2_4⟩ : ∃ z, z = takeV r2' (((byteV tw tp (nI k)) >>> ((3 : Int32) &&& 31)) &&& 7) (t' + 1) := ⟨_, rfl⟩
                refine kCV (ws' := (pwW P b A1 A2 cI cB tw im tp t_1 ap_2 r1_3 r2_4)) (va_runVN (As := [.int ((byteV tw tp (nI k)) &&& 7), .int (((byteV tw tp (nI k)) >>> ((3 : Int32) &&& 31)) &&& 7)]) (rest := []) ⟨hx, hb, hml, hown, hts⟩ (c_X0_step l D cI cB b A1 A2 t' ap' r1' r2' ((byteV tw tp (nI k)) &&& 7) (((byteV tw tp (nI k)) >>> ((3 : Int32) &&& 31)) &&& 7) k51 k52 _) ⟨va_cnB 2 hts gX5_play_X0_step_n49 rfl rfl rfl (nwm5_49 (args := args) hN) (hts (.initialized RX0) (by decide +kernel)) (by decide +kernel) ⟨Nat.le_of_ble_eq_true rfl, Nat.le_of_ble_eq_true rfl⟩, hts (.instanceMethod yX0_step) (by decide +kernel), hts (.selects RX0 yX0_step yX0_step) (by decide +kernel)⟩ (preV_cut hH.1 hH.2.1 hK hN (ci := 0) rfl 3 rfl [3, 4, 5, 6, 7, 8, 9, 10, 11, 12, 13, 14, 15, 16, 17, 18, 19, 20, 21] (by decide) rfl) rfl rfl hl.1 rfl (lv_room (Nat.le_of_ble_eq_true rfl)) dX5_play_64 ⟨Nat.zero_le _, Nat.zero_le _⟩) hH hA [3, 4, 5, 6, 7, 8, 9, 10, 11, 12, 13, 14, 15, 16, 17, 18, 19, 20, 21] rfl adr_bench (by rw [et_1, eap_2, er1_3, er2_4]; exact putL_pw_bench) (fun H locs hH => ?_)
                refine lv_iinc (v := nI (k + 1)) (lv' := [(2, .int (nI (k + 1))), (3, .int (byteV tw tp (nI k))), (0, .ref (P 0)), (1, .int n)]) hx hb dX5_play_67 hl (k := 3) rfl (nI_1 k) (by decide) rfl (fun ls hl => ?_)
                refine lv_goto (tgt := 16) hx hb dX5_play_70 (by decide) ?_
                exact ih (k + 1) t_1 ap_2 r1_3 r2_4 (by have h7 := lt_of_nI (n := N) (i := k) (by omega) (by rw [← eN]; exact c_18); omega) (by omega) (by subst er2_4; subst er1_3; subst eap_2; subst et_1; rw [← hbs, playF_s, if_neg c_18, if_neg c_30, if_pos c_44]; rfl) (by rw [er1_3, takeV_ht _ _ _ 5 (Or.inr rfl)]; exact k51) (by rw [er2_4, takeV_ht _ _ _ 5 (Or.inr rfl)]; exact k52) H locs ls (hH) (lv_sub hl [2, 3, 0] rfl)
              · skip
                refine lv_goto (tgt := 73) hx hb dX5_play_47 (by decide) ?_
                refine lv_aload_n hx hb dX5_play_73 rfl (lv_at hl 1 rfl) ?_
                refine lv_iconst (v := 0) hx hb dX5_play_74 (by decide) ?_
                refine x_put (ws' := (pwW P b A1 A2 cI cB 0 im tp t' ap' r1' r2')) (v := .int 0) (ty := .int) (C := RX5) (T := TX5) (N := 4) hx hb hts hi5 tyX5_ok nmX5 hown hK hH 0 rfl rfl 3 (by decide) (hts (.fieldLink RX5 53 "PulseWheel" "tapeWords" "I") (by decide +kernel)) rfl rfl rfl (rfl) (rfl) (Nat.le_of_ble_eq_true rfl) dX5_play_75 (rfl) (fun H locs hH => ?_)
                refine lv_iload_n hx hb dX5_play_78 rfl (lv_at hl 3 rfl) ?_
                have hf_tw : 0 = playW tw n := by first | (unfold playW; rw [if_neg c_1, if_pos c_9]; done) | (unfold playB; rw [playF_s, if_neg c_18, if_neg c_30, if_neg c_44] at hbs; rw [if_neg c_1, if_pos c_9, eN, nI_clamp hN2, ← eN, ← hbs]; done)
                have hf_t : t' = (playB tw tp n (t, ap, r1, r2)).1 := by first | (unfold playW; rw [if_neg c_1, if_pos c_9]; done) | (unfold playB; rw [playF_s, if_neg c_18, if_neg c_30, if_neg c_44] at hbs; rw [if_neg c_1, if_pos c_9, eN, nI_clamp hN2, ← eN, ← hbs]; done)
                have hf_ap : ap' = (playB tw tp n (t, ap, r1, r2)).2.1 := by first | (unfold playW; rw [if_neg c_1, if_pos c_9]; done) | (unfold playB; rw [playF_s, if_neg c_18, if_neg c_30, if_neg c_44] at hbs; rw [if_neg c_1, if_pos c_9, eN, nI_clamp hN2, ← eN, ← hbs]; done)
                have hf_r1 : r1' = (playB tw tp n (t, ap, r1, r2)).2.2.1 := by first | (unfold playW; rw [if_neg c_1, if_pos c_9]; done) | (unfold playB; rw [playF_s, if_neg c_18, if_neg c_30, if_neg c_44] at hbs; rw [if_neg c_1, if_pos c_9, eN, nI_clamp hN2, ← eN, ← hbs]; done)
                have hf_r2 : r2' = (playB tw tp n (t, ap, r1, r2)).2.2.2 := by first | (unfold playW; rw [if_neg c_1, if_pos c_9]; done) | (unfold playB; rw [playF_s, if_neg c_18, if_neg c_30, if_neg c_44] at hbs; rw [if_neg c_1, if_pos c_9, eN, nI_clamp hN2, ← eN, ← hbs]; done)
                exact hE _ _ _ _ _ _ hH (((congrArg (fun zz => (pwW P b A1 A2 cI cB zz im tp t' ap' r1' r2')) hf_tw).trans ((congrArg (fun zz => (pwW P b A1 A2 cI cB (playW tw n) im tp zz ap' r1' r2')) hf_t).trans ((congrArg (fun zz => (pwW P b A1 A2 cI cB (playW tw n) im tp ((playB tw tp n (t, ap, r1, r2)).1) zz r1' r2')) hf_ap).trans ((congrArg (fun zz => (pwW P b A1 A2 cI cB (playW tw n) im tp ((playB tw tp n (t, ap, r1, r2)).1) ((playB tw tp n (t, ap, r1, r2)).2.1) zz r2')) hf_r1).trans (congrArg (fun zz => (pwW P b A1 A2 cI cB (playW tw n) im tp ((playB tw tp n (t, ap, r1, r2)).1) ((playB tw tp n (t, ap, r1, r2)).2.1) ((playB tw tp n (t, ap, r1, r2)).2.2.1) zz)) hf_r2)))))) (by unfold playV; rw [playF_s, if_neg c_18, if_neg c_30, if_neg c_44] at hbs; rw [if_neg c_1, if_pos c_9, eN, nI_clamp hN2, ← eN, ← hbs]) rfl dX5_play_79
      exact lp (N + 1) 0 t ap r1 r2 (Nat.zero_le _) (by omega) (rfl) (h51) (h52) _ _ ls (hH) (lv_sub hl [1, 2, 0] rfl)
    · skip
      refine lv_iconst (v := -1) hx hb dX5_play_12 (by decide) ?_
      have hf_tw : tw = playW tw n := by first | (unfold playW; rw [if_neg c_1, if_neg c_9]; done) | (unfold playB; rw [if_neg c_1, if_neg c_9]; done)
      have hf_t : t = (playB tw tp n (t, ap, r1, r2)).1 := by first | (unfold playW; rw [if_neg c_1, if_neg c_9]; done) | (unfold playB; rw [if_neg c_1, if_neg c_9]; done)
      have hf_ap : ap = (playB tw tp n (t, ap, r1, r2)).2.1 := by first | (unfold playW; rw [if_neg c_1, if_neg c_9]; done) | (unfold playB; rw [if_neg c_1, if_neg c_9]; done)
      have hf_r1 : r1 = (playB tw tp n (t, ap, r1, r2)).2.2.1 := by first | (unfold playW; rw [if_neg c_1, if_neg c_9]; done) | (unfold playB; rw [if_neg c_1, if_neg c_9]; done)
      have hf_r2 : r2 = (playB tw tp n (t, ap, r1, r2)).2.2.2 := by first | (unfold playW; rw [if_neg c_1, if_neg c_9]; done) | (unfold playB; rw [if_neg c_1, if_neg c_9]; done)
      exact hE _ _ _ _ _ _ hH (((congrArg (fun zz => (pwW P b A1 A2 cI cB zz im tp t ap r1 r2)) hf_tw).trans ((congrArg (fun zz => (pwW P b A1 A2 cI cB (playW tw n) im tp zz ap r1 r2)) hf_t).trans ((congrArg (fun zz => (pwW P b A1 A2 cI cB (playW tw n) im tp ((playB tw tp n (t, ap, r1, r2)).1) zz r1 r2)) hf_ap).trans ((congrArg (fun zz => (pwW P b A1 A2 cI cB (playW tw n) im tp ((playB tw tp n (t, ap, r1, r2)).1) ((playB tw tp n (t, ap, r1, r2)).2.1) zz r2)) hf_r1).trans (congrArg (fun zz => (pwW P b A1 A2 cI cB (playW tw n) im tp ((playB tw tp n (t, ap, r1, r2)).1) ((playB tw tp n (t, ap, r1, r2)).2.1) ((playB tw tp n (t, ap, r1, r2)).2.2.1) zz)) hf_r2)))))) (by unfold playV; rw [if_neg c_1, if_neg c_9]) rfl dX5_play_13
