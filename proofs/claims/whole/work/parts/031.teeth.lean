/-! ### Arrays.fill, Teeth -/
def fillV (n : Nat) (v : Int32) (f : Nat → Int32) : Nat → Int32 := fun j => if j < n then v else f j
theorem fill_step {i : Nat} {v : Int32} {f : Nat → Int32} : upd (fillV i v f) i v = fillV (i + 1) v f := by
  funext j
  unfold upd fillV
  by_cases hj : j = i
  · subst hj; simp
  · rw [if_neg hj]
    by_cases h2 : j < i
    · rw [if_pos h2, if_pos (by omega)]
    · rw [if_neg h2, if_neg (by omega)]
theorem fill_exit {i n : Nat} {v : Int32} {f : Nat → Int32} (h : i ≤ n) (h7 : n ≤ i) : fillV i v f = fillV n v f := by
  have e : i = n := by omega
  subst e; rfl
theorem lt_of_nI {i n : Nat} (hi : i < 2 ^ 31) (h : ¬ nI n ≤ nI i) : i < n := by
  rcases Nat.lt_or_ge i n with q | q
  · exact q
  · exact absurd (nI_le q hi) h
theorem all_step {i : Nat} {P : Nat → Prop} (h : ∀ j, j < i → P j) (hi : P i) : ∀ j, j < i + 1 → P j := by
  intro j hj
  rcases Nat.lt_succ_iff_lt_or_eq.mp hj with q | q
  · exact h j q
  · subst q; exact hi
def teethForget (r : Tb) : Tb := up2 (up2 (up1 r 8 (fillV 64 0 (r 8))) 7 1 0) 7 2 0
def toothD (r : Tb) (tc : Int32) (j : Nat) : Int32 := r 5 (slotN (r 3 3) (tc - 1 - nI j)) - r 5 (slotN (r 3 3) (tc - 1 - nI j + 1))
def sumsV (r : Tb) (tc : Int32) (i : Nat) : Nat → Int32 := fun j => if j < i then r 8 j + toothD r tc j else r 8 j
def addTurnV (r : Tb) (tc : Int32) : Tb := up1 (up2 r 7 1 (r 7 1 + 1)) 8 (fun j => if j < 64 ∧ nI j < tc then r 8 j + toothD r tc j else r 8 j)
def learnV (r : Tb) (tc : Int32) : Tb := up2 (if r 7 2 ≤ 0 then r else if r 3 3 - r 7 2 = tc then (if r 3 4 < tc then r else addTurnV r tc) else r) 7 2 (r 3 3)
theorem sel_teethForget (r : Tb) : selR [7, 8] r (teethForget r) = teethForget r := by
  funext c
  unfold selR teethForget up2 up1
  by_cases h7 : c = 7
  · subst h7; rfl
  · by_cases h8 : c = 8
    · subst h8; rfl
    · simp [h7, h8]
theorem addTurnV_row (r : Tb) (tc : Int32) {c : Nat} (h7 : ¬ c = 7) (h8 : ¬ c = 8) : addTurnV r tc c = r c := by
  unfold addTurnV up1 up2
  simp [h7, h8]
theorem learnV_row (r : Tb) (tc : Int32) {c : Nat} (h7 : ¬ c = 7) (h8 : ¬ c = 8) : learnV r tc c = r c := by
  unfold learnV up2
  rw [if_neg h7]
  split
  · rfl
  · split
    · split
      · rfl
      · exact addTurnV_row r tc h7 h8
    · rfl
theorem sel_learn (r : Tb) (tc : Int32) : selR [3, 4, 5, 6, 7, 8] r (learnV r tc) = learnV r tc := by
  funext c
  unfold selR
  by_cases h7 : c = 7
  · subst h7; rfl
  · by_cases h8 : c = 8
    · subst h8; rfl
    · rw [learnV_row r tc h7 h8]; simp
def sumAtV (r : Tb) (k : Int32) : Int32 := if k < 0 then -1 else if 64 ≤ k then -1 else r 8 k.toNatClampNeg
def greatV (f : Nat → Int32) : Nat → Nat
  | 0 => 0
  | k + 1 => if f (greatV f k) < f (k + 1) then k + 1 else greatV f k
theorem greatV_s (f : Nat → Int32) (k : Nat) : greatV f (k + 1) = if f (greatV f k) < f (k + 1) then k + 1 else greatV f k := rfl
theorem greatV_le (f : Nat → Int32) : ∀ k, greatV f k ≤ k
  | 0 => Nat.le_refl 0
  | k + 1 => by
    unfold greatV
    split
    · exact Nat.le_refl _
    · exact Nat.le_succ_of_le (greatV_le f k)
/-- the last place that firstGreatest looks at -/
def lastV (tc : Int32) : Nat := if tc ≤ 1 then 0 else if 64 ≤ tc then 63 else (tc.toNatClampNeg - 1)
theorem addTurn_exit {r : Tb} {tc : Int32} {i : Nat} (hi : i ≤ 64) (h : ∀ j, j < i → nI j < tc) (hx : tc ≤ nI i ∨ i = 64) : up1 (up2 r 7 1 (r 7 1 + 1)) 8 (sumsV r tc i) = addTurnV r tc := by
  unfold addTurnV
  congr 1
  funext j
  unfold sumsV
  by_cases hj : j < i
  · rw [if_pos hj, if_pos ⟨by omega, h j hj⟩]
  · rw [if_neg hj, if_neg]
    rintro ⟨h1, h2⟩
    rcases hx with hx | hx
    · have h3 : nI i ≤ nI j := nI_le (by omega) (by omega)
      simp only [Int32.le_iff_toInt_le, Int32.lt_iff_toInt_lt] at *
      omega
    · omega
theorem sums_0 {r : Tb} {tc : Int32} : up2 r 7 1 (r 7 1 + 1) = up1 (up2 r 7 1 (r 7 1 + 1)) 8 (sumsV r tc 0) := by
  funext c
  unfold up1
  by_cases hc : c = 8
  · subst hc; rfl
  · rw [if_neg hc]
theorem sums_step {r : Tb} {tc : Int32} {i : Nat} : up2 (up1 (up2 r 7 1 (r 7 1 + 1)) 8 (sumsV r tc i)) 8 i (r 8 i + toothD r tc i) = up1 (up2 r 7 1 (r 7 1 + 1)) 8 (sumsV r tc (i + 1)) := by
  funext c
  unfold up2 up1
  by_cases hc : c = 8
  · subst hc
    simp only [if_true]
    funext j
    unfold upd sumsV
    by_cases hj : j = i
    · subst hj; simp
    · rw [if_neg hj]
      by_cases h2 : j < i
      · rw [if_pos h2, if_pos (by omega)]
      · rw [if_neg h2, if_neg (by omega)]
  · simp only [if_neg hc]

def rm_J7_fill_53178 : Room := { frames := 0, cells := 0, slots := 0, locals := 0 }
set_option maxHeartbeats 1000000 in
set_option maxRecDepth 100000 in
theorem c_J7_fill_53178 (l : Launch) (D : va_G) (cI cB : ClassId) (a : Nat) (n : Nat) (f : Nat → Int32) (v : Int32) (hn : n < 2 ^ 31) : CV l D cI cB yJ7_fill_53178 wsJ7_fill_53178 rm_J7_fill_53178 [.ref a, .int v] (arrW a cI n f) (arrW a cI n (fillV n v f)) := by
  refine CV.of (cc := cJ7_fill_53178) (maxL := 4)  (by decide +kernel) rfl (Nat.le_of_ble_eq_true rfl) ?_
  intro p e s m args below meth c ls A0 Q hT hH hA hl hE
  obtain ⟨hx, hb, hr, hlocks, hnm, hml, hown, hts, hK, hN⟩ := hT
  have hl : lv_has ls 4 [(0, .ref a), (1, .int v)] := hl
  refine lv_iconst (v := 0) hx hb dJ7_fill_53178_0 (by decide) ?_
  refine lv_istore_n (lv' := [(2, .int 0), (0, .ref a), (1, .int v)]) hx hb dJ7_fill_53178_1 rfl hl (by decide) rfl (fun ls hl => ?_)
  refine lv_aload_n hx hb dJ7_fill_53178_2 rfl (lv_at hl 1 rfl) ?_
  refine x_alen (v := Int32.ofNat n) hx hb hK hH.1 0 rfl rfl dJ7_fill_53178_3 ?_
  refine lv_istore_n (lv' := [(3, .int (Int32.ofNat n)), (2, .int 0), (0, .ref a), (1, .int v)]) hx hb dJ7_fill_53178_4 rfl hl (by decide) rfl (fun ls hl => ?_)
  have lp : ∀ (fuel : Nat) (i : Nat) (g : Nat → Int32), (i ≤ n) → (n < i + fuel) → (g = fillV i v f) → ∀ (H : Heap) (locs : List Loc) (ls : Array Slot), Hd D A0 s (arrW a cI n g) H locs → lv_has ls 4 [(0, .ref a), (1, .int v), (2, .int (nI i)), (3, .int (Int32.ofNat n))] → W p l e rm_J7_fill_53178 s m args below meth c H locs 0 0 Q (F0 m 5 ls []) := by
    intro fuel
    induction fuel with
    | zero => intro i g hi hm hg H locs ls hH hl; exact absurd hm (by omega)
    | succ fuel ih =>
      intro i g hi hm hg H locs ls hH hl
      refine lv_iload_n hx hb dJ7_fill_53178_5 rfl (lv_at hl 2 rfl) ?_
      refine lv_iload_n hx hb dJ7_fill_53178_6 rfl (lv_at hl 3 rfl) ?_
      refine lv_icmp_ge (tgt := 20) hx hb dJ7_fill_53178_7 (by decide) (fun c_7 => ?_) (fun c_7 => ?_)
      · skip
        have hf_f : g = fillV n v f := by subst hg; exact fill_exit hi ((nI_leI hn (by omega)).mp c_7)
        exact hE _ _ _ _ _ hH ((congrArg (fun zz => (arrW a cI n zz)) hf_f)) dJ7_fill_53178_20
      · skip
        have hlt : i < n := lt_of_nI (by omega) c_7
        refine lv_aload_n hx hb dJ7_fill_53178_10 rfl (lv_at hl 0 rfl) ?_
        refine lv_iload_n hx hb dJ7_fill_53178_11 rfl (lv_at hl 2 rfl) ?_
        refine lv_iload_n hx hb dJ7_fill_53178_12 rfl (lv_at hl 1 rfl) ?_
        have hq_1 := ix_in (i := (nI i)) (n := n) i (rfl) (hlt) (hn)
        obtain ⟨f_2, ef_2⟩ : ∃ z, z = upd g i v := ⟨_, rfl⟩
        refine x_ist (ws' := (arrW a cI n f_2)) hx hb hK hH 0 rfl hq_1.1 hq_1.2 dJ7_fill_53178_13 (by rw [ef_2]; rfl) (fun H locs hH => ?_)
        refine lv_iinc (v := nI (i + 1)) (lv' := [(2, .int (nI (i + 1))), (0, .ref a), (1, .int v), (3, .int (Int32.ofNat n))]) hx hb dJ7_fill_53178_14 hl (k := 2) rfl (nI_1 i) (by decide) rfl (fun ls hl => ?_)
        refine lv_goto (tgt := 5) hx hb dJ7_fill_53178_17 (by decide) ?_
        exact ih (i + 1) f_2 (by omega) (by omega) (by subst ef_2; subst hg; exact fill_step) H locs ls (hH) (lv_sub hl [1, 2, 0, 3] rfl)
  exact lp (n + 1) 0 f (Nat.zero_le _) (by omega) (by funext j; simp [fillV]) _ _ ls (hH) (lv_sub hl [2, 3, 1, 0] rfl)

def rm_X4_forget : Room := { frames := 1, cells := 0, slots := 0, locals := 23 }
set_option maxHeartbeats 1000000 in
set_option maxRecDepth 100000 in
theorem c_X4_forget (l : Launch) (D : va_G) (cI cB : ClassId) (A : Nat → Nat) (r : Tb) : CV l D cI cB yX4_forget wsX4_forget rm_X4_forget [.ref (A 7)] (teethW A cI r) (teethW A cI (teethForget r)) := by
  refine CV.of (cc := cX4_forget) (maxL := 1)  (by decide +kernel) rfl (Nat.le_of_ble_eq_true rfl) ?_
  intro p e s m args below meth c ls A0 Q hT hH hA hl hE
  obtain ⟨hx, hb, hr, hlocks, hnm, hml, hown, hts, hK, hN⟩ := hT
  have hl : lv_has ls 1 [(0, .ref (A 7))] := hl
  have hi4 : ∀ w ∈ wsX40, w ∈ wsX4_forget := by decide +kernel
  refine lv_aload_n hx hb dX4_forget_0 rfl (lv_at hl 0 rfl) ?_
  refine x_get (v := .ref (A 8)) (C := RX4) (T := TX4) (N := 3) hx hb hts hi4 hown hK hH.1 0 rfl rfl 0 (by decide) (hts (.fieldLink RX4 9 "PulseWheel$Teeth" "sums" "[I") (by decide +kernel)) rfl rfl dX4_forget_1 ?_
  refine lv_iconst (v := 0) hx hb dX4_forget_4 (by decide) ?_
  obtain ⟨r_1, er_1⟩ : ∃ z, z = up1 r 8 (fillV 64 0 (r 8)) := ⟨_, rfl⟩
  refine kCV (ws' := (teethW A cI r_1)) (va_runS (As := [.ref (A 8), .int 0]) (rest := []) ⟨hx, hb, hml, hown, hts⟩ (c_J7_fill_53178 l D cI cB (A 8) 64 (r 8) 0 (by decide) _) (va_cwS 2 hts gX4_forget_J7_fill_53178 rfl rfl rfl (by decide +kernel) ⟨Nat.le_of_ble_eq_true rfl, Nat.le_of_ble_eq_true rfl⟩) (preS_cut hH.1 hH.2.1 hK hN [1] (by decide) rfl) rfl rfl hl.1 rfl (lv_room (Nat.le_of_ble_eq_true rfl)) dX4_forget_5 ⟨Nat.zero_le _, Nat.zero_le _⟩) hH hA [1] rfl adr_arr (by rw [er_1]; rfl) (fun H locs hH => ?_)
  refine lv_aload_n hx hb dX4_forget_8 rfl (lv_at hl 0 rfl) ?_
  refine lv_iconst (v := 0) hx hb dX4_forget_9 (by decide) ?_
  obtain ⟨r_2, er_2⟩ : ∃ z, z = up2 r_1 7 1 0 := ⟨_, rfl⟩
  refine x_put (ws' := (teethW A cI r_2)) (v := .int 0) (ty := .int) (C := RX4) (T := TX4) (N := 3) hx hb hts hi4 tyX4_ok nmX4 hown hK hH 0 rfl rfl 1 (by decide) (hts (.fieldLink RX4 21 "PulseWheel$Teeth" "wholeTurns" "I") (by decide +kernel)) rfl rfl rfl (rfl) (rfl) (Nat.le_of_ble_eq_true rfl) dX4_forget_10 (by rw [er_2]; rfl) (fun H locs hH => ?_)
  refine lv_aload_n hx hb dX4_forget_13 rfl (lv_at hl 0 rfl) ?_
  refine lv_iconst (v := 0) hx hb dX4_forget_14 (by decide) ?_
  obtain ⟨r_3, er_3⟩ : ∃ z, z = up2 r_2 7 2 0 := ⟨_, rfl⟩
  refine x_put (ws' := (teethW A cI r_3)) (v := .int 0) (ty := .int) (C := RX4) (T := TX4) (N := 3) hx hb hts hi4 tyX4_ok nmX4 hown hK hH 0 rfl rfl 2 (by decide) (hts (.fieldLink RX4 25 "PulseWheel$Teeth" "eventsAtZero" "I") (by decide +kernel)) rfl rfl rfl (rfl) (rfl) (Nat.le_of_ble_eq_true rfl) dX4_forget_15 (by rw [er_3]; rfl) (fun H locs hH => ?_)
  have hf_r : r_3 = teethForget r := by subst er_3; subst er_2; subst er_1; rfl
  exact hE _ _ _ _ _ hH ((congrArg (fun zz => (teethW A cI zz)) hf_r)) dX4_forget_18

def rm_X4_sumAt : Room := { frames := 0, cells := 0, slots := 0, locals := 0 }
set_option maxHeartbeats 1000000 in
set_option maxRecDepth 100000 in
theorem c_X4_sumAt (l : Launch) (D : va_G) (cI cB : ClassId) (A : Nat → Nat) (r : Tb) (k : Int32) : SI l D cI cB yX4_sumAt wsX4_sumAt rm_X4_sumAt [.ref (A 7), .int k] (teethW A cI r) (sumAtV r k) := by
  refine SI.of (cc := cX4_sumAt) (maxL := 2) (ty := .int) (by decide +kernel) rfl (Nat.le_of_ble_eq_true rfl) ?_
  intro p e s m args below meth c ls Q hT hP hD hl hE
  obtain ⟨hx, hb, hr, hlocks, hnm, hml, hown, hts, hK, hN⟩ := hT
  have hl : lv_has ls 2 [(0, .ref (A 7)), (1, .int k)] := hl
  have hi4 : ∀ w ∈ wsX40, w ∈ wsX4_sumAt := by decide +kernel
  refine lv_iload_n hx hb dX4_sumAt_0 rfl (lv_at hl 1 rfl) ?_
  refine lv_if_lt (tgt := 22) hx hb dX4_sumAt_1 (by decide) (fun c_1 => ?_) (fun c_1 => ?_)
  · skip
    refine lv_iconst (v := -1) hx hb dX4_sumAt_22 (by decide) ?_
    exact hE _ _ _ (by first | rfl | (unfold sumAtV; rw [if_pos c_1]; done) | (simp only [sumAtV, if_pos c_1]; done) | (simp only [sumAtV, c_1, if_true, if_false]; done) | (simp only [sumAtV, c_1, if_true, if_false, not_true, not_false_iff, reduceIte]; done) | (exfalso; simp_all; done) | (simp [sumAtV, c_1]; done) | (simp_all [sumAtV]; done)) rfl dX4_sumAt_23
  · skip
    refine lv_iload_n hx hb dX4_sumAt_4 rfl (lv_at hl 1 rfl) ?_
    refine lv_aload_n hx hb dX4_sumAt_5 rfl (lv_at hl 0 rfl) ?_
    refine x_get (v := .ref (A 8)) (C := RX4) (T := TX4) (N := 3) hx hb hts hi4 hown hK hP 0 rfl rfl 0 (by decide) (hts (.fieldLink RX4 9 "PulseWheel$Teeth" "sums" "[I") (by decide +kernel)) rfl rfl dX4_sumAt_6 ?_
    refine x_alen (v := 64) hx hb hK hP 1 rfl rfl dX4_sumAt_9 ?_
    refine lv_icmp_ge (tgt := 22) hx hb dX4_sumAt_10 (by decide) (fun c_10 => ?_) (fun c_10 => ?_)
    · skip
      refine lv_iconst (v := -1) hx hb dX4_sumAt_22 (by decide) ?_
      exact hE _ _ _ (by first | rfl | (unfold sumAtV; rw [if_neg c_1, if_pos c_10]; done) | (simp only [sumAtV, if_neg c_1, if_pos c_10]; done) | (simp only [sumAtV, c_1, c_10, if_true, if_false]; done) | (simp only [sumAtV, c_1, c_10, if_true, if_false, not_true, not_false_iff, reduceIte]; done) | (exfalso; simp_all; done) | (simp [sumAtV, c_1, c_10]; done) | (simp_all [sumAtV]; done)) rfl dX4_sumAt_23
    · skip
      refine lv_aload_n hx hb dX4_sumAt_13 rfl (lv_at hl 0 rfl) ?_
      obtain ⟨j, hj, ej⟩ := nI_of c_1
      have hk : k = nI k.toNatClampNeg := by rw [ej, nI_clamp hj]
      have hk2 : k.toNatClampNeg < 64 := by rw [ej, nI_clamp hj]; rw [ej] at c_10; exact Nat.lt_of_not_le (fun q => c_10 (nI_le (a := 64) q hj))
      refine x_get (v := .ref (A 8)) (C := RX4) (T := TX4) (N := 3) hx hb hts hi4 hown hK hP 0 rfl rfl 0 (by decide) (hts (.fieldLink RX4 9 "PulseWheel$Teeth" "sums" "[I") (by decide +kernel)) rfl rfl dX4_sumAt_14 ?_
      refine lv_iload_n hx hb dX4_sumAt_17 rfl (lv_at hl 1 rfl) ?_
      have hq_1 := ix_in (i := k) (n := 64) k.toNatClampNeg (hk) (hk2) (by decide)
      refine x_ild (v := r 8 k.toNatClampNeg) hx hb hK hP 1 rfl hq_1.1 (by rw [hq_1.2]) dX4_sumAt_18 ?_
      refine lv_goto (tgt := 23) hx hb dX4_sumAt_19 (by decide) ?_
      exact hE _ _ _ (by first | rfl | (unfold sumAtV; rw [if_neg c_1, if_neg c_10]; done) | (simp only [sumAtV, if_neg c_1, if_neg c_10]; done) | (simp only [sumAtV, c_1, c_10, if_true, if_false]; done) | (simp only [sumAtV, c_1, c_10, if_true, if_false, not_true, not_false_iff, reduceIte]; done) | (exfalso; simp_all; done) | (simp [sumAtV, c_1, c_10]; done) | (simp_all [sumAtV]; done)) rfl dX4_sumAt_23

def rm_X4_addTurn : Room := { frames := 2, cells := 0, slots := 0, locals := 43 }
set_option maxHeartbeats 1000000 in
set_option maxRecDepth 100000 in
theorem c_X4_addTurn (l : Launch) (D : va_G) (cI cB : ClassId) (A : Nat → Nat) (r : Tb) (tc : Int32) : CV l D cI cB yX4_addTurn wsX4_addTurn rm_X4_addTurn [.ref (A 7), .ref (A 3), .int tc] (logW A cI r ++ teethW A cI r) (logW A cI (addTurnV r tc) ++ teethW A cI (addTurnV r tc)) := by
  refine CV.of (cc := cX4_addTurn) (maxL := 5)  (by decide +kernel) rfl (Nat.le_of_ble_eq_true rfl) ?_
  intro p e s m args below meth c ls A0 Q hT hH hA hl hE
  obtain ⟨hx, hb, hr, hlocks, hnm, hml, hown, hts, hK, hN⟩ := hT
  have hl : lv_has ls 5 [(0, .ref (A 7)), (1, .ref (A 3)), (2, .int tc)] := hl
  have hi4 : ∀ w ∈ wsX40, w ∈ wsX4_addTurn := by decide +kernel
  refine lv_aload_n hx hb dX4_addTurn_0 rfl (lv_at hl 0 rfl) ?_
  refine lv_dup hx hb dX4_addTurn_1 rfl ?_
  refine x_get (v := .int (r 7 1)) (C := RX4) (T := TX4) (N := 3) hx hb hts hi4 hown hK hH.1 4 rfl rfl 1 (by decide) (hts (.fieldLink RX4 21 "PulseWheel$Teeth" "wholeTurns" "I") (by decide +kernel)) rfl rfl dX4_addTurn_2 ?_
  refine lv_iconst (v := 1) hx hb dX4_addTurn_5 (by decide) ?_
  refine lv_iadd hx hb dX4_addTurn_6 ?_
  obtain ⟨r_1, er_1⟩ : ∃ z, z = up2 r 7 1 ((r 7 1) + 1) := ⟨_, rfl⟩
  refine x_put (ws' := (logW A cI r_1 ++ teethW A cI r_1)) (v := .int ((r 7 1) + 1)) (ty := .int) (C := RX4) (T := TX4) (N := 3) hx hb hts hi4 tyX4_ok nmX4 hown hK hH 4 rfl rfl 1 (by decide) (hts (.fieldLink RX4 21 "PulseWheel$Teeth" "wholeTurns" "I") (by decide +kernel)) rfl rfl rfl (rfl) (rfl) (Nat.le_of_ble_eq_true rfl) dX4_addTurn_7 (by rw [er_1]; rfl) (fun H locs hH => ?_)
  refine lv_iconst (v := 0) hx hb dX4_addTurn_10 (by decide) ?_
  refine lv_istore_n (lv' := [(3, .int 0), (0, .ref (A 7)), (1, .ref (A 3)), (2, .int tc)]) hx hb dX4_addTurn_11 rfl hl (by decide) rfl (fun ls hl => ?_)
  have lp : ∀ (fuel : Nat) (i : Nat) (r' : Tb), (i ≤ 64) → (64 < i + fuel) → (∀ j, j < i → nI j < tc) → (r' = up1 (up2 r 7 1 (r 7 1 + 1)) 8 (sumsV r tc i)) → ∀ (H : Heap) (locs : List Loc) (ls : Array Slot), Hd D A0 s (logW A cI r' ++ teethW A cI r') H locs → lv_has ls 5 [(0, .ref (A 7)), (1, .ref (A 3)), (2, .int tc), (3, .int (nI i))] → W p l e rm_X4_addTurn s m args below meth c H locs 0 0 Q (F0 m 12 ls []) := by
    intro fuel
    induction fuel with
    | zero => intro i r' hi hm hj hr' H locs ls hH hl; exact absurd hm (by omega)
    | succ fuel ih =>
      intro i r' hi hm hj hr' H locs ls hH hl
      refine lv_iload_n hx hb dX4_addTurn_12 rfl (lv_at hl 3 rfl) ?_
      refine lv_iload_n hx hb dX4_addTurn_13 rfl (lv_at hl 2 rfl) ?_
      refine lv_icmp_ge (tgt := 63) hx hb dX4_addTurn_14 (by decide) (fun c_14 => ?_) (fun c_14 => ?_)
      · skip
        have hf_r : r' = addTurnV r tc := by subst hr'; exact addTurn_exit hi hj (Or.inl c_14)
        exact hE _ _ _ _ _ hH ((congrArg (fun zz => (logW A cI zz ++ teethW A cI zz)) hf_r)) dX4_addTurn_63
      · skip
        refine lv_iload_n hx hb dX4_addTurn_17 rfl (lv_at hl 3 rfl) ?_
        refine lv_aload_n hx hb dX4_addTurn_18 rfl (lv_at hl 0 rfl) ?_
        refine x_get (v := .ref (A 8)) (C := RX4) (T := TX4) (N := 3) hx hb hts hi4 hown hK hH.1 4 rfl rfl 0 (by decide) (hts (.fieldLink RX4 9 "PulseWheel$Teeth" "sums" "[I") (by decide +kernel)) rfl rfl dX4_addTurn_19 ?_
        refine x_alen (v := 64) hx hb hK hH.1 5 rfl rfl dX4_addTurn_22 ?_
        refine lv_icmp_ge (tgt := 63) hx hb dX4_addTurn_23 (by decide) (fun c_23 => ?_) (fun c_23 => ?_)
        · skip
          have hf_r : r' = addTurnV r tc := by subst hr'; exact addTurn_exit hi hj (Or.inr (by have h7 := (nI_leI (a := 64) (by decide) (by omega)).mp c_23; omega))
          exact hE _ _ _ _ _ hH ((congrArg (fun zz => (logW A cI zz ++ teethW A cI zz)) hf_r)) dX4_addTurn_63
        · skip
          have hlt : i < 64 := lt_of_nI (n := 64) (by omega) c_23
          refine lv_iload_n hx hb dX4_addTurn_26 rfl (lv_at hl 2 rfl) ?_
          refine lv_iconst (v := 1) hx hb dX4_addTurn_27 (by decide) ?_
          refine lv_isub hx hb dX4_addTurn_28 ?_
          refine lv_iload_n hx hb dX4_addTurn_29 rfl (lv_at hl 3 rfl) ?_
          refine lv_isub hx hb dX4_addTurn_30 ?_
          refine lv_istore (lv' := [(4, .int ((tc - 1) - (nI i))), (0, .ref (A 7)), (1, .ref (A 3)), (2, .int tc), (3, .int (nI i))]) hx hb dX4_addTurn_31 hl (by decide) rfl (fun ls hl => ?_)
          refine lv_aload_n hx hb dX4_addTurn_33 rfl (lv_at hl 1 rfl) ?_
          refine x_get (v := .ref (A 8)) (C := RX4) (T := TX4) (N := 3) hx hb hts hi4 hown hK hH.1 4 rfl rfl 0 (by decide) (hts (.fieldLink RX4 9 "PulseWheel$Teeth" "sums" "[I") (by decide +kernel)) rfl rfl dX4_addTurn_34 ?_
          refine lv_iload_n hx hb dX4_addTurn_37 rfl (lv_at hl 4 rfl) ?_
          refine lv_dup2_11 hx hb dX4_addTurn_38 rfl rfl ?_
          have hq_2 := ix_in (i := (nI i)) (n := 64) i (rfl) (hlt) (by decide)
          refine x_ild (v := r' 8 i) hx hb hK hH.1 5 rfl hq_2.1 (by rw [hq_2.2]) dX4_addTurn_39 ?_
          refine lv_aload_n hx hb dX4_addTurn_40 rfl (lv_at hl 2 rfl) ?_
          refine lv_iload hx hb dX4_addTurn_41 (lv_at hl 0 rfl) ?_
          refine kSI (va_runVN (As := [.int ((tc - 1) - (nI i))]) (rest := [.int (r' 8 i), .int (nI i), .ref (A 8)]) ⟨hx, hb, hml, hown, hts⟩ (c_X1_tickAt l D cI cB A r' ((tc - 1) - (nI i))  _) ⟨va_cnB 1 hts gX4_addTurn_X1_tickAt_n40 rfl rfl rfl (nwm4_40 (args := args) hN) (hts (.initialized RX1) (by decide +kernel)) (by decide +kernel) ⟨Nat.le_of_ble_eq_true rfl, Nat.le_of_ble_eq_true rfl⟩, hts (.instanceMethod yX1_tickAt) (by decide +kernel), hts (.selects RX1 yX1_tickAt yX1_tickAt) (by decide +kernel)⟩ (preV_cut hH.1 hH.2.1 hK hN (ci := 1) rfl 0 rfl [0, 1, 2, 3] (by decide) rfl) rfl rfl hl.1 rfl (lv_room (Nat.le_of_ble_eq_true rfl)) dX4_addTurn_43 ⟨Nat.zero_le _, Nat.zero_le _⟩) ?_
          refine x_top (y := r 5 (slotN (r 3 3) ((tc - 1) - (nI i)))) (by rw [show r' 3 3 = r 3 3 from congrFun (congrFun hr' 3) 3, show r' 5 = r 5 from congrFun hr' 5]) ?_
          refine lv_aload_n hx hb dX4_addTurn_46 rfl (lv_at hl 2 rfl) ?_
          refine lv_iload hx hb dX4_addTurn_47 (lv_at hl 0 rfl) ?_
          refine lv_iconst (v := 1) hx hb dX4_addTurn_49 (by decide) ?_
          refine lv_iadd hx hb dX4_addTurn_50 ?_
          refine kSI (va_runVN (As := [.int (((tc - 1) - (nI i)) + 1)]) (rest := [.int (r 5 (slotN (r 3 3) ((tc - 1) - (nI i)))), .int (r' 8 i), .int (nI i), .ref (A 8)]) ⟨hx, hb, hml, hown, hts⟩ (c_X1_tickAt l D cI cB A r' (((tc - 1) - (nI i)) + 1)  _) ⟨va_cnB 1 hts gX4_addTurn_X1_tickAt_n40 rfl rfl rfl (nwm4_40 (args := args) hN) (hts (.initialized RX1) (by decide +kernel)) (by decide +kernel) ⟨Nat.le_of_ble_eq_true rfl, Nat.le_of_ble_eq_true rfl⟩, hts (.instanceMethod yX1_tickAt) (by decide +kernel), hts (.selects RX1 yX1_tickAt yX1_tickAt) (by decide +kernel)⟩ (preV_cut hH.1 hH.2.1 hK hN (ci := 1) rfl 0 rfl [0, 1, 2, 3] (by decide) rfl) rfl rfl hl.1 rfl (lv_room (Nat.le_of_ble_eq_true rfl)) dX4_addTurn_51 ⟨Nat.zero_le _, Nat.zero_le _⟩) ?_
          refine x_top (y := r 5 (slotN (r 3 3) (((tc - 1) - (nI i)) + 1))) (by rw [show r' 3 3 = r 3 3 from congrFun (congrFun hr' 3) 3, show r' 5 = r 5 from congrFun hr' 5]) ?_
          refine lv_isub hx hb dX4_addTurn_54 ?_
          refine lv_iadd hx hb dX4_addTurn_55 ?_
          refine x_top (y := r 8 i + toothD r tc i) (by subst hr'; simp only [up1, if_true, sumsV, if_neg (Nat.lt_irrefl i)]; rfl) ?_
          have hq_3 := ix_in (i := (nI i)) (n := 64) i (rfl) (hlt) (by decide)
          obtain ⟨r_4, er_4⟩ : ∃ z, z = up2 r' 8 i (r 8 i + toothD r tc i) := ⟨_, rfl⟩
          refine x_ist (ws' := (logW A cI r_4 ++ teethW A cI r_4)) hx hb hK hH 5 rfl hq_3.1 hq_3.2 dX4_addTurn_56 (by rw [er_4]; rfl) (fun H locs hH => ?_)
          refine lv_iinc (v := nI (i + 1)) (lv' := [(3, .int (nI (i + 1))), (4, .int ((tc - 1) - (nI i))), (0, .ref (A 7)), (1, .ref (A 3)), (2, .int tc)]) hx hb dX4_addTurn_57 hl (k := 4) rfl (nI_1 i) (by decide) rfl (fun ls hl => ?_)
          refine lv_goto (tgt := 12) hx hb dX4_addTurn_60 (by decide) ?_
          exact ih (i + 1) r_4 (by omega) (by omega) (all_step hj (Int32.not_le.mp c_14)) (by subst er_4; subst hr'; exact sums_step) H locs ls (hH) (lv_sub hl [2, 3, 4, 0] rfl)
  exact lp 65 0 r_1 (by decide) (by decide) (fun j h => absurd h (Nat.not_lt_zero j)) (by rw [er_1]; exact sums_0) _ _ ls (hH) (lv_sub hl [1, 2, 3, 0] rfl)

def rm_X4_learn : Room := { frames := 3, cells := 0, slots := 0, locals := 67 }
set_option maxHeartbeats 1000000 in
set_option maxRecDepth 100000 in
theorem c_X4_learn (l : Launch) (D : va_G) (cI cB : ClassId) (A : Nat → Nat) (r : Tb) (tc : Int32) : CV l D cI cB yX4_learn wsX4_learn rm_X4_learn [.ref (A 7), .ref (A 3), .int tc] (logW A cI r ++ teethW A cI r) (logW A cI (learnV r tc) ++ teethW A cI (learnV r tc)) := by
  refine CV.of (cc := cX4_learn) (maxL := 5)  (by decide +kernel) rfl (Nat.le_of_ble_eq_true rfl) ?_
  intro p e s m args below meth c ls A0 Q hT hH hA hl hE
  obtain ⟨hx, hb, hr, hlocks, hnm, hml, hown, hts, hK, hN⟩ := hT
  have hl : lv_has ls 5 [(0, .ref (A 7)), (1, .ref (A 3)), (2, .int tc)] := hl
  have hi1 : ∀ w ∈ wsX10, w ∈ wsX4_learn := by decide +kernel
  have hi4 : ∀ w ∈ wsX40, w ∈ wsX4_learn := by decide +kernel
  refine lv_aload_n hx hb dX4_learn_0 rfl (lv_at hl 0 rfl) ?_
  refine x_get (v := .int (r 7 2)) (C := RX4) (T := TX4) (N := 3) hx hb hts hi4 hown hK hH.1 4 rfl rfl 2 (by decide) (hts (.fieldLink RX4 25 "PulseWheel$Teeth" "eventsAtZero" "I") (by decide +kernel)) rfl rfl dX4_learn_1 ?_
  refine lv_if_le (tgt := 11) hx hb dX4_learn_4 (by decide) (fun c_4 => ?_) (fun c_4 => ?_)
  · skip
    refine lv_iconst (v := 0) hx hb dX4_learn_11 (by decide) ?_
    refine lv_istore_n (lv' := [(3, .int 0), (0, .ref (A 7)), (1, .ref (A 3)), (2, .int tc)]) hx hb dX4_learn_12 rfl hl (by decide) rfl (fun ls hl => ?_)
    refine lv_aload_n hx hb dX4_learn_13 rfl (lv_at hl 2 rfl) ?_
    refine x_getN (v := .int (r 3 3)) (C := RX1) (T := TX1) (N := 5) hx hb hts hi1 hown hK hH.1 0 rfl rfl 3 (by decide) (nwf4_28 (args := args) hN) rfl rfl dX4_learn_14 ?_
    refine lv_aload_n hx hb dX4_learn_17 rfl (lv_at hl 1 rfl) ?_
    refine x_get (v := .int (r 7 2)) (C := RX4) (T := TX4) (N := 3) hx hb hts hi4 hown hK hH.1 4 rfl rfl 2 (by decide) (hts (.fieldLink RX4 25 "PulseWheel$Teeth" "eventsAtZero" "I") (by decide +kernel)) rfl rfl dX4_learn_18 ?_
    refine lv_isub hx hb dX4_learn_21 ?_
    refine lv_iload_n hx hb dX4_learn_22 rfl (lv_at hl 3 rfl) ?_
    refine lv_icmp_ne (tgt := 30) hx hb dX4_learn_23 (by decide) (fun c_23 => ?_) (fun c_23 => ?_)
    · skip
      refine lv_iconst (v := 0) hx hb dX4_learn_30 (by decide) ?_
      refine lv_istore (lv' := [(4, .int 0), (3, .int 0), (0, .ref (A 7)), (1, .ref (A 3)), (2, .int tc)]) hx hb dX4_learn_31 hl (by decide) rfl (fun ls hl => ?_)
      refine lv_iload_n hx hb dX4_learn_33 rfl (lv_at hl 1 rfl) ?_
      refine lv_if_eq (tgt := 56) hx hb dX4_learn_34 (by decide) (fun c_34 => ?_) (fun c_34 => ?_)
      · skip
        refine lv_aload_n hx hb dX4_learn_56 rfl (lv_at hl 2 rfl) ?_
        refine lv_aload_n hx hb dX4_learn_57 rfl (lv_at hl 3 rfl) ?_
        refine x_getN (v := .int (r 3 3)) (C := RX1) (T := TX1) (N := 5) hx hb hts hi1 hown hK hH.1 0 rfl rfl 3 (by decide) (nwf4_28 (args := args) hN) rfl rfl dX4_learn_58 ?_
        obtain ⟨r_1, er_1⟩ : ∃ z, z = up2 r 7 2 (r 3 3) := ⟨_, rfl⟩
        refine x_put (ws' := (logW A cI r_1 ++ teethW A cI r_1)) (v := .int (r 3 3)) (ty := .int) (C := RX4) (T := TX4) (N := 3) hx hb hts hi4 tyX4_ok nmX4 hown hK hH 4 rfl rfl 2 (by decide) (hts (.fieldLink RX4 25 "PulseWheel$Teeth" "eventsAtZero" "I") (by decide +kernel)) rfl rfl rfl (rfl) (rfl) (Nat.le_of_ble_eq_true rfl) dX4_learn_61 (by rw [er_1]; rfl) (fun H locs hH => ?_)
        have hf_r : r_1 = learnV r tc := by subst er_1; first | rfl | (unfold learnV; rw [if_pos c_4, if_neg c_23, if_pos c_34]; done) | (simp only [learnV, if_pos c_4, if_neg c_23, if_pos c_34]; done) | (simp only [learnV, c_4, c_23, c_34, if_true, if_false]; done) | (simp only [learnV, c_4, c_23, c_34, if_true, if_false, not_true, not_false_iff, reduceIte]; done) | (exfalso; simp_all; done) | (simp [learnV, c_4, c_23, c_34]; done) | (simp_all [learnV]; done)
        exact hE _ _ _ _ _ hH ((congrArg (fun zz => (logW A cI zz ++ teethW A cI zz)) hf_r)) dX4_learn_64
      · exact absurd (by decide) c_34
    · skip
      refine lv_iconst (v := 1) hx hb dX4_learn_26 (by decide) ?_
      refine lv_goto (tgt := 31) hx hb dX4_learn_27 (by decide) ?_
      refine lv_istore (lv' := [(4, .int 1), (3, .int 0), (0, .ref (A 7)), (1, .ref (A 3)), (2, .int tc)]) hx hb dX4_learn_31 hl (by decide) rfl (fun ls hl => ?_)
      refine lv_iload_n hx hb dX4_learn_33 rfl (lv_at hl 1 rfl) ?_
      refine lv_if_eq (tgt := 56) hx hb dX4_learn_34 (by decide) (fun c_34 => ?_) (fun c_34 => ?_)
      · skip
        refine lv_aload_n hx hb dX4_learn_56 rfl (lv_at hl 2 rfl) ?_
        refine lv_aload_n hx hb dX4_learn_57 rfl (lv_at hl 3 rfl) ?_
        refine x_getN (v := .int (r 3 3)) (C := RX1) (T := TX1) (N := 5) hx hb hts hi1 hown hK hH.1 0 rfl rfl 3 (by decide) (nwf4_28 (args := args) hN) rfl rfl dX4_learn_58 ?_
        obtain ⟨r_2, er_2⟩ : ∃ z, z = up2 r 7 2 (r 3 3) := ⟨_, rfl⟩
        refine x_put (ws' := (logW A cI r_2 ++ teethW A cI r_2)) (v := .int (r 3 3)) (ty := .int) (C := RX4) (T := TX4) (N := 3) hx hb hts hi4 tyX4_ok nmX4 hown hK hH 4 rfl rfl 2 (by decide) (hts (.fieldLink RX4 25 "PulseWheel$Teeth" "eventsAtZero" "I") (by decide +kernel)) rfl rfl rfl (rfl) (rfl) (Nat.le_of_ble_eq_true rfl) dX4_learn_61 (by rw [er_2]; rfl) (fun H locs hH => ?_)
        have hf_r : r_2 = learnV r tc := by subst er_2; first | rfl | (unfold learnV; rw [if_pos c_4, if_pos c_23, if_pos c_34]; done) | (simp only [learnV, if_pos c_4, if_pos c_23, if_pos c_34]; done) | (simp only [learnV, c_4, c_23, c_34, if_true, if_false]; done) | (simp only [learnV, c_4, c_23, c_34, if_true, if_false, not_true, not_false_iff, reduceIte]; done) | (exfalso; simp_all; done) | (simp [learnV, c_4, c_23, c_34]; done) | (simp_all [learnV]; done)
        exact hE _ _ _ _ _ hH ((congrArg (fun zz => (logW A cI zz ++ teethW A cI zz)) hf_r)) dX4_learn_64
      · exact absurd (by decide) c_34
  · skip
    refine lv_iconst (v := 1) hx hb dX4_learn_7 (by decide) ?_
    refine lv_goto (tgt := 12) hx hb dX4_learn_8 (by decide) ?_
    refine lv_istore_n (lv' := [(3, .int 1), (0, .ref (A 7)), (1, .ref (A 3)), (2, .int tc)]) hx hb dX4_learn_12 rfl hl (by decide) rfl (fun ls hl => ?_)
    refine lv_aload_n hx hb dX4_learn_13 rfl (lv_at hl 2 rfl) ?_
    refine x_getN (v := .int (r 3 3)) (C := RX1) (T := TX1) (N := 5) hx hb hts hi1 hown hK hH.1 0 rfl rfl 3 (by decide) (nwf4_28 (args := args) hN) rfl rfl dX4_learn_14 ?_
    refine lv_aload_n hx hb dX4_learn_17 rfl (lv_at hl 1 rfl) ?_
    refine x_get (v := .int (r 7 2)) (C := RX4) (T := TX4) (N := 3) hx hb hts hi4 hown hK hH.1 4 rfl rfl 2 (by decide) (hts (.fieldLink RX4 25 "PulseWheel$Teeth" "eventsAtZero" "I") (by decide +kernel)) rfl rfl dX4_learn_18 ?_
    refine lv_isub hx hb dX4_learn_21 ?_
    refine lv_iload_n hx hb dX4_learn_22 rfl (lv_at hl 3 rfl) ?_
    refine lv_icmp_ne (tgt := 30) hx hb dX4_learn_23 (by decide) (fun c_23 => ?_) (fun c_23 => ?_)
    · skip
      refine lv_iconst (v := 0) hx hb dX4_learn_30 (by decide) ?_
      refine lv_istore (lv' := [(4, .int 0), (3, .int 1), (0, .ref (A 7)), (1, .ref (A 3)), (2, .int tc)]) hx hb dX4_learn_31 hl (by decide) rfl (fun ls hl => ?_)
      refine lv_iload_n hx hb dX4_learn_33 rfl (lv_at hl 1 rfl) ?_
      refine lv_if_eq (tgt := 56) hx hb dX4_learn_34 (by decide) (fun c_34 => ?_) (fun c_34 => ?_)
      · exact absurd c_34 (by decide)
      · skip
        refine lv_iload hx hb dX4_learn_37 (lv_at hl 0 rfl) ?_
        refine lv_if_eq (tgt := 56) hx hb dX4_learn_39 (by decide) (fun c_39 => ?_) (fun c_39 => ?_)
        · skip
          refine lv_aload_n hx hb dX4_learn_56 rfl (lv_at hl 2 rfl) ?_
          refine lv_aload_n hx hb dX4_learn_57 rfl (lv_at hl 3 rfl) ?_
          refine x_getN (v := .int (r 3 3)) (C := RX1) (T := TX1) (N := 5) hx hb hts hi1 hown hK hH.1 0 rfl rfl 3 (by decide) (nwf4_28 (args := args) hN) rfl rfl dX4_learn_58 ?_
          obtain ⟨r_3, er_3⟩ : ∃ z, z = up2 r 7 2 (r 3 3) := ⟨_, rfl⟩
          refine x_put (ws' := (logW A cI r_3 ++ teethW A cI r_3)) (v := .int (r 3 3)) (ty := .int) (C := RX4) (T := TX4) (N := 3) hx hb hts hi4 tyX4_ok nmX4 hown hK hH 4 rfl rfl 2 (by decide) (hts (.fieldLink RX4 25 "PulseWheel$Teeth" "eventsAtZero" "I") (by decide +kernel)) rfl rfl rfl (rfl) (rfl) (Nat.le_of_ble_eq_true rfl) dX4_learn_61 (by rw [er_3]; rfl) (fun H locs hH => ?_)
          have hf_r : r_3 = learnV r tc := by subst er_3; first | rfl | (unfold learnV; rw [if_neg c_4, if_neg c_23, if_neg c_34, if_pos c_39]; done) | (simp only [learnV, if_neg c_4, if_neg c_23, if_neg c_34, if_pos c_39]; done) | (simp only [learnV, c_4, c_23, c_34, c_39, if_true, if_false]; done) | (simp only [learnV, c_4, c_23, c_34, c_39, if_true, if_false, not_true, not_false_iff, reduceIte]; done) | (exfalso; simp_all; done) | (simp [learnV, c_4, c_23, c_34, c_39]; done) | (simp_all [learnV]; done)
          exact hE _ _ _ _ _ hH ((congrArg (fun zz => (logW A cI zz ++ teethW A cI zz)) hf_r)) dX4_learn_64
        · exact absurd (by decide) c_39
    · skip
      refine lv_iconst (v := 1) hx hb dX4_learn_26 (by decide) ?_
      refine lv_goto (tgt := 31) hx hb dX4_learn_27 (by decide) ?_
      refine lv_istore (lv' := [(4, .int 1), (3, .int 1), (0, .ref (A 7)), (1, .ref (A 3)), (2, .int tc)]) hx hb dX4_learn_31 hl (by decide) rfl (fun ls hl => ?_)
      refine lv_iload_n hx hb dX4_learn_33 rfl (lv_at hl 1 rfl) ?_
      refine lv_if_eq (tgt := 56) hx hb dX4_learn_34 (by decide) (fun c_34 => ?_) (fun c_34 => ?_)
      · exact absurd c_34 (by decide)
      · skip
        refine lv_iload hx hb dX4_learn_37 (lv_at hl 0 rfl) ?_
        refine lv_if_eq (tgt := 56) hx hb dX4_learn_39 (by decide) (fun c_39 => ?_) (fun c_39 => ?_)
        · exact absurd c_39 (by decide)
        · skip
          refine lv_aload_n hx hb dX4_learn_42 rfl (lv_at hl 3 rfl) ?_
          refine x_getN (v := .int (r 3 4)) (C := RX1) (T := TX1) (N := 5) hx hb hts hi1 hown hK hH.1 0 rfl rfl 4 (by decide) (nwf4_33 (args := args) hN) rfl rfl dX4_learn_43 ?_
          refine lv_iload_n hx hb dX4_learn_46 rfl (lv_at hl 4 rfl) ?_
          refine lv_icmp_lt (tgt := 56) hx hb dX4_learn_47 (by decide) (fun c_47 => ?_) (fun c_47 => ?_)
          · skip
            refine lv_aload_n hx hb dX4_learn_56 rfl (lv_at hl 2 rfl) ?_
            refine lv_aload_n hx hb dX4_learn_57 rfl (lv_at hl 3 rfl) ?_
            refine x_getN (v := .int (r 3 3)) (C := RX1) (T := TX1) (N := 5) hx hb hts hi1 hown hK hH.1 0 rfl rfl 3 (by decide) (nwf4_28 (args := args) hN) rfl rfl dX4_learn_58 ?_
            obtain ⟨r_4, er_4⟩ : ∃ z, z = up2 r 7 2 (r 3 3) := ⟨_, rfl⟩
            refine x_put (ws' := (logW A cI r_4 ++ teethW A cI r_4)) (v := .int (r 3 3)) (ty := .int) (C := RX4) (T := TX4) (N := 3) hx hb hts hi4 tyX4_ok nmX4 hown hK hH 4 rfl rfl 2 (by decide) (hts (.fieldLink RX4 25 "PulseWheel$Teeth" "eventsAtZero" "I") (by decide +kernel)) rfl rfl rfl (rfl) (rfl) (Nat.le_of_ble_eq_true rfl) dX4_learn_61 (by rw [er_4]; rfl) (fun H locs hH => ?_)
            have hf_r : r_4 = learnV r tc := by subst er_4; first | rfl | (unfold learnV; rw [if_neg c_4, if_pos c_23, if_neg c_34, if_neg c_39, if_pos c_47]; done) | (simp only [learnV, if_neg c_4, if_pos c_23, if_neg c_34, if_neg c_39, if_pos c_47]; done) | (simp only [learnV, c_4, c_23, c_34, c_39, c_47, if_true, if_false]; done) | (simp only [learnV, c_4, c_23, c_34, c_39, c_47, if_true, if_false, not_true, not_false_iff, reduceIte]; done) | (exfalso; simp_all; done) | (simp [learnV, c_4, c_23, c_34, c_39, c_47]; done) | (simp_all [learnV]; done)
            exact hE _ _ _ _ _ hH ((congrArg (fun zz => (logW A cI zz ++ teethW A cI zz)) hf_r)) dX4_learn_64
          · skip
            refine lv_aload_n hx hb dX4_learn_50 rfl (lv_at hl 2 rfl) ?_
            refine lv_aload_n hx hb dX4_learn_51 rfl (lv_at hl 3 rfl) ?_
            refine lv_iload_n hx hb dX4_learn_52 rfl (lv_at hl 4 rfl) ?_
            obtain ⟨r_5, er_5⟩ : ∃ z, z = addTurnV r tc := ⟨_, rfl⟩
            refine kCV (ws' := (logW A cI r_5 ++ teethW A cI r_5)) (va_runV (As := [.ref (A 3), .int tc]) (rest := []) ⟨hx, hb, hml, hown, hts⟩ (c_X4_addTurn l D cI cB A r tc  _) (cwV 2 hts gX4_learn_X4_addTurn rfl rfl rfl (by decide +kernel) ⟨Nat.le_of_ble_eq_true rfl, Nat.le_of_ble_eq_true rfl⟩) (preV_cut hH.1 hH.2.1 hK hN (ci := 4) rfl 4 rfl [0, 1, 2, 3, 4, 5] (by decide) rfl) rfl rfl hl.1 rfl (lv_room (Nat.le_of_ble_eq_true rfl)) dX4_learn_53 ⟨Nat.zero_le _, Nat.zero_le _⟩) hH hA [0, 1, 2, 3, 4, 5] rfl adr_logteeth (by rw [er_5]; exact putL_logteeth_logteeth) (fun H locs hH => ?_)
            refine lv_aload_n hx hb dX4_learn_56 rfl (lv_at hl 2 rfl) ?_
            refine lv_aload_n hx hb dX4_learn_57 rfl (lv_at hl 3 rfl) ?_
            refine x_getN (v := .int (r_5 3 3)) (C := RX1) (T := TX1) (N := 5) hx hb hts hi1 hown hK hH.1 0 rfl rfl 3 (by decide) (nwf4_28 (args := args) hN) rfl rfl dX4_learn_58 ?_
            refine x_top (y := r 3 3) (congrFun (congrFun er_5 3) 3) ?_
            obtain ⟨r_6, er_6⟩ : ∃ z, z = up2 r_5 7 2 (r 3 3) := ⟨_, rfl⟩
            refine x_put (ws' := (logW A cI r_6 ++ teethW A cI r_6)) (v := .int (r 3 3)) (ty := .int) (C := RX4) (T := TX4) (N := 3) hx hb hts hi4 tyX4_ok nmX4 hown hK hH 4 rfl rfl 2 (by decide) (hts (.fieldLink RX4 25 "PulseWheel$Teeth" "eventsAtZero" "I") (by decide +kernel)) rfl rfl rfl (rfl) (rfl) (Nat.le_of_ble_eq_true rfl) dX4_learn_61 (by rw [er_6]; rfl) (fun H locs hH => ?_)
            have hf_r : r_6 = learnV r tc := by subst er_6; subst er_5; first | rfl | (unfold learnV; rw [if_neg c_4, if_pos c_23, if_neg c_34, if_neg c_39, if_neg c_47]; done) | (simp only [learnV, if_neg c_4, if_pos c_23, if_neg c_34, if_neg c_39, if_neg c_47]; done) | (simp only [learnV, c_4, c_23, c_34, c_39, c_47, if_true, if_false]; done) | (simp only [learnV, c_4, c_23, c_34, c_39, c_47, if_true, if_false, not_true, not_false_iff, reduceIte]; done) | (exfalso; simp_all; done) | (simp [learnV, c_4, c_23, c_34, c_39, c_47]; done) | (simp_all [learnV]; done)
            exact hE _ _ _ _ _ hH ((congrArg (fun zz => (logW A cI zz ++ teethW A cI zz)) hf_r)) dX4_learn_64

theorem great_exit {tc : Int32} {k : Nat} (hk : k ≤ 63) (hj : ∀ j, j < k → nI (j + 1) < tc) (hx : tc ≤ nI (k + 1) ∨ k = 63) : k = lastV tc := by
  have e1 : (nI (k + 1)).toInt = ((k + 1 : Nat) : Int) := nI_toInt (by omega)
  have h1 : tc.toInt ≤ ((k + 1 : Nat) : Int) ∨ k = 63 := hx.imp (fun h => by rw [← e1]; exact Int32.le_iff_toInt_le.mp h) id
  have h2 : 0 < k → (k : Int) < tc.toInt := fun h => by
    have h3 := Int32.lt_iff_toInt_lt.mp (hj (k - 1) (by omega))
    rw [nI_toInt (by omega)] at h3
    omega
  have e64 : (64 : Int32).toInt = 64 := by decide
  have e01 : (1 : Int32).toInt = 1 := by decide
  unfold lastV
  by_cases c1 : tc ≤ 1
  · rw [if_pos c1]
    have := Int32.le_iff_toInt_le.mp c1
    omega
  · rw [if_neg c1]
    have d1 : ¬ tc.toInt ≤ 1 := fun h => c1 (Int32.le_iff_toInt_le.mpr (by rw [e01]; exact h))
    by_cases c2 : 64 ≤ tc
    · rw [if_pos c2]
      have := Int32.le_iff_toInt_le.mp c2
      omega
    · rw [if_neg c2]
      have d2 : ¬ (64 : Int) ≤ tc.toInt := fun h => c2 (Int32.le_iff_toInt_le.mpr (by rw [e64]; exact h))
      have e2 : tc.toNatClampNeg = tc.toInt.toNat := rfl
      omega

def rm_X4_firstGreatest : Room := { frames := 0, cells := 0, slots := 0, locals := 0 }
set_option maxHeartbeats 1000000 in
set_option maxRecDepth 100000 in
theorem c_X4_firstGreatest (l : Launch) (D : va_G) (cI cB : ClassId) (A : Nat → Nat) (r : Tb) (tc : Int32) : SI l D cI cB yX4_firstGreatest wsX4_firstGreatest rm_X4_firstGreatest [.ref (A 7), .int tc] (teethW A cI r) (nI (greatV (r 8) (lastV tc))) := by
  refine SI.of (cc := cX4_firstGreatest) (maxL := 4) (ty := .int) (by decide +kernel) rfl (Nat.le_of_ble_eq_true rfl) ?_
  intro p e s m args below meth c ls Q hT hP hD hl hE
  obtain ⟨hx, hb, hr, hlocks, hnm, hml, hown, hts, hK, hN⟩ := hT
  have hl : lv_has ls 4 [(0, .ref (A 7)), (1, .int tc)] := hl
  have hi4 : ∀ w ∈ wsX40, w ∈ wsX4_firstGreatest := by decide +kernel
  refine lv_iconst (v := 0) hx hb dX4_firstGreatest_0 (by decide) ?_
  refine lv_istore_n (lv' := [(2, .int 0), (0, .ref (A 7)), (1, .int tc)]) hx hb dX4_firstGreatest_1 rfl hl (by decide) rfl (fun ls hl => ?_)
  refine lv_iconst (v := 1) hx hb dX4_firstGreatest_2 (by decide) ?_
  refine lv_istore_n (lv' := [(3, .int 1), (2, .int 0), (0, .ref (A 7)), (1, .int tc)]) hx hb dX4_firstGreatest_3 rfl hl (by decide) rfl (fun ls hl => ?_)
  have lp : ∀ (fuel : Nat) (k : Nat) (bst : Nat), (k ≤ 63) → (63 < k + fuel) → (∀ j, j < k → nI (j + 1) < tc) → (bst = greatV (r 8) k) → ∀ (ls : Array Slot), lv_has ls 4 [(0, .ref (A 7)), (1, .int tc), (2, .int (nI bst)), (3, .int (nI (k + 1)))] → W p l e rm_X4_firstGreatest s m args below meth c s.heap [] 0 0 Q (F0 m 4 ls []) := by
    intro fuel
    induction fuel with
    | zero => intro k bst hk hm hj hbt ls hl; exact absurd hm (by omega)
    | succ fuel ih =>
      intro k bst hk hm hj hbt ls hl
      refine lv_iload_n hx hb dX4_firstGreatest_4 rfl (lv_at hl 3 rfl) ?_
      refine lv_iload_n hx hb dX4_firstGreatest_5 rfl (lv_at hl 1 rfl) ?_
      refine lv_icmp_ge (tgt := 41) hx hb dX4_firstGreatest_6 (by decide) (fun c_6 => ?_) (fun c_6 => ?_)
      · skip
        refine lv_iload_n hx hb dX4_firstGreatest_41 rfl (lv_at hl 2 rfl) ?_
        exact hE _ _ _ (by subst hbt; rw [great_exit hk hj (Or.inl c_6)]) rfl dX4_firstGreatest_42
      · skip
        refine lv_iload_n hx hb dX4_firstGreatest_9 rfl (lv_at hl 3 rfl) ?_
        refine lv_aload_n hx hb dX4_firstGreatest_10 rfl (lv_at hl 0 rfl) ?_
        refine x_get (v := .ref (A 8)) (C := RX4) (T := TX4) (N := 3) hx hb hts hi4 hown hK hP 0 rfl rfl 0 (by decide) (hts (.fieldLink RX4 9 "PulseWheel$Teeth" "sums" "[I") (by decide +kernel)) rfl rfl dX4_firstGreatest_11 ?_
        refine x_alen (v := 64) hx hb hK hP 1 rfl rfl dX4_firstGreatest_14 ?_
        refine lv_icmp_ge (tgt := 41) hx hb dX4_firstGreatest_15 (by decide) (fun c_15 => ?_) (fun c_15 => ?_)
        · skip
          refine lv_iload_n hx hb dX4_firstGreatest_41 rfl (lv_at hl 2 rfl) ?_
          exact hE _ _ _ (by subst hbt; rw [great_exit hk hj (Or.inr (by have h7 := (nI_leI (a := 64) (by decide) (by omega)).mp c_15; omega))]) rfl dX4_firstGreatest_42
        · skip
          have hlt : k + 1 < 64 := lt_of_nI (n := 64) (by omega) c_15
          have hle : bst ≤ k := by subst hbt; exact greatV_le _ _
          refine lv_aload_n hx hb dX4_firstGreatest_18 rfl (lv_at hl 0 rfl) ?_
          refine x_get (v := .ref (A 8)) (C := RX4) (T := TX4) (N := 3) hx hb hts hi4 hown hK hP 0 rfl rfl 0 (by decide) (hts (.fieldLink RX4 9 "PulseWheel$Teeth" "sums" "[I") (by decide +kernel)) rfl rfl dX4_firstGreatest_19 ?_
          refine lv_iload_n hx hb dX4_firstGreatest_22 rfl (lv_at hl 3 rfl) ?_
          have hq_1 := ix_in (i := (nI (k + 1))) (n := 64) (k + 1) (rfl) (hlt) (by decide)
          refine x_ild (v := r 8 (k + 1)) hx hb hK hP 1 rfl hq_1.1 (by rw [hq_1.2]) dX4_firstGreatest_23 ?_
          refine lv_aload_n hx hb dX4_firstGreatest_24 rfl (lv_at hl 0 rfl) ?_
          refine x_get (v := .ref (A 8)) (C := RX4) (T := TX4) (N := 3) hx hb hts hi4 hown hK hP 0 rfl rfl 0 (by decide) (hts (.fieldLink RX4 9 "PulseWheel$Teeth" "sums" "[I") (by decide +kernel)) rfl rfl dX4_firstGreatest_25 ?_
          refine lv_iload_n hx hb dX4_firstGreatest_28 rfl (lv_at hl 2 rfl) ?_
          have hq_2 := ix_in (i := (nI bst)) (n := 64) bst (rfl) (by omega) (by decide)
          refine x_ild (v := r 8 bst) hx hb hK hP 1 rfl hq_2.1 (by rw [hq_2.2]) dX4_firstGreatest_29 ?_
          refine lv_icmp_le (tgt := 35) hx hb dX4_firstGreatest_30 (by decide) (fun c_30 => ?_) (fun c_30 => ?_)
          · skip
            refine lv_iinc (v := nI (k + 1 + 1)) (lv' := [(3, .int (nI (k + 1 + 1))), (0, .ref (A 7)), (1, .int tc), (2, .int (nI bst))]) hx hb dX4_firstGreatest_35 hl (k := 3) rfl (nI_1 (k + 1)) (by decide) rfl (fun ls hl => ?_)
            refine lv_goto (tgt := 4) hx hb dX4_firstGreatest_38 (by decide) ?_
            exact ih (k + 1) bst (by omega) (by omega) (all_step (P := fun j => nI (j + 1) < tc) hj (Int32.not_le.mp c_6)) (by subst hbt; rw [greatV_s, if_neg (Int32.not_lt.mpr c_30)]) ls (lv_sub hl [1, 2, 3, 0] rfl)
          · skip
            refine lv_iload_n hx hb dX4_firstGreatest_33 rfl (lv_at hl 3 rfl) ?_
            refine lv_istore_n (lv' := [(2, .int (nI (k + 1))), (0, .ref (A 7)), (1, .int tc), (3, .int (nI (k + 1)))]) hx hb dX4_firstGreatest_34 rfl hl (by decide) rfl (fun ls hl => ?_)
            refine lv_iinc (v := nI (k + 1 + 1)) (lv' := [(3, .int (nI (k + 1 + 1))), (2, .int (nI (k + 1))), (0, .ref (A 7)), (1, .int tc)]) hx hb dX4_firstGreatest_35 hl (k := 3) rfl (nI_1 (k + 1)) (by decide) rfl (fun ls hl => ?_)
            refine lv_goto (tgt := 4) hx hb dX4_firstGreatest_38 (by decide) ?_
            exact ih (k + 1) (k + 1) (by omega) (by omega) (all_step (P := fun j => nI (j + 1) < tc) hj (Int32.not_le.mp c_6)) (by subst hbt; rw [greatV_s, if_pos (Int32.not_le.mp c_30)]) ls (lv_sub hl [2, 3, 1, 0] rfl)
  exact lp 64 0 0 (by decide) (by decide) (fun j h => absurd h (Nat.not_lt_zero j)) (rfl) ls (lv_sub hl [2, 3, 1, 0] rfl)
