/-! ### the reference: row, moved, tooth, widest -/
def rowF (r : Tb) (b : Nat) (s0 : Int32) : Nat → Nat → Nat
  | 0, n => n
  | f + 1, n => if latV (r 1 (b + 9)) (nI n) < 0 then n else if r 1 (b + 20 + latN (r 1 (b + 9)) (nI n)) = s0 then rowF r b s0 f (n + 1) else n
theorem rowF_s (r : Tb) (b : Nat) (s0 : Int32) (f n : Nat) : rowF r b s0 (f + 1) n = if latV (r 1 (b + 9)) (nI n) < 0 then n else if r 1 (b + 20 + latN (r 1 (b + 9)) (nI n)) = s0 then rowF r b s0 f (n + 1) else n := rfl
def rowM (r : Tb) (b : Nat) : Int32 := if latV (r 1 (b + 9)) 0 < 0 then 0 else if r 1 (b + 20 + latN (r 1 (b + 9)) 0) = 0 then 0 else nI (rowF r b (r 1 (b + 20 + latN (r 1 (b + 9)) 0)) 300 1)
theorem lat_lt {c : Int32} {n : Nat} (hn : n ≤ 300) (h : ¬ latV c (nI n) < 0) : n < 300 := by
  rcases Nat.lt_or_ge n 300 with q | q
  · exact q
  · exfalso
    apply h
    have e : n = 300 := by omega
    subst e
    unfold latV
    rw [if_neg (by decide), if_pos (by decide)]
    decide
theorem row_end {r : Tb} {b : Nat} {s0 : Int32} {fuel n m : Nat} (hm : n + (fuel + 1) = 302) (hn : n ≤ 300) (hg : rowF r b s0 (fuel + 1 - 1) n = m) (h : latV (r 1 (b + 9)) (nI n) < 0 ∨ (¬ latV (r 1 (b + 9)) (nI n) < 0 ∧ ¬ r 1 (b + 20 + latN (r 1 (b + 9)) (nI n)) = s0)) : n = m := by
  obtain ⟨z, hz⟩ : ∃ z, fuel = z + 1 := ⟨fuel - 1, by omega⟩
  subst hz
  rw [← hg, show z + 1 + 1 - 1 = z + 1 from rfl, rowF_s]
  rcases h with h | ⟨h, h2⟩
  · rw [if_pos h]
  · rw [if_neg h, if_neg h2]
theorem row_go {r : Tb} {b : Nat} {s0 : Int32} {fuel n m : Nat} (hm : n + (fuel + 1) = 302) (hn : n ≤ 300) (hg : rowF r b s0 (fuel + 1 - 1) n = m) (h : ¬ latV (r 1 (b + 9)) (nI n) < 0) (h2 : r 1 (b + 20 + latN (r 1 (b + 9)) (nI n)) = s0) : rowF r b s0 (fuel - 1) (n + 1) = m := by
  obtain ⟨z, hz⟩ : ∃ z, fuel = z + 1 := ⟨fuel - 1, by omega⟩
  subst hz
  rw [← hg, show z + 1 + 1 - 1 = z + 1 from rfl, rowF_s, if_neg h, if_pos h2]
  rfl
/-- what a reader's row of the reference must be for the walks: turn and since as the class has them -/
def okM (r : Tb) (b : Nat) : Prop := (∃ T : Nat, 4 ≤ T ∧ T ≤ 64 ∧ r 1 (b + 1) = nI T) ∧ (∃ S : Nat, S ≤ 1000000 ∧ r 1 (b + 15) = nI S) ∧ ∃ n : Nat, n ≤ 1000000 ∧ r 1 (b + 9) = nI n
theorem tooth_ix {k x : Int32} {T : Nat} (hT : T ≤ 64) (ex : x = nI T) (h0 : ¬ k < 0) (h : ¬ x ≤ k) : k = nI k.toNatClampNeg ∧ k.toNatClampNeg < 64 := by
  obtain ⟨j, hj, e⟩ := nI_of h0
  subst e
  subst ex
  rw [nI_clamp hj]
  exact ⟨rfl, Nat.lt_of_lt_of_le (lt_of_nI hj h) hT⟩
def toothM (r : Tb) (b : Nat) (k : Int32) : Int32 := if k < 0 then -1 else if r 1 (b + 1) ≤ k then -1 else r 1 (b + 1440 + k.toNatClampNeg)
theorem then_ix {x n : Int32} {S : Nat} (hS : S ≤ 1000000) (ex : x = nI S) (h1 : ¬ n < 1) (h2 : n ≤ x) : ∃ j : Nat, x - n = nI j ∧ j ≤ 1000000 := by
  subst ex
  have e1 := Int32.le_iff_toInt_le.mp h2
  have e2 : ¬ n.toInt < 1 := fun q => h1 (Int32.lt_iff_toInt_lt.mpr q)
  obtain ⟨j, hj, e⟩ := nI_of (x := n) (fun q => by have := Int32.lt_iff_toInt_lt.mp q; rw [show (0 : Int32).toInt = 0 by decide] at this; omega)
  subst e
  rw [nI_toInt hj, nI_toInt (by omega)] at e1
  exact ⟨S - j, pk_sub (by omega), by omega⟩
def ringN (x : Int32) : Nat := (rem32 x 512).toNatClampNeg
theorem ring_ix {x : Int32} {j : Nat} (e : x = nI j) (hj : j < 2 ^ 31) : rem32 x 512 = nI (ringN x) ∧ ringN x < 512 := by
  have e2 : rem32 x 512 = nI (j % 512) := by rw [e]; exact pk_rem (d := 512) hj (by decide) (by decide)
  have h3 : j % 512 < 512 := Nat.mod_lt _ (by decide)
  unfold ringN
  rw [e2, nI_clamp (by omega)]
  exact ⟨rfl, h3⟩
def movedM (r : Tb) (b : Nat) (n : Int32) : Int32 := if n < 1 then -2000000 else if 500 < n then -2000000 else if n ≤ r 1 (b + 15) then (r 1 (b + 6) - if r 1 (b + 15) - n = 0 then 0 else r 1 (b + 920 + ringN (r 1 (b + 15) - n))) else -2000000
def widestM (r : Tb) (b : Nat) : Int32 := if r 1 (b + 17) = 0 then -1 else nI (greatV (fun j => r 1 (b + 1440 + j)) (lastV (r 1 (b + 1))))

def rm_X6_row : Room := { frames := 1, cells := 0, slots := 0, locals := 23 }
set_option maxHeartbeats 1000000 in
set_option maxRecDepth 100000 in
theorem c_X6_row (l : Launch) (D : va_G) (cI cB : ClassId) (A : Nat → Nat) (r : Tb) (rd : Int32) : SI l D cI cB yX6_row wsX6_row rm_X6_row [.ref (A 0), .int rd] (modelW A cI r) (rdV rd (rowM r (1510 * 0)) (rowM r (1510 * 1)) 0) := by
  refine SI.of (cc := cX6_row) (maxL := 5) (ty := .int) (by decide +kernel) rfl (Nat.le_of_ble_eq_true rfl) ?_
  intro p e s m args below meth c ls Q hT hP hD hl hE
  obtain ⟨hx, hb, hr, hlocks, hnm, hml, hown, hts, hK, hN⟩ := hT
  have hl : lv_has ls 5 [(0, .ref (A 0)), (1, .int rd)] := hl
  have hi6 : ∀ w ∈ wsX60, w ∈ wsX6_row := by decide +kernel
  by_cases c0 : rd = 0
  · subst c0
    refine lv_iload_n hx hb dX6_row_0 rfl (lv_at hl 1 rfl) ?_
    refine kSI (va_runS (As := [.int 0]) (rest := []) ⟨hx, hb, hml, hown, hts⟩ (c_X6_isReader l D cI cB 0  _) (va_cwS 1 hts gX6_row_X6_isReader rfl rfl rfl (by decide +kernel) ⟨Nat.le_of_ble_eq_true rfl, Nat.le_of_ble_eq_true rfl⟩) (preS_nil hK hN) rfl rfl hl.1 rfl (lv_room (Nat.le_of_ble_eq_true rfl)) dX6_row_1 ⟨Nat.zero_le _, Nat.zero_le _⟩) ?_
    refine lv_if_ne (tgt := 9) hx hb dX6_row_4 (by decide) (fun c_4 => ?_) (fun c_4 => ?_)
    · skip
      refine lv_sipush (v := 1510) hx hb dX6_row_9 (by decide) ?_
      refine lv_iload_n hx hb dX6_row_12 rfl (lv_at hl 1 rfl) ?_
      refine lv_imul hx hb dX6_row_13 ?_
      refine x_top (y := nI (1510 * 0)) (by decide) ?_
      refine lv_istore_n (lv' := [(2, .int (nI (1510 * 0))), (0, .ref (A 0)), (1, .int 0)]) hx hb dX6_row_14 rfl hl (by decide) rfl (fun ls hl => ?_)
      refine lv_aload_n hx hb dX6_row_15 rfl (lv_at hl 1 rfl) ?_
      refine lv_iload_n hx hb dX6_row_16 rfl (lv_at hl 0 rfl) ?_
      refine lv_iconst (v := 0) hx hb dX6_row_17 (by decide) ?_
      refine kSI (va_runV (As := [.int (nI (1510 * 0)), .int 0]) (rest := []) ⟨hx, hb, hml, hown, hts⟩ (c_X6_latest l D cI cB A r 0 (1510 * 0) (by decide) _) (cwV 2 hts gX6_row_X6_latest rfl rfl rfl (by decide +kernel) ⟨Nat.le_of_ble_eq_true rfl, Nat.le_of_ble_eq_true rfl⟩) (preV_cut hP hD hK hN (ci := 6) rfl 0 rfl [0, 1, 2, 3, 4, 5] (by decide) rfl) rfl rfl hl.1 rfl (lv_room (Nat.le_of_ble_eq_true rfl)) dX6_row_18 ⟨Nat.zero_le _, Nat.zero_le _⟩) ?_
      refine lv_istore_n (lv' := [(3, .int (latV (r 1 ((1510 * 0) + 9)) 0)), (2, .int (nI (1510 * 0))), (0, .ref (A 0)), (1, .int 0)]) hx hb dX6_row_21 rfl hl (by decide) rfl (fun ls hl => ?_)
      refine lv_iload_n hx hb dX6_row_22 rfl (lv_at hl 0 rfl) ?_
      refine lv_if_lt (tgt := 40) hx hb dX6_row_23 (by decide) (fun c_23 => ?_) (fun c_23 => ?_)
      · skip
        refine lv_iconst (v := 0) hx hb dX6_row_40 (by decide) ?_
        exact hE _ _ _ (by rw [rdV_0]; unfold rowM; rw [if_pos c_23]) rfl dX6_row_41
      · skip
        have hlz := (lat_in (Int32.not_lt.mp c_23)).2
        refine lv_aload_n hx hb dX6_row_26 rfl (lv_at hl 2 rfl) ?_
        refine x_get (v := .ref (A 1)) (C := RX6) (T := TX6) (N := 9) hx hb hts hi6 hown hK hP 0 rfl rfl 0 (by decide) (hts (.fieldLink RX6 7 "PulseWheelModel" "now" "[I") (by decide +kernel)) rfl rfl dX6_row_27 ?_
        refine lv_iload_n hx hb dX6_row_30 rfl (lv_at hl 1 rfl) ?_
        refine lv_bipush (v := 20) hx hb dX6_row_31 (by decide) ?_
        refine lv_iadd hx hb dX6_row_33 ?_
        refine lv_iload_n hx hb dX6_row_34 rfl (lv_at hl 0 rfl) ?_
        refine x_top (y := nI (latN (r 1 ((1510 * 0) + 9)) 0)) ((lat_in (Int32.not_lt.mp c_23)).1) ?_
        refine lv_iadd hx hb dX6_row_35 ?_
        have hq_1 := ix_in (i := (((nI (1510 * 0)) + 20) + (nI (latN (r 1 ((1510 * 0) + 9)) 0)))) (n := 3020) ((1510 * 0) + 20 + (latN (r 1 ((1510 * 0) + 9)) 0)) (nIs2 (1510 * 0) 20 (latN (r 1 ((1510 * 0) + 9)) 0)) (by omega) (by decide)
        refine x_ild (v := r 1 ((1510 * 0) + 20 + (latN (r 1 ((1510 * 0) + 9)) 0))) hx hb hK hP 1 rfl hq_1.1 (by rw [hq_1.2]) dX6_row_36 ?_
        refine lv_if_ne (tgt := 42) hx hb dX6_row_37 (by decide) (fun c_37 => ?_) (fun c_37 => ?_)
        · skip
          refine lv_iconst (v := 1) hx hb dX6_row_42 (by decide) ?_
          refine lv_istore (lv' := [(4, .int 1), (3, .int (latV (r 1 ((1510 * 0) + 9)) 0)), (2, .int (nI (1510 * 0))), (0, .ref (A 0)), (1, .int 0)]) hx hb dX6_row_43 hl (by decide) rfl (fun ls hl => ?_)
          have hl0 := (lat_in (Int32.not_lt.mp c_23)).2
          have lp : ∀ (fuel : Nat) (n : Nat), (n ≤ 300) → (n + fuel = 302) → (rowF r (1510 * 0) (r 1 ((1510 * 0) + 20 + latN (r 1 ((1510 * 0) + 9)) 0)) (fuel - 1) n = rowF r (1510 * 0) (r 1 ((1510 * 0) + 20 + latN (r 1 ((1510 * 0) + 9)) 0)) 300 1) → ∀ (ls : Array Slot), lv_has ls 5 [(0, .ref (A 0)), (1, .int 0), (2, .int (nI (1510 * 0))), (3, .int (latV (r 1 ((1510 * 0) + 9)) 0)), (4, .int (nI n))] → W p l e rm_X6_row s m args below meth c s.heap [] 0 0 Q (F0 m 45 ls []) := by
            intro fuel
            induction fuel with
            | zero => intro n hn hm hg ls hl; exact absurd hm (by omega)
            | succ fuel ih =>
              intro n hn hm hg ls hl
              refine lv_aload_n hx hb dX6_row_45 rfl (lv_at hl 0 rfl) ?_
              refine lv_iload_n hx hb dX6_row_46 rfl (lv_at hl 2 rfl) ?_
              refine lv_iload hx hb dX6_row_47 (lv_at hl 4 rfl) ?_
              refine kSI (va_runV (As := [.int (nI (1510 * 0)), .int (nI n)]) (rest := []) ⟨hx, hb, hml, hown, hts⟩ (c_X6_latest l D cI cB A r (nI n) (1510 * 0) (by decide) _) (cwV 2 hts gX6_row_X6_latest rfl rfl rfl (by decide +kernel) ⟨Nat.le_of_ble_eq_true rfl, Nat.le_of_ble_eq_true rfl⟩) (preV_cut hP hD hK hN (ci := 6) rfl 0 rfl [0, 1, 2, 3, 4, 5] (by decide) rfl) rfl rfl hl.1 rfl (lv_room (Nat.le_of_ble_eq_true rfl)) dX6_row_49 ⟨Nat.zero_le _, Nat.zero_le _⟩) ?_
              refine lv_if_lt (tgt := 92) hx hb dX6_row_52 (by decide) (fun c_52 => ?_) (fun c_52 => ?_)
              · skip
                refine lv_iload hx hb dX6_row_92 (lv_at hl 4 rfl) ?_
                exact hE _ _ _ (by rw [rdV_0, row_end hm hn hg (Or.inl c_52)]; unfold rowM; rw [if_neg c_23, if_neg c_37]) rfl dX6_row_94
              · skip
                have hln := (lat_in (Int32.not_lt.mp c_52)).2
                refine lv_aload_n hx hb dX6_row_55 rfl (lv_at hl 0 rfl) ?_
                refine x_get (v := .ref (A 1)) (C := RX6) (T := TX6) (N := 9) hx hb hts hi6 hown hK hP 0 rfl rfl 0 (by decide) (hts (.fieldLink RX6 7 "PulseWheelModel" "now" "[I") (by decide +kernel)) rfl rfl dX6_row_56 ?_
                refine lv_iload_n hx hb dX6_row_59 rfl (lv_at hl 2 rfl) ?_
                refine lv_bipush (v := 20) hx hb dX6_row_60 (by decide) ?_
                refine lv_iadd hx hb dX6_row_62 ?_
                refine lv_aload_n hx hb dX6_row_63 rfl (lv_at hl 0 rfl) ?_
                refine lv_iload_n hx hb dX6_row_64 rfl (lv_at hl 2 rfl) ?_
                refine lv_iload hx hb dX6_row_65 (lv_at hl 4 rfl) ?_
                refine kSI (va_runV (As := [.int (nI (1510 * 0)), .int (nI n)]) (rest := [.int ((nI (1510 * 0)) + 20), .ref (A 1)]) ⟨hx, hb, hml, hown, hts⟩ (c_X6_latest l D cI cB A r (nI n) (1510 * 0) (by decide) _) (cwV 2 hts gX6_row_X6_latest rfl rfl rfl (by decide +kernel) ⟨Nat.le_of_ble_eq_true rfl, Nat.le_of_ble_eq_true rfl⟩) (preV_cut hP hD hK hN (ci := 6) rfl 0 rfl [0, 1, 2, 3, 4, 5] (by decide) rfl) rfl rfl hl.1 rfl (lv_room (Nat.le_of_ble_eq_true rfl)) dX6_row_67 ⟨Nat.zero_le _, Nat.zero_le _⟩) ?_
                refine x_top (y := nI (latN (r 1 ((1510 * 0) + 9)) (nI n))) ((lat_in (Int32.not_lt.mp c_52)).1) ?_
                refine lv_iadd hx hb dX6_row_70 ?_
                have hq_2 := ix_in (i := (((nI (1510 * 0)) + 20) + (nI (latN (r 1 ((1510 * 0) + 9)) (nI n))))) (n := 3020) ((1510 * 0) + 20 + (latN (r 1 ((1510 * 0) + 9)) (nI n))) (nIs2 (1510 * 0) 20 (latN (r 1 ((1510 * 0) + 9)) (nI n))) (by omega) (by decide)
                refine x_ild (v := r 1 ((1510 * 0) + 20 + (latN (r 1 ((1510 * 0) + 9)) (nI n)))) hx hb hK hP 1 rfl hq_2.1 (by rw [hq_2.2]) dX6_row_71 ?_
                refine lv_aload_n hx hb dX6_row_72 rfl (lv_at hl 0 rfl) ?_
                refine x_get (v := .ref (A 1)) (C := RX6) (T := TX6) (N := 9) hx hb hts hi6 hown hK hP 0 rfl rfl 0 (by decide) (hts (.fieldLink RX6 7 "PulseWheelModel" "now" "[I") (by decide +kernel)) rfl rfl dX6_row_73 ?_
                refine lv_iload_n hx hb dX6_row_76 rfl (lv_at hl 2 rfl) ?_
                refine lv_bipush (v := 20) hx hb dX6_row_77 (by decide) ?_
                refine lv_iadd hx hb dX6_row_79 ?_
                refine lv_iload_n hx hb dX6_row_80 rfl (lv_at hl 3 rfl) ?_
                refine x_top (y := nI (latN (r 1 ((1510 * 0) + 9)) 0)) ((lat_in (Int32.not_lt.mp c_23)).1) ?_
                refine lv_iadd hx hb dX6_row_81 ?_
                have hq_3 := ix_in (i := (((nI (1510 * 0)) + 20) + (nI (latN (r 1 ((1510 * 0) + 9)) 0)))) (n := 3020) ((1510 * 0) + 20 + (latN (r 1 ((1510 * 0) + 9)) 0)) (nIs2 (1510 * 0) 20 (latN (r 1 ((1510 * 0) + 9)) 0)) (by omega) (by decide)
                refine x_ild (v := r 1 ((1510 * 0) + 20 + (latN (r 1 ((1510 * 0) + 9)) 0))) hx hb hK hP 1 rfl hq_3.1 (by rw [hq_3.2]) dX6_row_82 ?_
                refine lv_icmp_ne (tgt := 92) hx hb dX6_row_83 (by decide) (fun c_83 => ?_) (fun c_83 => ?_)
                · skip
                  refine lv_iload hx hb dX6_row_92 (lv_at hl 4 rfl) ?_
                  exact hE _ _ _ (by rw [rdV_0, row_end hm hn hg (Or.inr ⟨c_52, c_83⟩)]; unfold rowM; rw [if_neg c_23, if_neg c_37]) rfl dX6_row_94
                · skip
                  refine lv_iinc (v := nI (n + 1)) (lv' := [(4, .int (nI (n + 1))), (0, .ref (A 0)), (1, .int 0), (2, .int (nI (1510 * 0))), (3, .int (latV (r 1 ((1510 * 0) + 9)) 0))]) hx hb dX6_row_86 hl (k := 4) rfl (nI_1 n) (by decide) rfl (fun ls hl => ?_)
                  refine lv_goto (tgt := 45) hx hb dX6_row_89 (by decide) ?_
                  exact ih (n + 1) (by have := lat_lt hn c_52; omega) (by omega) (row_go hm hn hg c_52 c_83) ls (lv_sub hl [1, 2, 3, 4, 0] rfl)
          exact lp 301 1 (by decide) (rfl) (rfl) ls (lv_sub hl [3, 4, 2, 1, 0] rfl)
        · skip
          refine lv_iconst (v := 0) hx hb dX6_row_40 (by decide) ?_
          exact hE _ _ _ (by rw [rdV_0]; unfold rowM; rw [if_neg c_23, if_pos c_37]) rfl dX6_row_41
    · exact absurd c_4 (by decide)
  by_cases c1 : rd = 1
  · subst c1
    refine lv_iload_n hx hb dX6_row_0 rfl (lv_at hl 1 rfl) ?_
    refine kSI (va_runS (As := [.int 1]) (rest := []) ⟨hx, hb, hml, hown, hts⟩ (c_X6_isReader l D cI cB 1  _) (va_cwS 1 hts gX6_row_X6_isReader rfl rfl rfl (by decide +kernel) ⟨Nat.le_of_ble_eq_true rfl, Nat.le_of_ble_eq_true rfl⟩) (preS_nil hK hN) rfl rfl hl.1 rfl (lv_room (Nat.le_of_ble_eq_true rfl)) dX6_row_1 ⟨Nat.zero_le _, Nat.zero_le _⟩) ?_
    refine lv_if_ne (tgt := 9) hx hb dX6_row_4 (by decide) (fun c_4 => ?_) (fun c_4 => ?_)
    · skip
      refine lv_sipush (v := 1510) hx hb dX6_row_9 (by decide) ?_
      refine lv_iload_n hx hb dX6_row_12 rfl (lv_at hl 1 rfl) ?_
      refine lv_imul hx hb dX6_row_13 ?_
      refine x_top (y := nI (1510 * 1)) (by decide) ?_
      refine lv_istore_n (lv' := [(2, .int (nI (1510 * 1))), (0, .ref (A 0)), (1, .int 1)]) hx hb dX6_row_14 rfl hl (by decide) rfl (fun ls hl => ?_)
      refine lv_aload_n hx hb dX6_row_15 rfl (lv_at hl 1 rfl) ?_
      refine lv_iload_n hx hb dX6_row_16 rfl (lv_at hl 0 rfl) ?_
      refine lv_iconst (v := 0) hx hb dX6_row_17 (by decide) ?_
      refine kSI (va_runV (As := [.int (nI (1510 * 1)), .int 0]) (rest := []) ⟨hx, hb, hml, hown, hts⟩ (c_X6_latest l D cI cB A r 0 (1510 * 1) (by decide) _) (cwV 2 hts gX6_row_X6_latest rfl rfl rfl (by decide +kernel) ⟨Nat.le_of_ble_eq_true rfl, Nat.le_of_ble_eq_true rfl⟩) (preV_cut hP hD hK hN (ci := 6) rfl 0 rfl [0, 1, 2, 3, 4, 5] (by decide) rfl) rfl rfl hl.1 rfl (lv_room (Nat.le_of_ble_eq_true rfl)) dX6_row_18 ⟨Nat.zero_le _, Nat.zero_le _⟩) ?_
      refine lv_istore_n (lv' := [(3, .int (latV (r 1 ((1510 * 1) + 9)) 0)), (2, .int (nI (1510 * 1))), (0, .ref (A 0)), (1, .int 1)]) hx hb dX6_row_21 rfl hl (by decide) rfl (fun ls hl => ?_)
      refine lv_iload_n hx hb dX6_row_22 rfl (lv_at hl 0 rfl) ?_
      refine lv_if_lt (tgt := 40) hx hb dX6_row_23 (by decide) (fun c_23 => ?_) (fun c_23 => ?_)
      · skip
        refine lv_iconst (v := 0) hx hb dX6_row_40 (by decide) ?_
        exact hE _ _ _ (by rw [rdV_1]; unfold rowM; rw [if_pos c_23]) rfl dX6_row_41
      · skip
        have hlz := (lat_in (Int32.not_lt.mp c_23)).2
        refine lv_aload_n hx hb dX6_row_26 rfl (lv_at hl 2 rfl) ?_
        refine x_get (v := .ref (A 1)) (C := RX6) (T := TX6) (N := 9) hx hb hts hi6 hown hK hP 0 rfl rfl 0 (by decide) (hts (.fieldLink RX6 7 "PulseWheelModel" "now" "[I") (by decide +kernel)) rfl rfl dX6_row_27 ?_
        refine lv_iload_n hx hb dX6_row_30 rfl (lv_at hl 1 rfl) ?_
        refine lv_bipush (v := 20) hx hb dX6_row_31 (by decide) ?_
        refine lv_iadd hx hb dX6_row_33 ?_
        refine lv_iload_n hx hb dX6_row_34 rfl (lv_at hl 0 rfl) ?_
        refine x_top (y := nI (latN (r 1 ((1510 * 1) + 9)) 0)) ((lat_in (Int32.not_lt.mp c_23)).1) ?_
        refine lv_iadd hx hb dX6_row_35 ?_
        have hq_4 := ix_in (i := (((nI (1510 * 1)) + 20) + (nI (latN (r 1 ((1510 * 1) + 9)) 0)))) (n := 3020) ((1510 * 1) + 20 + (latN (r 1 ((1510 * 1) + 9)) 0)) (nIs2 (1510 * 1) 20 (latN (r 1 ((1510 * 1) + 9)) 0)) (by omega) (by decide)
        refine x_ild (v := r 1 ((1510 * 1) + 20 + (latN (r 1 ((1510 * 1) + 9)) 0))) hx hb hK hP 1 rfl hq_4.1 (by rw [hq_4.2]) dX6_row_36 ?_
        refine lv_if_ne (tgt := 42) hx hb dX6_row_37 (by decide) (fun c_37 => ?_) (fun c_37 => ?_)
        · skip
          refine lv_iconst (v := 1) hx hb dX6_row_42 (by decide) ?_
          refine lv_istore (lv' := [(4, .int 1), (3, .int (latV (r 1 ((1510 * 1) + 9)) 0)), (2, .int (nI (1510 * 1))), (0, .ref (A 0)), (1, .int 1)]) hx hb dX6_row_43 hl (by decide) rfl (fun ls hl => ?_)
          have hl0 := (lat_in (Int32.not_lt.mp c_23)).2
          have lp : ∀ (fuel : Nat) (n : Nat), (n ≤ 300) → (n + fuel = 302) → (rowF r (1510 * 1) (r 1 ((1510 * 1) + 20 + latN (r 1 ((1510 * 1) + 9)) 0)) (fuel - 1) n = rowF r (1510 * 1) (r 1 ((1510 * 1) + 20 + latN (r 1 ((1510 * 1) + 9)) 0)) 300 1) → ∀ (ls : Array Slot), lv_has ls 5 [(0, .ref (A 0)), (1, .int 1), (2, .int (nI (1510 * 1))), (3, .int (latV (r 1 ((1510 * 1) + 9)) 0)), (4, .int (nI n))] → W p l e rm_X6_row s m args below meth c s.heap [] 0 0 Q (F0 m 45 ls []) := by
            intro fuel
            induction fuel with
            | zero => intro n hn hm hg ls hl; exact absurd hm (by omega)
            | succ fuel ih =>
              intro n hn hm hg ls hl
              refine lv_aload_n hx hb dX6_row_45 rfl (lv_at hl 0 rfl) ?_
              refine lv_iload_n hx hb dX6_row_46 rfl (lv_at hl 2 rfl) ?_
              refine lv_iload hx hb dX6_row_47 (lv_at hl 4 rfl) ?_
              refine kSI (va_runV (As := [.int (nI (1510 * 1)), .int (nI n)]) (rest := []) ⟨hx, hb, hml, hown, hts⟩ (c_X6_latest l D cI cB A r (nI n) (1510 * 1) (by decide) _) (cwV 2 hts gX6_row_X6_latest rfl rfl rfl (by decide +kernel) ⟨Nat.le_of_ble_eq_true rfl, Nat.le_of_ble_eq_true rfl⟩) (preV_cut hP hD hK hN (ci := 6) rfl 0 rfl [0, 1, 2, 3, 4, 5] (by decide) rfl) rfl rfl hl.1 rfl (lv_room (Nat.le_of_ble_eq_true rfl)) dX6_row_49 ⟨Nat.zero_le _, Nat.zero_le _⟩) ?_
              refine lv_if_lt (tgt := 92) hx hb dX6_row_52 (by decide) (fun c_52 => ?_) (fun c_52 => ?_)
              · skip
                refine lv_iload hx hb dX6_row_92 (lv_at hl 4 rfl) ?_
                exact hE _ _ _ (by rw [rdV_1, row_end hm hn hg (Or.inl c_52)]; unfold rowM; rw [if_neg c_23, if_neg c_37]) rfl dX6_row_94
              · skip
                have hln := (lat_in (Int32.not_lt.mp c_52)).2
                refine lv_aload_n hx hb dX6_row_55 rfl (lv_at hl 0 rfl) ?_
                refine x_get (v := .ref (A 1)) (C := RX6) (T := TX6) (N := 9) hx hb hts hi6 hown hK hP 0 rfl rfl 0 (by decide) (hts (.fieldLink RX6 7 "PulseWheelModel" "now" "[I") (by decide +kernel)) rfl rfl dX6_row_56 ?_
                refine lv_iload_n hx hb dX6_row_59 rfl (lv_at hl 2 rfl) ?_
                refine lv_bipush (v := 20) hx hb dX6_row_60 (by decide) ?_
                refine lv_iadd hx hb dX6_row_62 ?_
                refine lv_aload_n hx hb dX6_row_63 rfl (lv_at hl 0 rfl) ?_
                refine lv_iload_n hx hb dX6_row_64 rfl (lv_at hl 2 rfl) ?_
                refine lv_iload hx hb dX6_row_65 (lv_at hl 4 rfl) ?_
                refine kSI (va_runV (As := [.int (nI (1510 * 1)), .int (nI n)]) (rest := [.int ((nI (1510 * 1)) + 20), .ref (A 1)]) ⟨hx, hb, hml, hown, hts⟩ (c_X6_latest l D cI cB A r (nI n) (1510 * 1) (by decide) _) (cwV 2 hts gX6_row_X6_latest rfl rfl rfl (by decide +kernel) ⟨Nat.le_of_ble_eq_true rfl, Nat.le_of_ble_eq_true rfl⟩) (preV_cut hP hD hK hN (ci := 6) rfl 0 rfl [0, 1, 2, 3, 4, 5] (by decide) rfl) rfl rfl hl.1 rfl (lv_room (Nat.le_of_ble_eq_true rfl)) dX6_row_67 ⟨Nat.zero_le _, Nat.zero_le _⟩) ?_
                refine x_top (y := nI (latN (r 1 ((1510 * 1) + 9)) (nI n))) ((lat_in (Int32.not_lt.mp c_52)).1) ?_
                refine lv_iadd hx hb dX6_row_70 ?_
                have hq_5 := ix_in (i := (((nI (1510 * 1)) + 20) + (nI (latN (r 1 ((1510 * 1) + 9)) (nI n))))) (n := 3020) ((1510 * 1) + 20 + (latN (r 1 ((1510 * 1) + 9)) (nI n))) (nIs2 (1510 * 1) 20 (latN (r 1 ((1510 * 1) + 9)) (nI n))) (by omega) (by decide)
                refine x_ild (v := r 1 ((1510 * 1) + 20 + (latN (r 1 ((1510 * 1) + 9)) (nI n)))) hx hb hK hP 1 rfl hq_5.1 (by rw [hq_5.2]) dX6_row_71 ?_
                refine lv_aload_n hx hb dX6_row_72 rfl (lv_at hl 0 rfl) ?_
                refine x_get (v := .ref (A 1)) (C := RX6) (T := TX6) (N := 9) hx hb hts hi6 hown hK hP 0 rfl rfl 0 (by decide) (hts (.fieldLink RX6 7 "PulseWheelModel" "now" "[I") (by decide +kernel)) rfl rfl dX6_row_73 ?_
                refine lv_iload_n hx hb dX6_row_76 rfl (lv_at hl 2 rfl) ?_
                refine lv_bipush (v := 20) hx hb dX6_row_77 (by decide) ?_
                refine lv_iadd hx hb dX6_row_79 ?_
                refine lv_iload_n hx hb dX6_row_80 rfl (lv_at hl 3 rfl) ?_
                refine x_top (y := nI (latN (r 1 ((1510 * 1) + 9)) 0)) ((lat_in (Int32.not_lt.mp c_23)).1) ?_
                refine lv_iadd hx hb dX6_row_81 ?_
                have hq_6 := ix_in (i := (((nI (1510 * 1)) + 20) + (nI (latN (r 1 ((1510 * 1) + 9)) 0)))) (n := 3020) ((1510 * 1) + 20 + (latN (r 1 ((1510 * 1) + 9)) 0)) (nIs2 (1510 * 1) 20 (latN (r 1 ((1510 * 1) + 9)) 0)) (by omega) (by decide)
                refine x_ild (v := r 1 ((1510 * 1) + 20 + (latN (r 1 ((1510 * 1) + 9)) 0))) hx hb hK hP 1 rfl hq_6.1 (by rw [hq_6.2]) dX6_row_82 ?_
                refine lv_icmp_ne (tgt := 92) hx hb dX6_row_83 (by decide) (fun c_83 => ?_) (fun c_83 => ?_)
                · skip
                  refine lv_iload hx hb dX6_row_92 (lv_at hl 4 rfl) ?_
                  exact hE _ _ _ (by rw [rdV_1, row_end hm hn hg (Or.inr ⟨c_52, c_83⟩)]; unfold rowM; rw [if_neg c_23, if_neg c_37]) rfl dX6_row_94
                · skip
                  refine lv_iinc (v := nI (n + 1)) (lv' := [(4, .int (nI (n + 1))), (0, .ref (A 0)), (1, .int 1), (2, .int (nI (1510 * 1))), (3, .int (latV (r 1 ((1510 * 1) + 9)) 0))]) hx hb dX6_row_86 hl (k := 4) rfl (nI_1 n) (by decide) rfl (fun ls hl => ?_)
                  refine lv_goto (tgt := 45) hx hb dX6_row_89 (by decide) ?_
                  exact ih (n + 1) (by have := lat_lt hn c_52; omega) (by omega) (row_go hm hn hg c_52 c_83) ls (lv_sub hl [1, 2, 3, 4, 0] rfl)
          exact lp 301 1 (by decide) (rfl) (rfl) ls (lv_sub hl [3, 4, 2, 1, 0] rfl)
        · skip
          refine lv_iconst (v := 0) hx hb dX6_row_40 (by decide) ?_
          exact hE _ _ _ (by rw [rdV_1]; unfold rowM; rw [if_neg c_23, if_pos c_37]) rfl dX6_row_41
    · exact absurd c_4 (by decide)
  refine lv_iload_n hx hb dX6_row_0 rfl (lv_at hl 1 rfl) ?_
  refine kSI (va_runS (As := [.int rd]) (rest := []) ⟨hx, hb, hml, hown, hts⟩ (c_X6_isReader l D cI cB rd  _) (va_cwS 1 hts gX6_row_X6_isReader rfl rfl rfl (by decide +kernel) ⟨Nat.le_of_ble_eq_true rfl, Nat.le_of_ble_eq_true rfl⟩) (preS_nil hK hN) rfl rfl hl.1 rfl (lv_room (Nat.le_of_ble_eq_true rfl)) dX6_row_1 ⟨Nat.zero_le _, Nat.zero_le _⟩) ?_
  refine lv_if_ne (tgt := 9) hx hb dX6_row_4 (by decide) (fun c_4 => ?_) (fun c_4 => ?_)
  · exact absurd (by unfold isRdV; rw [if_neg c0, if_neg c1]) c_4
  · skip
    refine lv_iconst (v := 0) hx hb dX6_row_7 (by decide) ?_
    exact hE _ _ _ (by rw [rdV_n c0 c1]) rfl dX6_row_8

def rm_X6_tooth : Room := { frames := 1, cells := 0, slots := 0, locals := 20 }
set_option maxHeartbeats 1000000 in
set_option maxRecDepth 100000 in
theorem c_X6_tooth (l : Launch) (D : va_G) (cI cB : ClassId) (A : Nat → Nat) (r : Tb) (rd k : Int32) (ok0 : okM r (1510 * 0)) (ok1 : okM r (1510 * 1)) : SI l D cI cB yX6_tooth wsX6_tooth rm_X6_tooth [.ref (A 0), .int rd, .int k] (modelW A cI r) (rdV rd (toothM r (1510 * 0) k) (toothM r (1510 * 1) k) (-1)) := by
  refine SI.of (cc := cX6_tooth) (maxL := 3) (ty := .int) (by decide +kernel) rfl (Nat.le_of_ble_eq_true rfl) ?_
  intro p e s m args below meth c ls Q hT hP hD hl hE
  obtain ⟨hx, hb, hr, hlocks, hnm, hml, hown, hts, hK, hN⟩ := hT
  have hl : lv_has ls 3 [(0, .ref (A 0)), (1, .int rd), (2, .int k)] := hl
  have hi6 : ∀ w ∈ wsX60, w ∈ wsX6_tooth := by decide +kernel
  by_cases c0 : rd = 0
  · subst c0
    refine lv_iload_n hx hb dX6_tooth_0 rfl (lv_at hl 1 rfl) ?_
    refine kSI (va_runS (As := [.int 0]) (rest := []) ⟨hx, hb, hml, hown, hts⟩ (c_X6_isReader l D cI cB 0  _) (va_cwS 1 hts gX6_tooth_X6_isReader rfl rfl rfl (by decide +kernel) ⟨Nat.le_of_ble_eq_true rfl, Nat.le_of_ble_eq_true rfl⟩) (preS_nil hK hN) rfl rfl hl.1 rfl (lv_room (Nat.le_of_ble_eq_true rfl)) dX6_tooth_1 ⟨Nat.zero_le _, Nat.zero_le _⟩) ?_
    refine lv_if_eq (tgt := 46) hx hb dX6_tooth_4 (by decide) (fun c_4 => ?_) (fun c_4 => ?_)
    · exact absurd c_4 (by decide)
    · skip
      refine lv_iload_n hx hb dX6_tooth_7 rfl (lv_at hl 2 rfl) ?_
      refine lv_if_lt (tgt := 46) hx hb dX6_tooth_8 (by decide) (fun c_8 => ?_) (fun c_8 => ?_)
      · skip
        refine lv_iconst (v := -1) hx hb dX6_tooth_46 (by decide) ?_
        exact hE _ _ _ (by first | (rw [rdV_0]; done) | (rw [rdV_0]; unfold toothM; rw [if_pos c_8]; done)) rfl dX6_tooth_47
      · skip
        refine lv_iload_n hx hb dX6_tooth_11 rfl (lv_at hl 2 rfl) ?_
        refine lv_aload_n hx hb dX6_tooth_12 rfl (lv_at hl 0 rfl) ?_
        refine x_get (v := .ref (A 1)) (C := RX6) (T := TX6) (N := 9) hx hb hts hi6 hown hK hP 0 rfl rfl 0 (by decide) (hts (.fieldLink RX6 7 "PulseWheelModel" "now" "[I") (by decide +kernel)) rfl rfl dX6_tooth_13 ?_
        refine lv_sipush (v := 1510) hx hb dX6_tooth_16 (by decide) ?_
        refine lv_iload_n hx hb dX6_tooth_19 rfl (lv_at hl 1 rfl) ?_
        refine lv_imul hx hb dX6_tooth_20 ?_
        refine x_top (y := nI (1510 * 0)) (by decide) ?_
        refine lv_iconst (v := 1) hx hb dX6_tooth_21 (by decide) ?_
        refine lv_iadd hx hb dX6_tooth_22 ?_
        have hq_1 := ix_in (i := ((nI (1510 * 0)) + 1)) (n := 3020) ((1510 * 0) + 1) (nI_add (1510 * 0) 1) (by omega) (by decide)
        refine x_ild (v := r 1 ((1510 * 0) + 1)) hx hb hK hP 1 rfl hq_1.1 (by rw [hq_1.2]) dX6_tooth_23 ?_
        refine lv_icmp_ge (tgt := 46) hx hb dX6_tooth_24 (by decide) (fun c_24 => ?_) (fun c_24 => ?_)
        · skip
          refine lv_iconst (v := -1) hx hb dX6_tooth_46 (by decide) ?_
          exact hE _ _ _ (by first | (rw [rdV_0]; done) | (rw [rdV_0]; unfold toothM; rw [if_neg c_8, if_pos c_24]; done)) rfl dX6_tooth_47
        · skip
          obtain ⟨T, hT4, hT, eT⟩ := ok0.1
          have hkk := tooth_ix hT eT c_8 c_24
          have hkk2 := hkk.2
          refine lv_aload_n hx hb dX6_tooth_27 rfl (lv_at hl 0 rfl) ?_
          refine x_get (v := .ref (A 1)) (C := RX6) (T := TX6) (N := 9) hx hb hts hi6 hown hK hP 0 rfl rfl 0 (by decide) (hts (.fieldLink RX6 7 "PulseWheelModel" "now" "[I") (by decide +kernel)) rfl rfl dX6_tooth_28 ?_
          refine lv_sipush (v := 1510) hx hb dX6_tooth_31 (by decide) ?_
          refine lv_iload_n hx hb dX6_tooth_34 rfl (lv_at hl 1 rfl) ?_
          refine lv_imul hx hb dX6_tooth_35 ?_
          refine x_top (y := nI (1510 * 0)) (by decide) ?_
          refine lv_sipush (v := 1440) hx hb dX6_tooth_36 (by decide) ?_
          refine lv_iadd hx hb dX6_tooth_39 ?_
          refine lv_iload_n hx hb dX6_tooth_40 rfl (lv_at hl 2 rfl) ?_
          refine x_top (y := nI k.toNatClampNeg) (hkk.1) ?_
          refine lv_iadd hx hb dX6_tooth_41 ?_
          have hq_2 := ix_in (i := (((nI (1510 * 0)) + 1440) + (nI k.toNatClampNeg))) (n := 3020) ((1510 * 0) + 1440 + k.toNatClampNeg) (nIs2 (1510 * 0) 1440 k.toNatClampNeg) (by omega) (by decide)
          refine x_ild (v := r 1 ((1510 * 0) + 1440 + k.toNatClampNeg)) hx hb hK hP 1 rfl hq_2.1 (by rw [hq_2.2]) dX6_tooth_42 ?_
          refine lv_goto (tgt := 47) hx hb dX6_tooth_43 (by decide) ?_
          exact hE _ _ _ (by first | (rw [rdV_0]; done) | (rw [rdV_0]; unfold toothM; rw [if_neg c_8, if_neg c_24]; done)) rfl dX6_tooth_47
  by_cases c1 : rd = 1
  · subst c1
    refine lv_iload_n hx hb dX6_tooth_0 rfl (lv_at hl 1 rfl) ?_
    refine kSI (va_runS (As := [.int 1]) (rest := []) ⟨hx, hb, hml, hown, hts⟩ (c_X6_isReader l D cI cB 1  _) (va_cwS 1 hts gX6_tooth_X6_isReader rfl rfl rfl (by decide +kernel) ⟨Nat.le_of_ble_eq_true rfl, Nat.le_of_ble_eq_true rfl⟩) (preS_nil hK hN) rfl rfl hl.1 rfl (lv_room (Nat.le_of_ble_eq_true rfl)) dX6_tooth_1 ⟨Nat.zero_le _, Nat.zero_le _⟩) ?_
    refine lv_if_eq (tgt := 46) hx hb dX6_tooth_4 (by decide) (fun c_4 => ?_) (fun c_4 => ?_)
    · exact absurd c_4 (by decide)
    · skip
      refine lv_iload_n hx hb dX6_tooth_7 rfl (lv_at hl 2 rfl) ?_
      refine lv_if_lt (tgt := 46) hx hb dX6_tooth_8 (by decide) (fun c_8 => ?_) (fun c_8 => ?_)
      · skip
        refine lv_iconst (v := -1) hx hb dX6_tooth_46 (by decide) ?_
        exact hE _ _ _ (by first | (rw [rdV_1]; done) | (rw [rdV_1]; unfold toothM; rw [if_pos c_8]; done)) rfl dX6_tooth_47
      · skip
        refine lv_iload_n hx hb dX6_tooth_11 rfl (lv_at hl 2 rfl) ?_
        refine lv_aload_n hx hb dX6_tooth_12 rfl (lv_at hl 0 rfl) ?_
        refine x_get (v := .ref (A 1)) (C := RX6) (T := TX6) (N := 9) hx hb hts hi6 hown hK hP 0 rfl rfl 0 (by decide) (hts (.fieldLink RX6 7 "PulseWheelModel" "now" "[I") (by decide +kernel)) rfl rfl dX6_tooth_13 ?_
        refine lv_sipush (v := 1510) hx hb dX6_tooth_16 (by decide) ?_
        refine lv_iload_n hx hb dX6_tooth_19 rfl (lv_at hl 1 rfl) ?_
        refine lv_imul hx hb dX6_tooth_20 ?_
        refine x_top (y := nI (1510 * 1)) (by decide) ?_
        refine lv_iconst (v := 1) hx hb dX6_tooth_21 (by decide) ?_
        refine lv_iadd hx hb dX6_tooth_22 ?_
        have hq_3 := ix_in (i := ((nI (1510 * 1)) + 1)) (n := 3020) ((1510 * 1) + 1) (nI_add (1510 * 1) 1) (by omega) (by decide)
        refine x_ild (v := r 1 ((1510 * 1) + 1)) hx hb hK hP 1 rfl hq_3.1 (by rw [hq_3.2]) dX6_tooth_23 ?_
        refine lv_icmp_ge (tgt := 46) hx hb dX6_tooth_24 (by decide) (fun c_24 => ?_) (fun c_24 => ?_)
        · skip
          refine lv_iconst (v := -1) hx hb dX6_tooth_46 (by decide) ?_
          exact hE _ _ _ (by first | (rw [rdV_1]; done) | (rw [rdV_1]; unfold toothM; rw [if_neg c_8, if_pos c_24]; done)) rfl dX6_tooth_47
        · skip
          obtain ⟨T, hT4, hT, eT⟩ := ok1.1
          have hkk := tooth_ix hT eT c_8 c_24
          have hkk2 := hkk.2
          refine lv_aload_n hx hb dX6_tooth_27 rfl (lv_at hl 0 rfl) ?_
          refine x_get (v := .ref (A 1)) (C := RX6) (T := TX6) (N := 9) hx hb hts hi6 hown hK hP 0 rfl rfl 0 (by decide) (hts (.fieldLink RX6 7 "PulseWheelModel" "now" "[I") (by decide +kernel)) rfl rfl dX6_tooth_28 ?_
          refine lv_sipush (v := 1510) hx hb dX6_tooth_31 (by decide) ?_
          refine lv_iload_n hx hb dX6_tooth_34 rfl (lv_at hl 1 rfl) ?_
          refine lv_imul hx hb dX6_tooth_35 ?_
          refine x_top (y := nI (1510 * 1)) (by decide) ?_
          refine lv_sipush (v := 1440) hx hb dX6_tooth_36 (by decide) ?_
          refine lv_iadd hx hb dX6_tooth_39 ?_
          refine lv_iload_n hx hb dX6_tooth_40 rfl (lv_at hl 2 rfl) ?_
          refine x_top (y := nI k.toNatClampNeg) (hkk.1) ?_
          refine lv_iadd hx hb dX6_tooth_41 ?_
          have hq_4 := ix_in (i := (((nI (1510 * 1)) + 1440) + (nI k.toNatClampNeg))) (n := 3020) ((1510 * 1) + 1440 + k.toNatClampNeg) (nIs2 (1510 * 1) 1440 k.toNatClampNeg) (by omega) (by decide)
          refine x_ild (v := r 1 ((1510 * 1) + 1440 + k.toNatClampNeg)) hx hb hK hP 1 rfl hq_4.1 (by rw [hq_4.2]) dX6_tooth_42 ?_
          refine lv_goto (tgt := 47) hx hb dX6_tooth_43 (by decide) ?_
          exact hE _ _ _ (by first | (rw [rdV_1]; done) | (rw [rdV_1]; unfold toothM; rw [if_neg c_8, if_neg c_24]; done)) rfl dX6_tooth_47
  refine lv_iload_n hx hb dX6_tooth_0 rfl (lv_at hl 1 rfl) ?_
  refine kSI (va_runS (As := [.int rd]) (rest := []) ⟨hx, hb, hml, hown, hts⟩ (c_X6_isReader l D cI cB rd  _) (va_cwS 1 hts gX6_tooth_X6_isReader rfl rfl rfl (by decide +kernel) ⟨Nat.le_of_ble_eq_true rfl, Nat.le_of_ble_eq_true rfl⟩) (preS_nil hK hN) rfl rfl hl.1 rfl (lv_room (Nat.le_of_ble_eq_true rfl)) dX6_tooth_1 ⟨Nat.zero_le _, Nat.zero_le _⟩) ?_
  refine lv_if_eq (tgt := 46) hx hb dX6_tooth_4 (by decide) (fun c_4 => ?_) (fun c_4 => ?_)
  · skip
    refine lv_iconst (v := -1) hx hb dX6_tooth_46 (by decide) ?_
    exact hE _ _ _ (by first | (rw [rdV_n c0 c1]; done) | (rw [rdV_n c0 c1]; unfold toothM; rw [if_true]; done)) rfl dX6_tooth_47
  · exact absurd (by unfold isRdV; rw [if_neg c0, if_neg c1]) c_4

def rm_X6_moved : Room := { frames := 1, cells := 0, slots := 0, locals := 20 }
set_option maxHeartbeats 1000000 in
set_option maxRecDepth 100000 in
theorem c_X6_moved (l : Launch) (D : va_G) (cI cB : ClassId) (A : Nat → Nat) (r : Tb) (rd n : Int32) (ok0 : okM r (1510 * 0)) (ok1 : okM r (1510 * 1)) : SI l D cI cB yX6_moved wsX6_moved rm_X6_moved [.ref (A 0), .int rd, .int n] (modelW A cI r) (rdV rd (movedM r (1510 * 0) n) (movedM r (1510 * 1) n) (-2000000)) := by
  refine SI.of (cc := cX6_moved) (maxL := 5) (ty := .int) (by decide +kernel) rfl (Nat.le_of_ble_eq_true rfl) ?_
  intro p e s m args below meth c ls Q hT hP hD hl hE
  obtain ⟨hx, hb, hr, hlocks, hnm, hml, hown, hts, hK, hN⟩ := hT
  have hl : lv_has ls 5 [(0, .ref (A 0)), (1, .int rd), (2, .int n)] := hl
  have hi6 : ∀ w ∈ wsX60, w ∈ wsX6_moved := by decide +kernel
  by_cases c0 : rd = 0
  · subst c0
    refine lv_iload_n hx hb dX6_moved_0 rfl (lv_at hl 1 rfl) ?_
    refine kSI (va_runS (As := [.int 0]) (rest := []) ⟨hx, hb, hml, hown, hts⟩ (c_X6_isReader l D cI cB 0  _) (va_cwS 1 hts gX6_moved_X6_isReader rfl rfl rfl (by decide +kernel) ⟨Nat.le_of_ble_eq_true rfl, Nat.le_of_ble_eq_true rfl⟩) (preS_nil hK hN) rfl rfl hl.1 rfl (lv_room (Nat.le_of_ble_eq_true rfl)) dX6_moved_1 ⟨Nat.zero_le _, Nat.zero_le _⟩) ?_
    refine lv_if_eq (tgt := 36) hx hb dX6_moved_4 (by decide) (fun c_4 => ?_) (fun c_4 => ?_)
    · exact absurd c_4 (by decide)
    · skip
      refine lv_iload_n hx hb dX6_moved_7 rfl (lv_at hl 2 rfl) ?_
      refine lv_iconst (v := 1) hx hb dX6_moved_8 (by decide) ?_
      refine lv_icmp_lt (tgt := 36) hx hb dX6_moved_9 (by decide) (fun c_9 => ?_) (fun c_9 => ?_)
      · skip
        refine lv_ldc (v := -2000000) hx hb hown (hts (.constant RX6 79 (-2000000)) (by decide +kernel)) dX6_moved_36 ?_
        exact hE _ _ _ (by first | (rw [rdV_0]; done) | (rw [rdV_0]; unfold movedM; rw [if_pos c_9]; done)) rfl dX6_moved_38
      · skip
        refine lv_iload_n hx hb dX6_moved_12 rfl (lv_at hl 2 rfl) ?_
        refine lv_sipush (v := 500) hx hb dX6_moved_13 (by decide) ?_
        refine lv_icmp_gt (tgt := 36) hx hb dX6_moved_16 (by decide) (fun c_16 => ?_) (fun c_16 => ?_)
        · skip
          refine lv_ldc (v := -2000000) hx hb hown (hts (.constant RX6 79 (-2000000)) (by decide +kernel)) dX6_moved_36 ?_
          exact hE _ _ _ (by first | (rw [rdV_0]; done) | (rw [rdV_0]; unfold movedM; rw [if_neg c_9, if_pos c_16]; done)) rfl dX6_moved_38
        · skip
          refine lv_iload_n hx hb dX6_moved_19 rfl (lv_at hl 2 rfl) ?_
          refine lv_aload_n hx hb dX6_moved_20 rfl (lv_at hl 0 rfl) ?_
          refine x_get (v := .ref (A 1)) (C := RX6) (T := TX6) (N := 9) hx hb hts hi6 hown hK hP 0 rfl rfl 0 (by decide) (hts (.fieldLink RX6 7 "PulseWheelModel" "now" "[I") (by decide +kernel)) rfl rfl dX6_moved_21 ?_
          refine lv_sipush (v := 1510) hx hb dX6_moved_24 (by decide) ?_
          refine lv_iload_n hx hb dX6_moved_27 rfl (lv_at hl 1 rfl) ?_
          refine lv_imul hx hb dX6_moved_28 ?_
          refine x_top (y := nI (1510 * 0)) (by decide) ?_
          refine lv_bipush (v := 15) hx hb dX6_moved_29 (by decide) ?_
          refine lv_iadd hx hb dX6_moved_31 ?_
          have hq_1 := ix_in (i := ((nI (1510 * 0)) + 15)) (n := 3020) ((1510 * 0) + 15) (nI_add (1510 * 0) 15) (by omega) (by decide)
          refine x_ild (v := r 1 ((1510 * 0) + 15)) hx hb hK hP 1 rfl hq_1.1 (by rw [hq_1.2]) dX6_moved_32 ?_
          refine lv_icmp_le (tgt := 39) hx hb dX6_moved_33 (by decide) (fun c_33 => ?_) (fun c_33 => ?_)
          · skip
            obtain ⟨S, hS, eS⟩ := ok0.2.1
            obtain ⟨j, ej, hj⟩ := then_ix hS eS c_9 c_33
            have hrg := ring_ix ej (by omega)
            have hrg2 := hrg.2
            refine lv_sipush (v := 1510) hx hb dX6_moved_39 (by decide) ?_
            refine lv_iload_n hx hb dX6_moved_42 rfl (lv_at hl 1 rfl) ?_
            refine lv_imul hx hb dX6_moved_43 ?_
            refine x_top (y := nI (1510 * 0)) (by decide) ?_
            refine lv_istore_n (lv' := [(3, .int (nI (1510 * 0))), (0, .ref (A 0)), (1, .int 0), (2, .int n)]) hx hb dX6_moved_44 rfl hl (by decide) rfl (fun ls hl => ?_)
            refine lv_aload_n hx hb dX6_moved_45 rfl (lv_at hl 1 rfl) ?_
            refine x_get (v := .ref (A 1)) (C := RX6) (T := TX6) (N := 9) hx hb hts hi6 hown hK hP 0 rfl rfl 0 (by decide) (hts (.fieldLink RX6 7 "PulseWheelModel" "now" "[I") (by decide +kernel)) rfl rfl dX6_moved_46 ?_
            refine lv_iload_n hx hb dX6_moved_49 rfl (lv_at hl 0 rfl) ?_
            refine lv_bipush (v := 15) hx hb dX6_moved_50 (by decide) ?_
            refine lv_iadd hx hb dX6_moved_52 ?_
            have hq_2 := ix_in (i := ((nI (1510 * 0)) + 15)) (n := 3020) ((1510 * 0) + 15) (nI_add (1510 * 0) 15) (by omega) (by decide)
            refine x_ild (v := r 1 ((1510 * 0) + 15)) hx hb hK hP 1 rfl hq_2.1 (by rw [hq_2.2]) dX6_moved_53 ?_
            refine lv_iload_n hx hb dX6_moved_54 rfl (lv_at hl 3 rfl) ?_
            refine lv_isub hx hb dX6_moved_55 ?_
            refine lv_istore (lv' := [(4, .int ((r 1 ((1510 * 0) + 15)) - n)), (3, .int (nI (1510 * 0))), (0, .ref (A 0)), (1, .int 0), (2, .int n)]) hx hb dX6_moved_56 hl (by decide) rfl (fun ls hl => ?_)
            refine lv_aload_n hx hb dX6_moved_58 rfl (lv_at hl 2 rfl) ?_
            refine x_get (v := .ref (A 1)) (C := RX6) (T := TX6) (N := 9) hx hb hts hi6 hown hK hP 0 rfl rfl 0 (by decide) (hts (.fieldLink RX6 7 "PulseWheelModel" "now" "[I") (by decide +kernel)) rfl rfl dX6_moved_59 ?_
            refine lv_iload_n hx hb dX6_moved_62 rfl (lv_at hl 1 rfl) ?_
            refine lv_bipush (v := 6) hx hb dX6_moved_63 (by decide) ?_
            refine lv_iadd hx hb dX6_moved_65 ?_
            have hq_3 := ix_in (i := ((nI (1510 * 0)) + 6)) (n := 3020) ((1510 * 0) + 6) (nI_add (1510 * 0) 6) (by omega) (by decide)
            refine x_ild (v := r 1 ((1510 * 0) + 6)) hx hb hK hP 1 rfl hq_3.1 (by rw [hq_3.2]) dX6_moved_66 ?_
            refine lv_iload hx hb dX6_moved_67 (lv_at hl 0 rfl) ?_
            refine lv_if_ne (tgt := 76) hx hb dX6_moved_69 (by decide) (fun c_69 => ?_) (fun c_69 => ?_)
            · skip
              refine lv_aload_n hx hb dX6_moved_76 rfl (lv_at hl 2 rfl) ?_
              refine x_get (v := .ref (A 1)) (C := RX6) (T := TX6) (N := 9) hx hb hts hi6 hown hK hP 0 rfl rfl 0 (by decide) (hts (.fieldLink RX6 7 "PulseWheelModel" "now" "[I") (by decide +kernel)) rfl rfl dX6_moved_77 ?_
              refine lv_iload_n hx hb dX6_moved_80 rfl (lv_at hl 1 rfl) ?_
              refine lv_sipush (v := 920) hx hb dX6_moved_81 (by decide) ?_
              refine lv_iadd hx hb dX6_moved_84 ?_
              refine lv_iload hx hb dX6_moved_85 (lv_at hl 0 rfl) ?_
              refine lv_sipush (v := 512) hx hb dX6_moved_87 (by decide) ?_
              refine lv_irem hx hb dX6_moved_90 (by decide) ?_
              refine x_top (y := nI (ringN (r 1 ((1510 * 0) + 15) - n))) (hrg.1) ?_
              refine lv_iadd hx hb dX6_moved_91 ?_
              have hq_4 := ix_in (i := (((nI (1510 * 0)) + 920) + (nI (ringN (r 1 ((1510 * 0) + 15) - n))))) (n := 3020) ((1510 * 0) + 920 + (ringN (r 1 ((1510 * 0) + 15) - n))) (nIs2 (1510 * 0) 920 (ringN (r 1 ((1510 * 0) + 15) - n))) (by omega) (by decide)
              refine x_ild (v := r 1 ((1510 * 0) + 920 + (ringN (r 1 ((1510 * 0) + 15) - n)))) hx hb hK hP 1 rfl hq_4.1 (by rw [hq_4.2]) dX6_moved_92 ?_
              refine lv_isub hx hb dX6_moved_93 ?_
              exact hE _ _ _ (by first | (rw [rdV_0]; done) | (rw [rdV_0]; unfold movedM; rw [if_neg c_9, if_neg c_16, if_pos c_33, if_neg c_69]; done)) rfl dX6_moved_94
            · skip
              refine lv_iconst (v := 0) hx hb dX6_moved_72 (by decide) ?_
              refine lv_goto (tgt := 93) hx hb dX6_moved_73 (by decide) ?_
              refine lv_isub hx hb dX6_moved_93 ?_
              exact hE _ _ _ (by first | (rw [rdV_0]; done) | (rw [rdV_0]; unfold movedM; rw [if_neg c_9, if_neg c_16, if_pos c_33, if_pos c_69]; done)) rfl dX6_moved_94
          · skip
            refine lv_ldc (v := -2000000) hx hb hown (hts (.constant RX6 79 (-2000000)) (by decide +kernel)) dX6_moved_36 ?_
            exact hE _ _ _ (by first | (rw [rdV_0]; done) | (rw [rdV_0]; unfold movedM; rw [if_neg c_9, if_neg c_16, if_neg c_33]; done)) rfl dX6_moved_38
  by_cases c1 : rd = 1
  · subst c1
    refine lv_iload_n hx hb dX6_moved_0 rfl (lv_at hl 1 rfl) ?_
    refine kSI (va_runS (As := [.int 1]) (rest := []) ⟨hx, hb, hml, hown, hts⟩ (c_X6_isReader l D cI cB 1  _) (va_cwS 1 hts gX6_moved_X6_isReader rfl rfl rfl (by decide +kernel) ⟨Nat.le_of_ble_eq_true rfl, Nat.le_of_ble_eq_true rfl⟩) (preS_nil hK hN) rfl rfl hl.1 rfl (lv_room (Nat.le_of_ble_eq_true rfl)) dX6_moved_1 ⟨Nat.zero_le _, Nat.zero_le _⟩) ?_
    refine lv_if_eq (tgt := 36) hx hb dX6_moved_4 (by decide) (fun c_4 => ?_) (fun c_4 => ?_)
    · exact absurd c_4 (by decide)
    · skip
      refine lv_iload_n hx hb dX6_moved_7 rfl (lv_at hl 2 rfl) ?_
      refine lv_iconst (v := 1) hx hb dX6_moved_8 (by decide) ?_
      refine lv_icmp_lt (tgt := 36) hx hb dX6_moved_9 (by decide) (fun c_9 => ?_) (fun c_9 => ?_)
      · skip
        refine lv_ldc (v := -2000000) hx hb hown (hts (.constant RX6 79 (-2000000)) (by decide +kernel)) dX6_moved_36 ?_
        exact hE _ _ _ (by first | (rw [rdV_1]; done) | (rw [rdV_1]; unfold movedM; rw [if_pos c_9]; done)) rfl dX6_moved_38
      · skip
        refine lv_iload_n hx hb dX6_moved_12 rfl (lv_at hl 2 rfl) ?_
        refine lv_sipush (v := 500) hx hb dX6_moved_13 (by decide) ?_
        refine lv_icmp_gt (tgt := 36) hx hb dX6_moved_16 (by decide) (fun c_16 => ?_) (fun c_16 => ?_)
        · skip
          refine lv_ldc (v := -2000000) hx hb hown (hts (.constant RX6 79 (-2000000)) (by decide +kernel)) dX6_moved_36 ?_
          exact hE _ _ _ (by first | (rw [rdV_1]; done) | (rw [rdV_1]; unfold movedM; rw [if_neg c_9, if_pos c_16]; done)) rfl dX6_moved_38
        · skip
          refine lv_iload_n hx hb dX6_moved_19 rfl (lv_at hl 2 rfl) ?_
          refine lv_aload_n hx hb dX6_moved_20 rfl (lv_at hl 0 rfl) ?_
          refine x_get (v := .ref (A 1)) (C := RX6) (T := TX6) (N := 9) hx hb hts hi6 hown hK hP 0 rfl rfl 0 (by decide) (hts (.fieldLink RX6 7 "PulseWheelModel" "now" "[I") (by decide +kernel)) rfl rfl dX6_moved_21 ?_
          refine lv_sipush (v := 1510) hx hb dX6_moved_24 (by decide) ?_
          refine lv_iload_n hx hb dX6_moved_27 rfl (lv_at hl 1 rfl) ?_
          refine lv_imul hx hb dX6_moved_28 ?_
          refine x_top (y := nI (1510 * 1)) (by decide) ?_
          refine lv_bipush (v := 15) hx hb dX6_moved_29 (by decide) ?_
          refine lv_iadd hx hb dX6_moved_31 ?_
          have hq_5 := ix_in (i := ((nI (1510 * 1)) + 15)) (n := 3020) ((1510 * 1) + 15) (nI_add (1510 * 1) 15) (by omega) (by decide)
          refine x_ild (v := r 1 ((1510 * 1) + 15)) hx hb hK hP 1 rfl hq_5.1 (by rw [hq_5.2]) dX6_moved_32 ?_
          refine lv_icmp_le (tgt := 39) hx hb dX6_moved_33 (by decide) (fun c_33 => ?_) (fun c_33 => ?_)
          · skip
            obtain ⟨S, hS, eS⟩ := ok1.2.1
            obtain ⟨j, ej, hj⟩ := then_ix hS eS c_9 c_33
            have hrg := ring_ix ej (by omega)
            have hrg2 := hrg.2
            refine lv_sipush (v := 1510) hx hb dX6_moved_39 (by decide) ?_
            refine lv_iload_n hx hb dX6_moved_42 rfl (lv_at hl 1 rfl) ?_
            refine lv_imul hx hb dX6_moved_43 ?_
            refine x_top (y := nI (1510 * 1)) (by decide) ?_
            refine lv_istore_n (lv' := [(3, .int (nI (1510 * 1))), (0, .ref (A 0)), (1, .int 1), (2, .int n)]) hx hb dX6_moved_44 rfl hl (by decide) rfl (fun ls hl => ?_)
            refine lv_aload_n hx hb dX6_moved_45 rfl (lv_at hl 1 rfl) ?_
            refine x_get (v := .ref (A 1)) (C := RX6) (T := TX6) (N := 9) hx hb hts hi6 hown hK hP 0 rfl rfl 0 (by decide) (hts (.fieldLink RX6 7 "PulseWheelModel" "now" "[I") (by decide +kernel)) rfl rfl dX6_moved_46 ?_
            refine lv_iload_n hx hb dX6_moved_49 rfl (lv_at hl 0 rfl) ?_
            refine lv_bipush (v := 15) hx hb dX6_moved_50 (by decide) ?_
            refine lv_iadd hx hb dX6_moved_52 ?_
            have hq_6 := ix_in (i := ((nI (1510 * 1)) + 15)) (n := 3020) ((1510 * 1) + 15) (nI_add (1510 * 1) 15) (by omega) (by decide)
            refine x_ild (v := r 1 ((1510 * 1) + 15)) hx hb hK hP 1 rfl hq_6.1 (by rw [hq_6.2]) dX6_moved_53 ?_
            refine lv_iload_n hx hb dX6_moved_54 rfl (lv_at hl 3 rfl) ?_
            refine lv_isub hx hb dX6_moved_55 ?_
            refine lv_istore (lv' := [(4, .int ((r 1 ((1510 * 1) + 15)) - n)), (3, .int (nI (1510 * 1))), (0, .ref (A 0)), (1, .int 1), (2, .int n)]) hx hb dX6_moved_56 hl (by decide) rfl (fun ls hl => ?_)
            refine lv_aload_n hx hb dX6_moved_58 rfl (lv_at hl 2 rfl) ?_
            refine x_get (v := .ref (A 1)) (C := RX6) (T := TX6) (N := 9) hx hb hts hi6 hown hK hP 0 rfl rfl 0 (by decide) (hts (.fieldLink RX6 7 "PulseWheelModel" "now" "[I") (by decide +kernel)) rfl rfl dX6_moved_59 ?_
            refine lv_iload_n hx hb dX6_moved_62 rfl (lv_at hl 1 rfl) ?_
            refine lv_bipush (v := 6) hx hb dX6_moved_63 (by decide) ?_
            refine lv_iadd hx hb dX6_moved_65 ?_
            have hq_7 := ix_in (i := ((nI (1510 * 1)) + 6)) (n := 3020) ((1510 * 1) + 6) (nI_add (1510 * 1) 6) (by omega) (by decide)
            refine x_ild (v := r 1 ((1510 * 1) + 6)) hx hb hK hP 1 rfl hq_7.1 (by rw [hq_7.2]) dX6_moved_66 ?_
            refine lv_iload hx hb dX6_moved_67 (lv_at hl 0 rfl) ?_
            refine lv_if_ne (tgt := 76) hx hb dX6_moved_69 (by decide) (fun c_69 => ?_) (fun c_69 => ?_)
            · skip
              refine lv_aload_n hx hb dX6_moved_76 rfl (lv_at hl 2 rfl) ?_
              refine x_get (v := .ref (A 1)) (C := RX6) (T := TX6) (N := 9) hx hb hts hi6 hown hK hP 0 rfl rfl 0 (by decide) (hts (.fieldLink RX6 7 "PulseWheelModel" "now" "[I") (by decide +kernel)) rfl rfl dX6_moved_77 ?_
              refine lv_iload_n hx hb dX6_moved_80 rfl (lv_at hl 1 rfl) ?_
              refine lv_sipush (v := 920) hx hb dX6_moved_81 (by decide) ?_
              refine lv_iadd hx hb dX6_moved_84 ?_
              refine lv_iload hx hb dX6_moved_85 (lv_at hl 0 rfl) ?_
              refine lv_sipush (v := 512) hx hb dX6_moved_87 (by decide) ?_
              refine lv_irem hx hb dX6_moved_90 (by decide) ?_
              refine x_top (y := nI (ringN (r 1 ((1510 * 1) + 15) - n))) (hrg.1) ?_
              refine lv_iadd hx hb dX6_moved_91 ?_
              have hq_8 := ix_in (i := (((nI (1510 * 1)) + 920) + (nI (ringN (r 1 ((1510 * 1) + 15) - n))))) (n := 3020) ((1510 * 1) + 920 + (ringN (r 1 ((1510 * 1) + 15) - n))) (nIs2 (1510 * 1) 920 (ringN (r 1 ((1510 * 1) + 15) - n))) (by omega) (by decide)
              refine x_ild (v := r 1 ((1510 * 1) + 920 + (ringN (r 1 ((1510 * 1) + 15) - n)))) hx hb hK hP 1 rfl hq_8.1 (by rw [hq_8.2]) dX6_moved_92 ?_
              refine lv_isub hx hb dX6_moved_93 ?_
              exact hE _ _ _ (by first | (rw [rdV_1]; done) | (rw [rdV_1]; unfold movedM; rw [if_neg c_9, if_neg c_16, if_pos c_33, if_neg c_69]; done)) rfl dX6_moved_94
            · skip
              refine lv_iconst (v := 0) hx hb dX6_moved_72 (by decide) ?_
              refine lv_goto (tgt := 93) hx hb dX6_moved_73 (by decide) ?_
              refine lv_isub hx hb dX6_moved_93 ?_
              exact hE _ _ _ (by first | (rw [rdV_1]; done) | (rw [rdV_1]; unfold movedM; rw [if_neg c_9, if_neg c_16, if_pos c_33, if_pos c_69]; done)) rfl dX6_moved_94
          · skip
            refine lv_ldc (v := -2000000) hx hb hown (hts (.constant RX6 79 (-2000000)) (by decide +kernel)) dX6_moved_36 ?_
            exact hE _ _ _ (by first | (rw [rdV_1]; done) | (rw [rdV_1]; unfold movedM; rw [if_neg c_9, if_neg c_16, if_neg c_33]; done)) rfl dX6_moved_38
  refine lv_iload_n hx hb dX6_moved_0 rfl (lv_at hl 1 rfl) ?_
  refine kSI (va_runS (As := [.int rd]) (rest := []) ⟨hx, hb, hml, hown, hts⟩ (c_X6_isReader l D cI cB rd  _) (va_cwS 1 hts gX6_moved_X6_isReader rfl rfl rfl (by decide +kernel) ⟨Nat.le_of_ble_eq_true rfl, Nat.le_of_ble_eq_true rfl⟩) (preS_nil hK hN) rfl rfl hl.1 rfl (lv_room (Nat.le_of_ble_eq_true rfl)) dX6_moved_1 ⟨Nat.zero_le _, Nat.zero_le _⟩) ?_
  refine lv_if_eq (tgt := 36) hx hb dX6_moved_4 (by decide) (fun c_4 => ?_) (fun c_4 => ?_)
  · skip
    refine lv_ldc (v := -2000000) hx hb hown (hts (.constant RX6 79 (-2000000)) (by decide +kernel)) dX6_moved_36 ?_
    exact hE _ _ _ (by first | (rw [rdV_n c0 c1]; done) | (rw [rdV_n c0 c1]; unfold movedM; rw [if_true]; done)) rfl dX6_moved_38
  · exact absurd (by unfold isRdV; rw [if_neg c0, if_neg c1]) c_4

def rm_X6_widest : Room := { frames := 1, cells := 0, slots := 0, locals := 20 }
set_option maxHeartbeats 1000000 in
set_option maxRecDepth 100000 in
theorem c_X6_widest (l : Launch) (D : va_G) (cI cB : ClassId) (A : Nat → Nat) (r : Tb) (rd : Int32) (ok0 : okM r (1510 * 0)) (ok1 : okM r (1510 * 1)) : SI l D cI cB yX6_widest wsX6_widest rm_X6_widest [.ref (A 0), .int rd] (modelW A cI r) (rdV rd (widestM r (1510 * 0)) (widestM r (1510 * 1)) (-1)) := by
  refine SI.of (cc := cX6_widest) (maxL := 5) (ty := .int) (by decide +kernel) rfl (Nat.le_of_ble_eq_true rfl) ?_
  intro p e s m args below meth c ls Q hT hP hD hl hE
  obtain ⟨hx, hb, hr, hlocks, hnm, hml, hown, hts, hK, hN⟩ := hT
  have hl : lv_has ls 5 [(0, .ref (A 0)), (1, .int rd)] := hl
  have hi6 : ∀ w ∈ wsX60, w ∈ wsX6_widest := by decide +kernel
  by_cases c0 : rd = 0
  · subst c0
    refine lv_iload_n hx hb dX6_widest_0 rfl (lv_at hl 1 rfl) ?_
    refine kSI (va_runS (As := [.int 0]) (rest := []) ⟨hx, hb, hml, hown, hts⟩ (c_X6_isReader l D cI cB 0  _) (va_cwS 1 hts gX6_widest_X6_isReader rfl rfl rfl (by decide +kernel) ⟨Nat.le_of_ble_eq_true rfl, Nat.le_of_ble_eq_true rfl⟩) (preS_nil hK hN) rfl rfl hl.1 rfl (lv_room (Nat.le_of_ble_eq_true rfl)) dX6_widest_1 ⟨Nat.zero_le _, Nat.zero_le _⟩) ?_
    refine lv_if_eq (tgt := 23) hx hb dX6_widest_4 (by decide) (fun c_4 => ?_) (fun c_4 => ?_)
    · exact absurd c_4 (by decide)
    · skip
      refine lv_aload_n hx hb dX6_widest_7 rfl (lv_at hl 0 rfl) ?_
      refine x_get (v := .ref (A 1)) (C := RX6) (T := TX6) (N := 9) hx hb hts hi6 hown hK hP 0 rfl rfl 0 (by decide) (hts (.fieldLink RX6 7 "PulseWheelModel" "now" "[I") (by decide +kernel)) rfl rfl dX6_widest_8 ?_
      refine lv_sipush (v := 1510) hx hb dX6_widest_11 (by decide) ?_
      refine lv_iload_n hx hb dX6_widest_14 rfl (lv_at hl 1 rfl) ?_
      refine lv_imul hx hb dX6_widest_15 ?_
      refine x_top (y := nI (1510 * 0)) (by decide) ?_
      refine lv_bipush (v := 17) hx hb dX6_widest_16 (by decide) ?_
      refine lv_iadd hx hb dX6_widest_18 ?_
      have hq_1 := ix_in (i := ((nI (1510 * 0)) + 17)) (n := 3020) ((1510 * 0) + 17) (nI_add (1510 * 0) 17) (by omega) (by decide)
      refine x_ild (v := r 1 ((1510 * 0) + 17)) hx hb hK hP 1 rfl hq_1.1 (by rw [hq_1.2]) dX6_widest_19 ?_
      refine lv_if_ne (tgt := 25) hx hb dX6_widest_20 (by decide) (fun c_20 => ?_) (fun c_20 => ?_)
      · skip
        refine lv_sipush (v := 1510) hx hb dX6_widest_25 (by decide) ?_
        refine lv_iload_n hx hb dX6_widest_28 rfl (lv_at hl 1 rfl) ?_
        refine lv_imul hx hb dX6_widest_29 ?_
        refine x_top (y := nI (1510 * 0)) (by decide) ?_
        refine lv_istore_n (lv' := [(2, .int (nI (1510 * 0))), (0, .ref (A 0)), (1, .int 0)]) hx hb dX6_widest_30 rfl hl (by decide) rfl (fun ls hl => ?_)
        refine lv_iconst (v := 0) hx hb dX6_widest_31 (by decide) ?_
        refine lv_istore_n (lv' := [(3, .int 0), (2, .int (nI (1510 * 0))), (0, .ref (A 0)), (1, .int 0)]) hx hb dX6_widest_32 rfl hl (by decide) rfl (fun ls hl => ?_)
        refine lv_iconst (v := 1) hx hb dX6_widest_33 (by decide) ?_
        refine lv_istore (lv' := [(4, .int 1), (3, .int 0), (2, .int (nI (1510 * 0))), (0, .ref (A 0)), (1, .int 0)]) hx hb dX6_widest_34 hl (by decide) rfl (fun ls hl => ?_)
        obtain ⟨T, hT4, hT, eT⟩ := ok0.1
        have lp : ∀ (fuel : Nat) (k : Nat) (bst : Nat), (k ≤ 63) → (63 < k + fuel) → (∀ j, j < k → nI (j + 1) < r 1 ((1510 * 0) + 1)) → (bst = greatV (fun j => r 1 ((1510 * 0) + 1440 + j)) k) → ∀ (ls : Array Slot), lv_has ls 5 [(0, .ref (A 0)), (1, .int 0), (2, .int (nI (1510 * 0))), (3, .int (nI bst)), (4, .int (nI (k + 1)))] → W p l e rm_X6_widest s m args below meth c s.heap [] 0 0 Q (F0 m 36 ls []) := by
          intro fuel
          induction fuel with
          | zero => intro k bst hk hm hj hbt ls hl; exact absurd hm (by omega)
          | succ fuel ih =>
            intro k bst hk hm hj hbt ls hl
            refine lv_iload hx hb dX6_widest_36 (lv_at hl 4 rfl) ?_
            refine lv_aload_n hx hb dX6_widest_38 rfl (lv_at hl 0 rfl) ?_
            refine x_get (v := .ref (A 1)) (C := RX6) (T := TX6) (N := 9) hx hb hts hi6 hown hK hP 0 rfl rfl 0 (by decide) (hts (.fieldLink RX6 7 "PulseWheelModel" "now" "[I") (by decide +kernel)) rfl rfl dX6_widest_39 ?_
            refine lv_iload_n hx hb dX6_widest_42 rfl (lv_at hl 2 rfl) ?_
            refine lv_iconst (v := 1) hx hb dX6_widest_43 (by decide) ?_
            refine lv_iadd hx hb dX6_widest_44 ?_
            have hq_2 := ix_in (i := ((nI (1510 * 0)) + 1)) (n := 3020) ((1510 * 0) + 1) (nI_add (1510 * 0) 1) (by omega) (by decide)
            refine x_ild (v := r 1 ((1510 * 0) + 1)) hx hb hK hP 1 rfl hq_2.1 (by rw [hq_2.2]) dX6_widest_45 ?_
            refine lv_icmp_ge (tgt := 90) hx hb dX6_widest_46 (by decide) (fun c_46 => ?_) (fun c_46 => ?_)
            · skip
              refine lv_iload_n hx hb dX6_widest_90 rfl (lv_at hl 3 rfl) ?_
              exact hE _ _ _ (by rw [rdV_0]; unfold widestM; rw [if_neg c_20, ← great_exit hk hj (Or.inl c_46), hbt]) rfl dX6_widest_91
            · skip
              have hlt : k + 1 < 64 := Nat.lt_of_lt_of_le (lt_of_nI (n := T) (by omega) (by rw [← eT]; exact c_46)) hT
              have hle : bst ≤ k := by subst hbt; exact greatV_le _ _
              refine lv_aload_n hx hb dX6_widest_49 rfl (lv_at hl 0 rfl) ?_
              refine x_get (v := .ref (A 1)) (C := RX6) (T := TX6) (N := 9) hx hb hts hi6 hown hK hP 0 rfl rfl 0 (by decide) (hts (.fieldLink RX6 7 "PulseWheelModel" "now" "[I") (by decide +kernel)) rfl rfl dX6_widest_50 ?_
              refine lv_iload_n hx hb dX6_widest_53 rfl (lv_at hl 2 rfl) ?_
              refine lv_sipush (v := 1440) hx hb dX6_widest_54 (by decide) ?_
              refine lv_iadd hx hb dX6_widest_57 ?_
              refine lv_iload hx hb dX6_widest_58 (lv_at hl 4 rfl) ?_
              refine lv_iadd hx hb dX6_widest_60 ?_
              have hq_3 := ix_in (i := (((nI (1510 * 0)) + 1440) + (nI (k + 1)))) (n := 3020) ((1510 * 0) + 1440 + (k + 1)) (nIs2 (1510 * 0) 1440 (k + 1)) (by omega) (by decide)
              refine x_ild (v := r 1 ((1510 * 0) + 1440 + (k + 1))) hx hb hK hP 1 rfl hq_3.1 (by rw [hq_3.2]) dX6_widest_61 ?_
              refine lv_aload_n hx hb dX6_widest_62 rfl (lv_at hl 0 rfl) ?_
              refine x_get (v := .ref (A 1)) (C := RX6) (T := TX6) (N := 9) hx hb hts hi6 hown hK hP 0 rfl rfl 0 (by decide) (hts (.fieldLink RX6 7 "PulseWheelModel" "now" "[I") (by decide +kernel)) rfl rfl dX6_widest_63 ?_
              refine lv_iload_n hx hb dX6_widest_66 rfl (lv_at hl 2 rfl) ?_
              refine lv_sipush (v := 1440) hx hb dX6_widest_67 (by decide) ?_
              refine lv_iadd hx hb dX6_widest_70 ?_
              refine lv_iload_n hx hb dX6_widest_71 rfl (lv_at hl 3 rfl) ?_
              refine lv_iadd hx hb dX6_widest_72 ?_
              have hq_4 := ix_in (i := (((nI (1510 * 0)) + 1440) + (nI bst))) (n := 3020) ((1510 * 0) + 1440 + bst) (nIs2 (1510 * 0) 1440 bst) (by omega) (by decide)
              refine x_ild (v := r 1 ((1510 * 0) + 1440 + bst)) hx hb hK hP 1 rfl hq_4.1 (by rw [hq_4.2]) dX6_widest_73 ?_
              refine lv_icmp_le (tgt := 82) hx hb dX6_widest_74 (by decide) (fun c_74 => ?_) (fun c_74 => ?_)
              · skip
                refine lv_iload_n hx hb dX6_widest_82 rfl (lv_at hl 3 rfl) ?_
                refine lv_istore_n (lv' := [(3, .int (nI bst)), (0, .ref (A 0)), (1, .int 0), (2, .int (nI (1510 * 0))), (4, .int (nI (k + 1)))]) hx hb dX6_widest_83 rfl hl (by decide) rfl (fun ls hl => ?_)
                refine lv_iinc (v := nI (k + 1 + 1)) (lv' := [(4, .int (nI (k + 1 + 1))), (3, .int (nI bst)), (0, .ref (A 0)), (1, .int 0), (2, .int (nI (1510 * 0)))]) hx hb dX6_widest_84 hl (k := 4) rfl (nI_1 (k + 1)) (by decide) rfl (fun ls hl => ?_)
                refine lv_goto (tgt := 36) hx hb dX6_widest_87 (by decide) ?_
                exact ih (k + 1) bst (by omega) (by omega) (all_step (P := fun j => nI (j + 1) < r 1 ((1510 * 0) + 1)) hj (Int32.not_le.mp c_46)) (by subst hbt; rw [greatV_s, if_neg (Int32.not_lt.mpr c_74)]) ls (lv_sub hl [2, 3, 4, 1, 0] rfl)
              · skip
                refine lv_iload hx hb dX6_widest_77 (lv_at hl 4 rfl) ?_
                refine lv_goto (tgt := 83) hx hb dX6_widest_79 (by decide) ?_
                refine lv_istore_n (lv' := [(3, .int (nI (k + 1))), (0, .ref (A 0)), (1, .int 0), (2, .int (nI (1510 * 0))), (4, .int (nI (k + 1)))]) hx hb dX6_widest_83 rfl hl (by decide) rfl (fun ls hl => ?_)
                refine lv_iinc (v := nI (k + 1 + 1)) (lv' := [(4, .int (nI (k + 1 + 1))), (3, .int (nI (k + 1))), (0, .ref (A 0)), (1, .int 0), (2, .int (nI (1510 * 0)))]) hx hb dX6_widest_84 hl (k := 4) rfl (nI_1 (k + 1)) (by decide) rfl (fun ls hl => ?_)
                refine lv_goto (tgt := 36) hx hb dX6_widest_87 (by decide) ?_
                exact ih (k + 1) (k + 1) (by omega) (by omega) (all_step (P := fun j => nI (j + 1) < r 1 ((1510 * 0) + 1)) hj (Int32.not_le.mp c_46)) (by subst hbt; rw [greatV_s, if_pos (Int32.not_le.mp c_74)]) ls (lv_sub hl [2, 3, 4, 1, 0] rfl)
        exact lp 64 0 0 (by decide) (by decide) (fun j h => absurd h (Nat.not_lt_zero j)) (rfl) ls (lv_sub hl [3, 4, 2, 1, 0] rfl)
      · skip
        refine lv_iconst (v := -1) hx hb dX6_widest_23 (by decide) ?_
        exact hE _ _ _ (by first | (rw [rdV_0]; done) | (rw [rdV_0]; unfold widestM; rw [if_pos c_20]; done)) rfl dX6_widest_24
  by_cases c1 : rd = 1
  · subst c1
    refine lv_iload_n hx hb dX6_widest_0 rfl (lv_at hl 1 rfl) ?_
    refine kSI (va_runS (As := [.int 1]) (rest := []) ⟨hx, hb, hml, hown, hts⟩ (c_X6_isReader l D cI cB 1  _) (va_cwS 1 hts gX6_widest_X6_isReader rfl rfl rfl (by decide +kernel) ⟨Nat.le_of_ble_eq_true rfl, Nat.le_of_ble_eq_true rfl⟩) (preS_nil hK hN) rfl rfl hl.1 rfl (lv_room (Nat.le_of_ble_eq_true rfl)) dX6_widest_1 ⟨Nat.zero_le _, Nat.zero_le _⟩) ?_
    refine lv_if_eq (tgt := 23) hx hb dX6_widest_4 (by decide) (fun c_4 => ?_) (fun c_4 => ?_)
    · exact absurd c_4 (by decide)
    · skip
      refine lv_aload_n hx hb dX6_widest_7 rfl (lv_at hl 0 rfl) ?_
      refine x_get (v := .ref (A 1)) (C := RX6) (T := TX6) (N := 9) hx hb hts hi6 hown hK hP 0 rfl rfl 0 (by decide) (hts (.fieldLink RX6 7 "PulseWheelModel" "now" "[I") (by decide +kernel)) rfl rfl dX6_widest_8 ?_
      refine lv_sipush (v := 1510) hx hb dX6_widest_11 (by decide) ?_
      refine lv_iload_n hx hb dX6_widest_14 rfl (lv_at hl 1 rfl) ?_
      refine lv_imul hx hb dX6_widest_15 ?_
      refine x_top (y := nI (1510 * 1)) (by decide) ?_
      refine lv_bipush (v := 17) hx hb dX6_widest_16 (by decide) ?_
      refine lv_iadd hx hb dX6_widest_18 ?_
      have hq_5 := ix_in (i := ((nI (1510 * 1)) + 17)) (n := 3020) ((1510 * 1) + 17) (nI_add (1510 * 1) 17) (by omega) (by decide)
      refine x_ild (v := r 1 ((1510 * 1) + 17)) hx hb hK hP 1 rfl hq_5.1 (by rw [hq_5.2]) dX6_widest_19 ?_
      refine lv_if_ne (tgt := 25) hx hb dX6_widest_20 (by decide) (fun c_20 => ?_) (fun c_20 => ?_)
      · skip
        refine lv_sipush (v := 1510) hx hb dX6_widest_25 (by decide) ?_
        refine lv_iload_n hx hb dX6_widest_28 rfl (lv_at hl 1 rfl) ?_
        refine lv_imul hx hb dX6_widest_29 ?_
        refine x_top (y := nI (1510 * 1)) (by decide) ?_
        refine lv_istore_n (lv' := [(2, .int (nI (1510 * 1))), (0, .ref (A 0)), (1, .int 1)]) hx hb dX6_widest_30 rfl hl (by decide) rfl (fun ls hl => ?_)
        refine lv_iconst (v := 0) hx hb dX6_widest_31 (by decide) ?_
        refine lv_istore_n (lv' := [(3, .int 0), (2, .int (nI (1510 * 1))), (0, .ref (A 0)), (1, .int 1)]) hx hb dX6_widest_32 rfl hl (by decide) rfl (fun ls hl => ?_)
        refine lv_iconst (v := 1) hx hb dX6_widest_33 (by decide) ?_
        refine lv_istore (lv' := [(4, .int 1), (3, .int 0), (2, .int (nI (1510 * 1))), (0, .ref (A 0)), (1, .int 1)]) hx hb dX6_widest_34 hl (by decide) rfl (fun ls hl => ?_)
        obtain ⟨T, hT4, hT, eT⟩ := ok1.1
        have lp : ∀ (fuel : Nat) (k : Nat) (bst : Nat), (k ≤ 63) → (63 < k + fuel) → (∀ j, j < k → nI (j + 1) < r 1 ((1510 * 1) + 1)) → (bst = greatV (fun j => r 1 ((1510 * 1) + 1440 + j)) k) → ∀ (ls : Array Slot), lv_has ls 5 [(0, .ref (A 0)), (1, .int 1), (2, .int (nI (1510 * 1))), (3, .int (nI bst)), (4, .int (nI (k + 1)))] → W p l e rm_X6_widest s m args below meth c s.heap [] 0 0 Q (F0 m 36 ls []) := by
          intro fuel
          induction fuel with
          | zero => intro k bst hk hm hj hbt ls hl; exact absurd hm (by omega)
          | succ fuel ih =>
            intro k bst hk hm hj hbt ls hl
            refine lv_iload hx hb dX6_widest_36 (lv_at hl 4 rfl) ?_
            refine lv_aload_n hx hb dX6_widest_38 rfl (lv_at hl 0 rfl) ?_
            refine x_get (v := .ref (A 1)) (C := RX6) (T := TX6) (N := 9) hx hb hts hi6 hown hK hP 0 rfl rfl 0 (by decide) (hts (.fieldLink RX6 7 "PulseWheelModel" "now" "[I") (by decide +kernel)) rfl rfl dX6_widest_39 ?_
            refine lv_iload_n hx hb dX6_widest_42 rfl (lv_at hl 2 rfl) ?_
            refine lv_iconst (v := 1) hx hb dX6_widest_43 (by decide) ?_
            refine lv_iadd hx hb dX6_widest_44 ?_
            have hq_6 := ix_in (i := ((nI (1510 * 1)) + 1)) (n := 3020) ((1510 * 1) + 1) (nI_add (1510 * 1) 1) (by omega) (by decide)
            refine x_ild (v := r 1 ((1510 * 1) + 1)) hx hb hK hP 1 rfl hq_6.1 (by rw [hq_6.2]) dX6_widest_45 ?_
            refine lv_icmp_ge (tgt := 90) hx hb dX6_widest_46 (by decide) (fun c_46 => ?_) (fun c_46 => ?_)
            · skip
              refine lv_iload_n hx hb dX6_widest_90 rfl (lv_at hl 3 rfl) ?_
              exact hE _ _ _ (by rw [rdV_1]; unfold widestM; rw [if_neg c_20, ← great_exit hk hj (Or.inl c_46), hbt]) rfl dX6_widest_91
            · skip
              have hlt : k + 1 < 64 := Nat.lt_of_lt_of_le (lt_of_nI (n := T) (by omega) (by rw [← eT]; exact c_46)) hT
              have hle : bst ≤ k := by subst hbt; exact greatV_le _ _
              refine lv_aload_n hx hb dX6_widest_49 rfl (lv_at hl 0 rfl) ?_
              refine x_get (v := .ref (A 1)) (C := RX6) (T := TX6) (N := 9) hx hb hts hi6 hown hK hP 0 rfl rfl 0 (by decide) (hts (.fieldLink RX6 7 "PulseWheelModel" "now" "[I") (by decide +kernel)) rfl rfl dX6_widest_50 ?_
              refine lv_iload_n hx hb dX6_widest_53 rfl (lv_at hl 2 rfl) ?_
              refine lv_sipush (v := 1440) hx hb dX6_widest_54 (by decide) ?_
              refine lv_iadd hx hb dX6_widest_57 ?_
              refine lv_iload hx hb dX6_widest_58 (lv_at hl 4 rfl) ?_
              refine lv_iadd hx hb dX6_widest_60 ?_
              have hq_7 := ix_in (i := (((nI (1510 * 1)) + 1440) + (nI (k + 1)))) (n := 3020) ((1510 * 1) + 1440 + (k + 1)) (nIs2 (1510 * 1) 1440 (k + 1)) (by omega) (by decide)
              refine x_ild (v := r 1 ((1510 * 1) + 1440 + (k + 1))) hx hb hK hP 1 rfl hq_7.1 (by rw [hq_7.2]) dX6_widest_61 ?_
              refine lv_aload_n hx hb dX6_widest_62 rfl (lv_at hl 0 rfl) ?_
              refine x_get (v := .ref (A 1)) (C := RX6) (T := TX6) (N := 9) hx hb hts hi6 hown hK hP 0 rfl rfl 0 (by decide) (hts (.fieldLink RX6 7 "PulseWheelModel" "now" "[I") (by decide +kernel)) rfl rfl dX6_widest_63 ?_
              refine lv_iload_n hx hb dX6_widest_66 rfl (lv_at hl 2 rfl) ?_
              refine lv_sipush (v := 1440) hx hb dX6_widest_67 (by decide) ?_
              refine lv_iadd hx hb dX6_widest_70 ?_
              refine lv_iload_n hx hb dX6_widest_71 rfl (lv_at hl 3 rfl) ?_
              refine lv_iadd hx hb dX6_widest_72 ?_
              have hq_8 := ix_in (i := (((nI (1510 * 1)) + 1440) + (nI bst))) (n := 3020) ((1510 * 1) + 1440 + bst) (nIs2 (1510 * 1) 1440 bst) (by omega) (by decide)
              refine x_ild (v := r 1 ((1510 * 1) + 1440 + bst)) hx hb hK hP 1 rfl hq_8.1 (by rw [hq_8.2]) dX6_widest_73 ?_
              refine lv_icmp_le (tgt := 82) hx hb dX6_widest_74 (by decide) (fun c_74 => ?_) (fun c_74 => ?_)
              · skip
                refine lv_iload_n hx hb dX6_widest_82 rfl (lv_at hl 3 rfl) ?_
                refine lv_istore_n (lv' := [(3, .int (nI bst)), (0, .ref (A 0)), (1, .int 1), (2, .int (nI (1510 * 1))), (4, .int (nI (k + 1)))]) hx hb dX6_widest_83 rfl hl (by decide) rfl (fun ls hl => ?_)
                refine lv_iinc (v := nI (k + 1 + 1)) (lv' := [(4, .int (nI (k + 1 + 1))), (3, .int (nI bst)), (0, .ref (A 0)), (1, .int 1), (2, .int (nI (1510 * 1)))]) hx hb dX6_widest_84 hl (k := 4) rfl (nI_1 (k + 1)) (by decide) rfl (fun ls hl => ?_)
                refine lv_goto (tgt := 36) hx hb dX6_widest_87 (by decide) ?_
                exact ih (k + 1) bst (by omega) (by omega) (all_step (P := fun j => nI (j + 1) < r 1 ((1510 * 1) + 1)) hj (Int32.not_le.mp c_46)) (by subst hbt; rw [greatV_s, if_neg (Int32.not_lt.mpr c_74)]) ls (lv_sub hl [2, 3, 4, 1, 0] rfl)
              · skip
                refine lv_iload hx hb dX6_widest_77 (lv_at hl 4 rfl) ?_
                refine lv_goto (tgt := 83) hx hb dX6_widest_79 (by decide) ?_
                refine lv_istore_n (lv' := [(3, .int (nI (k + 1))), (0, .ref (A 0)), (1, .int 1), (2, .int (nI (1510 * 1))), (4, .int (nI (k + 1)))]) hx hb dX6_widest_83 rfl hl (by decide) rfl (fun ls hl => ?_)
                refine lv_iinc (v := nI (k + 1 + 1)) (lv' := [(4, .int (nI (k + 1 + 1))), (3, .int (nI (k + 1))), (0, .ref (A 0)), (1, .int 1), (2, .int (nI (1510 * 1)))]) hx hb dX6_widest_84 hl (k := 4) rfl (nI_1 (k + 1)) (by decide) rfl (fun ls hl => ?_)
                refine lv_goto (tgt := 36) hx hb dX6_widest_87 (by decide) ?_
                exact ih (k + 1) (k + 1) (by omega) (by omega) (all_step (P := fun j => nI (j + 1) < r 1 ((1510 * 1) + 1)) hj (Int32.not_le.mp c_46)) (by subst hbt; rw [greatV_s, if_pos (Int32.not_le.mp c_74)]) ls (lv_sub hl [2, 3, 4, 1, 0] rfl)
        exact lp 64 0 0 (by decide) (by decide) (fun j h => absurd h (Nat.not_lt_zero j)) (rfl) ls (lv_sub hl [3, 4, 2, 1, 0] rfl)
      · skip
        refine lv_iconst (v := -1) hx hb dX6_widest_23 (by decide) ?_
        exact hE _ _ _ (by first | (rw [rdV_1]; done) | (rw [rdV_1]; unfold widestM; rw [if_pos c_20]; done)) rfl dX6_widest_24
  refine lv_iload_n hx hb dX6_widest_0 rfl (lv_at hl 1 rfl) ?_
  refine kSI (va_runS (As := [.int rd]) (rest := []) ⟨hx, hb, hml, hown, hts⟩ (c_X6_isReader l D cI cB rd  _) (va_cwS 1 hts gX6_widest_X6_isReader rfl rfl rfl (by decide +kernel) ⟨Nat.le_of_ble_eq_true rfl, Nat.le_of_ble_eq_true rfl⟩) (preS_nil hK hN) rfl rfl hl.1 rfl (lv_room (Nat.le_of_ble_eq_true rfl)) dX6_widest_1 ⟨Nat.zero_le _, Nat.zero_le _⟩) ?_
  refine lv_if_eq (tgt := 23) hx hb dX6_widest_4 (by decide) (fun c_4 => ?_) (fun c_4 => ?_)
  · skip
    refine lv_iconst (v := -1) hx hb dX6_widest_23 (by decide) ?_
    exact hE _ _ _ (by first | (rw [rdV_n c0 c1]; done) | (rw [rdV_n c0 c1]; unfold widestM; rw [if_true]; done)) rfl dX6_widest_24
  · exact absurd (by unfold isRdV; rw [if_neg c0, if_neg c1]) c_4
