/-! ### the reference: teeth, zero -/
theorem lat_val {n k : Nat} (hk : k < 300) (hkn : k < n) (hn : n < 2 ^ 31) : latV (nI n) (nI k) = nI ((n - 1 - k) % 300) := by
  unfold latV
  rw [if_neg (nI_pos (by omega)), if_neg (fun h => by have := (nI_leI (a := 300) (by decide) (by omega)).mp h; omega), if_pos (nI_lt hkn hn)]
  have e1 : nI n - 1 - nI k = nI (n - 1 - k) := by
    rw [show nI n - 1 = nI (n - 1) from pk_sub (b := 1) (by omega), pk_sub (by omega)]
  rw [e1]
  exact pk_rem (d := 300) (by omega) (by decide) (by decide)
theorem lat_out {n k : Nat} (hk : k < 300) (hkn : ¬ k < n) (hn : n < 2 ^ 31) : latV (nI n) (nI k) = -1 := by
  unfold latV
  rw [if_neg (nI_pos (by omega)), if_neg (fun h => by have := (nI_leI (a := 300) (by decide) (by omega)).mp h; omega), if_neg (fun h => hkn ((nI_ltI (by omega) hn).mp h))]
theorem sub1i {T i : Nat} (h : i < T) : nI T - 1 - nI i = nI (T - 1 - i) := by
  rw [show nI T - 1 = nI (T - 1) from pk_sub (b := 1) (by omega), pk_sub (by omega)]
def atM (r : Tb) (b n k : Nat) : Int32 := r 1 (b + 320 + (n - 1 - k) % 300)
def teethL (r : Tb) (b n T i : Nat) : Tb := up1 r 1 (fun j => if b + 1440 ≤ j ∧ j < b + 1440 + i then r 1 j + (atM r b n (T - 1 - (j - (b + 1440))) - atM r b n (T - (j - (b + 1440)))) else r 1 j)
def allM (r : Tb) (b n T : Nat) : Prop := ∀ k, k < T → r 1 (b + 20 + (n - 1 - k) % 300) = 1 ∧ r 1 (b + 16) < atM r b n k
noncomputable def teethM (r : Tb) (b n T : Nat) : Tb := if r 1 (b + 16) = 0 then r else if T < n then (if atM r b n T ≤ r 1 (b + 16) then @ite Tb (allM r b n T) (Classical.propDecidable _) (up2 (teethL r b n T T) 1 (b + 17) (r 1 (b + 17) + 1)) r else r) else r
theorem teethL_out {r : Tb} {b n T i j : Nat} (h : ¬ (b + 1440 ≤ j ∧ j < b + 1440 + i)) : teethL r b n T i 1 j = r 1 j := by
  unfold teethL
  rw [up1_eq]
  show (if b + 1440 ≤ j ∧ j < b + 1440 + i then _ else r 1 j) = r 1 j
  rw [if_neg h]
theorem teethL_row {r : Tb} {b n T i c : Nat} (h : c ≠ 1) : teethL r b n T i c = r c := by
  unfold teethL
  exact up1_row h
theorem teeth_0 {r : Tb} {b n T : Nat} : r = teethL r b n T 0 := by
  funext c
  by_cases hc : c = 1
  · subst hc
    funext j
    exact (teethL_out (by omega)).symm
  · exact (teethL_row hc).symm
theorem teeth_step {r : Tb} {b n T i : Nat} : up2 (teethL r b n T i) 1 (b + 1440 + i) (r 1 (b + 1440 + i) + (atM r b n (T - 1 - i) - atM r b n (T - i))) = teethL r b n T (i + 1) := by
  funext c
  by_cases hc : c = 1
  · subst hc
    funext j
    by_cases hj : j = b + 1440 + i
    · subst hj
      rw [up2_eq]
      unfold teethL
      rw [up1_eq]
      show _ = (if _ then _ else _)
      rw [if_pos (by omega), show b + 1440 + i - (b + 1440) = i by omega]
    · rw [up2_ne hj]
      unfold teethL
      rw [up1_eq, up1_eq]
      show (if _ then _ else _) = (if _ then _ else _)
      by_cases h2 : b + 1440 ≤ j ∧ j < b + 1440 + i
      · rw [if_pos h2, if_pos (by omega)]
      · rw [if_neg h2, if_neg (by omega)]
  · rw [up2_row hc, teethL_row hc, teethL_row hc]
theorem teethM_row {r : Tb} {b n T c : Nat} (h : c ≠ 1) : teethM r b n T c = r c := by
  unfold teethM
  split
  · rfl
  · split
    · split
      · split
        · rw [up2_row h, teethL_row h]
        · rfl
      · rfl
    · rfl
theorem teeth_all {r : Tb} {b n T : Nat} (h28 : ¬ r 1 (b + 16) = 0) (hTn : T < n) (h50 : atM r b n T ≤ r 1 (b + 16)) (h : allM r b n T) : up2 (teethL r b n T T) 1 (b + 17) (r 1 (b + 17) + 1) = teethM r b n T := by
  unfold teethM
  rw [if_neg h28, if_pos hTn, if_pos h50]
  exact (if_pos h).symm
theorem teeth_not {r : Tb} {b n T : Nat} (h : ¬ allM r b n T) : r = teethM r b n T := by
  unfold teethM
  split
  · rfl
  · split
    · split
      · first | rfl | exact (if_neg h).symm
      · rfl
    · rfl
theorem teeth_early {r : Tb} {b n T : Nat} (h : r 1 (b + 16) = 0 ∨ ¬ T < n ∨ ¬ atM r b n T ≤ r 1 (b + 16)) : r = teethM r b n T := by
  unfold teethM
  by_cases h1 : r 1 (b + 16) = 0
  · rw [if_pos h1]
  · rw [if_neg h1]
    by_cases h2 : T < n
    · have h3 : ¬ atM r b n T ≤ r 1 (b + 16) := by
        rcases h with h | h | h
        · exact absurd h h1
        · exact absurd h2 h
        · exact h
      rw [if_pos h2, if_neg h3]
    · rw [if_neg h2]

def rm_X6_teeth : Room := { frames := 1, cells := 0, slots := 0, locals := 23 }
set_option maxHeartbeats 1000000 in
set_option maxRecDepth 100000 in
theorem c_X6_teeth (l : Launch) (D : va_G) (cI cB : ClassId) (A : Nat → Nat) (r : Tb) (b : Nat) (n : Nat) (T : Nat) (hb0 : b ≤ 1510) (hn : r 1 (b + 9) = nI n) (hn2 : n ≤ 1000000) (hT : r 1 (b + 1) = nI T) (hT4 : 4 ≤ T) (hT64 : T ≤ 64) : CV l D cI cB yX6_teeth wsX6_teeth rm_X6_teeth [.ref (A 0), .int (nI b)] (modelW A cI r) (modelW A cI (teethM r b n T)) := by
  refine CV.of (cc := cX6_teeth) (maxL := 7)  (by decide +kernel) rfl (Nat.le_of_ble_eq_true rfl) ?_
  intro p e s m args below meth c ls A0 Q hT hH hA hl hE
  obtain ⟨hx, hb, hr, hlocks, hnm, hml, hown, hts, hK, hN⟩ := hT
  have hl : lv_has ls 7 [(0, .ref (A 0)), (1, .int (nI b))] := hl
  have hi6 : ∀ w ∈ wsX60, w ∈ wsX6_teeth := by decide +kernel
  refine lv_aload_n hx hb dX6_teeth_0 rfl (lv_at hl 0 rfl) ?_
  refine x_get (v := .ref (A 1)) (C := RX6) (T := TX6) (N := 9) hx hb hts hi6 hown hK hH.1 0 rfl rfl 0 (by decide) (hts (.fieldLink RX6 7 "PulseWheelModel" "now" "[I") (by decide +kernel)) rfl rfl dX6_teeth_1 ?_
  refine lv_iload_n hx hb dX6_teeth_4 rfl (lv_at hl 1 rfl) ?_
  refine lv_bipush (v := 16) hx hb dX6_teeth_5 (by decide) ?_
  refine lv_iadd hx hb dX6_teeth_7 ?_
  have hq_1 := ix_in (i := ((nI b) + 16)) (n := 3020) (b + 16) (nI_add b 16) (by omega) (by decide)
  refine x_ild (v := r 1 (b + 16)) hx hb hK hH.1 1 rfl hq_1.1 (by rw [hq_1.2]) dX6_teeth_8 ?_
  refine lv_istore_n (lv' := [(2, .int (r 1 (b + 16))), (0, .ref (A 0)), (1, .int (nI b))]) hx hb dX6_teeth_9 rfl hl (by decide) rfl (fun ls hl => ?_)
  refine lv_aload_n hx hb dX6_teeth_10 rfl (lv_at hl 1 rfl) ?_
  refine x_get (v := .ref (A 1)) (C := RX6) (T := TX6) (N := 9) hx hb hts hi6 hown hK hH.1 0 rfl rfl 0 (by decide) (hts (.fieldLink RX6 7 "PulseWheelModel" "now" "[I") (by decide +kernel)) rfl rfl dX6_teeth_11 ?_
  refine lv_iload_n hx hb dX6_teeth_14 rfl (lv_at hl 2 rfl) ?_
  refine lv_iconst (v := 1) hx hb dX6_teeth_15 (by decide) ?_
  refine lv_iadd hx hb dX6_teeth_16 ?_
  have hq_2 := ix_in (i := ((nI b) + 1)) (n := 3020) (b + 1) (nI_add b 1) (by omega) (by decide)
  refine x_ild (v := r 1 (b + 1)) hx hb hK hH.1 1 rfl hq_2.1 (by rw [hq_2.2]) dX6_teeth_17 ?_
  refine lv_istore_n (lv' := [(3, .int (r 1 (b + 1))), (2, .int (r 1 (b + 16))), (0, .ref (A 0)), (1, .int (nI b))]) hx hb dX6_teeth_18 rfl hl (by decide) rfl (fun ls hl => ?_)
  refine lv_aload_n hx hb dX6_teeth_19 rfl (lv_at hl 2 rfl) ?_
  refine lv_iload_n hx hb dX6_teeth_20 rfl (lv_at hl 3 rfl) ?_
  refine lv_iload_n hx hb dX6_teeth_21 rfl (lv_at hl 0 rfl) ?_
  refine kSI (va_runV (As := [.int (nI b), .int (r 1 (b + 1))]) (rest := []) ⟨hx, hb, hml, hown, hts⟩ (c_X6_latest l D cI cB A r (r 1 (b + 1)) b hb0 _) (cwV 2 hts gX6_teeth_X6_latest rfl rfl rfl (by decide +kernel) ⟨Nat.le_of_ble_eq_true rfl, Nat.le_of_ble_eq_true rfl⟩) (preV_cut hH.1 hH.2.1 hK hN (ci := 6) rfl 0 rfl [0, 1, 2, 3, 4, 5] (by decide) rfl) rfl rfl hl.1 rfl (lv_room (Nat.le_of_ble_eq_true rfl)) dX6_teeth_22 ⟨Nat.zero_le _, Nat.zero_le _⟩) ?_
  by_cases hTn : T < n
  · refine x_top (y := nI ((n - 1 - T) % 300)) (by rw [hn, hT]; exact lat_val (by omega) hTn (by omega)) ?_
    have hmT : (n - 1 - T) % 300 < 300 := Nat.mod_lt _ (by decide)
    refine lv_istore (lv' := [(4, .int (nI ((n - 1 - T) % 300))), (3, .int (r 1 (b + 1))), (2, .int (r 1 (b + 16))), (0, .ref (A 0)), (1, .int (nI b))]) hx hb dX6_teeth_25 hl (by decide) rfl (fun ls hl => ?_)
    refine lv_iload_n hx hb dX6_teeth_27 rfl (lv_at hl 2 rfl) ?_
    refine lv_if_eq (tgt := 53) hx hb dX6_teeth_28 (by decide) (fun c_28 => ?_) (fun c_28 => ?_)
    · skip
      have hf_r : r = teethM r b n T := by exact teeth_early (Or.inl c_28)
      exact hE _ _ _ _ _ hH ((congrArg (fun zz => (modelW A cI zz)) hf_r)) dX6_teeth_53
    · skip
      refine lv_iload hx hb dX6_teeth_31 (lv_at hl 0 rfl) ?_
      refine lv_if_lt (tgt := 53) hx hb dX6_teeth_33 (by decide) (fun c_33 => ?_) (fun c_33 => ?_)
      · exact absurd c_33 (nI_pos (by omega))
      · skip
        refine lv_aload_n hx hb dX6_teeth_36 rfl (lv_at hl 3 rfl) ?_
        refine x_get (v := .ref (A 1)) (C := RX6) (T := TX6) (N := 9) hx hb hts hi6 hown hK hH.1 0 rfl rfl 0 (by decide) (hts (.fieldLink RX6 7 "PulseWheelModel" "now" "[I") (by decide +kernel)) rfl rfl dX6_teeth_37 ?_
        refine lv_iload_n hx hb dX6_teeth_40 rfl (lv_at hl 4 rfl) ?_
        refine lv_sipush (v := 320) hx hb dX6_teeth_41 (by decide) ?_
        refine lv_iadd hx hb dX6_teeth_44 ?_
        refine lv_iload hx hb dX6_teeth_45 (lv_at hl 0 rfl) ?_
        refine lv_iadd hx hb dX6_teeth_47 ?_
        have hq_3 := ix_in (i := (((nI b) + 320) + (nI ((n - 1 - T) % 300)))) (n := 3020) (b + 320 + ((n - 1 - T) % 300)) (nIs2 b 320 ((n - 1 - T) % 300)) (by omega) (by decide)
        refine x_ild (v := r 1 (b + 320 + ((n - 1 - T) % 300))) hx hb hK hH.1 1 rfl hq_3.1 (by rw [hq_3.2]) dX6_teeth_48 ?_
        refine lv_iload_n hx hb dX6_teeth_49 rfl (lv_at hl 2 rfl) ?_
        refine lv_icmp_le (tgt := 54) hx hb dX6_teeth_50 (by decide) (fun c_50 => ?_) (fun c_50 => ?_)
        · skip
          refine lv_iconst (v := 0) hx hb dX6_teeth_54 (by decide) ?_
          refine lv_istore (lv' := [(5, .int 0), (4, .int (nI ((n - 1 - T) % 300))), (3, .int (r 1 (b + 1))), (2, .int (r 1 (b + 16))), (0, .ref (A 0)), (1, .int (nI b))]) hx hb dX6_teeth_55 hl (by decide) rfl (fun ls hl => ?_)
          have l1 : ∀ (fuel : Nat) (k : Nat), (k ≤ T) → (T < k + fuel) → (∀ j, j < k → r 1 (b + 20 + (n - 1 - j) % 300) = 1 ∧ r 1 (b + 16) < atM r b n j) → ∀ (H : Heap) (locs : List Loc) (ls : Array Slot), Hd D A0 s (modelW A cI r) H locs → lv_has ls 7 [(0, .ref (A 0)), (1, .int (nI b)), (2, .int (r 1 (b + 16))), (3, .int (r 1 (b + 1))), (5, .int (nI k))] → W p l e rm_X6_teeth s m args below meth c H locs 0 0 Q (F0 m 57 ls []) := by
            intro fuel
            induction fuel with
            | zero => intro k hk hm hal H locs ls hH hl; exact absurd hm (by omega)
            | succ fuel ih =>
              intro k hk hm hal H locs ls hH hl
              refine lv_iload hx hb dX6_teeth_57 (lv_at hl 4 rfl) ?_
              refine lv_iload_n hx hb dX6_teeth_59 rfl (lv_at hl 3 rfl) ?_
              refine lv_icmp_ge (tgt := 112) hx hb dX6_teeth_60 (by decide) (fun c_60 => ?_) (fun c_60 => ?_)
              · skip
                refine lv_iconst (v := 0) hx hb dX6_teeth_112 (by decide) ?_
                refine lv_istore (lv' := [(5, .int 0), (0, .ref (A 0)), (1, .int (nI b)), (2, .int (r 1 (b + 16))), (3, .int (r 1 (b + 1)))]) hx hb dX6_teeth_113 hl (by decide) rfl (fun ls hl => ?_)
                have hkT : k = T := le_exit hk (by omega) (by rw [← hT]; exact c_60)
                have l2 : ∀ (fuel : Nat) (i : Nat) (r' : Tb), (i ≤ T) → (T < i + fuel) → (r' = teethL r b n T i) → ∀ (H : Heap) (locs : List Loc) (ls : Array Slot), Hd D A0 s (modelW A cI r') H locs → lv_has ls 7 [(0, .ref (A 0)), (1, .int (nI b)), (3, .int (r 1 (b + 1))), (5, .int (nI i))] → W p l e rm_X6_teeth s m args below meth c H locs 0 0 Q (F0 m 115 ls []) := by
                  intro fuel
                  induction fuel with
                  | zero => intro i r' hi hm2 hr' H locs ls hH hl; exact absurd hm2 (by omega)
                  | succ fuel ih =>
                    intro i r' hi hm2 hr' H locs ls hH hl
                    refine lv_iload hx hb dX6_teeth_115 (lv_at hl 3 rfl) ?_
                    refine lv_iload_n hx hb dX6_teeth_117 rfl (lv_at hl 2 rfl) ?_
                    refine lv_icmp_ge (tgt := 186) hx hb dX6_teeth_118 (by decide) (fun c_118 => ?_) (fun c_118 => ?_)
                    · skip
                      refine lv_aload_n hx hb dX6_teeth_186 rfl (lv_at hl 0 rfl) ?_
                      refine x_get (v := .ref (A 1)) (C := RX6) (T := TX6) (N := 9) hx hb hts hi6 hown hK hH.1 0 rfl rfl 0 (by decide) (hts (.fieldLink RX6 7 "PulseWheelModel" "now" "[I") (by decide +kernel)) rfl rfl dX6_teeth_187 ?_
                      refine lv_iload_n hx hb dX6_teeth_190 rfl (lv_at hl 1 rfl) ?_
                      refine lv_bipush (v := 17) hx hb dX6_teeth_191 (by decide) ?_
                      refine lv_iadd hx hb dX6_teeth_193 ?_
                      refine lv_dup2_11 hx hb dX6_teeth_194 rfl rfl ?_
                      have hq_4 := ix_in (i := ((nI b) + 17)) (n := 3020) (b + 17) (nI_add b 17) (by omega) (by decide)
                      refine x_ild (v := r' 1 (b + 17)) hx hb hK hH.1 1 rfl hq_4.1 (by rw [hq_4.2]) dX6_teeth_195 ?_
                      refine x_top (y := r 1 (b + 17)) ((by rw [hr', teethL_out (by omega)])) ?_
                      refine lv_iconst (v := 1) hx hb dX6_teeth_196 (by decide) ?_
                      refine lv_iadd hx hb dX6_teeth_197 ?_
                      have hq_5 := ix_in (i := ((nI b) + 17)) (n := 3020) (b + 17) (nI_add b 17) (by omega) (by decide)
                      obtain ⟨r_6, er_6⟩ : ∃ z, z = up2 r' 1 (b + 17) ((r 1 (b + 17)) + 1) := ⟨_, rfl⟩
                      refine x_ist (ws' := (modelW A cI r_6)) hx hb hK hH 1 rfl hq_5.1 hq_5.2 dX6_teeth_198 (by rw [er_6]; rfl) (fun H locs hH => ?_)
                      have hf_r : r_6 = teethM r b n T := by subst er_6; rw [hr', le_exit hi (by omega) (by rw [← hT]; exact c_118)]; exact teeth_all c_28 hTn c_50 (fun j h => hal j (by omega))
                      exact hE _ _ _ _ _ hH ((congrArg (fun zz => (modelW A cI zz)) hf_r)) dX6_teeth_199
                    · skip
                      have hlt2 : i < T := lt_of_nI (n := T) (by omega) (by rw [← hT]; exact c_118)
                      have hm1 : (n - 1 - (T - 1 - i)) % 300 < 300 := Nat.mod_lt _ (by decide)
                      have hm0 : (n - 1 - (T - i)) % 300 < 300 := Nat.mod_lt _ (by decide)
                      refine lv_aload_n hx hb dX6_teeth_121 rfl (lv_at hl 0 rfl) ?_
                      refine x_get (v := .ref (A 1)) (C := RX6) (T := TX6) (N := 9) hx hb hts hi6 hown hK hH.1 0 rfl rfl 0 (by decide) (hts (.fieldLink RX6 7 "PulseWheelModel" "now" "[I") (by decide +kernel)) rfl rfl dX6_teeth_122 ?_
                      refine lv_iload_n hx hb dX6_teeth_125 rfl (lv_at hl 1 rfl) ?_
                      refine lv_sipush (v := 1440) hx hb dX6_teeth_126 (by decide) ?_
                      refine lv_iadd hx hb dX6_teeth_129 ?_
                      refine lv_iload hx hb dX6_teeth_130 (lv_at hl 3 rfl) ?_
                      refine lv_iadd hx hb dX6_teeth_132 ?_
                      refine lv_dup2_11 hx hb dX6_teeth_133 rfl rfl ?_
                      have hq_7 := ix_in (i := (((nI b) + 1440) + (nI i))) (n := 3020) (b + 1440 + i) (nIs2 b 1440 i) (by omega) (by decide)
                      refine x_ild (v := r' 1 (b + 1440 + i)) hx hb hK hH.1 1 rfl hq_7.1 (by rw [hq_7.2]) dX6_teeth_134 ?_
                      refine x_top (y := r 1 (b + 1440 + i)) ((by rw [hr', teethL_out (by omega)])) ?_
                      refine lv_aload_n hx hb dX6_teeth_135 rfl (lv_at hl 0 rfl) ?_
                      refine x_get (v := .ref (A 1)) (C := RX6) (T := TX6) (N := 9) hx hb hts hi6 hown hK hH.1 0 rfl rfl 0 (by decide) (hts (.fieldLink RX6 7 "PulseWheelModel" "now" "[I") (by decide +kernel)) rfl rfl dX6_teeth_136 ?_
                      refine lv_iload_n hx hb dX6_teeth_139 rfl (lv_at hl 1 rfl) ?_
                      refine lv_sipush (v := 320) hx hb dX6_teeth_140 (by decide) ?_
                      refine lv_iadd hx hb dX6_teeth_143 ?_
                      refine lv_aload_n hx hb dX6_teeth_144 rfl (lv_at hl 0 rfl) ?_
                      refine lv_iload_n hx hb dX6_teeth_145 rfl (lv_at hl 1 rfl) ?_
                      refine lv_iload_n hx hb dX6_teeth_146 rfl (lv_at hl 2 rfl) ?_
                      refine lv_iconst (v := 1) hx hb dX6_teeth_147 (by decide) ?_
                      refine lv_isub hx hb dX6_teeth_148 ?_
                      refine lv_iload hx hb dX6_teeth_149 (lv_at hl 3 rfl) ?_
                      refine lv_isub hx hb dX6_teeth_151 ?_
                      refine kSI (va_runV (As := [.int (nI b), .int (((r 1 (b + 1)) - 1) - (nI i))]) (rest := [.int ((nI b) + 320), .ref (A 1), .int (r 1 (b + 1440 + i)), .int (((nI b) + 1440) + (nI i)), .ref (A 1)]) ⟨hx, hb, hml, hown, hts⟩ (c_X6_latest l D cI cB A r' (((r 1 (b + 1)) - 1) - (nI i)) b hb0 _) (cwV 2 hts gX6_teeth_X6_latest rfl rfl rfl (by decide +kernel) ⟨Nat.le_of_ble_eq_true rfl, Nat.le_of_ble_eq_true rfl⟩) (preV_cut hH.1 hH.2.1 hK hN (ci := 6) rfl 0 rfl [0, 1, 2, 3, 4, 5] (by decide) rfl) rfl rfl hl.1 rfl (lv_room (Nat.le_of_ble_eq_true rfl)) dX6_teeth_152 ⟨Nat.zero_le _, Nat.zero_le _⟩) ?_
                      refine x_top (y := nI ((n - 1 - (T - 1 - i)) % 300)) (by rw [hr', teethL_out (by omega), hn, hT, sub1i hlt2]; exact lat_val (by omega) (by omega) (by omega)) ?_
                      refine lv_iadd hx hb dX6_teeth_155 ?_
                      have hq_8 := ix_in (i := (((nI b) + 320) + (nI ((n - 1 - (T - 1 - i)) % 300)))) (n := 3020) (b + 320 + ((n - 1 - (T - 1 - i)) % 300)) (nIs2 b 320 ((n - 1 - (T - 1 - i)) % 300)) (by omega) (by decide)
                      refine x_ild (v := r' 1 (b + 320 + ((n - 1 - (T - 1 - i)) % 300))) hx hb hK hH.1 1 rfl hq_8.1 (by rw [hq_8.2]) dX6_teeth_156 ?_
                      refine x_top (y := atM r b n (T - 1 - i)) (by rw [hr', teethL_out (by omega)]; rfl) ?_
                      refine lv_aload_n hx hb dX6_teeth_157 rfl (lv_at hl 0 rfl) ?_
                      refine x_get (v := .ref (A 1)) (C := RX6) (T := TX6) (N := 9) hx hb hts hi6 hown hK hH.1 0 rfl rfl 0 (by decide) (hts (.fieldLink RX6 7 "PulseWheelModel" "now" "[I") (by decide +kernel)) rfl rfl dX6_teeth_158 ?_
                      refine lv_iload_n hx hb dX6_teeth_161 rfl (lv_at hl 1 rfl) ?_
                      refine lv_sipush (v := 320) hx hb dX6_teeth_162 (by decide) ?_
                      refine lv_iadd hx hb dX6_teeth_165 ?_
                      refine lv_aload_n hx hb dX6_teeth_166 rfl (lv_at hl 0 rfl) ?_
                      refine lv_iload_n hx hb dX6_teeth_167 rfl (lv_at hl 1 rfl) ?_
                      refine lv_iload_n hx hb dX6_teeth_168 rfl (lv_at hl 2 rfl) ?_
                      refine lv_iload hx hb dX6_teeth_169 (lv_at hl 3 rfl) ?_
                      refine lv_isub hx hb dX6_teeth_171 ?_
                      refine kSI (va_runV (As := [.int (nI b), .int ((r 1 (b + 1)) - (nI i))]) (rest := [.int ((nI b) + 320), .ref (A 1), .int (atM r b n (T - 1 - i)), .int (r 1 (b + 1440 + i)), .int (((nI b) + 1440) + (nI i)), .ref (A 1)]) ⟨hx, hb, hml, hown, hts⟩ (c_X6_latest l D cI cB A r' ((r 1 (b + 1)) - (nI i)) b hb0 _) (cwV 2 hts gX6_teeth_X6_latest rfl rfl rfl (by decide +kernel) ⟨Nat.le_of_ble_eq_true rfl, Nat.le_of_ble_eq_true rfl⟩) (preV_cut hH.1 hH.2.1 hK hN (ci := 6) rfl 0 rfl [0, 1, 2, 3, 4, 5] (by decide) rfl) rfl rfl hl.1 rfl (lv_room (Nat.le_of_ble_eq_true rfl)) dX6_teeth_172 ⟨Nat.zero_le _, Nat.zero_le _⟩) ?_
                      refine x_top (y := nI ((n - 1 - (T - i)) % 300)) (by rw [hr', teethL_out (by omega), hn, hT, pk_sub (by omega)]; exact lat_val (by omega) (by omega) (by omega)) ?_
                      refine lv_iadd hx hb dX6_teeth_175 ?_
                      have hq_9 := ix_in (i := (((nI b) + 320) + (nI ((n - 1 - (T - i)) % 300)))) (n := 3020) (b + 320 + ((n - 1 - (T - i)) % 300)) (nIs2 b 320 ((n - 1 - (T - i)) % 300)) (by omega) (by decide)
                      refine x_ild (v := r' 1 (b + 320 + ((n - 1 - (T - i)) % 300))) hx hb hK hH.1 1 rfl hq_9.1 (by rw [hq_9.2]) dX6_teeth_176 ?_
                      refine x_top (y := atM r b n (T - i)) (by rw [hr', teethL_out (by omega)]; rfl) ?_
                      refine lv_isub hx hb dX6_teeth_177 ?_
                      refine lv_iadd hx hb dX6_teeth_178 ?_
                      have hq_10 := ix_in (i := (((nI b) + 1440) + (nI i))) (n := 3020) (b + 1440 + i) (nIs2 b 1440 i) (by omega) (by decide)
                      obtain ⟨r_11, er_11⟩ : ∃ z, z = up2 r' 1 (b + 1440 + i) ((r 1 (b + 1440 + i)) + ((atM r b n (T - 1 - i)) - (atM r b n (T - i)))) := ⟨_, rfl⟩
                      refine x_ist (ws' := (modelW A cI r_11)) hx hb hK hH 1 rfl hq_10.1 hq_10.2 dX6_teeth_179 (by rw [er_11]; rfl) (fun H locs hH => ?_)
                      refine lv_iinc (v := nI (i + 1)) (lv' := [(5, .int (nI (i + 1))), (0, .ref (A 0)), (1, .int (nI b)), (3, .int (r 1 (b + 1)))]) hx hb dX6_teeth_180 hl (k := 3) rfl (nI_1 i) (by decide) rfl (fun ls hl => ?_)
                      refine lv_goto (tgt := 115) hx hb dX6_teeth_183 (by decide) ?_
                      exact ih (i + 1) r_11 (by omega) (by omega) (by subst er_11; subst hr'; exact teeth_step) H locs ls (hH) (lv_sub hl [1, 2, 3, 0] rfl)
                exact l2 (T + 1) 0 r (Nat.zero_le _) (by omega) (teeth_0) _ _ ls (hH) (lv_sub hl [1, 2, 4, 0] rfl)
              · skip
                have hlt : k < T := lt_of_nI (n := T) (by omega) (by rw [← hT]; exact c_60)
                have hmk : (n - 1 - k) % 300 < 300 := Nat.mod_lt _ (by decide)
                refine lv_aload_n hx hb dX6_teeth_63 rfl (lv_at hl 0 rfl) ?_
                refine lv_iload_n hx hb dX6_teeth_64 rfl (lv_at hl 1 rfl) ?_
                refine lv_iload hx hb dX6_teeth_65 (lv_at hl 4 rfl) ?_
                refine kSI (va_runV (As := [.int (nI b), .int (nI k)]) (rest := []) ⟨hx, hb, hml, hown, hts⟩ (c_X6_latest l D cI cB A r (nI k) b hb0 _) (cwV 2 hts gX6_teeth_X6_latest rfl rfl rfl (by decide +kernel) ⟨Nat.le_of_ble_eq_true rfl, Nat.le_of_ble_eq_true rfl⟩) (preV_cut hH.1 hH.2.1 hK hN (ci := 6) rfl 0 rfl [0, 1, 2, 3, 4, 5] (by decide) rfl) rfl rfl hl.1 rfl (lv_room (Nat.le_of_ble_eq_true rfl)) dX6_teeth_67 ⟨Nat.zero_le _, Nat.zero_le _⟩) ?_
                refine x_top (y := nI ((n - 1 - k) % 300)) (by rw [hn]; exact lat_val (by omega) (by omega) (by omega)) ?_
                refine lv_istore (lv' := [(6, .int (nI ((n - 1 - k) % 300))), (0, .ref (A 0)), (1, .int (nI b)), (2, .int (r 1 (b + 16))), (3, .int (r 1 (b + 1))), (5, .int (nI k))]) hx hb dX6_teeth_70 hl (by decide) rfl (fun ls hl => ?_)
                refine lv_aload_n hx hb dX6_teeth_72 rfl (lv_at hl 1 rfl) ?_
                refine x_get (v := .ref (A 1)) (C := RX6) (T := TX6) (N := 9) hx hb hts hi6 hown hK hH.1 0 rfl rfl 0 (by decide) (hts (.fieldLink RX6 7 "PulseWheelModel" "now" "[I") (by decide +kernel)) rfl rfl dX6_teeth_73 ?_
                refine lv_iload_n hx hb dX6_teeth_76 rfl (lv_at hl 2 rfl) ?_
                refine lv_bipush (v := 20) hx hb dX6_teeth_77 (by decide) ?_
                refine lv_iadd hx hb dX6_teeth_79 ?_
                refine lv_iload hx hb dX6_teeth_80 (lv_at hl 0 rfl) ?_
                refine lv_iadd hx hb dX6_teeth_82 ?_
                have hq_12 := ix_in (i := (((nI b) + 20) + (nI ((n - 1 - k) % 300)))) (n := 3020) (b + 20 + ((n - 1 - k) % 300)) (nIs2 b 20 ((n - 1 - k) % 300)) (by omega) (by decide)
                refine x_ild (v := r 1 (b + 20 + ((n - 1 - k) % 300))) hx hb hK hH.1 1 rfl hq_12.1 (by rw [hq_12.2]) dX6_teeth_83 ?_
                refine lv_iconst (v := 1) hx hb dX6_teeth_84 (by decide) ?_
                refine lv_icmp_ne (tgt := 105) hx hb dX6_teeth_85 (by decide) (fun c_85 => ?_) (fun c_85 => ?_)
                · skip
                  have hf_r : r = teethM r b n T := by exact teeth_not (fun h => c_85 (h k hlt).1)
                  exact hE _ _ _ _ _ hH ((congrArg (fun zz => (modelW A cI zz)) hf_r)) dX6_teeth_105
                · skip
                  refine lv_aload_n hx hb dX6_teeth_88 rfl (lv_at hl 1 rfl) ?_
                  refine x_get (v := .ref (A 1)) (C := RX6) (T := TX6) (N := 9) hx hb hts hi6 hown hK hH.1 0 rfl rfl 0 (by decide) (hts (.fieldLink RX6 7 "PulseWheelModel" "now" "[I") (by decide +kernel)) rfl rfl dX6_teeth_89 ?_
                  refine lv_iload_n hx hb dX6_teeth_92 rfl (lv_at hl 2 rfl) ?_
                  refine lv_sipush (v := 320) hx hb dX6_teeth_93 (by decide) ?_
                  refine lv_iadd hx hb dX6_teeth_96 ?_
                  refine lv_iload hx hb dX6_teeth_97 (lv_at hl 0 rfl) ?_
                  refine lv_iadd hx hb dX6_teeth_99 ?_
                  have hq_13 := ix_in (i := (((nI b) + 320) + (nI ((n - 1 - k) % 300)))) (n := 3020) (b + 320 + ((n - 1 - k) % 300)) (nIs2 b 320 ((n - 1 - k) % 300)) (by omega) (by decide)
                  refine x_ild (v := r 1 (b + 320 + ((n - 1 - k) % 300))) hx hb hK hH.1 1 rfl hq_13.1 (by rw [hq_13.2]) dX6_teeth_100 ?_
                  refine lv_iload_n hx hb dX6_teeth_101 rfl (lv_at hl 3 rfl) ?_
                  refine lv_icmp_gt (tgt := 106) hx hb dX6_teeth_102 (by decide) (fun c_102 => ?_) (fun c_102 => ?_)
                  · skip
                    refine lv_iinc (v := nI (k + 1)) (lv' := [(5, .int (nI (k + 1))), (6, .int (nI ((n - 1 - k) % 300))), (0, .ref (A 0)), (1, .int (nI b)), (2, .int (r 1 (b + 16))), (3, .int (r 1 (b + 1)))]) hx hb dX6_teeth_106 hl (k := 5) rfl (nI_1 k) (by decide) rfl (fun ls hl => ?_)
                    refine lv_goto (tgt := 57) hx hb dX6_teeth_109 (by decide) ?_
                    exact ih (k + 1) (by omega) (by omega) (all_step hal ⟨c_85, c_102⟩) H locs ls (hH) (lv_sub hl [2, 3, 4, 5, 0] rfl)
                  · skip
                    have hf_r : r = teethM r b n T := by exact teeth_not (fun h => c_102 (h k hlt).2)
                    exact hE _ _ _ _ _ hH ((congrArg (fun zz => (modelW A cI zz)) hf_r)) dX6_teeth_105
          exact l1 (T + 1) 0 (Nat.zero_le _) (by omega) (fun j h => absurd h (Nat.not_lt_zero j)) _ _ ls (hH) (lv_sub hl [4, 5, 3, 2, 0] rfl)
        · skip
          have hf_r : r = teethM r b n T := by exact teeth_early (Or.inr (Or.inr c_50))
          exact hE _ _ _ _ _ hH ((congrArg (fun zz => (modelW A cI zz)) hf_r)) dX6_teeth_53
  refine x_top (y := -1) (by rw [hn, hT]; exact lat_out (by omega) hTn (by omega)) ?_
  refine lv_istore (lv' := [(4, .int (-1)), (3, .int (r 1 (b + 1))), (2, .int (r 1 (b + 16))), (0, .ref (A 0)), (1, .int (nI b))]) hx hb dX6_teeth_25 hl (by decide) rfl (fun ls hl => ?_)
  refine lv_iload_n hx hb dX6_teeth_27 rfl (lv_at hl 2 rfl) ?_
  refine lv_if_eq (tgt := 53) hx hb dX6_teeth_28 (by decide) (fun c_28 => ?_) (fun c_28 => ?_)
  · skip
    have hf_r : r = teethM r b n T := by exact teeth_early (Or.inl c_28)
    exact hE _ _ _ _ _ hH ((congrArg (fun zz => (modelW A cI zz)) hf_r)) dX6_teeth_53
  · skip
    refine lv_iload hx hb dX6_teeth_31 (lv_at hl 0 rfl) ?_
    refine lv_if_lt (tgt := 53) hx hb dX6_teeth_33 (by decide) (fun c_33 => ?_) (fun c_33 => ?_)
    · skip
      have hf_r : r = teethM r b n T := by exact teeth_early (Or.inr (Or.inl hTn))
      exact hE _ _ _ _ _ hH ((congrArg (fun zz => (modelW A cI zz)) hf_r)) dX6_teeth_53
    · exact absurd (by decide) c_33

def z0 (r : Tb) (b : Nat) : Tb := up2 r 1 (b + 12) (r 1 (b + 12) + 1)
def firstM (r : Tb) (b : Nat) : Int32 := -downV (r 1 (b + 14) - r 1 (b + 7)) (r 1 (b + 1))
def lastM (r : Tb) (b : Nat) : Int32 := downV (r 1 (b + 8) - r 1 (b + 14)) (r 1 (b + 1))
def zA (r : Tb) (b : Nat) : Tb := if r 1 (b + 13) = 0 then (if r 1 (b + 7) = r 1 (b + 8) then up2 (up2 (z0 r b) 1 (b + 13) 1) 1 (b + 14) (r 1 (b + 6)) else z0 r b) else if firstM r b = lastM r b then up2 (up2 (up2 (z0 r b) 1 (b + 6) (r 1 (b + 14) + firstM r b * r 1 (b + 1))) 1 (b + 7) (r 1 (b + 14) + firstM r b * r 1 (b + 1))) 1 (b + 8) (r 1 (b + 14) + firstM r b * r 1 (b + 1)) else if firstM r b ≤ lastM r b then z0 r b else up2 (z0 r b) 1 (b + 11) (r 1 (b + 11) + 1)
theorem zA_row {r : Tb} {b c : Nat} (h : c ≠ 1) : zA r b c = r c := by
  unfold zA z0
  repeat' split
  all_goals simp only [up2_row h]
theorem zA_out {r : Tb} {b j : Nat} (h : j < b + 6 ∨ b + 14 < j ∨ j = b + 9 ∨ j = b + 10) : zA r b 1 j = r 1 j := by
  have h6 : j ≠ b + 6 := by omega
  have h7 : j ≠ b + 7 := by omega
  have h8 : j ≠ b + 8 := by omega
  have h11 : j ≠ b + 11 := by omega
  have h12 : j ≠ b + 12 := by omega
  have h13 : j ≠ b + 13 := by omega
  have h14 : j ≠ b + 14 := by omega
  unfold zA z0
  repeat' split
  all_goals simp only [up2_ne h6, up2_ne h7, up2_ne h8, up2_ne h11, up2_ne h12, up2_ne h13, up2_ne h14]
noncomputable def zeroM (r : Tb) (b n T : Nat) : Tb := up2 (teethM (zA r b) b n T) 1 (b + 16) (r 0 4)

def rm_X6_zero : Room := { frames := 2, cells := 0, slots := 0, locals := 49 }
set_option maxHeartbeats 1000000 in
set_option maxRecDepth 100000 in
theorem c_X6_zero (l : Launch) (D : va_G) (cI cB : ClassId) (A : Nat → Nat) (r : Tb) (b : Nat) (n : Nat) (T : Nat) (hb0 : b ≤ 1510) (hn : r 1 (b + 9) = nI n) (hn2 : n ≤ 1000000) (hT : r 1 (b + 1) = nI T) (hT4 : 4 ≤ T) (hT64 : T ≤ 64) : CV l D cI cB yX6_zero wsX6_zero rm_X6_zero [.ref (A 0), .int (nI b)] (modelW A cI r) (modelW A cI (zeroM r b n T)) := by
  refine CV.of (cc := cX6_zero) (maxL := 6)  (by decide +kernel) rfl (Nat.le_of_ble_eq_true rfl) ?_
  intro p e s m args below meth c ls A0 Q hT hH hA hl hE
  obtain ⟨hx, hb, hr, hlocks, hnm, hml, hown, hts, hK, hN⟩ := hT
  have hl : lv_has ls 6 [(0, .ref (A 0)), (1, .int (nI b))] := hl
  have hi6 : ∀ w ∈ wsX60, w ∈ wsX6_zero := by decide +kernel
  have hne : ¬ r 1 (b + 1) = 0 := by rw [hT]; exact nI_ne0 (by omega) (by omega)
  refine lv_aload_n hx hb dX6_zero_0 rfl (lv_at hl 0 rfl) ?_
  refine x_get (v := .ref (A 1)) (C := RX6) (T := TX6) (N := 9) hx hb hts hi6 hown hK hH.1 0 rfl rfl 0 (by decide) (hts (.fieldLink RX6 7 "PulseWheelModel" "now" "[I") (by decide +kernel)) rfl rfl dX6_zero_1 ?_
  refine lv_iload_n hx hb dX6_zero_4 rfl (lv_at hl 1 rfl) ?_
  refine lv_bipush (v := 12) hx hb dX6_zero_5 (by decide) ?_
  refine lv_iadd hx hb dX6_zero_7 ?_
  refine lv_dup2_11 hx hb dX6_zero_8 rfl rfl ?_
  have hq_1 := ix_in (i := ((nI b) + 12)) (n := 3020) (b + 12) (nI_add b 12) (by omega) (by decide)
  refine x_ild (v := r 1 (b + 12)) hx hb hK hH.1 1 rfl hq_1.1 (by rw [hq_1.2]) dX6_zero_9 ?_
  refine lv_iconst (v := 1) hx hb dX6_zero_10 (by decide) ?_
  refine lv_iadd hx hb dX6_zero_11 ?_
  have hq_2 := ix_in (i := ((nI b) + 12)) (n := 3020) (b + 12) (nI_add b 12) (by omega) (by decide)
  obtain ⟨r_3, er_3⟩ : ∃ z, z = up2 r 1 (b + 12) ((r 1 (b + 12)) + 1) := ⟨_, rfl⟩
  refine x_ist (ws' := (modelW A cI r_3)) hx hb hK hH 1 rfl hq_2.1 hq_2.2 dX6_zero_12 (by rw [er_3]; rfl) (fun H locs hH => ?_)
  have K212 : ∀ (r' : Tb), (r' = zA r b) → ∀ (H : Heap) (locs : List Loc) (ls : Array Slot), Hd D A0 s (modelW A cI r') H locs → lv_has ls 6 [(0, .ref (A 0)), (1, .int (nI b))] → W p l e rm_X6_zero s m args below meth c H locs 0 0 Q (F0 m 212 ls []) := by
    intro r' hz H locs ls hH hl
    refine lv_aload_n hx hb dX6_zero_212 rfl (lv_at hl 0 rfl) ?_
    refine lv_iload_n hx hb dX6_zero_213 rfl (lv_at hl 1 rfl) ?_
    obtain ⟨r_4, er_4⟩ : ∃ z, z = teethM r' b n T := ⟨_, rfl⟩
    refine kCV (ws' := (modelW A cI r_4)) (va_runV (As := [.int (nI b)]) (rest := []) ⟨hx, hb, hml, hown, hts⟩ (c_X6_teeth l D cI cB A r' b n T hb0 (by rw [hz, zA_out (by omega)]; exact hn) hn2 (by rw [hz, zA_out (by omega)]; exact hT) hT4 hT64 _) (cwV 1 hts gX6_zero_X6_teeth rfl rfl rfl (by decide +kernel) ⟨Nat.le_of_ble_eq_true rfl, Nat.le_of_ble_eq_true rfl⟩) (preV_cut hH.1 hH.2.1 hK hN (ci := 6) rfl 0 rfl [0, 1, 2, 3, 4, 5] (by decide) rfl) rfl rfl hl.1 rfl (lv_room (Nat.le_of_ble_eq_true rfl)) dX6_zero_214 ⟨Nat.zero_le _, Nat.zero_le _⟩) hH hA [0, 1, 2, 3, 4, 5] rfl adr_model (by rw [er_4]; exact putL_model_model) (fun H locs hH => ?_)
    refine lv_aload_n hx hb dX6_zero_217 rfl (lv_at hl 0 rfl) ?_
    refine x_get (v := .ref (A 1)) (C := RX6) (T := TX6) (N := 9) hx hb hts hi6 hown hK hH.1 0 rfl rfl 0 (by decide) (hts (.fieldLink RX6 7 "PulseWheelModel" "now" "[I") (by decide +kernel)) rfl rfl dX6_zero_218 ?_
    refine lv_iload_n hx hb dX6_zero_221 rfl (lv_at hl 1 rfl) ?_
    refine lv_bipush (v := 16) hx hb dX6_zero_222 (by decide) ?_
    refine lv_iadd hx hb dX6_zero_224 ?_
    refine lv_aload_n hx hb dX6_zero_225 rfl (lv_at hl 0 rfl) ?_
    refine x_get (v := .int (r_4 0 4)) (C := RX6) (T := TX6) (N := 9) hx hb hts hi6 hown hK hH.1 0 rfl rfl 4 (by decide) (hts (.fieldLink RX6 37 "PulseWheelModel" "ticks" "I") (by decide +kernel)) rfl rfl dX6_zero_226 ?_
    refine x_top (y := r 0 4) (by rw [er_4, teethM_row (by decide), hz, zA_row (by decide)]) ?_
    have hq_5 := ix_in (i := ((nI b) + 16)) (n := 3020) (b + 16) (nI_add b 16) (by omega) (by decide)
    obtain ⟨r_6, er_6⟩ : ∃ z, z = up2 r_4 1 (b + 16) (r 0 4) := ⟨_, rfl⟩
    refine x_ist (ws' := (modelW A cI r_6)) hx hb hK hH 1 rfl hq_5.1 hq_5.2 dX6_zero_229 (by rw [er_6]; rfl) (fun H locs hH => ?_)
    have hf_r : r_6 = zeroM r b n T := by subst er_6; subst er_4; subst er_3; subst hz; rfl
    exact hE _ _ _ _ _ hH ((congrArg (fun zz => (modelW A cI zz)) hf_r)) dX6_zero_230
  refine lv_aload_n hx hb dX6_zero_13 rfl (lv_at hl 0 rfl) ?_
  refine x_get (v := .ref (A 1)) (C := RX6) (T := TX6) (N := 9) hx hb hts hi6 hown hK hH.1 0 rfl rfl 0 (by decide) (hts (.fieldLink RX6 7 "PulseWheelModel" "now" "[I") (by decide +kernel)) rfl rfl dX6_zero_14 ?_
  refine lv_iload_n hx hb dX6_zero_17 rfl (lv_at hl 1 rfl) ?_
  refine lv_bipush (v := 13) hx hb dX6_zero_18 (by decide) ?_
  refine lv_iadd hx hb dX6_zero_20 ?_
  have hq_7 := ix_in (i := ((nI b) + 13)) (n := 3020) (b + 13) (nI_add b 13) (by omega) (by decide)
  refine x_ild (v := r_3 1 (b + 13)) hx hb hK hH.1 1 rfl hq_7.1 (by rw [hq_7.2]) dX6_zero_21 ?_
  refine x_top (y := r 1 (b + 13)) (by rw [er_3, up2_ne (j := b + 13) (k := b + 12) (by omega)]) ?_
  refine lv_if_ne (tgt := 77) hx hb dX6_zero_22 (by decide) (fun c_22 => ?_) (fun c_22 => ?_)
  · skip
    refine lv_aload_n hx hb dX6_zero_77 rfl (lv_at hl 0 rfl) ?_
    refine x_get (v := .ref (A 1)) (C := RX6) (T := TX6) (N := 9) hx hb hts hi6 hown hK hH.1 0 rfl rfl 0 (by decide) (hts (.fieldLink RX6 7 "PulseWheelModel" "now" "[I") (by decide +kernel)) rfl rfl dX6_zero_78 ?_
    refine lv_iload_n hx hb dX6_zero_81 rfl (lv_at hl 1 rfl) ?_
    refine lv_iconst (v := 1) hx hb dX6_zero_82 (by decide) ?_
    refine lv_iadd hx hb dX6_zero_83 ?_
    have hq_8 := ix_in (i := ((nI b) + 1)) (n := 3020) (b + 1) (nI_add b 1) (by omega) (by decide)
    refine x_ild (v := r_3 1 (b + 1)) hx hb hK hH.1 1 rfl hq_8.1 (by rw [hq_8.2]) dX6_zero_84 ?_
    refine x_top (y := r 1 (b + 1)) (by rw [er_3, up2_ne (j := b + 1) (k := b + 12) (by omega)]) ?_
    refine lv_istore_n (lv' := [(2, .int (r 1 (b + 1))), (0, .ref (A 0)), (1, .int (nI b))]) hx hb dX6_zero_85 rfl hl (by decide) rfl (fun ls hl => ?_)
    refine lv_aload_n hx hb dX6_zero_86 rfl (lv_at hl 1 rfl) ?_
    refine x_get (v := .ref (A 1)) (C := RX6) (T := TX6) (N := 9) hx hb hts hi6 hown hK hH.1 0 rfl rfl 0 (by decide) (hts (.fieldLink RX6 7 "PulseWheelModel" "now" "[I") (by decide +kernel)) rfl rfl dX6_zero_87 ?_
    refine lv_iload_n hx hb dX6_zero_90 rfl (lv_at hl 2 rfl) ?_
    refine lv_bipush (v := 14) hx hb dX6_zero_91 (by decide) ?_
    refine lv_iadd hx hb dX6_zero_93 ?_
    have hq_9 := ix_in (i := ((nI b) + 14)) (n := 3020) (b + 14) (nI_add b 14) (by omega) (by decide)
    refine x_ild (v := r_3 1 (b + 14)) hx hb hK hH.1 1 rfl hq_9.1 (by rw [hq_9.2]) dX6_zero_94 ?_
    refine x_top (y := r 1 (b + 14)) (by rw [er_3, up2_ne (j := b + 14) (k := b + 12) (by omega)]) ?_
    refine lv_aload_n hx hb dX6_zero_95 rfl (lv_at hl 1 rfl) ?_
    refine x_get (v := .ref (A 1)) (C := RX6) (T := TX6) (N := 9) hx hb hts hi6 hown hK hH.1 0 rfl rfl 0 (by decide) (hts (.fieldLink RX6 7 "PulseWheelModel" "now" "[I") (by decide +kernel)) rfl rfl dX6_zero_96 ?_
    refine lv_iload_n hx hb dX6_zero_99 rfl (lv_at hl 2 rfl) ?_
    refine lv_bipush (v := 7) hx hb dX6_zero_100 (by decide) ?_
    refine lv_iadd hx hb dX6_zero_102 ?_
    have hq_10 := ix_in (i := ((nI b) + 7)) (n := 3020) (b + 7) (nI_add b 7) (by omega) (by decide)
    refine x_ild (v := r_3 1 (b + 7)) hx hb hK hH.1 1 rfl hq_10.1 (by rw [hq_10.2]) dX6_zero_103 ?_
    refine x_top (y := r 1 (b + 7)) (by rw [er_3, up2_ne (j := b + 7) (k := b + 12) (by omega)]) ?_
    refine lv_isub hx hb dX6_zero_104 ?_
    refine lv_iload_n hx hb dX6_zero_105 rfl (lv_at hl 0 rfl) ?_
    refine kSI (va_runS (As := [.int ((r 1 (b + 14)) - (r 1 (b + 7))), .int (r 1 (b + 1))]) (rest := []) ⟨hx, hb, hml, hown, hts⟩ (c_X6_down l D cI cB ((r 1 (b + 14)) - (r 1 (b + 7))) (r 1 (b + 1)) hne _) (va_cwS 2 hts gX6_zero_X6_down rfl rfl rfl (by decide +kernel) ⟨Nat.le_of_ble_eq_true rfl, Nat.le_of_ble_eq_true rfl⟩) (preS_nil hK hN) rfl rfl hl.1 rfl (lv_room (Nat.le_of_ble_eq_true rfl)) dX6_zero_106 ⟨Nat.zero_le _, Nat.zero_le _⟩) ?_
    refine lv_ineg hx hb dX6_zero_109 ?_
    refine x_top (y := firstM r b) (rfl) ?_
    refine lv_istore_n (lv' := [(3, .int (firstM r b)), (2, .int (r 1 (b + 1))), (0, .ref (A 0)), (1, .int (nI b))]) hx hb dX6_zero_110 rfl hl (by decide) rfl (fun ls hl => ?_)
    refine lv_aload_n hx hb dX6_zero_111 rfl (lv_at hl 2 rfl) ?_
    refine x_get (v := .ref (A 1)) (C := RX6) (T := TX6) (N := 9) hx hb hts hi6 hown hK hH.1 0 rfl rfl 0 (by decide) (hts (.fieldLink RX6 7 "PulseWheelModel" "now" "[I") (by decide +kernel)) rfl rfl dX6_zero_112 ?_
    refine lv_iload_n hx hb dX6_zero_115 rfl (lv_at hl 3 rfl) ?_
    refine lv_bipush (v := 8) hx hb dX6_zero_116 (by decide) ?_
    refine lv_iadd hx hb dX6_zero_118 ?_
    have hq_11 := ix_in (i := ((nI b) + 8)) (n := 3020) (b + 8) (nI_add b 8) (by omega) (by decide)
    refine x_ild (v := r_3 1 (b + 8)) hx hb hK hH.1 1 rfl hq_11.1 (by rw [hq_11.2]) dX6_zero_119 ?_
    refine x_top (y := r 1 (b + 8)) (by rw [er_3, up2_ne (j := b + 8) (k := b + 12) (by omega)]) ?_
    refine lv_aload_n hx hb dX6_zero_120 rfl (lv_at hl 2 rfl) ?_
    refine x_get (v := .ref (A 1)) (C := RX6) (T := TX6) (N := 9) hx hb hts hi6 hown hK hH.1 0 rfl rfl 0 (by decide) (hts (.fieldLink RX6 7 "PulseWheelModel" "now" "[I") (by decide +kernel)) rfl rfl dX6_zero_121 ?_
    refine lv_iload_n hx hb dX6_zero_124 rfl (lv_at hl 3 rfl) ?_
    refine lv_bipush (v := 14) hx hb dX6_zero_125 (by decide) ?_
    refine lv_iadd hx hb dX6_zero_127 ?_
    have hq_12 := ix_in (i := ((nI b) + 14)) (n := 3020) (b + 14) (nI_add b 14) (by omega) (by decide)
    refine x_ild (v := r_3 1 (b + 14)) hx hb hK hH.1 1 rfl hq_12.1 (by rw [hq_12.2]) dX6_zero_128 ?_
    refine x_top (y := r 1 (b + 14)) (by rw [er_3, up2_ne (j := b + 14) (k := b + 12) (by omega)]) ?_
    refine lv_isub hx hb dX6_zero_129 ?_
    refine lv_iload_n hx hb dX6_zero_130 rfl (lv_at hl 1 rfl) ?_
    refine kSI (va_runS (As := [.int ((r 1 (b + 8)) - (r 1 (b + 14))), .int (r 1 (b + 1))]) (rest := []) ⟨hx, hb, hml, hown, hts⟩ (c_X6_down l D cI cB ((r 1 (b + 8)) - (r 1 (b + 14))) (r 1 (b + 1)) hne _) (va_cwS 2 hts gX6_zero_X6_down rfl rfl rfl (by decide +kernel) ⟨Nat.le_of_ble_eq_true rfl, Nat.le_of_ble_eq_true rfl⟩) (preS_nil hK hN) rfl rfl hl.1 rfl (lv_room (Nat.le_of_ble_eq_true rfl)) dX6_zero_131 ⟨Nat.zero_le _, Nat.zero_le _⟩) ?_
    refine x_top (y := lastM r b) (rfl) ?_
    refine lv_istore (lv' := [(4, .int (lastM r b)), (3, .int (firstM r b)), (2, .int (r 1 (b + 1))), (0, .ref (A 0)), (1, .int (nI b))]) hx hb dX6_zero_134 hl (by decide) rfl (fun ls hl => ?_)
    refine lv_iload_n hx hb dX6_zero_136 rfl (lv_at hl 1 rfl) ?_
    refine lv_iload hx hb dX6_zero_137 (lv_at hl 0 rfl) ?_
    refine lv_icmp_ne (tgt := 193) hx hb dX6_zero_139 (by decide) (fun c_139 => ?_) (fun c_139 => ?_)
    · skip
      refine lv_iload_n hx hb dX6_zero_193 rfl (lv_at hl 1 rfl) ?_
      refine lv_iload hx hb dX6_zero_194 (lv_at hl 0 rfl) ?_
      refine lv_icmp_le (tgt := 212) hx hb dX6_zero_196 (by decide) (fun c_196 => ?_) (fun c_196 => ?_)
      · skip
        exact K212 r_3 (by subst er_3; unfold zA; rw [if_neg c_22, if_neg c_139, if_pos c_196]; try rfl) _ _ ls hH (lv_sub hl [3, 4] rfl)
      · skip
        refine lv_aload_n hx hb dX6_zero_199 rfl (lv_at hl 3 rfl) ?_
        refine x_get (v := .ref (A 1)) (C := RX6) (T := TX6) (N := 9) hx hb hts hi6 hown hK hH.1 0 rfl rfl 0 (by decide) (hts (.fieldLink RX6 7 "PulseWheelModel" "now" "[I") (by decide +kernel)) rfl rfl dX6_zero_200 ?_
        refine lv_iload_n hx hb dX6_zero_203 rfl (lv_at hl 4 rfl) ?_
        refine lv_bipush (v := 11) hx hb dX6_zero_204 (by decide) ?_
        refine lv_iadd hx hb dX6_zero_206 ?_
        refine lv_dup2_11 hx hb dX6_zero_207 rfl rfl ?_
        have hq_13 := ix_in (i := ((nI b) + 11)) (n := 3020) (b + 11) (nI_add b 11) (by omega) (by decide)
        refine x_ild (v := r_3 1 (b + 11)) hx hb hK hH.1 1 rfl hq_13.1 (by rw [hq_13.2]) dX6_zero_208 ?_
        refine x_top (y := r 1 (b + 11)) (by rw [er_3, up2_ne (j := b + 11) (k := b + 12) (by omega)]) ?_
        refine lv_iconst (v := 1) hx hb dX6_zero_209 (by decide) ?_
        refine lv_iadd hx hb dX6_zero_210 ?_
        have hq_14 := ix_in (i := ((nI b) + 11)) (n := 3020) (b + 11) (nI_add b 11) (by omega) (by decide)
        obtain ⟨r_15, er_15⟩ : ∃ z, z = up2 r_3 1 (b + 11) ((r 1 (b + 11)) + 1) := ⟨_, rfl⟩
        refine x_ist (ws' := (modelW A cI r_15)) hx hb hK hH 1 rfl hq_14.1 hq_14.2 dX6_zero_211 (by rw [er_15]; rfl) (fun H locs hH => ?_)
        exact K212 r_15 (by subst er_15; subst er_3; unfold zA; rw [if_neg c_22, if_neg c_139, if_neg c_196]; try rfl) _ _ ls hH (lv_sub hl [3, 4] rfl)
    · skip
      refine lv_aload_n hx hb dX6_zero_142 rfl (lv_at hl 3 rfl) ?_
      refine x_get (v := .ref (A 1)) (C := RX6) (T := TX6) (N := 9) hx hb hts hi6 hown hK hH.1 0 rfl rfl 0 (by decide) (hts (.fieldLink RX6 7 "PulseWheelModel" "now" "[I") (by decide +kernel)) rfl rfl dX6_zero_143 ?_
      refine lv_iload_n hx hb dX6_zero_146 rfl (lv_at hl 4 rfl) ?_
      refine lv_bipush (v := 14) hx hb dX6_zero_147 (by decide) ?_
      refine lv_iadd hx hb dX6_zero_149 ?_
      have hq_16 := ix_in (i := ((nI b) + 14)) (n := 3020) (b + 14) (nI_add b 14) (by omega) (by decide)
      refine x_ild (v := r_3 1 (b + 14)) hx hb hK hH.1 1 rfl hq_16.1 (by rw [hq_16.2]) dX6_zero_150 ?_
      refine x_top (y := r 1 (b + 14)) (by rw [er_3, up2_ne (j := b + 14) (k := b + 12) (by omega)]) ?_
      refine lv_iload_n hx hb dX6_zero_151 rfl (lv_at hl 1 rfl) ?_
      refine lv_iload_n hx hb dX6_zero_152 rfl (lv_at hl 2 rfl) ?_
      refine lv_imul hx hb dX6_zero_153 ?_
      refine lv_iadd hx hb dX6_zero_154 ?_
      refine lv_istore (lv' := [(5, .int ((r 1 (b + 14)) + ((firstM r b) * (r 1 (b + 1))))), (4, .int (lastM r b)), (3, .int (firstM r b)), (2, .int (r 1 (b + 1))), (0, .ref (A 0)), (1, .int (nI b))]) hx hb dX6_zero_155 hl (by decide) rfl (fun ls hl => ?_)
      refine lv_aload_n hx hb dX6_zero_157 rfl (lv_at hl 4 rfl) ?_
      refine x_get (v := .ref (A 1)) (C := RX6) (T := TX6) (N := 9) hx hb hts hi6 hown hK hH.1 0 rfl rfl 0 (by decide) (hts (.fieldLink RX6 7 "PulseWheelModel" "now" "[I") (by decide +kernel)) rfl rfl dX6_zero_158 ?_
      refine lv_iload_n hx hb dX6_zero_161 rfl (lv_at hl 5 rfl) ?_
      refine lv_bipush (v := 6) hx hb dX6_zero_162 (by decide) ?_
      refine lv_iadd hx hb dX6_zero_164 ?_
      refine lv_iload hx hb dX6_zero_165 (lv_at hl 0 rfl) ?_
      have hq_17 := ix_in (i := ((nI b) + 6)) (n := 3020) (b + 6) (nI_add b 6) (by omega) (by decide)
      obtain ⟨r_18, er_18⟩ : ∃ z, z = up2 r_3 1 (b + 6) ((r 1 (b + 14)) + ((firstM r b) * (r 1 (b + 1)))) := ⟨_, rfl⟩
      refine x_ist (ws' := (modelW A cI r_18)) hx hb hK hH 1 rfl hq_17.1 hq_17.2 dX6_zero_167 (by rw [er_18]; rfl) (fun H locs hH => ?_)
      refine lv_aload_n hx hb dX6_zero_168 rfl (lv_at hl 4 rfl) ?_
      refine x_get (v := .ref (A 1)) (C := RX6) (T := TX6) (N := 9) hx hb hts hi6 hown hK hH.1 0 rfl rfl 0 (by decide) (hts (.fieldLink RX6 7 "PulseWheelModel" "now" "[I") (by decide +kernel)) rfl rfl dX6_zero_169 ?_
      refine lv_iload_n hx hb dX6_zero_172 rfl (lv_at hl 5 rfl) ?_
      refine lv_bipush (v := 7) hx hb dX6_zero_173 (by decide) ?_
      refine lv_iadd hx hb dX6_zero_175 ?_
      refine lv_iload hx hb dX6_zero_176 (lv_at hl 0 rfl) ?_
      have hq_19 := ix_in (i := ((nI b) + 7)) (n := 3020) (b + 7) (nI_add b 7) (by omega) (by decide)
      obtain ⟨r_20, er_20⟩ : ∃ z, z = up2 r_18 1 (b + 7) ((r 1 (b + 14)) + ((firstM r b) * (r 1 (b + 1)))) := ⟨_, rfl⟩
      refine x_ist (ws' := (modelW A cI r_20)) hx hb hK hH 1 rfl hq_19.1 hq_19.2 dX6_zero_178 (by rw [er_20]; rfl) (fun H locs hH => ?_)
      refine lv_aload_n hx hb dX6_zero_179 rfl (lv_at hl 4 rfl) ?_
      refine x_get (v := .ref (A 1)) (C := RX6) (T := TX6) (N := 9) hx hb hts hi6 hown hK hH.1 0 rfl rfl 0 (by decide) (hts (.fieldLink RX6 7 "PulseWheelModel" "now" "[I") (by decide +kernel)) rfl rfl dX6_zero_180 ?_
      refine lv_iload_n hx hb dX6_zero_183 rfl (lv_at hl 5 rfl) ?_
      refine lv_bipush (v := 8) hx hb dX6_zero_184 (by decide) ?_
      refine lv_iadd hx hb dX6_zero_186 ?_
      refine lv_iload hx hb dX6_zero_187 (lv_at hl 0 rfl) ?_
      have hq_21 := ix_in (i := ((nI b) + 8)) (n := 3020) (b + 8) (nI_add b 8) (by omega) (by decide)
      obtain ⟨r_22, er_22⟩ : ∃ z, z = up2 r_20 1 (b + 8) ((r 1 (b + 14)) + ((firstM r b) * (r 1 (b + 1)))) := ⟨_, rfl⟩
      refine x_ist (ws' := (modelW A cI r_22)) hx hb hK hH 1 rfl hq_21.1 hq_21.2 dX6_zero_189 (by rw [er_22]; rfl) (fun H locs hH => ?_)
      refine lv_goto (tgt := 212) hx hb dX6_zero_190 (by decide) ?_
      exact K212 r_22 (by subst er_22; subst er_20; subst er_18; subst er_3; unfold zA; rw [if_neg c_22, if_pos c_139]; try rfl) _ _ ls hH (lv_sub hl [4, 5] rfl)
  · skip
    refine lv_aload_n hx hb dX6_zero_25 rfl (lv_at hl 0 rfl) ?_
    refine x_get (v := .ref (A 1)) (C := RX6) (T := TX6) (N := 9) hx hb hts hi6 hown hK hH.1 0 rfl rfl 0 (by decide) (hts (.fieldLink RX6 7 "PulseWheelModel" "now" "[I") (by decide +kernel)) rfl rfl dX6_zero_26 ?_
    refine lv_iload_n hx hb dX6_zero_29 rfl (lv_at hl 1 rfl) ?_
    refine lv_bipush (v := 7) hx hb dX6_zero_30 (by decide) ?_
    refine lv_iadd hx hb dX6_zero_32 ?_
    have hq_23 := ix_in (i := ((nI b) + 7)) (n := 3020) (b + 7) (nI_add b 7) (by omega) (by decide)
    refine x_ild (v := r_3 1 (b + 7)) hx hb hK hH.1 1 rfl hq_23.1 (by rw [hq_23.2]) dX6_zero_33 ?_
    refine x_top (y := r 1 (b + 7)) (by rw [er_3, up2_ne (j := b + 7) (k := b + 12) (by omega)]) ?_
    refine lv_aload_n hx hb dX6_zero_34 rfl (lv_at hl 0 rfl) ?_
    refine x_get (v := .ref (A 1)) (C := RX6) (T := TX6) (N := 9) hx hb hts hi6 hown hK hH.1 0 rfl rfl 0 (by decide) (hts (.fieldLink RX6 7 "PulseWheelModel" "now" "[I") (by decide +kernel)) rfl rfl dX6_zero_35 ?_
    refine lv_iload_n hx hb dX6_zero_38 rfl (lv_at hl 1 rfl) ?_
    refine lv_bipush (v := 8) hx hb dX6_zero_39 (by decide) ?_
    refine lv_iadd hx hb dX6_zero_41 ?_
    have hq_24 := ix_in (i := ((nI b) + 8)) (n := 3020) (b + 8) (nI_add b 8) (by omega) (by decide)
    refine x_ild (v := r_3 1 (b + 8)) hx hb hK hH.1 1 rfl hq_24.1 (by rw [hq_24.2]) dX6_zero_42 ?_
    refine x_top (y := r 1 (b + 8)) (by rw [er_3, up2_ne (j := b + 8) (k := b + 12) (by omega)]) ?_
    refine lv_icmp_ne (tgt := 212) hx hb dX6_zero_43 (by decide) (fun c_43 => ?_) (fun c_43 => ?_)
    · skip
      exact K212 r_3 (by subst er_3; unfold zA; rw [if_pos c_22, if_neg c_43]; try rfl) _ _ ls hH (lv_sub hl [0, 1] rfl)
    · skip
      refine lv_aload_n hx hb dX6_zero_46 rfl (lv_at hl 0 rfl) ?_
      refine x_get (v := .ref (A 1)) (C := RX6) (T := TX6) (N := 9) hx hb hts hi6 hown hK hH.1 0 rfl rfl 0 (by decide) (hts (.fieldLink RX6 7 "PulseWheelModel" "now" "[I") (by decide +kernel)) rfl rfl dX6_zero_47 ?_
      refine lv_iload_n hx hb dX6_zero_50 rfl (lv_at hl 1 rfl) ?_
      refine lv_bipush (v := 13) hx hb dX6_zero_51 (by decide) ?_
      refine lv_iadd hx hb dX6_zero_53 ?_
      refine lv_iconst (v := 1) hx hb dX6_zero_54 (by decide) ?_
      have hq_25 := ix_in (i := ((nI b) + 13)) (n := 3020) (b + 13) (nI_add b 13) (by omega) (by decide)
      obtain ⟨r_26, er_26⟩ : ∃ z, z = up2 r_3 1 (b + 13) 1 := ⟨_, rfl⟩
      refine x_ist (ws' := (modelW A cI r_26)) hx hb hK hH 1 rfl hq_25.1 hq_25.2 dX6_zero_55 (by rw [er_26]; rfl) (fun H locs hH => ?_)
      refine lv_aload_n hx hb dX6_zero_56 rfl (lv_at hl 0 rfl) ?_
      refine x_get (v := .ref (A 1)) (C := RX6) (T := TX6) (N := 9) hx hb hts hi6 hown hK hH.1 0 rfl rfl 0 (by decide) (hts (.fieldLink RX6 7 "PulseWheelModel" "now" "[I") (by decide +kernel)) rfl rfl dX6_zero_57 ?_
      refine lv_iload_n hx hb dX6_zero_60 rfl (lv_at hl 1 rfl) ?_
      refine lv_bipush (v := 14) hx hb dX6_zero_61 (by decide) ?_
      refine lv_iadd hx hb dX6_zero_63 ?_
      refine lv_aload_n hx hb dX6_zero_64 rfl (lv_at hl 0 rfl) ?_
      refine x_get (v := .ref (A 1)) (C := RX6) (T := TX6) (N := 9) hx hb hts hi6 hown hK hH.1 0 rfl rfl 0 (by decide) (hts (.fieldLink RX6 7 "PulseWheelModel" "now" "[I") (by decide +kernel)) rfl rfl dX6_zero_65 ?_
      refine lv_iload_n hx hb dX6_zero_68 rfl (lv_at hl 1 rfl) ?_
      refine lv_bipush (v := 6) hx hb dX6_zero_69 (by decide) ?_
      refine lv_iadd hx hb dX6_zero_71 ?_
      have hq_27 := ix_in (i := ((nI b) + 6)) (n := 3020) (b + 6) (nI_add b 6) (by omega) (by decide)
      refine x_ild (v := r_26 1 (b + 6)) hx hb hK hH.1 1 rfl hq_27.1 (by rw [hq_27.2]) dX6_zero_72 ?_
      refine x_top (y := r 1 (b + 6)) (by rw [er_26, up2_ne (j := b + 6) (k := b + 13) (by omega), er_3, up2_ne (j := b + 6) (k := b + 12) (by omega)]) ?_
      have hq_28 := ix_in (i := ((nI b) + 14)) (n := 3020) (b + 14) (nI_add b 14) (by omega) (by decide)
      obtain ⟨r_29, er_29⟩ : ∃ z, z = up2 r_26 1 (b + 14) (r 1 (b + 6)) := ⟨_, rfl⟩
      refine x_ist (ws' := (modelW A cI r_29)) hx hb hK hH 1 rfl hq_28.1 hq_28.2 dX6_zero_73 (by rw [er_29]; rfl) (fun H locs hH => ?_)
      refine lv_goto (tgt := 212) hx hb dX6_zero_74 (by decide) ?_
      exact K212 r_29 (by subst er_29; subst er_26; subst er_3; unfold zA; rw [if_pos c_22, if_pos c_43]; try rfl) _ _ ls hH (lv_sub hl [0, 1] rfl)
