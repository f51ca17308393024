/-! ### the reference: read -/
def lineM (b : Nat) (raw was : Int32) (x : Tb × Int32) (i : Nat) : Tb × Int32 := if raw >>> (nI i &&& 31) &&& 1 = was >>> (nI i &&& 31) &&& 1 then (up2 x.1 1 (b + 3 + i) 0, x.2) else if x.1 1 (b + 0) ≤ x.1 1 (b + 3 + i) + 1 then (up2 (up2 x.1 1 (b + 3 + i) (x.1 1 (b + 3 + i) + 1)) 1 (b + 3 + i) 0, x.2 ^^^ bitV i) else (up2 x.1 1 (b + 3 + i) (x.1 1 (b + 3 + i) + 1), x.2)
def linesM (r : Tb) (b : Nat) (raw : Int32) : Nat → Tb × Int32
  | 0 => (r, r 1 (b + 2))
  | i + 1 => lineM b raw (r 1 (b + 2)) (linesM r b raw i) i
theorem linesM_s (r : Tb) (b : Nat) (raw : Int32) (i : Nat) : linesM r b raw (i + 1) = lineM b raw (r 1 (b + 2)) (linesM r b raw i) i := rfl
theorem lineM_out {b j i : Nat} {raw was : Int32} {x : Tb × Int32} (h : j ≠ b + 3 + i) : (lineM b raw was x i).1 1 j = x.1 1 j := by
  unfold lineM
  repeat' split
  all_goals simp only [up2_ne h]
theorem lineM_row {b c i : Nat} {raw was : Int32} {x : Tb × Int32} (h : c ≠ 1) : (lineM b raw was x i).1 c = x.1 c := by
  unfold lineM
  repeat' split
  all_goals simp only [up2_row h]
theorem linesM_out {r : Tb} {b j : Nat} {raw : Int32} : ∀ {i : Nat}, i ≤ 3 → (j < b + 3 ∨ b + 5 < j) → (linesM r b raw i).1 1 j = r 1 j
  | 0, _, _ => rfl
  | i + 1, hi, h => by
    rw [linesM_s, lineM_out (by omega)]
    exact linesM_out (by omega) h
theorem linesM_row {r : Tb} {b c : Nat} {raw : Int32} (h : c ≠ 1) : ∀ {i : Nat}, (linesM r b raw i).1 c = r c
  | 0 => rfl
  | i + 1 => by
    rw [linesM_s, lineM_row h]
    exact linesM_row h
def stepM (i w : Int32) : Int32 := phOf i - phOf w + 4 &&& 3
def evM (r : Tb) (b n : Nat) (st : Int32) : Tb := if st = 1 then ev1 r b n 1 else if st = 3 then ev1 r b n (-1) else if st = 2 then ev0 r b n else r
def evN (n : Nat) (st : Int32) : Nat := if st = 1 then n + 1 else if st = 3 then n + 1 else if st = 2 then n + 1 else n
theorem ev1_9 {r : Tb} {b n : Nat} {so : Int32} (h : r 1 (b + 9) = nI n) : ev1 r b n so 1 (b + 9) = nI (n + 1) := by
  unfold ev1
  rw [up2_eq, h, nI_1]
theorem ev0_9 {r : Tb} {b n : Nat} (h : r 1 (b + 9) = nI n) : ev0 r b n 1 (b + 9) = nI (n + 1) := by
  unfold ev0
  rw [up2_eq, h, nI_1]
theorem evM_9 {r : Tb} {b n : Nat} {st : Int32} (h : r 1 (b + 9) = nI n) : evM r b n st 1 (b + 9) = nI (evN n st) := by
  unfold evM evN
  split
  · exact ev1_9 h
  · split
    · exact ev1_9 h
    · split
      · exact ev0_9 h
      · exact h
theorem evN_le (n : Nat) (st : Int32) : evN n st ≤ n + 1 := by
  unfold evN
  repeat' split
  all_goals omega
theorem ev1_out {r : Tb} {b n j : Nat} {so : Int32} (h : j < b + 6 ∨ (b + 9 < j ∧ j < b + 20) ∨ b + 920 ≤ j) : ev1 r b n so 1 j = r 1 j := by
  have hm : n % 300 < 300 := Nat.mod_lt _ (by decide)
  have h6 : j ≠ b + 6 := by omega
  have h7 : j ≠ b + 7 := by omega
  have h8 : j ≠ b + 8 := by omega
  have h9 : j ≠ b + 9 := by omega
  have ha : j ≠ b + 20 + n % 300 := by omega
  have hc : j ≠ b + 320 + n % 300 := by omega
  have hd : j ≠ b + 620 + n % 300 := by omega
  unfold ev1
  rw [up2_ne h9, up2_ne hd, up2_ne hc, up2_ne ha, up2_ne h8, up2_ne h7, up2_ne h6]
theorem ev0_out {r : Tb} {b n j : Nat} (h : j < b + 6 ∨ (b + 10 < j ∧ j < b + 20) ∨ b + 920 ≤ j) : ev0 r b n 1 j = r 1 j := by
  have hm : n % 300 < 300 := Nat.mod_lt _ (by decide)
  have h6 : j ≠ b + 6 := by omega
  have h7 : j ≠ b + 7 := by omega
  have h8 : j ≠ b + 8 := by omega
  have h9 : j ≠ b + 9 := by omega
  have h10 : j ≠ b + 10 := by omega
  have ha : j ≠ b + 20 + n % 300 := by omega
  have hc : j ≠ b + 320 + n % 300 := by omega
  have hd : j ≠ b + 620 + n % 300 := by omega
  unfold ev0
  rw [up2_ne h9, up2_ne hd, up2_ne hc, up2_ne ha, up2_ne h10, up2_ne h8, up2_ne h7, up2_ne h6]
theorem evM_out {r : Tb} {b n j : Nat} {st : Int32} (h : j < b + 6 ∨ (b + 10 < j ∧ j < b + 20) ∨ b + 920 ≤ j) : evM r b n st 1 j = r 1 j := by
  unfold evM
  split
  · exact ev1_out (by omega)
  · split
    · exact ev1_out (by omega)
    · split
      · exact ev0_out (by omega)
      · rfl
theorem evM_row {r : Tb} {b n c : Nat} {st : Int32} (h : c ≠ 1) : evM r b n st c = r c := by
  unfold evM ev1 ev0
  repeat' split
  all_goals simp only [up2_row h]
theorem teethM_out {r : Tb} {b n T j : Nat} (h : j < b + 1440) (h17 : j ≠ b + 17) : teethM r b n T 1 j = r 1 j := by
  unfold teethM
  split
  · rfl
  · split
    · split
      · split
        · rw [up2_ne h17, teethL_out (by omega)]
        · rfl
      · rfl
    · rfl
theorem zeroM_out {r : Tb} {b n T j : Nat} (h : j < b + 6 ∨ j = b + 9 ∨ j = b + 10 ∨ j = b + 15 ∨ (b + 17 < j ∧ j < b + 1440)) : zeroM r b n T 1 j = r 1 j := by
  unfold zeroM
  rw [up2_ne (by omega), teethM_out (by omega) (by omega), zA_out (by omega)]
theorem zeroM_row {r : Tb} {b n T c : Nat} (h : c ≠ 1) : zeroM r b n T c = r c := by
  unfold zeroM
  rw [up2_row h, teethM_row h, zA_row h]
def cleanM (r : Tb) (b : Nat) (raw : Int32) : Tb := up2 (linesM r b raw 3).1 1 (b + 2) (linesM r b raw 3).2
def mid2M (r : Tb) (b n : Nat) (raw : Int32) : Tb := evM (cleanM r b raw) b n (stepM (linesM r b raw 3).2 (r 1 (b + 2)))
noncomputable def mid3M (r : Tb) (b n T : Nat) (raw : Int32) : Tb := if (linesM r b raw 3).2 >>> ((2 : Int32) &&& 31) &&& 1 = 1 then (if r 1 (b + 2) >>> ((2 : Int32) &&& 31) &&& 1 = 0 then zeroM (mid2M r b n raw) b (evN n (stepM (linesM r b raw 3).2 (r 1 (b + 2)))) T else mid2M r b n raw) else mid2M r b n raw
noncomputable def readM (r : Tb) (b n T S : Nat) (raw : Int32) : Tb := up2 (up2 (mid3M r b n T raw) 1 (b + 15) (mid3M r b n T raw 1 (b + 15) + 1)) 1 (b + 920 + (S + 1) % 512) (mid3M r b n T raw 1 (b + 6))
theorem mid2M_out {r : Tb} {b n j : Nat} {raw : Int32} (h : j < b + 2 ∨ (b + 10 < j ∧ j < b + 20) ∨ b + 920 ≤ j) : mid2M r b n raw 1 j = r 1 j := by
  unfold mid2M cleanM
  rw [evM_out (by omega), up2_ne (by omega), linesM_out (by decide) (by omega)]
theorem mid2M_9 {r : Tb} {b n : Nat} {raw : Int32} (h : r 1 (b + 9) = nI n) : mid2M r b n raw 1 (b + 9) = nI (evN n (stepM (linesM r b raw 3).2 (r 1 (b + 2)))) := by
  unfold mid2M cleanM
  exact evM_9 (by rw [up2_ne (by omega), linesM_out (by decide) (by omega)]; exact h)
theorem mid3M_15 {r : Tb} {b n T : Nat} {raw : Int32} : mid3M r b n T raw 1 (b + 15) = r 1 (b + 15) := by
  unfold mid3M
  repeat' split
  · rw [zeroM_out (by omega), mid2M_out (by omega)]
  · exact mid2M_out (by omega)
  · exact mid2M_out (by omega)
theorem mid2M_row {r : Tb} {b n c : Nat} {raw : Int32} (h : c ≠ 1) : mid2M r b n raw c = r c := by
  unfold mid2M cleanM
  rw [evM_row h, up2_row h, linesM_row h]
theorem mid3M_row {r : Tb} {b n T c : Nat} {raw : Int32} (h : c ≠ 1) : mid3M r b n T raw c = r c := by
  unfold mid3M
  repeat' split
  · rw [zeroM_row h, mid2M_row h]
  · exact mid2M_row h
  · exact mid2M_row h
theorem readM_row {r : Tb} {b n T S c : Nat} {raw : Int32} (h : c ≠ 1) : readM r b n T S raw c = r c := by
  unfold readM
  rw [up2_row h, up2_row h, mid3M_row h]
theorem teethM_far {r : Tb} {b n T j : Nat} (hT : T ≤ 64) (h : j < b ∨ b + 1510 ≤ j) : teethM r b n T 1 j = r 1 j := by
  unfold teethM
  split
  · rfl
  · split
    · split
      · split
        · rw [up2_ne (by omega), teethL_out (by omega)]
        · rfl
      · rfl
    · rfl
theorem zeroM_far {r : Tb} {b n T j : Nat} (hT : T ≤ 64) (h : j < b ∨ b + 1510 ≤ j) : zeroM r b n T 1 j = r 1 j := by
  unfold zeroM
  rw [up2_ne (by omega), teethM_far hT h, zA_out (by omega)]
theorem readM_far {r : Tb} {b n T S j : Nat} {raw : Int32} (hT : T ≤ 64) (h : j < b ∨ b + 1510 ≤ j) : readM r b n T S raw 1 j = r 1 j := by
  have hm : (S + 1) % 512 < 512 := Nat.mod_lt _ (by decide)
  have h2 : mid2M r b n raw 1 j = r 1 j := mid2M_out (by omega)
  unfold readM
  rw [up2_ne (by omega), up2_ne (by omega)]
  unfold mid3M
  repeat' split
  · rw [zeroM_far hT h, h2]
  · exact h2
  · exact h2

def rm_X6_read : Room := { frames := 3, cells := 0, slots := 0, locals := 74 }
set_option maxHeartbeats 1000000 in
set_option maxRecDepth 100000 in
theorem c_X6_read (l : Launch) (D : va_G) (cI cB : ClassId) (A : Nat → Nat) (r : Tb) (raw : Int32) (d : Nat) (b : Nat) (n : Nat) (T : Nat) (S : Nat) (hd : d ≤ 1) (hbd : 1510 * d = b) (hn : r 1 (b + 9) = nI n) (hn2 : n < 1000000) (hT : r 1 (b + 1) = nI T) (hT4 : 4 ≤ T) (hT64 : T ≤ 64) (hS : r 1 (b + 15) = nI S) (hS2 : S < 1000000) : CV l D cI cB yX6_read wsX6_read rm_X6_read [.ref (A 0), .int (nI d), .int raw] (modelW A cI r) (modelW A cI (readM r b n T S raw)) := by
  refine CV.of (cc := cX6_read) (maxL := 7)  (by decide +kernel) rfl (Nat.le_of_ble_eq_true rfl) ?_
  intro p e s m args below meth c ls A0 Q hT hH hA hl hE
  obtain ⟨hx, hb, hr, hlocks, hnm, hml, hown, hts, hK, hN⟩ := hT
  have hl : lv_has ls 7 [(0, .ref (A 0)), (1, .int (nI d)), (2, .int raw)] := hl
  have hi6 : ∀ w ∈ wsX60, w ∈ wsX6_read := by decide +kernel
  refine lv_sipush (v := 1510) hx hb dX6_read_0 (by decide) ?_
  refine lv_iload_n hx hb dX6_read_3 rfl (lv_at hl 1 rfl) ?_
  refine lv_imul hx hb dX6_read_4 ?_
  refine x_top (y := nI b) ((pk_mul 1510 d).trans (congrArg nI hbd)) ?_
  refine lv_istore_n (lv' := [(3, .int (nI b)), (0, .ref (A 0)), (1, .int (nI d)), (2, .int raw)]) hx hb dX6_read_5 rfl hl (by decide) rfl (fun ls hl => ?_)
  refine lv_aload_n hx hb dX6_read_6 rfl (lv_at hl 1 rfl) ?_
  refine x_get (v := .ref (A 1)) (C := RX6) (T := TX6) (N := 9) hx hb hts hi6 hown hK hH.1 0 rfl rfl 0 (by decide) (hts (.fieldLink RX6 7 "PulseWheelModel" "now" "[I") (by decide +kernel)) rfl rfl dX6_read_7 ?_
  refine lv_iload_n hx hb dX6_read_10 rfl (lv_at hl 0 rfl) ?_
  refine lv_iconst (v := 2) hx hb dX6_read_11 (by decide) ?_
  refine lv_iadd hx hb dX6_read_12 ?_
  have hq_1 := ix_in (i := ((nI b) + 2)) (n := 3020) (b + 2) (nI_add b 2) (by omega) (by decide)
  refine x_ild (v := r 1 (b + 2)) hx hb hK hH.1 1 rfl hq_1.1 (by rw [hq_1.2]) dX6_read_13 ?_
  refine lv_istore (lv' := [(4, .int (r 1 (b + 2))), (3, .int (nI b)), (0, .ref (A 0)), (1, .int (nI d)), (2, .int raw)]) hx hb dX6_read_14 hl (by decide) rfl (fun ls hl => ?_)
  refine lv_iload hx hb dX6_read_16 (lv_at hl 0 rfl) ?_
  refine lv_istore (lv' := [(5, .int (r 1 (b + 2))), (4, .int (r 1 (b + 2))), (3, .int (nI b)), (0, .ref (A 0)), (1, .int (nI d)), (2, .int raw)]) hx hb dX6_read_18 hl (by decide) rfl (fun ls hl => ?_)
  refine lv_iconst (v := 0) hx hb dX6_read_20 (by decide) ?_
  refine lv_istore (lv' := [(6, .int 0), (5, .int (r 1 (b + 2))), (4, .int (r 1 (b + 2))), (3, .int (nI b)), (0, .ref (A 0)), (1, .int (nI d)), (2, .int raw)]) hx hb dX6_read_21 hl (by decide) rfl (fun ls hl => ?_)
  have lp : ∀ (fuel : Nat) (i : Nat) (r' : Tb) (is' : Int32), (i ≤ 3) → (3 < i + fuel) → ((r', is') = linesM r b raw i) → ∀ (H : Heap) (locs : List Loc) (ls : Array Slot), Hd D A0 s (modelW A cI r') H locs → lv_has ls 7 [(0, .ref (A 0)), (2, .int raw), (3, .int (nI b)), (4, .int (r 1 (b + 2))), (5, .int is'), (6, .int (nI i))] → W p l e rm_X6_read s m args below meth c H locs 0 0 Q (F0 m 23 ls []) := by
    intro fuel
    induction fuel with
    | zero => intro i r' is' hi hm hls H locs ls hH hl; exact absurd hm (by omega)
    | succ fuel ih =>
      intro i r' is' hi hm hls H locs ls hH hl
      refine lv_iload hx hb dX6_read_23 (lv_at hl 5 rfl) ?_
      refine lv_iconst (v := 3) hx hb dX6_read_25 (by decide) ?_
      refine lv_icmp_ge (tgt := 127) hx hb dX6_read_26 (by decide) (fun c_26 => ?_) (fun c_26 => ?_)
      · skip
        have e3 : i = 3 := le_exit hi (by decide) c_26
        rw [e3] at hls
        have hr3 : r' = (linesM r b raw 3).1 := by rw [← hls]
        have hs3 : is' = (linesM r b raw 3).2 := by rw [← hls]
        refine lv_aload_n hx hb dX6_read_127 rfl (lv_at hl 0 rfl) ?_
        refine x_get (v := .ref (A 1)) (C := RX6) (T := TX6) (N := 9) hx hb hts hi6 hown hK hH.1 0 rfl rfl 0 (by decide) (hts (.fieldLink RX6 7 "PulseWheelModel" "now" "[I") (by decide +kernel)) rfl rfl dX6_read_128 ?_
        refine lv_iload_n hx hb dX6_read_131 rfl (lv_at hl 2 rfl) ?_
        refine lv_iconst (v := 2) hx hb dX6_read_132 (by decide) ?_
        refine lv_iadd hx hb dX6_read_133 ?_
        refine lv_iload hx hb dX6_read_134 (lv_at hl 4 rfl) ?_
        have hq_2 := ix_in (i := ((nI b) + 2)) (n := 3020) (b + 2) (nI_add b 2) (by omega) (by decide)
        obtain ⟨r_3, er_3⟩ : ∃ z, z = up2 r' 1 (b + 2) is' := ⟨_, rfl⟩
        refine x_ist (ws' := (modelW A cI r_3)) hx hb hK hH 1 rfl hq_2.1 hq_2.2 dX6_read_136 (by rw [er_3]; rfl) (fun H locs hH => ?_)
        refine lv_iload hx hb dX6_read_137 (lv_at hl 4 rfl) ?_
        refine kSI (va_runS (As := [.int is']) (rest := []) ⟨hx, hb, hml, hown, hts⟩ (c_X6_phaseOf l D cI cB is'  _) (va_cwS 1 hts gX6_read_X6_phaseOf rfl rfl rfl (by decide +kernel) ⟨Nat.le_of_ble_eq_true rfl, Nat.le_of_ble_eq_true rfl⟩) (preS_nil hK hN) rfl rfl hl.1 rfl (lv_room (Nat.le_of_ble_eq_true rfl)) dX6_read_139 ⟨Nat.zero_le _, Nat.zero_le _⟩) ?_
        refine lv_iload hx hb dX6_read_142 (lv_at hl 3 rfl) ?_
        refine kSI (va_runS (As := [.int (r 1 (b + 2))]) (rest := [.int (phOf is')]) ⟨hx, hb, hml, hown, hts⟩ (c_X6_phaseOf l D cI cB (r 1 (b + 2))  _) (va_cwS 1 hts gX6_read_X6_phaseOf rfl rfl rfl (by decide +kernel) ⟨Nat.le_of_ble_eq_true rfl, Nat.le_of_ble_eq_true rfl⟩) (preS_nil hK hN) rfl rfl hl.1 rfl (lv_room (Nat.le_of_ble_eq_true rfl)) dX6_read_144 ⟨Nat.zero_le _, Nat.zero_le _⟩) ?_
        refine lv_isub hx hb dX6_read_147 ?_
        refine lv_iconst (v := 4) hx hb dX6_read_148 (by decide) ?_
        refine lv_iadd hx hb dX6_read_149 ?_
        refine lv_iconst (v := 3) hx hb dX6_read_150 (by decide) ?_
        refine lv_iand hx hb dX6_read_151 ?_
        refine x_top (y := stepM is' (r 1 (b + 2))) (rfl) ?_
        refine lv_istore (lv' := [(6, .int (stepM is' (r 1 (b + 2)))), (0, .ref (A 0)), (2, .int raw), (3, .int (nI b)), (4, .int (r 1 (b + 2))), (5, .int is')]) hx hb dX6_read_152 hl (by decide) rfl (fun ls hl => ?_)
        have hc3 : r_3 = cleanM r b raw := by rw [er_3, hr3, hs3]; rfl
        have K196 : ∀ (r2 : Tb), (r2 = mid2M r b n raw) → ∀ (H : Heap) (locs : List Loc) (ls : Array Slot), Hd D A0 s (modelW A cI r2) H locs → lv_has ls 7 [(0, .ref (A 0)), (3, .int (nI b)), (4, .int (r 1 (b + 2))), (5, .int is')] → W p l e rm_X6_read s m args below meth c H locs 0 0 Q (F0 m 196 ls []) := by
          intro r2 h2 H locs ls hH hl
          refine lv_iload hx hb dX6_read_196 (lv_at hl 3 rfl) ?_
          have K220 : ∀ (r3 : Tb), (r3 = mid3M r b n T raw) → ∀ (H : Heap) (locs : List Loc) (ls : Array Slot), Hd D A0 s (modelW A cI r3) H locs → lv_has ls 7 [(0, .ref (A 0)), (3, .int (nI b))] → W p l e rm_X6_read s m args below meth c H locs 0 0 Q (F0 m 220 ls []) := by
            intro r3 h3 H locs ls hH hl
            refine lv_aload_n hx hb dX6_read_220 rfl (lv_at hl 0 rfl) ?_
            refine x_get (v := .ref (A 1)) (C := RX6) (T := TX6) (N := 9) hx hb hts hi6 hown hK hH.1 0 rfl rfl 0 (by decide) (hts (.fieldLink RX6 7 "PulseWheelModel" "now" "[I") (by decide +kernel)) rfl rfl dX6_read_221 ?_
            refine lv_iload_n hx hb dX6_read_224 rfl (lv_at hl 1 rfl) ?_
            refine lv_bipush (v := 15) hx hb dX6_read_225 (by decide) ?_
            refine lv_iadd hx hb dX6_read_227 ?_
            refine lv_dup2_11 hx hb dX6_read_228 rfl rfl ?_
            have hq_4 := ix_in (i := ((nI b) + 15)) (n := 3020) (b + 15) (nI_add b 15) (by omega) (by decide)
            refine x_ild (v := r3 1 (b + 15)) hx hb hK hH.1 1 rfl hq_4.1 (by rw [hq_4.2]) dX6_read_229 ?_
            refine lv_iconst (v := 1) hx hb dX6_read_230 (by decide) ?_
            refine lv_iadd hx hb dX6_read_231 ?_
            have hq_5 := ix_in (i := ((nI b) + 15)) (n := 3020) (b + 15) (nI_add b 15) (by omega) (by decide)
            obtain ⟨r_6, er_6⟩ : ∃ z, z = up2 r3 1 (b + 15) ((r3 1 (b + 15)) + 1) := ⟨_, rfl⟩
            refine x_ist (ws' := (modelW A cI r_6)) hx hb hK hH 1 rfl hq_5.1 hq_5.2 dX6_read_232 (by rw [er_6]; rfl) (fun H locs hH => ?_)
            have hmS : (S + 1) % 512 < 512 := Nat.mod_lt _ (by decide)
            refine lv_aload_n hx hb dX6_read_233 rfl (lv_at hl 0 rfl) ?_
            refine x_get (v := .ref (A 1)) (C := RX6) (T := TX6) (N := 9) hx hb hts hi6 hown hK hH.1 0 rfl rfl 0 (by decide) (hts (.fieldLink RX6 7 "PulseWheelModel" "now" "[I") (by decide +kernel)) rfl rfl dX6_read_234 ?_
            refine lv_iload_n hx hb dX6_read_237 rfl (lv_at hl 1 rfl) ?_
            refine lv_sipush (v := 920) hx hb dX6_read_238 (by decide) ?_
            refine lv_iadd hx hb dX6_read_241 ?_
            refine lv_aload_n hx hb dX6_read_242 rfl (lv_at hl 0 rfl) ?_
            refine x_get (v := .ref (A 1)) (C := RX6) (T := TX6) (N := 9) hx hb hts hi6 hown hK hH.1 0 rfl rfl 0 (by decide) (hts (.fieldLink RX6 7 "PulseWheelModel" "now" "[I") (by decide +kernel)) rfl rfl dX6_read_243 ?_
            refine lv_iload_n hx hb dX6_read_246 rfl (lv_at hl 1 rfl) ?_
            refine lv_bipush (v := 15) hx hb dX6_read_247 (by decide) ?_
            refine lv_iadd hx hb dX6_read_249 ?_
            have hq_7 := ix_in (i := ((nI b) + 15)) (n := 3020) (b + 15) (nI_add b 15) (by omega) (by decide)
            refine x_ild (v := r_6 1 (b + 15)) hx hb hK hH.1 1 rfl hq_7.1 (by rw [hq_7.2]) dX6_read_250 ?_
            refine x_top (y := ((r3 1 (b + 15)) + 1)) (by rw [er_6, up2_eq]) ?_
            refine lv_sipush (v := 512) hx hb dX6_read_251 (by decide) ?_
            refine lv_irem hx hb dX6_read_254 (by decide) ?_
            refine x_top (y := nI ((S + 1) % 512)) (by rw [h3, mid3M_15, hS, nI_1]; exact pk_rem (d := 512) (by omega) (by decide) (by decide)) ?_
            refine lv_iadd hx hb dX6_read_255 ?_
            refine lv_aload_n hx hb dX6_read_256 rfl (lv_at hl 0 rfl) ?_
            refine x_get (v := .ref (A 1)) (C := RX6) (T := TX6) (N := 9) hx hb hts hi6 hown hK hH.1 0 rfl rfl 0 (by decide) (hts (.fieldLink RX6 7 "PulseWheelModel" "now" "[I") (by decide +kernel)) rfl rfl dX6_read_257 ?_
            refine lv_iload_n hx hb dX6_read_260 rfl (lv_at hl 1 rfl) ?_
            refine lv_bipush (v := 6) hx hb dX6_read_261 (by decide) ?_
            refine lv_iadd hx hb dX6_read_263 ?_
            have hq_8 := ix_in (i := ((nI b) + 6)) (n := 3020) (b + 6) (nI_add b 6) (by omega) (by decide)
            refine x_ild (v := r_6 1 (b + 6)) hx hb hK hH.1 1 rfl hq_8.1 (by rw [hq_8.2]) dX6_read_264 ?_
            refine x_top (y := r3 1 (b + 6)) (by rw [er_6, up2_ne (j := b + 6) (k := b + 15) (by omega)]) ?_
            have hq_9 := ix_in (i := (((nI b) + 920) + (nI ((S + 1) % 512)))) (n := 3020) (b + 920 + ((S + 1) % 512)) (nIs2 b 920 ((S + 1) % 512)) (by omega) (by decide)
            obtain ⟨r_10, er_10⟩ : ∃ z, z = up2 r_6 1 (b + 920 + ((S + 1) % 512)) (r3 1 (b + 6)) := ⟨_, rfl⟩
            refine x_ist (ws' := (modelW A cI r_10)) hx hb hK hH 1 rfl hq_9.1 hq_9.2 dX6_read_265 (by rw [er_10]; rfl) (fun H locs hH => ?_)
            have hf_r : r_10 = readM r b n T S raw := by subst er_10; subst er_6; subst er_3; subst h3; rfl
            exact hE _ _ _ _ _ hH ((congrArg (fun zz => (modelW A cI zz)) hf_r)) dX6_read_266
          refine lv_iconst (v := 2) hx hb dX6_read_198 (by decide) ?_
          refine lv_ishr hx hb dX6_read_199 ?_
          refine lv_iconst (v := 1) hx hb dX6_read_200 (by decide) ?_
          refine lv_iand hx hb dX6_read_201 ?_
          refine lv_iconst (v := 1) hx hb dX6_read_202 (by decide) ?_
          refine lv_icmp_ne (tgt := 220) hx hb dX6_read_203 (by decide) (fun c_203 => ?_) (fun c_203 => ?_)
          · skip
            exact K220 r2 (by rw [h2]; unfold mid3M; rw [← hs3, if_neg c_203]) _ _ ls hH (lv_sub hl [0, 1] rfl)
          · skip
            refine lv_iload hx hb dX6_read_206 (lv_at hl 2 rfl) ?_
            refine lv_iconst (v := 2) hx hb dX6_read_208 (by decide) ?_
            refine lv_ishr hx hb dX6_read_209 ?_
            refine lv_iconst (v := 1) hx hb dX6_read_210 (by decide) ?_
            refine lv_iand hx hb dX6_read_211 ?_
            refine lv_if_ne (tgt := 220) hx hb dX6_read_212 (by decide) (fun c_212 => ?_) (fun c_212 => ?_)
            · skip
              exact K220 r2 (by rw [h2]; unfold mid3M; rw [← hs3, if_pos c_203, if_neg c_212]) _ _ ls hH (lv_sub hl [0, 1] rfl)
            · skip
              refine lv_aload_n hx hb dX6_read_215 rfl (lv_at hl 0 rfl) ?_
              refine lv_iload_n hx hb dX6_read_216 rfl (lv_at hl 1 rfl) ?_
              obtain ⟨r_11, er_11⟩ : ∃ z, z = zeroM r2 b (evN n (stepM (linesM r b raw 3).2 (r 1 (b + 2)))) T := ⟨_, rfl⟩
              refine kCV (ws' := (modelW A cI r_11)) (va_runV (As := [.int (nI b)]) (rest := []) ⟨hx, hb, hml, hown, hts⟩ (c_X6_zero l D cI cB A r2 b (evN n (stepM (linesM r b raw 3).2 (r 1 (b + 2)))) T (by omega) (by rw [h2]; exact mid2M_9 hn) (Nat.le_trans (evN_le _ _) (by omega)) (by rw [h2, mid2M_out (by omega)]; exact hT) hT4 hT64 _) (cwV 1 hts gX6_read_X6_zero rfl rfl rfl (by decide +kernel) ⟨Nat.le_of_ble_eq_true rfl, Nat.le_of_ble_eq_true rfl⟩) (preV_cut hH.1 hH.2.1 hK hN (ci := 6) rfl 0 rfl [0, 1, 2, 3, 4, 5] (by decide) rfl) rfl rfl hl.1 rfl (lv_room (Nat.le_of_ble_eq_true rfl)) dX6_read_217 ⟨Nat.zero_le _, Nat.zero_le _⟩) hH hA [0, 1, 2, 3, 4, 5] rfl adr_model (by rw [er_11]; exact putL_model_model) (fun H locs hH => ?_)
              exact K220 r_11 (by subst er_11; rw [h2]; unfold mid3M; rw [← hs3, if_pos c_203, if_pos c_212]) _ _ ls hH (lv_sub hl [0, 1] rfl)
        refine lv_iload hx hb dX6_read_154 (lv_at hl 0 rfl) ?_
        refine lv_iconst (v := 1) hx hb dX6_read_156 (by decide) ?_
        refine lv_icmp_ne (tgt := 169) hx hb dX6_read_157 (by decide) (fun c_157 => ?_) (fun c_157 => ?_)
        · skip
          refine lv_iload hx hb dX6_read_169 (lv_at hl 0 rfl) ?_
          refine lv_iconst (v := 3) hx hb dX6_read_171 (by decide) ?_
          refine lv_icmp_ne (tgt := 184) hx hb dX6_read_172 (by decide) (fun c_172 => ?_) (fun c_172 => ?_)
          · skip
            refine lv_iload hx hb dX6_read_184 (lv_at hl 0 rfl) ?_
            refine lv_iconst (v := 2) hx hb dX6_read_186 (by decide) ?_
            refine lv_icmp_ne (tgt := 196) hx hb dX6_read_187 (by decide) (fun c_187 => ?_) (fun c_187 => ?_)
            · skip
              exact K196 r_3 (by unfold mid2M evM; rw [← hc3, ← hs3, if_neg c_157, if_neg c_172, if_neg c_187]) _ _ ls hH (lv_sub hl [1, 3, 4, 5] rfl)
            · skip
              refine lv_aload_n hx hb dX6_read_190 rfl (lv_at hl 1 rfl) ?_
              refine lv_iload_n hx hb dX6_read_191 rfl (lv_at hl 3 rfl) ?_
              refine lv_iconst (v := 0) hx hb dX6_read_192 (by decide) ?_
              obtain ⟨r_12, er_12⟩ : ∃ z, z = ev0 r_3 b n := ⟨_, rfl⟩
              refine kCV (ws' := (modelW A cI r_12)) (va_runV (As := [.int (nI b), .int 0]) (rest := []) ⟨hx, hb, hml, hown, hts⟩ (c_X6_event0 l D cI cB A r_3 b n (by omega) (by rw [hc3]; unfold cleanM; rw [up2_ne (by omega), linesM_out (by decide) (by omega)]; exact hn) (by omega) _) (cwV 2 hts gX6_read_X6_event rfl rfl rfl (by decide +kernel) ⟨Nat.le_of_ble_eq_true rfl, Nat.le_of_ble_eq_true rfl⟩) (preV_cut hH.1 hH.2.1 hK hN (ci := 6) rfl 0 rfl [0, 1, 2, 3, 4, 5] (by decide) rfl) rfl rfl hl.1 rfl (lv_room (Nat.le_of_ble_eq_true rfl)) dX6_read_193 ⟨Nat.zero_le _, Nat.zero_le _⟩) hH hA [0, 1, 2, 3, 4, 5] rfl adr_model (by rw [er_12]; exact putL_model_model) (fun H locs hH => ?_)
              exact K196 r_12 (by subst er_12; unfold mid2M evM; rw [← hc3, ← hs3, if_neg c_157, if_neg c_172, if_pos c_187]) _ _ ls hH (lv_sub hl [1, 3, 4, 5] rfl)
          · skip
            refine lv_aload_n hx hb dX6_read_175 rfl (lv_at hl 1 rfl) ?_
            refine lv_iload_n hx hb dX6_read_176 rfl (lv_at hl 3 rfl) ?_
            refine lv_iconst (v := -1) hx hb dX6_read_177 (by decide) ?_
            obtain ⟨r_13, er_13⟩ : ∃ z, z = ev1 r_3 b n (-1) := ⟨_, rfl⟩
            refine kCV (ws' := (modelW A cI r_13)) (va_runV (As := [.int (nI b), .int (-1)]) (rest := []) ⟨hx, hb, hml, hown, hts⟩ (c_X6_event1 l D cI cB A r_3 (-1) b n (by omega) (by rw [hc3]; unfold cleanM; rw [up2_ne (by omega), linesM_out (by decide) (by omega)]; exact hn) (by omega) (by decide) _) (cwV 2 hts gX6_read_X6_event rfl rfl rfl (by decide +kernel) ⟨Nat.le_of_ble_eq_true rfl, Nat.le_of_ble_eq_true rfl⟩) (preV_cut hH.1 hH.2.1 hK hN (ci := 6) rfl 0 rfl [0, 1, 2, 3, 4, 5] (by decide) rfl) rfl rfl hl.1 rfl (lv_room (Nat.le_of_ble_eq_true rfl)) dX6_read_178 ⟨Nat.zero_le _, Nat.zero_le _⟩) hH hA [0, 1, 2, 3, 4, 5] rfl adr_model (by rw [er_13]; exact putL_model_model) (fun H locs hH => ?_)
            refine lv_goto (tgt := 196) hx hb dX6_read_181 (by decide) ?_
            exact K196 r_13 (by subst er_13; unfold mid2M evM; rw [← hc3, ← hs3, if_neg c_157, if_pos c_172]) _ _ ls hH (lv_sub hl [1, 3, 4, 5] rfl)
        · skip
          refine lv_aload_n hx hb dX6_read_160 rfl (lv_at hl 1 rfl) ?_
          refine lv_iload_n hx hb dX6_read_161 rfl (lv_at hl 3 rfl) ?_
          refine lv_iconst (v := 1) hx hb dX6_read_162 (by decide) ?_
          obtain ⟨r_14, er_14⟩ : ∃ z, z = ev1 r_3 b n 1 := ⟨_, rfl⟩
          refine kCV (ws' := (modelW A cI r_14)) (va_runV (As := [.int (nI b), .int 1]) (rest := []) ⟨hx, hb, hml, hown, hts⟩ (c_X6_event1 l D cI cB A r_3 1 b n (by omega) (by rw [hc3]; unfold cleanM; rw [up2_ne (by omega), linesM_out (by decide) (by omega)]; exact hn) (by omega) (by decide) _) (cwV 2 hts gX6_read_X6_event rfl rfl rfl (by decide +kernel) ⟨Nat.le_of_ble_eq_true rfl, Nat.le_of_ble_eq_true rfl⟩) (preV_cut hH.1 hH.2.1 hK hN (ci := 6) rfl 0 rfl [0, 1, 2, 3, 4, 5] (by decide) rfl) rfl rfl hl.1 rfl (lv_room (Nat.le_of_ble_eq_true rfl)) dX6_read_163 ⟨Nat.zero_le _, Nat.zero_le _⟩) hH hA [0, 1, 2, 3, 4, 5] rfl adr_model (by rw [er_14]; exact putL_model_model) (fun H locs hH => ?_)
          refine lv_goto (tgt := 196) hx hb dX6_read_166 (by decide) ?_
          exact K196 r_14 (by subst er_14; unfold mid2M evM; rw [← hc3, ← hs3, if_pos c_157]) _ _ ls hH (lv_sub hl [1, 3, 4, 5] rfl)
      · skip
        have hlt : i < 3 := lt_of_nI (n := 3) (by omega) c_26
        refine lv_iload_n hx hb dX6_read_29 rfl (lv_at hl 1 rfl) ?_
        refine lv_iload hx hb dX6_read_30 (lv_at hl 5 rfl) ?_
        refine lv_ishr hx hb dX6_read_32 ?_
        refine lv_iconst (v := 1) hx hb dX6_read_33 (by decide) ?_
        refine lv_iand hx hb dX6_read_34 ?_
        refine lv_iload hx hb dX6_read_35 (lv_at hl 3 rfl) ?_
        refine lv_iload hx hb dX6_read_37 (lv_at hl 5 rfl) ?_
        refine lv_ishr hx hb dX6_read_39 ?_
        refine lv_iconst (v := 1) hx hb dX6_read_40 (by decide) ?_
        refine lv_iand hx hb dX6_read_41 ?_
        refine lv_icmp_ne (tgt := 60) hx hb dX6_read_42 (by decide) (fun c_42 => ?_) (fun c_42 => ?_)
        · skip
          refine lv_aload_n hx hb dX6_read_60 rfl (lv_at hl 0 rfl) ?_
          refine x_get (v := .ref (A 1)) (C := RX6) (T := TX6) (N := 9) hx hb hts hi6 hown hK hH.1 0 rfl rfl 0 (by decide) (hts (.fieldLink RX6 7 "PulseWheelModel" "now" "[I") (by decide +kernel)) rfl rfl dX6_read_61 ?_
          refine lv_iload_n hx hb dX6_read_64 rfl (lv_at hl 2 rfl) ?_
          refine lv_iconst (v := 3) hx hb dX6_read_65 (by decide) ?_
          refine lv_iadd hx hb dX6_read_66 ?_
          refine lv_iload hx hb dX6_read_67 (lv_at hl 5 rfl) ?_
          refine lv_iadd hx hb dX6_read_69 ?_
          refine lv_dup2_11 hx hb dX6_read_70 rfl rfl ?_
          have hq_15 := ix_in (i := (((nI b) + 3) + (nI i))) (n := 3020) (b + 3 + i) (nIs2 b 3 i) (by omega) (by decide)
          refine x_ild (v := r' 1 (b + 3 + i)) hx hb hK hH.1 1 rfl hq_15.1 (by rw [hq_15.2]) dX6_read_71 ?_
          refine lv_iconst (v := 1) hx hb dX6_read_72 (by decide) ?_
          refine lv_iadd hx hb dX6_read_73 ?_
          have hq_16 := ix_in (i := (((nI b) + 3) + (nI i))) (n := 3020) (b + 3 + i) (nIs2 b 3 i) (by omega) (by decide)
          obtain ⟨r_17, er_17⟩ : ∃ z, z = up2 r' 1 (b + 3 + i) ((r' 1 (b + 3 + i)) + 1) := ⟨_, rfl⟩
          refine x_ist (ws' := (modelW A cI r_17)) hx hb hK hH 1 rfl hq_16.1 hq_16.2 dX6_read_74 (by rw [er_17]; rfl) (fun H locs hH => ?_)
          refine lv_aload_n hx hb dX6_read_75 rfl (lv_at hl 0 rfl) ?_
          refine x_get (v := .ref (A 1)) (C := RX6) (T := TX6) (N := 9) hx hb hts hi6 hown hK hH.1 0 rfl rfl 0 (by decide) (hts (.fieldLink RX6 7 "PulseWheelModel" "now" "[I") (by decide +kernel)) rfl rfl dX6_read_76 ?_
          refine lv_iload_n hx hb dX6_read_79 rfl (lv_at hl 2 rfl) ?_
          refine lv_iconst (v := 3) hx hb dX6_read_80 (by decide) ?_
          refine lv_iadd hx hb dX6_read_81 ?_
          refine lv_iload hx hb dX6_read_82 (lv_at hl 5 rfl) ?_
          refine lv_iadd hx hb dX6_read_84 ?_
          have hq_18 := ix_in (i := (((nI b) + 3) + (nI i))) (n := 3020) (b + 3 + i) (nIs2 b 3 i) (by omega) (by decide)
          refine x_ild (v := r_17 1 (b + 3 + i)) hx hb hK hH.1 1 rfl hq_18.1 (by rw [hq_18.2]) dX6_read_85 ?_
          refine x_top (y := ((r' 1 (b + 3 + i)) + 1)) (by rw [er_17, up2_eq]) ?_
          refine lv_aload_n hx hb dX6_read_86 rfl (lv_at hl 0 rfl) ?_
          refine x_get (v := .ref (A 1)) (C := RX6) (T := TX6) (N := 9) hx hb hts hi6 hown hK hH.1 0 rfl rfl 0 (by decide) (hts (.fieldLink RX6 7 "PulseWheelModel" "now" "[I") (by decide +kernel)) rfl rfl dX6_read_87 ?_
          refine lv_iload_n hx hb dX6_read_90 rfl (lv_at hl 2 rfl) ?_
          refine lv_iconst (v := 0) hx hb dX6_read_91 (by decide) ?_
          refine lv_iadd hx hb dX6_read_92 ?_
          have hq_19 := ix_in (i := ((nI b) + 0)) (n := 3020) (b + 0) (nI_add b 0) (by omega) (by decide)
          refine x_ild (v := r_17 1 (b + 0)) hx hb hK hH.1 1 rfl hq_19.1 (by rw [hq_19.2]) dX6_read_93 ?_
          refine x_top (y := r' 1 (b + 0)) (by rw [er_17, up2_ne (j := b + 0) (k := b + 3 + i) (by omega)]) ?_
          refine lv_icmp_ge (tgt := 100) hx hb dX6_read_94 (by decide) (fun c_94 => ?_) (fun c_94 => ?_)
          · skip
            refine lv_aload_n hx hb dX6_read_100 rfl (lv_at hl 0 rfl) ?_
            refine x_get (v := .ref (A 1)) (C := RX6) (T := TX6) (N := 9) hx hb hts hi6 hown hK hH.1 0 rfl rfl 0 (by decide) (hts (.fieldLink RX6 7 "PulseWheelModel" "now" "[I") (by decide +kernel)) rfl rfl dX6_read_101 ?_
            refine lv_iload_n hx hb dX6_read_104 rfl (lv_at hl 2 rfl) ?_
            refine lv_iconst (v := 3) hx hb dX6_read_105 (by decide) ?_
            refine lv_iadd hx hb dX6_read_106 ?_
            refine lv_iload hx hb dX6_read_107 (lv_at hl 5 rfl) ?_
            refine lv_iadd hx hb dX6_read_109 ?_
            refine lv_iconst (v := 0) hx hb dX6_read_110 (by decide) ?_
            have hq_20 := ix_in (i := (((nI b) + 3) + (nI i))) (n := 3020) (b + 3 + i) (nIs2 b 3 i) (by omega) (by decide)
            obtain ⟨r_21, er_21⟩ : ∃ z, z = up2 r_17 1 (b + 3 + i) 0 := ⟨_, rfl⟩
            refine x_ist (ws' := (modelW A cI r_21)) hx hb hK hH 1 rfl hq_20.1 hq_20.2 dX6_read_111 (by rw [er_21]; rfl) (fun H locs hH => ?_)
            refine lv_iload hx hb dX6_read_112 (lv_at hl 4 rfl) ?_
            refine lv_iconst (v := 1) hx hb dX6_read_114 (by decide) ?_
            refine lv_iload hx hb dX6_read_115 (lv_at hl 5 rfl) ?_
            refine lv_ishl hx hb dX6_read_117 ?_
            refine x_top (y := bitV i) (rfl) ?_
            refine lv_ixor hx hb dX6_read_118 ?_
            refine lv_istore (lv' := [(5, .int (is' ^^^ (bitV i))), (0, .ref (A 0)), (2, .int raw), (3, .int (nI b)), (4, .int (r 1 (b + 2))), (6, .int (nI i))]) hx hb dX6_read_119 hl (by decide) rfl (fun ls hl => ?_)
            refine lv_iinc (v := nI (i + 1)) (lv' := [(6, .int (nI (i + 1))), (5, .int (is' ^^^ (bitV i))), (0, .ref (A 0)), (2, .int raw), (3, .int (nI b)), (4, .int (r 1 (b + 2)))]) hx hb dX6_read_121 hl (k := 5) rfl (nI_1 i) (by decide) rfl (fun ls hl => ?_)
            refine lv_goto (tgt := 23) hx hb dX6_read_124 (by decide) ?_
            exact ih (i + 1) r_21 (is' ^^^ (bitV i)) (by omega) (by omega) (by subst er_21; subst er_17; rw [linesM_s, ← hls]; unfold lineM; dsimp only; rw [if_neg c_42, if_pos c_94]) H locs ls (hH) (lv_sub hl [2, 3, 4, 5, 1, 0] rfl)
          · skip
            refine lv_goto (tgt := 121) hx hb dX6_read_97 (by decide) ?_
            refine lv_iinc (v := nI (i + 1)) (lv' := [(6, .int (nI (i + 1))), (0, .ref (A 0)), (2, .int raw), (3, .int (nI b)), (4, .int (r 1 (b + 2))), (5, .int is')]) hx hb dX6_read_121 hl (k := 5) rfl (nI_1 i) (by decide) rfl (fun ls hl => ?_)
            refine lv_goto (tgt := 23) hx hb dX6_read_124 (by decide) ?_
            exact ih (i + 1) r_17 is' (by omega) (by omega) (by subst er_17; rw [linesM_s, ← hls]; unfold lineM; dsimp only; rw [if_neg c_42, if_neg c_94]) H locs ls (hH) (lv_sub hl [1, 2, 3, 4, 5, 0] rfl)
        · skip
          refine lv_aload_n hx hb dX6_read_45 rfl (lv_at hl 0 rfl) ?_
          refine x_get (v := .ref (A 1)) (C := RX6) (T := TX6) (N := 9) hx hb hts hi6 hown hK hH.1 0 rfl rfl 0 (by decide) (hts (.fieldLink RX6 7 "PulseWheelModel" "now" "[I") (by decide +kernel)) rfl rfl dX6_read_46 ?_
          refine lv_iload_n hx hb dX6_read_49 rfl (lv_at hl 2 rfl) ?_
          refine lv_iconst (v := 3) hx hb dX6_read_50 (by decide) ?_
          refine lv_iadd hx hb dX6_read_51 ?_
          refine lv_iload hx hb dX6_read_52 (lv_at hl 5 rfl) ?_
          refine lv_iadd hx hb dX6_read_54 ?_
          refine lv_iconst (v := 0) hx hb dX6_read_55 (by decide) ?_
          have hq_22 := ix_in (i := (((nI b) + 3) + (nI i))) (n := 3020) (b + 3 + i) (nIs2 b 3 i) (by omega) (by decide)
          obtain ⟨r_23, er_23⟩ : ∃ z, z = up2 r' 1 (b + 3 + i) 0 := ⟨_, rfl⟩
          refine x_ist (ws' := (modelW A cI r_23)) hx hb hK hH 1 rfl hq_22.1 hq_22.2 dX6_read_56 (by rw [er_23]; rfl) (fun H locs hH => ?_)
          refine lv_goto (tgt := 121) hx hb dX6_read_57 (by decide) ?_
          refine lv_iinc (v := nI (i + 1)) (lv' := [(6, .int (nI (i + 1))), (0, .ref (A 0)), (2, .int raw), (3, .int (nI b)), (4, .int (r 1 (b + 2))), (5, .int is')]) hx hb dX6_read_121 hl (k := 5) rfl (nI_1 i) (by decide) rfl (fun ls hl => ?_)
          refine lv_goto (tgt := 23) hx hb dX6_read_124 (by decide) ?_
          exact ih (i + 1) r_23 is' (by omega) (by omega) (by subst er_23; rw [linesM_s, ← hls]; unfold lineM; dsimp only; rw [if_pos c_42]) H locs ls (hH) (lv_sub hl [1, 2, 3, 4, 5, 0] rfl)
  exact lp 4 0 r (r 1 (b + 2)) (by decide) (by decide) (rfl) _ _ ls (hH) (lv_sub hl [4, 6, 3, 2, 1, 0] rfl)
