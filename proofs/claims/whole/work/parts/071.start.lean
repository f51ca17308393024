theorem head_out {L i : Nat} (hL : L ≤ 3072) (hi : i ≤ L) (h : ¬ nI L - 6 < nI i) : i + 6 ≤ L := by
  have h1 : ¬ (nI L - nI 6).toInt < (nI i).toInt := fun q => h (Int32.lt_iff_toInt_lt.mpr q)
  rw [pk_sub_toInt (by omega) (by omega), nI_toInt (by omega)] at h1
  omega
set_option maxHeartbeats 4000000 in
set_option maxRecDepth 100000 in
theorem law_loop {p : Program} {l : Launch} {e : Env} {s : State} {m : MethodId} {below : List Frame} {meth : Method} {c : Code} {b L : Nat} {xs : Nat → Int32} {D : va_G} {cI cB : ClassId} {P : Nat → Nat} {bb : Nat} {A1 A2 A : Nat → Nat} (C0 : LC p s m meth c b L xs D cI cB) (hL : L ≤ 3072) : ∀ (n i cells slots : Nat), i ≤ L → L < i + 6 * n → cells + 19 * n ≤ 600000 → slots + 2988 * n ≤ 7302250 → Go p l e s m below meth c b D cI cB P bb A1 A2 A i 18 cells slots := by
  intro n
  induction n with
  | zero => intro i cells slots hi hn; omega
  | succ n ih =>
    intro i cells slots hi hn hc hs tw tp t ap r1 r2 I r H locs ls hS hH hl
    obtain ⟨hx, hb, hr, hml, hown, hts, hX, hbl, hlocks, hK, hN⟩ := id C0
    refine lv_iload_n hx hb dL_law_18 rfl (lv_at hl 3 rfl) ?_
    refine lv_aload_n hx hb dL_law_19 rfl (lv_at hl 0 rfl) ?_
    refine va_slen hx hb hX hbl (Nat.not_le.mpr hbl) hH.2.2 dL_law_20 ?_
    refine lv_bipush (v := 6) hx hb dL_law_21 (by decide) ?_
    refine lv_isub hx hb dL_law_23 ?_
    refine lv_icmp_gt (tgt := 680) hx hb dL_law_24 (by decide) (fun c_24 => ?_) (fun c_24 => ?_)
    · refine va_forget hH.2.2.2.2 ?_
      refine W.widen (k := 600000) (n := 7302250) (by omega) (by omega) ?_
      refine lv_iconst (v := 1) hx hb dL_law_680 (by decide) ?_
      exact lw_ret hx hb hr hlocks dL_law_681
    · have hi6 : i + 6 ≤ L := head_out hL hi c_24
      have hc1 : cells + 19 ≤ 600000 := by omega
      have hs1 : slots + 2988 ≤ 7302250 := by omega
      have K : Go p l e s m below meth c b D cI cB P bb A1 A2 A i 674 (cells + 19) (slots + 2988) := by
        intro tw tp t ap r1 r2 I r H locs ls hS hH hl
        refine lv_iinc (v := nI (i + 6)) (lv' := [(3, .int (nI (i + 6))), (0, .ref b), (1, .ref (P 0)), (2, .ref (A 0))]) hx hb dL_law_674 hl (k := 3) rfl (nI_add i 6) (by decide) rfl (fun ls hl => ?_)
        refine lv_goto (tgt := 18) hx hb dL_law_677 (by decide) ?_
        exact ih (i + 6) (cells + 19) (slots + 2988) (by omega) (by omega) (by omega) (by omega) tw tp t ap r1 r2 I r H locs ls hS hH (lv_sub hl [1, 2, 3, 0] rfl)
      refine lv_aload_n hx hb dL_law_27 rfl (lv_at hl 0 rfl) ?_
      refine lv_iload_n hx hb dL_law_28 rfl (lv_at hl 3 rfl) ?_
      refine x_sld hx hb hX hbl hH i (by omega) hL rfl dL_law_29 ?_
      refine lv_bipush (v := 31) hx hb dL_law_30 (by decide) ?_
      refine lv_iand hx hb dL_law_32 ?_
      by_cases q0 : xs i &&& 31 = 0
      · refine lv_tableIn (tgt := 120) hx hb dL_law_33 (by rw [q0]; decide) (by rw [q0]; decide) (by rw [q0]; rfl) (by decide) ?_
        exact law_hold C0 hL hi6 hc1 hs1 K tw tp t ap r1 r2 I r H locs ls hS hH hl
      by_cases q1 : xs i &&& 31 = 1
      · refine lv_tableIn (tgt := 153) hx hb dL_law_33 (by rw [q1]; decide) (by rw [q1]; decide) (by rw [q1]; rfl) (by decide) ?_
        exact law_turn C0 hL hi6 hc1 hs1 K tw tp t ap r1 r2 I r H locs ls hS hH hl
      by_cases q2 : xs i &&& 31 = 2
      · refine lv_tableIn (tgt := 186) hx hb dL_law_33 (by rw [q2]; decide) (by rw [q2]; decide) (by rw [q2]; rfl) (by decide) ?_
        exact law_tick C0 hL hi6 hc1 hs1 K tw tp t ap r1 r2 I r H locs ls hS hH hl
      by_cases q3 : xs i &&& 31 = 3
      · refine lv_tableIn (tgt := 229) hx hb dL_law_33 (by rw [q3]; decide) (by rw [q3]; decide) (by rw [q3]; rfl) (by decide) ?_
        exact law_feed C0 hL hi6 hc1 hs1 K tw tp t ap r1 r2 I r H locs ls hS hH hl
      by_cases q4 : xs i &&& 31 = 4
      · refine lv_tableIn (tgt := 292) hx hb dL_law_33 (by rw [q4]; decide) (by rw [q4]; decide) (by rw [q4]; rfl) (by decide) ?_
        exact law_play C0 hL hi6 hc1 hs1 K tw tp t ap r1 r2 I r H locs ls hS hH hl
      by_cases q5 : xs i &&& 31 = 5
      · refine lv_tableIn (tgt := 315) hx hb dL_law_33 (by rw [q5]; decide) (by rw [q5]; decide) (by rw [q5]; rfl) (by decide) ?_
        exact law_of C0 hL hi6 hc1 hs1 K tw tp t ap r1 r2 I r H locs ls hS hH hl
      by_cases q6 : xs i &&& 31 = 6
      · refine lv_tableIn (tgt := 348) hx hb dL_law_33 (by rw [q6]; decide) (by rw [q6]; decide) (by rw [q6]; rfl) (by decide) ?_
        exact law_origin C0 hL hi6 hc1 hs1 K tw tp t ap r1 r2 I r H locs ls hS hH hl
      by_cases q7 : xs i &&& 31 = 7
      · refine lv_tableIn (tgt := 371) hx hb dL_law_33 (by rw [q7]; decide) (by rw [q7]; decide) (by rw [q7]; rfl) (by decide) ?_
        exact law_event C0 hL hi6 hc1 hs1 K tw tp t ap r1 r2 I r H locs ls hS hH hl
      by_cases q8 : xs i &&& 31 = 8
      · refine lv_tableIn (tgt := 414) hx hb dL_law_33 (by rw [q8]; decide) (by rw [q8]; decide) (by rw [q8]; rfl) (by decide) ?_
        exact law_row C0 hL hi6 hc1 hs1 K tw tp t ap r1 r2 I r H locs ls hS hH hl
      by_cases q9 : xs i &&& 31 = 9
      · refine lv_tableIn (tgt := 437) hx hb dL_law_33 (by rw [q9]; decide) (by rw [q9]; decide) (by rw [q9]; rfl) (by decide) ?_
        exact law_period C0 hL hi6 hc1 hs1 K tw tp t ap r1 r2 I r H locs ls hS hH hl
      by_cases q10 : xs i &&& 31 = 10
      · refine lv_tableIn (tgt := 480) hx hb dL_law_33 (by rw [q10]; decide) (by rw [q10]; decide) (by rw [q10]; rfl) (by decide) ?_
        exact law_moved C0 hL hi6 hc1 hs1 K tw tp t ap r1 r2 I r H locs ls hS hH hl
      by_cases q11 : xs i &&& 31 = 11
      · refine lv_tableIn (tgt := 513) hx hb dL_law_33 (by rw [q11]; decide) (by rw [q11]; decide) (by rw [q11]; rfl) (by decide) ?_
        exact law_tooth C0 hL hi6 hc1 hs1 K tw tp t ap r1 r2 I r H locs ls hS hH hl
      by_cases q12 : xs i &&& 31 = 12
      · refine lv_tableIn (tgt := 546) hx hb dL_law_33 (by rw [q12]; decide) (by rw [q12]; decide) (by rw [q12]; rfl) (by decide) ?_
        exact law_wholes C0 hL hi6 hc1 hs1 K tw tp t ap r1 r2 I r H locs ls hS hH hl
      by_cases q13 : xs i &&& 31 = 13
      · refine lv_tableIn (tgt := 569) hx hb dL_law_33 (by rw [q13]; decide) (by rw [q13]; decide) (by rw [q13]; rfl) (by decide) ?_
        exact law_widest C0 hL hi6 hc1 hs1 K tw tp t ap r1 r2 I r H locs ls hS hH hl
      by_cases q14 : xs i &&& 31 = 14
      · refine lv_tableIn (tgt := 592) hx hb dL_law_33 (by rw [q14]; decide) (by rw [q14]; decide) (by rw [q14]; rfl) (by decide) ?_
        exact law_apart C0 hL hi6 hc1 hs1 K tw tp t ap r1 r2 I r H locs ls hS hH hl
      by_cases q15 : xs i &&& 31 = 15
      · refine lv_tableIn (tgt := 605) hx hb dL_law_33 (by rw [q15]; decide) (by rw [q15]; decide) (by rw [q15]; rfl) (by decide) ?_
        exact law_keep C0 hL hi6 hc1 hs1 K tw tp t ap r1 r2 I r H locs ls hS hH hl
      by_cases q16 : xs i &&& 31 = 16
      · refine lv_tableIn (tgt := 628) hx hb dL_law_33 (by rw [q16]; decide) (by rw [q16]; decide) (by rw [q16]; rfl) (by decide) ?_
        exact law_back C0 hL hi6 hc1 hs1 K tw tp t ap r1 r2 I r H locs ls hS hH hl
      by_cases q17 : xs i &&& 31 = 17
      · refine lv_tableIn (tgt := 651) hx hb dL_law_33 (by rw [q17]; decide) (by rw [q17]; decide) (by rw [q17]; rfl) (by decide) ?_
        exact law_about C0 hL hi6 hc1 hs1 K tw tp t ap r1 r2 I r H locs ls hS hH hl
      have k0 : ¬ Int32.toInt (xs i &&& 31) = 0 := fun h => q0 (Int32.toInt_inj.mp (h.trans (by decide)))
      have k1 : ¬ Int32.toInt (xs i &&& 31) = 1 := fun h => q1 (Int32.toInt_inj.mp (h.trans (by decide)))
      have k2 : ¬ Int32.toInt (xs i &&& 31) = 2 := fun h => q2 (Int32.toInt_inj.mp (h.trans (by decide)))
      have k3 : ¬ Int32.toInt (xs i &&& 31) = 3 := fun h => q3 (Int32.toInt_inj.mp (h.trans (by decide)))
      have k4 : ¬ Int32.toInt (xs i &&& 31) = 4 := fun h => q4 (Int32.toInt_inj.mp (h.trans (by decide)))
      have k5 : ¬ Int32.toInt (xs i &&& 31) = 5 := fun h => q5 (Int32.toInt_inj.mp (h.trans (by decide)))
      have k6 : ¬ Int32.toInt (xs i &&& 31) = 6 := fun h => q6 (Int32.toInt_inj.mp (h.trans (by decide)))
      have k7 : ¬ Int32.toInt (xs i &&& 31) = 7 := fun h => q7 (Int32.toInt_inj.mp (h.trans (by decide)))
      have k8 : ¬ Int32.toInt (xs i &&& 31) = 8 := fun h => q8 (Int32.toInt_inj.mp (h.trans (by decide)))
      have k9 : ¬ Int32.toInt (xs i &&& 31) = 9 := fun h => q9 (Int32.toInt_inj.mp (h.trans (by decide)))
      have k10 : ¬ Int32.toInt (xs i &&& 31) = 10 := fun h => q10 (Int32.toInt_inj.mp (h.trans (by decide)))
      have k11 : ¬ Int32.toInt (xs i &&& 31) = 11 := fun h => q11 (Int32.toInt_inj.mp (h.trans (by decide)))
      have k12 : ¬ Int32.toInt (xs i &&& 31) = 12 := fun h => q12 (Int32.toInt_inj.mp (h.trans (by decide)))
      have k13 : ¬ Int32.toInt (xs i &&& 31) = 13 := fun h => q13 (Int32.toInt_inj.mp (h.trans (by decide)))
      have k14 : ¬ Int32.toInt (xs i &&& 31) = 14 := fun h => q14 (Int32.toInt_inj.mp (h.trans (by decide)))
      have k15 : ¬ Int32.toInt (xs i &&& 31) = 15 := fun h => q15 (Int32.toInt_inj.mp (h.trans (by decide)))
      have k16 : ¬ Int32.toInt (xs i &&& 31) = 16 := fun h => q16 (Int32.toInt_inj.mp (h.trans (by decide)))
      have k17 : ¬ Int32.toInt (xs i &&& 31) = 17 := fun h => q17 (Int32.toInt_inj.mp (h.trans (by decide)))
      refine lv_tableOut (tgt := 674) hx hb dL_law_33 (by omega) (by decide) ?_
      exact W.widen (Nat.le_add_right _ _) (Nat.le_add_right _ _) (K tw tp t ap r1 r2 I r H locs ls hS hH hl)
set_option maxHeartbeats 4000000 in
set_option maxRecDepth 100000 in
theorem whole_start {p : Program} {e : Env} {s : State} {m : MethodId} {below : List Frame} {meth : Method} {c : Code} (l : Launch) {b L : Nat} {xs : Nat → Int32} (hL : L ≤ 3072) (C0 : lw_At p s m meth c b L xs) : W p l e room_1 s m #[Value.ref b] below meth c s.heap [] 0 0 (lw_Z below #[Value.ref b] s) (entryFrame m ([Value.ref b] : List Value).toArray 4) := by
  obtain ⟨hx, hb, hr, hml, hown, hts0, hX, hbl, hlocks, hgv⟩ := id C0
  have hts : ∀ w ∈ wsL_law, w.before #[Value.ref b] s = true := fun w h => hts0 w (wsL_law_in w h)
  have hA : ∀ q : Nat, s.heap.size ≤ q → (fun q : Nat => s.heap.size ≤ q) q := fun _ h => h
  have hown : s.vm.findClass RL = some m.cls := hown
  obtain ⟨c0, iS0, hKn0⟩ := u_known (C := RX0) (T := TX0) (N := 4) (n := 4) hts0 wsLx_0 (hts0 (.instantiable RX0 4) (by decide +kernel))
  obtain ⟨c1, iS1, hKn1⟩ := u_known (C := RX1) (T := TX1) (N := 5) (n := 5) hts0 wsLx_1 (hts0 (.instantiable RX1 5) (by decide +kernel))
  obtain ⟨c2, iS2, hKn2⟩ := u_known (C := RX2) (T := TX2) (N := 16) (n := 16) hts0 wsLx_2 (hts0 (.instantiable RX2 16) (by decide +kernel))
  obtain ⟨c3, iS3, hKn3⟩ := u_known (C := RX3) (T := TX3) (N := 4) (n := 4) hts0 wsLx_3 (hts0 (.instantiable RX3 4) (by decide +kernel))
  obtain ⟨c4, iS4, hKn4⟩ := u_known (C := RX4) (T := TX4) (N := 3) (n := 3) hts0 wsLx_4 (hts0 (.instantiable RX4 3) (by decide +kernel))
  obtain ⟨c5, iS5, hKn5⟩ := u_known (C := RX5) (T := TX5) (N := 4) (n := 4) hts0 wsLx_5 (hts0 (.instantiable RX5 4) (by decide +kernel))
  obtain ⟨c6, iS6, hKn6⟩ := u_known (C := RX6) (T := TX6) (N := 9) (n := 9) hts0 wsLx_6 (hts0 (.instantiable RX6 9) (by decide +kernel))
  obtain ⟨D, hKc⟩ : ∃ D : va_G, ∀ (k : Nat) (q : vw_C), vwCl[k]? = some q → u_Kn s q.1 q.2.1 q.2.2 (D.1 k) (D.2 k) := by
    refine ⟨(fun k => if k = 0 then c0 else if k = 1 then c1 else if k = 2 then c2 else if k = 3 then c3 else if k = 4 then c4 else if k = 5 then c5 else c6, fun k => if k = 0 then iS0 else if k = 1 then iS1 else if k = 2 then iS2 else if k = 3 then iS3 else if k = 4 then iS4 else if k = 5 then iS5 else iS6), ?_⟩
    intro k q hq
    match k, hq with
    | 0, hq => cases hq; exact hKn0
    | 1, hq => cases hq; exact hKn1
    | 2, hq => cases hq; exact hKn2
    | 3, hq => cases hq; exact hKn3
    | 4, hq => cases hq; exact hKn4
    | 5, hq => cases hq; exact hKn5
    | 6, hq => cases hq; exact hKn6
    | k + 7, hq => simp [vwCl] at hq
  obtain ⟨cI, kI, compI, i1, i2, i3⟩ := Cond.arrayClass_spec (hts0 (.arrayClass .int) (by decide +kernel))
  obtain ⟨compB, cB, kB, j1, j2, j3, j4, j5⟩ := Cond.arrayOver_spec (hts0 _ over_in)
  have hO : va_AO "PulseWheel$Bench" s := va_AO.of (hts0 _ over_in)
  have hK : va_K D vwCl (tyL cI cB) s := by
    refine ⟨hKc, fun k q hq => ?_⟩
    match k, hq with
    | 0, hq => cases hq; exact ⟨fun n z => ⟨fun k h => (by cases h), kI, i2, compI, i3⟩, i1⟩
    | 1, hq => cases hq; exact ⟨fun n z => ⟨fun k h => (by cases h), kB, j3, compB, j4⟩, kB, compB, j3, j4, j1, j5⟩
    | k + 2, hq => simp [tyL] at hq
  have hN : NW s := fun w hw => by
    have h1 := nestL_ok w hw
    have h2 := hts0 w (nestL_in w hw)
    cases w <;> first | exact va_Nw.of rfl h2 | (cases h1; done)
  have hH : Hd D (fun q : Nat => s.heap.size ≤ q) s [] s.heap [] := ⟨fun k q h => by simp at h, ⟨fun i j p q h => by simp at h, fun k q h => by simp at h⟩, va_S.rf⟩
  have hl := lv_entry ([.ref b]) (n := 4) (Nat.le_of_ble_eq_true rfl)
  rw [lg_entry_eq]
  generalize (lg_sl ([.ref b]) ++ List.replicate (4 - (lg_sl ([.ref b])).length) Slot.unset).toArray = ls at hl ⊢
  have hl : lv_has ls 4 [(0, .ref b)] := hl
  refine x_newc (ci := 5) (fs := [.null, .null, .null, .int 0]) (C := RX5) (T := TX5) (N := 4) hx hb hts0 wsLx_5 tyX5_ok hown (hts (.classLink RL 7 RX5) (by decide +kernel)) (hts0 (.instantiable RX5 4) (by decide +kernel)) (hts0 (.initialized RX5) (by decide +kernel)) hK hH hA rfl (fun j hj => by rcases (show j = 0 ∨ j = 1 ∨ j = 2 ∨ j = 3 by omega) with rfl | rfl | rfl | rfl <;> rfl) (Nat.le_of_ble_eq_true rfl) (Nat.le_of_ble_eq_true rfl) dL_law_0 (fun qa H hH => ?_)
  refine W.widen (k := 1) (n := 4) (Nat.le_of_ble_eq_true rfl) (Nat.le_of_ble_eq_true rfl) ?_
  refine lv_dup hx hb dL_law_3 rfl ?_
  have hH : Hd D (fun q : Nat => s.heap.size ≤ q) s ([(qa, .inr (5, [.null, .null, .null, .int 0]))] ++ []) H [] := hH
  refine kCN (wc := [(qa, .inr (5, [.null, .null, .null, .int 0]))]) (wr := []) (va_runI (As := []) (rest := [.ref qa]) ⟨hx, hb, hml, hown, hts⟩ (c_X5_init l D cI cB qa _) (cwI 0 hts gL_law_X5_init rfl rfl rfl (hts (.initialized RX5) (by decide +kernel)) (hts (.methodLink RL 9 yX5_init) (by decide +kernel)) (hts (.instanceMethod yX5_init) (by decide +kernel)) rfl (by decide +kernel) ⟨Nat.le_of_ble_eq_true rfl, Nat.le_of_ble_eq_true rfl⟩) (preO_S hH.1.left hH.2.1.left hK hN hO) rfl rfl hl.1 rfl (lv_room (Nat.le_of_ble_eq_true rfl)) dL_law_4 ⟨Nat.le_of_ble_eq_true rfl, Nat.le_of_ble_eq_true rfl⟩) hH hA (fun w1 H2 locs2 hp hG => ?_)
  obtain ⟨P, bb, A1, A2, hp0, hpw⟩ := hp
  subst hpw
  subst hp0
  have hH : Hd D (fun q : Nat => s.heap.size ≤ q) s (pwW P bb A1 A2 cI cB 0 (fun _ => none) (fun _ => 0) 0 (-1) newT newT ++ []) H2 locs2 := hG
  refine W.widen (k := 22) (n := 3496) (Nat.le_of_ble_eq_true rfl) (Nat.le_of_ble_eq_true rfl) ?_
  refine lv_astore_n (lv' := [(1, .ref (P 0)), (0, .ref b)]) hx hb dL_law_7 rfl hl (by decide) rfl (fun ls hl => ?_)
  refine x_newc (ci := 6) (fs := [.null, .null, .null, .null, .int 0, .int 0, .int 0, .null, .int 0]) (C := RX6) (T := TX6) (N := 9) hx hb hts0 wsLx_6 tyX6_ok hown (hts (.classLink RL 10 RX6) (by decide +kernel)) (hts0 (.instantiable RX6 9) (by decide +kernel)) (hts0 (.initialized RX6) (by decide +kernel)) hK hH hA rfl (fun j hj => by rcases (show j = 0 ∨ j = 1 ∨ j = 2 ∨ j = 3 ∨ j = 4 ∨ j = 5 ∨ j = 6 ∨ j = 7 ∨ j = 8 by omega) with rfl | rfl | rfl | rfl | rfl | rfl | rfl | rfl | rfl <;> rfl) (Nat.le_of_ble_eq_true rfl) (Nat.le_of_ble_eq_true rfl) dL_law_8 (fun qm H hH => ?_)
  refine W.widen (k := 23) (n := 3505) (Nat.le_of_ble_eq_true rfl) (Nat.le_of_ble_eq_true rfl) ?_
  refine lv_dup hx hb dL_law_11 rfl ?_
  have hH : Hd D (fun q : Nat => s.heap.size ≤ q) s ([(qm, .inr (6, [.null, .null, .null, .null, .int 0, .int 0, .int 0, .null, .int 0]))] ++ (pwW P bb A1 A2 cI cB 0 (fun _ => none) (fun _ => 0) 0 (-1) newT newT ++ [])) H locs2 := hH.perm List.perm_append_comm
  refine kCN (wc := [(qm, .inr (6, [.null, .null, .null, .null, .int 0, .int 0, .int 0, .null, .int 0]))]) (wr := pwW P bb A1 A2 cI cB 0 (fun _ => none) (fun _ => 0) 0 (-1) newT newT ++ []) (va_runI (As := []) (rest := [.ref qm]) ⟨hx, hb, hml, hown, hts⟩ (c_X6_init l D cI cB qm _) (cwI 0 hts gL_law_X6_init rfl rfl rfl (hts (.initialized RX6) (by decide +kernel)) (hts (.methodLink RL 12 yX6_init) (by decide +kernel)) (hts (.instanceMethod yX6_init) (by decide +kernel)) rfl (by decide +kernel) ⟨Nat.le_of_ble_eq_true rfl, Nat.le_of_ble_eq_true rfl⟩) (preS_pre hH.1.left hH.2.1.left hK hN) rfl rfl hl.1 rfl (lv_room (Nat.le_of_ble_eq_true rfl)) dL_law_12 ⟨Nat.le_of_ble_eq_true rfl, Nat.le_of_ble_eq_true rfl⟩) hH hA (fun w1 H3 locs3 hp hG => ?_)
  obtain ⟨A, hp0, hpw⟩ := hp
  subst hpw
  subst hp0
  have hH : Hd D (fun q : Nat => s.heap.size ≤ q) s (allW P bb A1 A2 cI cB 0 (fun _ => none) (fun _ => 0) 0 (-1) newT newT A newM) H3 locs3 := hG.perm (List.perm_append_comm_assoc _ _ _)
  refine W.widen (k := 28) (n := 20613) (Nat.le_of_ble_eq_true rfl) (Nat.le_of_ble_eq_true rfl) ?_
  refine lv_astore_n (lv' := [(2, .ref (A 0)), (1, .ref (P 0)), (0, .ref b)]) hx hb dL_law_15 rfl hl (by decide) rfl (fun ls hl => ?_)
  refine lv_iconst (v := 0) hx hb dL_law_16 (by decide) ?_
  refine lv_istore_n (lv' := [(3, .int 0), (2, .ref (A 0)), (1, .ref (P 0)), (0, .ref b)]) hx hb dL_law_17 rfl hl (by decide) rfl (fun ls hl => ?_)
  exact law_loop ⟨hx, hb, hr, hml, hown, hts, hX, hbl, hlocks, hK, hN⟩ hL 513 0 28 20613 (Nat.zero_le _) (by omega) (by omega) (by omega) 0 (fun _ => 0) 0 (-1) newT newT (fun _ => none) newM H3 locs3 ls sim_start hH (lv_sub hl [3, 2, 1, 0] rfl)
