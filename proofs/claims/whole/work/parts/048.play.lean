/-! ### the reference: play -/
noncomputable def playG (n : Int32) : Nat → Nat → Tb → Nat × Tb
  | 0, k, r => (k, r)
  | fuel + 1, k, r => if n ≤ nI k then (k, r) else if 64 ≤ r 5 k then (k, r) else if 1000000 ≤ r 0 4 then (k, r) else playG n fuel (k + 1) (oneM r (r 5 k &&& 7) (r 5 k >>> ((3 : Int32) &&& 31) &&& 7))
theorem playG_s (n : Int32) (fuel k : Nat) (r : Tb) : playG n (fuel + 1) k r = if n ≤ nI k then (k, r) else if 64 ≤ r 5 k then (k, r) else if 1000000 ≤ r 0 4 then (k, r) else playG n fuel (k + 1) (oneM r (r 5 k &&& 7) (r 5 k >>> ((3 : Int32) &&& 31) &&& 7)) := rfl
noncomputable def playMR (r : Tb) (n : Int32) : Tb := if n < 0 then r else if n ≤ r 0 8 then (playG n (n.toNatClampNeg + 1) 0 (up2 r 0 8 0)).2 else r
noncomputable def playMV (r : Tb) (n : Int32) : Int32 := if n < 0 then -1 else if n ≤ r 0 8 then nI (playG n (n.toNatClampNeg + 1) 0 (up2 r 0 8 0)).1 else -1
theorem put_84 {r : Tb} {v : Int32} : up2 r 0 8 v 0 4 = r 0 4 := rfl
theorem lt_mill {x : Int32} {t : Nat} (e : x = nI t) (ht : t ≤ 1000000) (h : ¬ 1000000 ≤ x) : t < 1000000 := by
  subst e
  exact lt_of_nI (n := 1000000) (by omega) h

def rm_X6_play : Room := { frames := 5, cells := 0, slots := 0, locals := 122 }
set_option maxHeartbeats 1000000 in
set_option maxRecDepth 100000 in
theorem c_X6_play (l : Launch) (D : va_G) (cI cB : ClassId) (A : Nat → Nat) (r : Tb) (n : Int32) (t : Nat) (m2 : Nat) (ht : r 0 4 = nI t) (ht2 : t ≤ 1000000) (b0 : okB r 0 t) (b1 : okB r 1510 t) (hm8 : r 0 8 = nI m2) (hm9 : m2 ≤ 2000) : CI l D cI cB yX6_play wsX6_play rm_X6_play [.ref (A 0), .int n] (modelW A cI r) (modelW A cI (playMR r n)) (playMV r n) := by
  refine CI.of (cc := cX6_play) (maxL := 3) (ty := .int) (by decide +kernel) rfl (Nat.le_of_ble_eq_true rfl) ?_
  intro p e s m args below meth c ls A0 Q hT hH hA hl hE
  obtain ⟨hx, hb, hr, hlocks, hnm, hml, hown, hts, hK, hN⟩ := hT
  have hl : lv_has ls 3 [(0, .ref (A 0)), (1, .int n)] := hl
  have hi6 : ∀ w ∈ wsX60, w ∈ wsX6_play := by decide +kernel
  refine lv_iload_n hx hb dX6_play_0 rfl (lv_at hl 1 rfl) ?_
  refine lv_if_lt (tgt := 12) hx hb dX6_play_1 (by decide) (fun c_1 => ?_) (fun c_1 => ?_)
  · skip
    refine lv_iconst (v := -1) hx hb dX6_play_12 (by decide) ?_
    have hf_r : r = playMR r n := by unfold playMR; rw [if_pos c_1]
    exact hE _ _ _ _ _ _ hH ((congrArg (fun zz => (modelW A cI zz)) hf_r)) (by unfold playMV; rw [if_pos c_1]) rfl dX6_play_13
  · skip
    refine lv_iload_n hx hb dX6_play_4 rfl (lv_at hl 1 rfl) ?_
    refine lv_aload_n hx hb dX6_play_5 rfl (lv_at hl 0 rfl) ?_
    refine x_get (v := .int (r 0 8)) (C := RX6) (T := TX6) (N := 9) hx hb hts hi6 hown hK hH.1 0 rfl rfl 8 (by decide) (hts (.fieldLink RX6 73 "PulseWheelModel" "taped" "I") (by decide +kernel)) rfl rfl dX6_play_6 ?_
    refine lv_icmp_le (tgt := 14) hx hb dX6_play_9 (by decide) (fun c_9 => ?_) (fun c_9 => ?_)
    · skip
      refine lv_aload_n hx hb dX6_play_14 rfl (lv_at hl 0 rfl) ?_
      refine lv_iconst (v := 0) hx hb dX6_play_15 (by decide) ?_
      obtain ⟨r_1, er_1⟩ : ∃ z, z = up2 r 0 8 0 := ⟨_, rfl⟩
      refine x_put (ws' := (modelW A cI r_1)) (v := .int 0) (ty := .int) (C := RX6) (T := TX6) (N := 9) hx hb hts hi6 tyX6_ok nmX6 hown hK hH 0 rfl rfl 8 (by decide) (hts (.fieldLink RX6 73 "PulseWheelModel" "taped" "I") (by decide +kernel)) rfl rfl rfl (rfl) (rfl) (Nat.le_of_ble_eq_true rfl) dX6_play_16 (by rw [er_1]; rfl) (fun H locs hH => ?_)
      refine lv_iconst (v := 0) hx hb dX6_play_19 (by decide) ?_
      refine lv_istore_n (lv' := [(2, .int 0), (0, .ref (A 0)), (1, .int n)]) hx hb dX6_play_20 rfl hl (by decide) rfl (fun ls hl => ?_)
      obtain ⟨N, hN2, eN⟩ := nI_of c_1
      have hNm : N ≤ m2 := (nI_leI hN2 (by omega)).mp (by rw [← eN, ← hm8]; exact c_9)
      have lp : ∀ (fuel : Nat) (k : Nat) (t' : Nat) (r' : Tb), (k ≤ N) → (N < k + fuel) → (playG n fuel k r' = playG n (N + 1) 0 (up2 r 0 8 0)) → (r' 0 4 = nI t') → (t' ≤ 1000000) → (okB r' 0 t') → (okB r' 1510 t') → ∀ (H : Heap) (locs : List Loc) (ls : Array Slot), Hd D A0 s (modelW A cI r') H locs → lv_has ls 3 [(0, .ref (A 0)), (1, .int n), (2, .int (nI k))] → W p l e rm_X6_play s m args below meth c H locs 0 0 Q (F0 m 21 ls []) := by
        intro fuel
        induction fuel with
        | zero => intro k t' r' hi hm hbs k4 kt kb0 kb1 H locs ls hH hl; exact absurd hm (by omega)
        | succ fuel ih =>
          intro k t' r' hi hm hbs k4 kt kb0 kb1 H locs ls hH hl
          refine lv_iload_n hx hb dX6_play_21 rfl (lv_at hl 2 rfl) ?_
          refine lv_iload_n hx hb dX6_play_22 rfl (lv_at hl 1 rfl) ?_
          refine lv_icmp_ge (tgt := 76) hx hb dX6_play_23 (by decide) (fun c_23 => ?_) (fun c_23 => ?_)
          · skip
            refine lv_iload_n hx hb dX6_play_76 rfl (lv_at hl 2 rfl) ?_
            have hf_r : r' = playMR r n := by rw [playG_s, if_pos c_23] at hbs; unfold playMR; rw [if_neg c_1, if_pos c_9, eN, nI_clamp hN2, ← eN, ← hbs]
            exact hE _ _ _ _ _ _ hH ((congrArg (fun zz => (modelW A cI zz)) hf_r)) (by rw [playG_s, if_pos c_23] at hbs; unfold playMV; rw [if_neg c_1, if_pos c_9, eN, nI_clamp hN2, ← eN, ← hbs]) rfl dX6_play_77
          · skip
            have hlt : k < N := lt_of_nI (n := N) (by omega) (by rw [← eN]; exact c_23)
            refine lv_aload_n hx hb dX6_play_26 rfl (lv_at hl 0 rfl) ?_
            refine x_get (v := .ref (A 5)) (C := RX6) (T := TX6) (N := 9) hx hb hts hi6 hown hK hH.1 0 rfl rfl 7 (by decide) (hts (.fieldLink RX6 26 "PulseWheelModel" "tape" "[I") (by decide +kernel)) rfl rfl dX6_play_27 ?_
            refine lv_iload_n hx hb dX6_play_30 rfl (lv_at hl 2 rfl) ?_
            have hq_2 := ix_in (i := (nI k)) (n := 2000) k (rfl) (by omega) (by decide)
            refine x_ild (v := r' 5 k) hx hb hK hH.1 5 rfl hq_2.1 (by rw [hq_2.2]) dX6_play_31 ?_
            refine lv_bipush (v := 64) hx hb dX6_play_32 (by decide) ?_
            refine lv_icmp_ge (tgt := 76) hx hb dX6_play_34 (by decide) (fun c_34 => ?_) (fun c_34 => ?_)
            · skip
              refine lv_iload_n hx hb dX6_play_76 rfl (lv_at hl 2 rfl) ?_
              have hf_r : r' = playMR r n := by rw [playG_s, if_neg c_23, if_pos c_34] at hbs; unfold playMR; rw [if_neg c_1, if_pos c_9, eN, nI_clamp hN2, ← eN, ← hbs]
              exact hE _ _ _ _ _ _ hH ((congrArg (fun zz => (modelW A cI zz)) hf_r)) (by rw [playG_s, if_neg c_23, if_pos c_34] at hbs; unfold playMV; rw [if_neg c_1, if_pos c_9, eN, nI_clamp hN2, ← eN, ← hbs]) rfl dX6_play_77
            · skip
              refine lv_aload_n hx hb dX6_play_37 rfl (lv_at hl 0 rfl) ?_
              refine x_get (v := .int (r' 0 4)) (C := RX6) (T := TX6) (N := 9) hx hb hts hi6 hown hK hH.1 0 rfl rfl 4 (by decide) (hts (.fieldLink RX6 37 "PulseWheelModel" "ticks" "I") (by decide +kernel)) rfl rfl dX6_play_38 ?_
              refine lv_ldc (v := 1000000) hx hb hown (hts (.constant RX6 69 (1000000)) (by decide +kernel)) dX6_play_41 ?_
              refine lv_icmp_ge (tgt := 76) hx hb dX6_play_43 (by decide) (fun c_43 => ?_) (fun c_43 => ?_)
              · skip
                refine lv_iload_n hx hb dX6_play_76 rfl (lv_at hl 2 rfl) ?_
                have hf_r : r' = playMR r n := by rw [playG_s, if_neg c_23, if_neg c_34, if_pos c_43] at hbs; unfold playMR; rw [if_neg c_1, if_pos c_9, eN, nI_clamp hN2, ← eN, ← hbs]
                exact hE _ _ _ _ _ _ hH ((congrArg (fun zz => (modelW A cI zz)) hf_r)) (by rw [playG_s, if_neg c_23, if_neg c_34, if_pos c_43] at hbs; unfold playMV; rw [if_neg c_1, if_pos c_9, eN, nI_clamp hN2, ← eN, ← hbs]) rfl dX6_play_77
              · skip
                refine lv_aload_n hx hb dX6_play_46 rfl (lv_at hl 0 rfl) ?_
                refine lv_aload_n hx hb dX6_play_47 rfl (lv_at hl 0 rfl) ?_
                refine x_get (v := .ref (A 5)) (C := RX6) (T := TX6) (N := 9) hx hb hts hi6 hown hK hH.1 0 rfl rfl 7 (by decide) (hts (.fieldLink RX6 26 "PulseWheelModel" "tape" "[I") (by decide +kernel)) rfl rfl dX6_play_48 ?_
                refine lv_iload_n hx hb dX6_play_51 rfl (lv_at hl 2 rfl) ?_
                have hq_3 := ix_in (i := (nI k)) (n := 2000) k (rfl) (by omega) (by decide)
                refine x_ild (v := r' 5 k) hx hb hK hH.1 5 rfl hq_3.1 (by rw [hq_3.2]) dX6_play_52 ?_
                refine lv_bipush (v := 7) hx hb dX6_play_53 (by decide) ?_
                refine lv_iand hx hb dX6_play_55 ?_
                refine lv_aload_n hx hb dX6_play_56 rfl (lv_at hl 0 rfl) ?_
                refine x_get (v := .ref (A 5)) (C := RX6) (T := TX6) (N := 9) hx hb hts hi6 hown hK hH.1 0 rfl rfl 7 (by decide) (hts (.fieldLink RX6 26 "PulseWheelModel" "tape" "[I") (by decide +kernel)) rfl rfl dX6_play_57 ?_
                refine lv_iload_n hx hb dX6_play_60 rfl (lv_at hl 2 rfl) ?_
                have hq_4 := ix_in (i := (nI k)) (n := 2000) k (rfl) (by omega) (by decide)
                refine x_ild (v := r' 5 k) hx hb hK hH.1 5 rfl hq_4.1 (by rw [hq_4.2]) dX6_play_61 ?_
                refine lv_iconst (v := 3) hx hb dX6_play_62 (by decide) ?_
                refine lv_ishr hx hb dX6_play_63 ?_
                refine lv_bipush (v := 7) hx hb dX6_play_64 (by decide) ?_
                refine lv_iand hx hb dX6_play_66 ?_
                obtain ⟨r_5, er_5⟩ : ∃ z, z = oneM r' ((r' 5 k) &&& 7) (((r' 5 k) >>> ((3 : Int32) &&& 31)) &&& 7) := ⟨_, rfl⟩
                refine kCV (ws' := (modelW A cI r_5)) (va_runV (As := [.int ((r' 5 k) &&& 7), .int (((r' 5 k) >>> ((3 : Int32) &&& 31)) &&& 7)]) (rest := []) ⟨hx, hb, hml, hown, hts⟩ (c_X6_one l D cI cB A r' ((r' 5 k) &&& 7) (((r' 5 k) >>> ((3 : Int32) &&& 31)) &&& 7) (okB_S kb0 (lt_mill k4 kt c_43)) (okB_S kb1 (lt_mill k4 kt c_43)) _) (cwV 2 hts gX6_play_X6_one rfl rfl rfl (by decide +kernel) ⟨Nat.le_of_ble_eq_true rfl, Nat.le_of_ble_eq_true rfl⟩) (preV_cut hH.1 hH.2.1 hK hN (ci := 6) rfl 0 rfl [0, 1, 2, 3, 4, 5] (by decide) rfl) rfl rfl hl.1 rfl (lv_room (Nat.le_of_ble_eq_true rfl)) dX6_play_67 ⟨Nat.zero_le _, Nat.zero_le _⟩) hH hA [0, 1, 2, 3, 4, 5] rfl adr_model (by rw [er_5]; exact putL_model_model) (fun H locs hH => ?_)
                refine lv_iinc (v := nI (k + 1)) (lv' := [(2, .int (nI (k + 1))), (0, .ref (A 0)), (1, .int n)]) hx hb dX6_play_70 hl (k := 2) rfl (nI_1 k) (by decide) rfl (fun ls hl => ?_)
                refine lv_goto (tgt := 21) hx hb dX6_play_73 (by decide) ?_
                exact ih (k + 1) (t' + 1) r_5 (by omega) (by omega) (by rw [er_5, ← hbs, playG_s, if_neg c_23, if_neg c_34, if_neg c_43]) (by rw [er_5]; exact one_4 k4) (by have := lt_mill k4 kt c_43; omega) (by rw [er_5]; exact (one_ok kb0 kb1 (lt_mill k4 kt c_43)).1) (by rw [er_5]; exact (one_ok kb0 kb1 (lt_mill k4 kt c_43)).2) H locs ls (hH) (lv_sub hl [1, 2, 0] rfl)
      exact lp (N + 1) 0 t r_1 (Nat.zero_le _) (by omega) (by rw [er_1]) (by rw [er_1, put_84]; exact ht) (ht2) (by rw [er_1]; exact okB_put b0) (by rw [er_1]; exact okB_put b1) _ _ ls (hH) (lv_sub hl [1, 2, 0] rfl)
    · skip
      refine lv_iconst (v := -1) hx hb dX6_play_12 (by decide) ?_
      have hf_r : r = playMR r n := by unfold playMR; rw [if_neg c_1, if_neg c_9]
      exact hE _ _ _ _ _ _ hH ((congrArg (fun zz => (modelW A cI zz)) hf_r)) (by unfold playMV; rw [if_neg c_1, if_neg c_9]) rfl dX6_play_13
