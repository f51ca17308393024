/-! ### the reference: tick, play -/
def okB (r : Tb) (b t : Nat) : Prop := r 1 (b + 9) = nI (nOf r b) ∧ nOf r b ≤ sOf r b ∧ r 1 (b + 1) = nI (tOf r b) ∧ 4 ≤ tOf r b ∧ tOf r b ≤ 64 ∧ r 1 (b + 15) = nI (sOf r b) ∧ sOf r b ≤ t
theorem okB_S {r : Tb} {b t : Nat} (o : okB r b t) (ht : t < 1000000) : okS r b := by
  obtain ⟨h1, h2, h3, h4, h5, h6, h7⟩ := o
  exact ⟨h1, by omega, h3, h4, h5, h6, by omega⟩
theorem okB_ext {r q : Tb} {b t t1 : Nat} (h9 : q 1 (b + 9) = r 1 (b + 9)) (h1 : q 1 (b + 1) = r 1 (b + 1)) (h15 : q 1 (b + 15) = r 1 (b + 15)) (ht : t ≤ t1) (o : okB r b t) : okB q b t1 := by
  unfold okB nOf tOf sOf at *
  rw [h9, h1, h15]
  obtain ⟨a1, a2, a3, a4, a5, a6, a7⟩ := o
  exact ⟨a1, a2, a3, a4, a5, a6, by omega⟩
theorem okB_put {r : Tb} {b t k : Nat} {v : Int32} (o : okB r b t) : okB (up2 r 0 k v) b t := okB_ext rfl rfl rfl (Nat.le_refl t) o
theorem mid3M_9 {r : Tb} {b n T : Nat} {raw : Int32} (h : r 1 (b + 9) = nI n) : mid3M r b n T raw 1 (b + 9) = nI (evN n (stepM (linesM r b raw 3).2 (r 1 (b + 2)))) := by
  unfold mid3M
  repeat' split
  · rw [zeroM_out (by omega), mid2M_9 h]
  · exact mid2M_9 h
  · exact mid2M_9 h
theorem mid3M_1 {r : Tb} {b n T : Nat} {raw : Int32} : mid3M r b n T raw 1 (b + 1) = r 1 (b + 1) := by
  unfold mid3M
  repeat' split
  · rw [zeroM_out (by omega), mid2M_out (by omega)]
  · exact mid2M_out (by omega)
  · exact mid2M_out (by omega)
theorem rd_ok {r : Tb} {b t : Nat} {raw : Int32} (o : okB r b t) (ht : t < 1000000) : okB (rdM r b raw) b (t + 1) := by
  obtain ⟨a1, a2, a3, a4, a5, a6, a7⟩ := o
  have hm : (sOf r b + 1) % 512 < 512 := Nat.mod_lt _ (by decide)
  have h9 : rdM r b raw 1 (b + 9) = nI (evN (nOf r b) (stepM (linesM r b raw 3).2 (r 1 (b + 2)))) := by
    unfold rdM readM
    rw [up2_ne (by omega), up2_ne (by omega), mid3M_9 a1]
  have h1 : rdM r b raw 1 (b + 1) = r 1 (b + 1) := by
    unfold rdM readM
    rw [up2_ne (by omega), up2_ne (by omega), mid3M_1]
  have h15 : rdM r b raw 1 (b + 15) = nI (sOf r b + 1) := by
    unfold rdM readM
    rw [up2_ne (by omega), up2_eq, mid3M_15, a6, nI_1]
  have hle := evN_le (nOf r b) (stepM (linesM r b raw 3).2 (r 1 (b + 2)))
  have n9 : nOf (rdM r b raw) b = evN (nOf r b) (stepM (linesM r b raw 3).2 (r 1 (b + 2))) := by
    unfold nOf
    rw [h9]
    exact nI_clamp (by omega)
  have n1 : tOf (rdM r b raw) b = tOf r b := by
    unfold tOf
    rw [h1]
  have n15 : sOf (rdM r b raw) b = sOf r b + 1 := by
    have e : sOf (rdM r b raw) b = (nI (sOf r b + 1)).toNatClampNeg := congrArg Int32.toNatClampNeg h15
    rw [e]
    exact nI_clamp (by omega)
  refine ⟨by rw [h9, n9], by rw [n9, n15]; omega, by rw [h1, n1]; exact a3, by rw [n1]; exact a4, by rw [n1]; exact a5, by rw [h15, n15], by rw [n15]; omega⟩
theorem oneA_ok {r : Tb} {t : Nat} {f g : Int32} (o0 : okB r 0 t) (o1 : okB r 1510 t) (ht : t < 1000000) : okB (oneA r f g) 0 (t + 1) ∧ okB (oneA r f g) 1510 (t + 1) := by
  have p0 : okB (up2 r 0 4 (r 0 4 + 1)) 0 t := okB_put o0
  have p1 : okB (up2 r 0 4 (r 0 4 + 1)) 1510 t := okB_put o1
  have q0 := rd_ok (raw := f) p0 ht
  have q1 : okB (rdM (up2 r 0 4 (r 0 4 + 1)) 0 f) 1510 t := okB_ext (readM_far p0.2.2.2.2.1 (Or.inr (by omega))) (readM_far p0.2.2.2.2.1 (Or.inr (by omega))) (readM_far p0.2.2.2.2.1 (Or.inr (by omega))) (Nat.le_refl t) p1
  exact ⟨okB_ext (readM_far q1.2.2.2.2.1 (Or.inl (by omega))) (readM_far q1.2.2.2.2.1 (Or.inl (by omega))) (readM_far q1.2.2.2.2.1 (Or.inl (by omega))) (Nat.le_refl _) q0, rd_ok q1 ht⟩
theorem one_ok {r : Tb} {t : Nat} {f g : Int32} (o0 : okB r 0 t) (o1 : okB r 1510 t) (ht : t < 1000000) : okB (oneM r f g) 0 (t + 1) ∧ okB (oneM r f g) 1510 (t + 1) := by
  obtain ⟨h0, h1⟩ := oneA_ok (f := f) (g := g) o0 o1 ht
  unfold oneM
  split
  · split
    · exact ⟨okB_put h0, okB_put h1⟩
    · exact ⟨h0, h1⟩
  · exact ⟨okB_put h0, okB_put h1⟩
theorem oneA_4 {r : Tb} {f g : Int32} : oneA r f g 0 4 = r 0 4 + 1 := by
  unfold oneA rdM
  rw [readM_row (by decide), readM_row (by decide)]
  exact up2_eq
theorem put_4 {r : Tb} {v : Int32} : up2 r 0 5 v 0 4 = r 0 4 := rfl
theorem put_44 {r : Tb} {v : Int32} : up2 r 0 4 v 0 4 = v := rfl
theorem one_4 {r : Tb} {t : Nat} {f g : Int32} (h : r 0 4 = nI t) : oneM r f g 0 4 = nI (t + 1) := by
  have e : oneM r f g 0 4 = oneA r f g 0 4 := by
    unfold oneM
    split
    · split
      · exact put_4
      · rfl
    · exact put_4
  rw [e, oneA_4, h, nI_1]
noncomputable def stepsM (r : Tb) (f g : Int32) : Nat → Tb
  | 0 => r
  | i + 1 => oneM (stepsM r f g i) f g
theorem stepsM_s (r : Tb) (f g : Int32) (i : Nat) : stepsM r f g (i + 1) = oneM (stepsM r f g i) f g := rfl
noncomputable def tickM (r : Tb) (n f g : Int32) : Tb := if n < 0 then r else if 2000 < n then r else if f < 0 then r else if 7 < f then r else if g < 0 then r else if 7 < g then r else if r 0 4 + n ≤ 1000000 then stepsM r f g n.toNatClampNeg else r
def tickMV (r : Tb) (n f g : Int32) : Int32 := if n < 0 then -1 else if 2000 < n then -1 else if f < 0 then -1 else if 7 < f then -1 else if g < 0 then -1 else if 7 < g then -1 else if r 0 4 + n ≤ 1000000 then n else -1
theorem tick_room {x n : Int32} {t N : Nat} (ex : x = nI t) (en : n = nI N) (ht : t ≤ 1000000) (hN : ¬ 2000 < n) (hN2 : N < 2 ^ 31) (h : x + n ≤ 1000000) : t + N ≤ 1000000 := by
  subst ex
  subst en
  have h2 : N ≤ 2000 := by
    rcases Nat.lt_or_ge 2000 N with q | q
    · exact absurd (nI_lt (a := 2000) q hN2) hN
    · exact q
  have h1 : nI (t + N) ≤ nI 1000000 := by rw [← nI_add]; exact h
  exact (nI_leI (by omega) (by decide)).mp h1

def rm_X6_tick : Room := { frames := 5, cells := 0, slots := 0, locals := 122 }
set_option maxHeartbeats 1000000 in
set_option maxRecDepth 100000 in
theorem c_X6_tick (l : Launch) (D : va_G) (cI cB : ClassId) (A : Nat → Nat) (r : Tb) (n f g : Int32) (t : Nat) (ht : r 0 4 = nI t) (ht2 : t ≤ 1000000) (b0 : okB r 0 t) (b1 : okB r 1510 t) : CI l D cI cB yX6_tick wsX6_tick rm_X6_tick [.ref (A 0), .int n, .int f, .int g] (modelW A cI r) (modelW A cI (tickM r n f g)) (tickMV r n f g) := by
  refine CI.of (cc := cX6_tick) (maxL := 5) (ty := .int) (by decide +kernel) rfl (Nat.le_of_ble_eq_true rfl) ?_
  intro p e s m args below meth c ls A0 Q hT hH hA hl hE
  obtain ⟨hx, hb, hr, hlocks, hnm, hml, hown, hts, hK, hN⟩ := hT
  have hl : lv_has ls 5 [(0, .ref (A 0)), (1, .int n), (2, .int f), (3, .int g)] := hl
  have hi6 : ∀ w ∈ wsX60, w ∈ wsX6_tick := by decide +kernel
  refine lv_iload_n hx hb dX6_tick_0 rfl (lv_at hl 1 rfl) ?_
  refine lv_if_lt (tgt := 42) hx hb dX6_tick_1 (by decide) (fun c_1 => ?_) (fun c_1 => ?_)
  · skip
    refine lv_iconst (v := -1) hx hb dX6_tick_42 (by decide) ?_
    have hf_r : r = tickM r n f g := by unfold tickM; rw [if_pos c_1]
    exact hE _ _ _ _ _ _ hH ((congrArg (fun zz => (modelW A cI zz)) hf_r)) (by unfold tickMV; rw [if_pos c_1]) rfl dX6_tick_43
  · skip
    refine lv_iload_n hx hb dX6_tick_4 rfl (lv_at hl 1 rfl) ?_
    refine lv_sipush (v := 2000) hx hb dX6_tick_5 (by decide) ?_
    refine lv_icmp_gt (tgt := 42) hx hb dX6_tick_8 (by decide) (fun c_8 => ?_) (fun c_8 => ?_)
    · skip
      refine lv_iconst (v := -1) hx hb dX6_tick_42 (by decide) ?_
      have hf_r : r = tickM r n f g := by unfold tickM; rw [if_neg c_1, if_pos c_8]
      exact hE _ _ _ _ _ _ hH ((congrArg (fun zz => (modelW A cI zz)) hf_r)) (by unfold tickMV; rw [if_neg c_1, if_pos c_8]) rfl dX6_tick_43
    · skip
      refine lv_iload_n hx hb dX6_tick_11 rfl (lv_at hl 2 rfl) ?_
      refine lv_if_lt (tgt := 42) hx hb dX6_tick_12 (by decide) (fun c_12 => ?_) (fun c_12 => ?_)
      · skip
        refine lv_iconst (v := -1) hx hb dX6_tick_42 (by decide) ?_
        have hf_r : r = tickM r n f g := by unfold tickM; rw [if_neg c_1, if_neg c_8, if_pos c_12]
        exact hE _ _ _ _ _ _ hH ((congrArg (fun zz => (modelW A cI zz)) hf_r)) (by unfold tickMV; rw [if_neg c_1, if_neg c_8, if_pos c_12]) rfl dX6_tick_43
      · skip
        refine lv_iload_n hx hb dX6_tick_15 rfl (lv_at hl 2 rfl) ?_
        refine lv_bipush (v := 7) hx hb dX6_tick_16 (by decide) ?_
        refine lv_icmp_gt (tgt := 42) hx hb dX6_tick_18 (by decide) (fun c_18 => ?_) (fun c_18 => ?_)
        · skip
          refine lv_iconst (v := -1) hx hb dX6_tick_42 (by decide) ?_
          have hf_r : r = tickM r n f g := by unfold tickM; rw [if_neg c_1, if_neg c_8, if_neg c_12, if_pos c_18]
          exact hE _ _ _ _ _ _ hH ((congrArg (fun zz => (modelW A cI zz)) hf_r)) (by unfold tickMV; rw [if_neg c_1, if_neg c_8, if_neg c_12, if_pos c_18]) rfl dX6_tick_43
        · skip
          refine lv_iload_n hx hb dX6_tick_21 rfl (lv_at hl 3 rfl) ?_
          refine lv_if_lt (tgt := 42) hx hb dX6_tick_22 (by decide) (fun c_22 => ?_) (fun c_22 => ?_)
          · skip
            refine lv_iconst (v := -1) hx hb dX6_tick_42 (by decide) ?_
            have hf_r : r = tickM r n f g := by unfold tickM; rw [if_neg c_1, if_neg c_8, if_neg c_12, if_neg c_18, if_pos c_22]
            exact hE _ _ _ _ _ _ hH ((congrArg (fun zz => (modelW A cI zz)) hf_r)) (by unfold tickMV; rw [if_neg c_1, if_neg c_8, if_neg c_12, if_neg c_18, if_pos c_22]) rfl dX6_tick_43
          · skip
            refine lv_iload_n hx hb dX6_tick_25 rfl (lv_at hl 3 rfl) ?_
            refine lv_bipush (v := 7) hx hb dX6_tick_26 (by decide) ?_
            refine lv_icmp_gt (tgt := 42) hx hb dX6_tick_28 (by decide) (fun c_28 => ?_) (fun c_28 => ?_)
            · skip
              refine lv_iconst (v := -1) hx hb dX6_tick_42 (by decide) ?_
              have hf_r : r = tickM r n f g := by unfold tickM; rw [if_neg c_1, if_neg c_8, if_neg c_12, if_neg c_18, if_neg c_22, if_pos c_28]
              exact hE _ _ _ _ _ _ hH ((congrArg (fun zz => (modelW A cI zz)) hf_r)) (by unfold tickMV; rw [if_neg c_1, if_neg c_8, if_neg c_12, if_neg c_18, if_neg c_22, if_pos c_28]) rfl dX6_tick_43
            · skip
              refine lv_aload_n hx hb dX6_tick_31 rfl (lv_at hl 0 rfl) ?_
              refine x_get (v := .int (r 0 4)) (C := RX6) (T := TX6) (N := 9) hx hb hts hi6 hown hK hH.1 0 rfl rfl 4 (by decide) (hts (.fieldLink RX6 37 "PulseWheelModel" "ticks" "I") (by decide +kernel)) rfl rfl dX6_tick_32 ?_
              refine lv_iload_n hx hb dX6_tick_35 rfl (lv_at hl 1 rfl) ?_
              refine lv_iadd hx hb dX6_tick_36 ?_
              refine lv_ldc (v := 1000000) hx hb hown (hts (.constant RX6 69 (1000000)) (by decide +kernel)) dX6_tick_37 ?_
              refine lv_icmp_le (tgt := 44) hx hb dX6_tick_39 (by decide) (fun c_39 => ?_) (fun c_39 => ?_)
              · skip
                refine lv_iconst (v := 0) hx hb dX6_tick_44 (by decide) ?_
                refine lv_istore (lv' := [(4, .int 0), (0, .ref (A 0)), (1, .int n), (2, .int f), (3, .int g)]) hx hb dX6_tick_45 hl (by decide) rfl (fun ls hl => ?_)
                obtain ⟨N, hN2, eN⟩ := nI_of c_1
                have hrm := tick_room ht eN ht2 c_8 hN2 c_39
                have lp : ∀ (fuel : Nat) (i : Nat) (r' : Tb), (i ≤ N) → (N < i + fuel) → (r' = stepsM r f g i) → (r' 0 4 = nI (t + i)) → (okB r' 0 (t + i)) → (okB r' 1510 (t + i)) → ∀ (H : Heap) (locs : List Loc) (ls : Array Slot), Hd D A0 s (modelW A cI r') H locs → lv_has ls 5 [(0, .ref (A 0)), (1, .int n), (2, .int f), (3, .int g), (4, .int (nI i))] → W p l e rm_X6_tick s m args below meth c H locs 0 0 Q (F0 m 47 ls []) := by
                  intro fuel
                  induction fuel with
                  | zero => intro i r' hi hm hst k4 kb0 kb1 H locs ls hH hl; exact absurd hm (by omega)
                  | succ fuel ih =>
                    intro i r' hi hm hst k4 kb0 kb1 H locs ls hH hl
                    refine lv_iload hx hb dX6_tick_47 (lv_at hl 4 rfl) ?_
                    refine lv_iload_n hx hb dX6_tick_49 rfl (lv_at hl 1 rfl) ?_
                    refine lv_icmp_ge (tgt := 65) hx hb dX6_tick_50 (by decide) (fun c_50 => ?_) (fun c_50 => ?_)
                    · skip
                      refine lv_iload_n hx hb dX6_tick_65 rfl (lv_at hl 1 rfl) ?_
                      have hf_r : r' = tickM r n f g := by unfold tickM; rw [if_neg c_1, if_neg c_8, if_neg c_12, if_neg c_18, if_neg c_22, if_neg c_28, if_pos c_39, eN, nI_clamp hN2, hst, le_exit hi hN2 (eN ▸ c_50)]
                      exact hE _ _ _ _ _ _ hH ((congrArg (fun zz => (modelW A cI zz)) hf_r)) (by unfold tickMV; rw [if_neg c_1, if_neg c_8, if_neg c_12, if_neg c_18, if_neg c_22, if_neg c_28, if_pos c_39]) rfl dX6_tick_66
                    · skip
                      have hlt : i < N := lt_of_nI (n := N) (by omega) (by rw [← eN]; exact c_50)
                      refine lv_aload_n hx hb dX6_tick_53 rfl (lv_at hl 0 rfl) ?_
                      refine lv_iload_n hx hb dX6_tick_54 rfl (lv_at hl 2 rfl) ?_
                      refine lv_iload_n hx hb dX6_tick_55 rfl (lv_at hl 3 rfl) ?_
                      obtain ⟨r_1, er_1⟩ : ∃ z, z = oneM r' f g := ⟨_, rfl⟩
                      refine kCV (ws' := (modelW A cI r_1)) (va_runV (As := [.int f, .int g]) (rest := []) ⟨hx, hb, hml, hown, hts⟩ (c_X6_one l D cI cB A r' f g (okB_S kb0 (by omega)) (okB_S kb1 (by omega)) _) (cwV 2 hts gX6_tick_X6_one rfl rfl rfl (by decide +kernel) ⟨Nat.le_of_ble_eq_true rfl, Nat.le_of_ble_eq_true rfl⟩) (preV_cut hH.1 hH.2.1 hK hN (ci := 6) rfl 0 rfl [0, 1, 2, 3, 4, 5] (by decide) rfl) rfl rfl hl.1 rfl (lv_room (Nat.le_of_ble_eq_true rfl)) dX6_tick_56 ⟨Nat.zero_le _, Nat.zero_le _⟩) hH hA [0, 1, 2, 3, 4, 5] rfl adr_model (by rw [er_1]; exact putL_model_model) (fun H locs hH => ?_)
                      refine lv_iinc (v := nI (i + 1)) (lv' := [(4, .int (nI (i + 1))), (0, .ref (A 0)), (1, .int n), (2, .int f), (3, .int g)]) hx hb dX6_tick_59 hl (k := 4) rfl (nI_1 i) (by decide) rfl (fun ls hl => ?_)
                      refine lv_goto (tgt := 47) hx hb dX6_tick_62 (by decide) ?_
                      exact ih (i + 1) r_1 (by omega) (by omega) (by rw [er_1, hst]; rfl) (by rw [er_1]; exact one_4 k4) (by rw [er_1]; exact (one_ok kb0 kb1 (by omega)).1) (by rw [er_1]; exact (one_ok kb0 kb1 (by omega)).2) H locs ls (hH) (lv_sub hl [1, 2, 3, 4, 0] rfl)
                exact lp (N + 1) 0 r (Nat.zero_le _) (by omega) (rfl) (ht) (b0) (b1) _ _ ls (hH) (lv_sub hl [1, 2, 3, 4, 0] rfl)
              · skip
                refine lv_iconst (v := -1) hx hb dX6_tick_42 (by decide) ?_
                have hf_r : r = tickM r n f g := by unfold tickM; rw [if_neg c_1, if_neg c_8, if_neg c_12, if_neg c_18, if_neg c_22, if_neg c_28, if_neg c_39]
                exact hE _ _ _ _ _ _ hH ((congrArg (fun zz => (modelW A cI zz)) hf_r)) (by unfold tickMV; rw [if_neg c_1, if_neg c_8, if_neg c_12, if_neg c_18, if_neg c_22, if_neg c_28, if_neg c_39]) rfl dX6_tick_43
